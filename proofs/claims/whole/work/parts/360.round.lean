-- what is packed unpacks to what it was
theorem tk_mid (A w B : List Int) : tk (gi (A ++ w ++ B)) A.length w.length = w := by
  apply gi_ext (tk_len _ _ _)
  intro j j0 j1
  rw [tk_len] at j1
  rw [tk_gi _ _ _ j0 j1, gi_app_l (by omega) (by rw [List.length_append]; omega), gi_app_r (by omega)]
  congr 1
  omega
theorem gi_mid (A B : List Int) (v : Int) : gi (A ++ v :: B) A.length = v := by
  rw [gi_app_r (by omega), Int.sub_self, gi_zero]
theorem unp_single (A w B out : List Int) (hw : 1 ≤ w.length ∧ w.length ≤ 128) (ho : out.length + w.length ≤ 400) : unp (A ++ ((w.length : Int) - 1) :: w ++ B) A.length out = unp (A ++ ((w.length : Int) - 1) :: w ++ B) (A.length + 1 + w.length) (out ++ w) := by
  obtain ⟨Y, hY⟩ : ∃ Y, Y = A ++ ((w.length : Int) - 1) :: w ++ B := ⟨_, rfl⟩
  have hl : Y.length = A.length + 1 + w.length + B.length := by rw [hY]; simp only [List.length_append, List.length_cons]; omega
  have hg : gi Y A.length = (w.length : Int) - 1 := by
    rw [hY, List.append_assoc, List.cons_append, gi_mid]
  rw [← hY, unp_s (by omega) (by omega) (by omega) (by omega) (by omega), hg]
  have e1 : (A.length : Int) + 2 + ((w.length : Int) - 1) = A.length + 1 + w.length := by omega
  have e2 : ((w.length : Int) - 1 + 1).toNat = w.length := by omega
  rw [e1, e2]
  have e3 : Y = (A ++ [(w.length : Int) - 1]) ++ w ++ B := by rw [hY]; simp
  have e4 : ((A.length : Int) + 1) = ((A ++ [(w.length : Int) - 1]).length : Int) := by simp
  have e5 : tk (gi Y) (A.length + 1) w.length = w := by rw [e4, e3]; exact tk_mid _ _ _
  rw [e5]
theorem unp_like (A B out : List Int) (l d : Int) (hl : 3 ≤ l ∧ l ≤ 130) (hd : 1 ≤ d ∧ d ≤ 127) (hdo : d ≤ out.length) (ho : out.length + l ≤ 400) : unp (A ++ (125 + l) :: d :: B) A.length out = unp (A ++ (125 + l) :: d :: B) (A.length + 2) (cpyL out d l.toNat) := by
  obtain ⟨Y, hY⟩ : ∃ Y, Y = A ++ (125 + l) :: d :: B := ⟨_, rfl⟩
  have hlen : Y.length = A.length + 2 + B.length := by rw [hY]; simp only [List.length_append, List.length_cons]; omega
  have hg : gi Y A.length = 125 + l := by rw [hY, gi_mid]
  have hg2 : gi Y (A.length + 1) = d := by
    have e3 : Y = (A ++ [125 + l]) ++ d :: B := by rw [hY]; simp
    have e4 : ((A.length : Int) + 1) = ((A ++ [125 + l]).length : Int) := by simp
    rw [e4, e3, gi_mid]
  rw [← hY, unp_l (by omega) (by omega) (by omega) (by omega) (by omega), hg, hg2]
  have e1 : 125 + l - 125 = l := by omega
  rw [e1]
theorem cpy_tk (g : Int → Int) {i d : Int} (hi : 0 ≤ i) (hd : 1 ≤ d ∧ d ≤ i) : ∀ k : Nat, (∀ j : Int, 0 ≤ j → j < k → g (i + j) = g (i + j - d)) → cpyL (tk g 0 i.toNat) d k = tk g 0 (i.toNat + k)
  | 0, _ => rfl
  | k + 1, h => by
    have ih := cpy_tk g hi hd k (fun j j0 j1 => h j j0 (by omega))
    rw [cpyL, ih, tk_len, ← Nat.add_assoc, tk_snoc]
    congr 2
    rw [tk_gi _ _ _ (by omega) (by omega)]
    have e1 : (0 : Int) + (((i.toNat + k : Nat) : Int) - d) = i + k - d := by omega
    have e2 : (0 : Int) + ((i.toNat + k : Nat) : Int) = i + k := by omega
    rw [e1, e2]
    exact (h k (by omega) (by omega)).symm
theorem sE_chunk (g : Int → Int) (frm to : Int) (k : Nat) (hk : k % 128 = 0) : ∀ m : Nat, m < 128 → sE g frm to (k + (m + 1)) = sE g frm to k ++ (min 128 (to - (frm + k)) - 1) :: tk g (frm + k) (m + 1)
  | 0, _ => by
    rw [sE]
    unfold em
    have e : (frm + (k : Int) - frm) % 128 = 0 := by omega
    rw [if_pos (by omega)]
    simp [tk]
  | m + 1, hm => by
    have ih := sE_chunk g frm to k hk m (by omega)
    rw [← Nat.add_assoc, sE, ih]
    unfold em
    rw [if_neg (by omega), tk_snoc g (m + 1)]
    have e : frm + ((k + (m + 1) : Nat) : Int) = frm + k + ((m + 1 : Nat) : Int) := by omega
    rw [e]
    simp
theorem unp_sing (g : Int → Int) (A B : List Int) (frm to : Int) (hf : 0 ≤ frm ∧ frm ≤ to ∧ to ≤ 400) : ∀ (q : Nat) (k : Nat), (to - frm).toNat - k ≤ q → k ≤ (to - frm).toNat → (k % 128 = 0 ∨ k = (to - frm).toNat) → unp (A ++ sing g frm to ++ B) (A.length + (sE g frm to k).length) (tk g 0 (frm.toNat + k)) = unp (A ++ sing g frm to ++ B) (A.length + (sing g frm to).length) (tk g 0 to.toNat)
  | 0, k, h1, h2, h3 => by
    have e : k = (to - frm).toNat := by omega
    have e2 : frm.toNat + k = to.toNat := by omega
    rw [e2, e]; rfl
  | q + 1, k, h1, h2, h3 => by
    by_cases e : k = (to - frm).toNat
    · have e2 : frm.toNat + k = to.toNat := by omega
      rw [e2, e]; rfl
    · have h3 := h3.resolve_right e
      obtain ⟨m, hm⟩ : ∃ m : Nat, m = min 128 ((to - frm).toNat - k) - 1 := ⟨_, rfl⟩
      have hc := sE_chunk g frm to k h3 m (by omega)
      have hmm : min 128 (to - (frm + (k : Int))) - 1 = (((tk g (frm + k) (m + 1)).length : Nat) : Int) - 1 := by rw [tk_len]; omega
      have ih := unp_sing g A B frm to hf q (k + (m + 1)) (by omega) (by omega) (by omega)
      rw [← ih]
      have hsplit : ∃ R, sing g frm to = sE g frm to (k + (m + 1)) ++ R := by
        unfold sing
        obtain ⟨z, hz⟩ : ∃ z, (to - frm).toNat = (k + (m + 1)) + z := ⟨(to - frm).toNat - (k + (m + 1)), by omega⟩
        rw [hz]
        clear hz ih
        induction z with
        | zero => exact ⟨[], by simp⟩
        | succ z ihz =>
          obtain ⟨R, hR⟩ := ihz
          refine ⟨R ++ em g frm to (frm + (((k + (m + 1)) + z : Nat) : Int)), ?_⟩
          rw [← Nat.add_assoc, sE, hR, List.append_assoc]
      obtain ⟨R, hR⟩ := hsplit
      have hY : A ++ sing g frm to ++ B = (A ++ sE g frm to k) ++ (((tk g (frm + k) (m + 1)).length : Nat) - 1 : Int) :: tk g (frm + k) (m + 1) ++ (R ++ B) := by
        rw [hR, hc, hmm]; simp
      rw [hY]
      have := unp_single (A ++ sE g frm to k) (tk g (frm + k) (m + 1)) (R ++ B) (tk g 0 (frm.toNat + k)) (by rw [tk_len]; omega) (by rw [tk_len, tk_len]; omega)
      have e5 : ((A ++ sE g frm to k).length : Int) = A.length + (sE g frm to k).length := by rw [List.length_append]; omega
      rw [e5] at this
      rw [this]
      have e6 : (A.length : Int) + (sE g frm to k).length + 1 + (tk g (frm + k) (m + 1)).length = A.length + (sE g frm to (k + (m + 1))).length := by
        rw [hc, List.length_append, List.length_cons]; omega
      have e7 : tk g 0 (frm.toNat + k) ++ tk g (frm + k) (m + 1) = tk g 0 (frm.toNat + (k + (m + 1))) := by
        have : ∀ z : Nat, tk g 0 (frm.toNat + k) ++ tk g (frm + k) z = tk g 0 (frm.toNat + (k + z)) := by
          intro z
          induction z with
          | zero => simp [tk]
          | succ z ihz =>
            rw [tk_snoc, ← List.append_assoc, ihz]
            have e8 : frm.toNat + (k + (z + 1)) = frm.toNat + (k + z) + 1 := by omega
            rw [e8, tk_snoc]
            congr 3
            omega
        exact this (m + 1)
      rw [e6, e7]
theorem unp_pkG (y : List Int) (hy : y.length ≤ 400) : ∀ (q : Nat) (i s : Int) (acc : List Int), (y.length - i).toNat ≤ q → 0 ≤ s → s ≤ i → i ≤ y.length → (∀ rest, unp (acc ++ rest) 0 [] = unp (acc ++ rest) acc.length (tk (gi y) 0 s.toNat)) → unp (pkG (gi y) y.length i s acc) 0 [] = .inr y
  | q, i, s, acc, h1, h2, h3, h4, hD => by
    by_cases hi : i < y.length
    · cases q with
      | zero => omega
      | succ q =>
        rcases bst_ok (g := gi y) (n := y.length) (i := i) (min 127 i).toNat with h | h
        · rw [pkG_no hi h]
          exact unp_pkG y hy q (i + 1) s acc (by omega) h2 (by omega) (by omega) hD
        · obtain ⟨l, d, hb⟩ : ∃ l d, bst (gi y) y.length i (min 127 i).toNat = (l, d) := ⟨_, _, rfl⟩
          rw [hb] at h
          dsimp only at h
          have hle := lk_le (g := gi y) (d := d) (n := y.length) (i := i) (by omega)
          have hlk := lk_is (gi y) y.length i d
          rw [h.2.2] at hle hlk
          rw [pkG_yes hi hb h.1 h.2.1.1]
          refine unp_pkG y hy q (i + l) (i + l) _ (by omega) (by omega) (by omega) (by omega) (fun rest => ?_)
          have e1 : acc ++ sing (gi y) s i ++ [125 + l, d] ++ rest = acc ++ sing (gi y) s i ++ ((125 + l) :: d :: rest) := by simp
          have e0 : acc ++ sing (gi y) s i ++ ((125 + l) :: d :: rest) = acc ++ (sing (gi y) s i ++ ((125 + l) :: d :: rest)) := by simp
          have hD2 := hD (sing (gi y) s i ++ ((125 + l) :: d :: rest))
          rw [← e0] at hD2
          have hs := unp_sing (gi y) acc ((125 + l) :: d :: rest) s i (by omega) (i - s).toNat 0 (by omega) (by omega) (Or.inl rfl)
          have e00 : (acc.length : Int) + ((sE (gi y) s i 0).length : Int) = acc.length := by simp [sE]
          rw [e00, Nat.add_zero] at hs
          have hL := unp_like (acc ++ sing (gi y) s i) rest (tk (gi y) 0 i.toNat) l d (by omega) (by omega) (by rw [tk_len]; omega) (by rw [tk_len]; omega)
          have e2 : ((acc ++ sing (gi y) s i).length : Int) = acc.length + (sing (gi y) s i).length := by rw [List.length_append]; omega
          rw [e1, hD2, hs, ← e2, hL]
          have e3 : ((acc ++ sing (gi y) s i ++ [125 + l, d]).length : Int) = (acc ++ sing (gi y) s i).length + 2 := by rw [List.length_append]; simp
          have e4 : cpyL (tk (gi y) 0 i.toNat) d l.toNat = tk (gi y) 0 (i + l).toNat := by
            rw [cpy_tk (gi y) (by omega) (by omega) l.toNat (fun j j0 j1 => (hlk.2.1 j j0 (by omega)).2)]
            congr 1
            omega
          rw [e3, e4]
    · have ei : i = y.length := by omega
      rw [pkG_end (by omega)]
      have hD2 := hD (sing (gi y) s y.length)
      have hs := unp_sing (gi y) acc [] s y.length (by omega) (y.length - s).toNat 0 (by omega) (by omega) (Or.inl rfl)
      have e00 : (acc.length : Int) + ((sE (gi y) s y.length 0).length : Int) = acc.length := by simp [sE]
      rw [e00, Nat.add_zero, List.append_nil] at hs
      rw [hD2, hs, unp_end (by rw [List.length_append]; omega)]
      have e9 : tk (gi y) 0 (y.length : Int).toNat = y := by
        have := tk_mid [] y []
        simpa using this
      rw [e9]
theorem unp_pk (x : List Int) (fl : Int) (hx : x.length ≤ 400) : unp (pk x fl) 0 [] = .inr (flL fl x 0 0) := by
  unfold pk
  have hl := flL_len fl x 0 0
  have e : (x.length : Int) = (flL fl x 0 0).length := by omega
  rw [e]
  exact unp_pkG (flL fl x 0 0) (by omega) _ 0 0 [] (Nat.le_refl _) (by omega) (by omega) (by omega) (fun rest => rfl)
theorem pk_allB_aux (y : List Int) (hb : allB y) (hy : y.length ≤ 400) : ∀ (q : Nat) (i s : Int) (acc : List Int), (y.length - i).toNat ≤ q → 0 ≤ s → s ≤ i → i ≤ y.length → allB acc → allB (pkG (gi y) y.length i s acc)
  | q, i, s, acc, h1, h2, h3, h4, hD => by
    have hsing : ∀ a b, a ≤ b → allB (sing (gi y) a b) := by
      intro a b hab
      unfold sing
      have : ∀ k : Nat, (k : Int) ≤ b - a → allB (sE (gi y) a b k) := by
        intro k
        induction k with
        | zero => intro _; exact allB_nil
        | succ k ih =>
          intro hk
          rw [sE, allB_app]
          refine ⟨ih (by omega), ?_⟩
          unfold em
          have := allB_gi hb (a + k)
          split
          · rw [allB_cons, allB_cons]; exact ⟨by omega, this, allB_nil⟩
          · rw [allB_cons]; exact ⟨this, allB_nil⟩
      exact this _ (by omega)
    by_cases hi : i < y.length
    · cases q with
      | zero => omega
      | succ q =>
        rcases bst_ok (g := gi y) (n := y.length) (i := i) (min 127 i).toNat with h | h
        · rw [pkG_no hi h]
          exact pk_allB_aux y hb hy q (i + 1) s acc (by omega) h2 (by omega) (by omega) hD
        · obtain ⟨l, d, hbb⟩ : ∃ l d, bst (gi y) y.length i (min 127 i).toNat = (l, d) := ⟨_, _, rfl⟩
          rw [hbb] at h
          dsimp only at h
          have hle := lk_le (g := gi y) (d := d) (n := y.length) (i := i) (by omega)
          rw [h.2.2] at hle
          rw [pkG_yes hi hbb h.1 h.2.1.1]
          refine pk_allB_aux y hb hy q (i + l) (i + l) _ (by omega) (by omega) (by omega) (by omega) ?_
          rw [allB_app, allB_app, allB_cons, allB_cons]
          exact ⟨⟨hD, hsing s i h3⟩, by omega, by omega, allB_nil⟩
    · rw [pkG_end (by omega), allB_app]
      exact ⟨hD, hsing s _ (by omega)⟩
theorem pk_allB (x : List Int) (fl : Int) (hb : allB x) (hx : x.length ≤ 400) : allB (pk x fl) := by
  unfold pk
  have hl := flL_len fl x 0 0
  have e : (x.length : Int) = (flL fl x 0 0).length := by omega
  rw [e]
  exact pk_allB_aux _ (flL_b fl x 0 0 hb (by omega)) (by omega) _ 0 0 [] (Nat.le_refl _) (by omega) (by omega) (by omega) allB_nil
