-- as many records as one page can have
def fitP (g : Int → Int) (full : Int) (rs : RS) : Prop := ((plain rs).length : Int) ≤ full ∧ 2 + ((shape (plain rs)).length : Int) + g 0 ≤ 64
abbrev extC (g : Int → Int) (full : Int) (rs : RS) : Prop := ((plain rs).length : Int) ≤ full ∧ 2 + ((shape (plain rs)).length : Int) + g 0 ≤ 64
def ext (g : Int → Int) (full : Int) : RS → RS → RS × RS
  | pre, [] => (pre, [])
  | pre, x :: t => if extC g full (pre ++ [x]) then ext g full (pre ++ [x]) t else (pre, x :: t)
theorem ext_yes {g : Int → Int} {full : Int} {pre t : RS} {x : Int × List Int} (h : extC g full (pre ++ [x])) : ext g full pre (x :: t) = ext g full (pre ++ [x]) t := by rw [ext, if_pos h]
theorem ext_no {g : Int → Int} {full : Int} {pre t : RS} {x : Int × List Int} (h : ¬ extC g full (pre ++ [x])) : ext g full pre (x :: t) = (pre, x :: t) := by rw [ext, if_neg h]
theorem ext_app (g : Int → Int) (full : Int) : ∀ (t pre : RS), (ext g full pre t).1 ++ (ext g full pre t).2 = pre ++ t ∧ (ext g full pre t).2.length ≤ t.length ∧ (pre ≠ [] → (ext g full pre t).1 ≠ []) ∧ ((pre.length ≤ 1 ∨ extC g full pre) → ((ext g full pre t).1.length ≤ 1 ∨ extC g full (ext g full pre t).1))
  | [], pre => ⟨rfl, Nat.le_refl _, fun h => h, fun h => h⟩
  | x :: t, pre => by
    by_cases h : extC g full (pre ++ [x])
    · rw [ext_yes h]
      obtain ⟨a, b, c, d⟩ := ext_app g full t (pre ++ [x])
      refine ⟨by rw [a, List.append_assoc]; rfl, by rw [List.length_cons]; omega, fun _ => c (by simp), fun _ => d (Or.inr h)⟩
    · rw [ext_no h]
      exact ⟨rfl, Nat.le_refl _, fun h => h, fun h => h⟩
def chk (g : Int → Int) (full : Int) : Nat → RS → List RS
  | 0, _ => []
  | _ + 1, [] => []
  | n + 1, x :: t => (ext g full [x] t).1 :: chk g full n (ext g full [x] t).2
def cps (g : Int → Int) (full : Int) (rs : RS) : List RS := if rs = [] then [[]] else chk g full rs.length rs
theorem chk_fuel (g : Int → Int) (full : Int) : ∀ (n m : Nat) (rs : RS), rs.length ≤ n → rs.length ≤ m → chk g full n rs = chk g full m rs
  | 0, m, rs, h, _ => by
    have : rs = [] := by cases rs with | nil => rfl | cons a b => simp at h
    rw [this]; cases m <;> rfl
  | n + 1, 0, rs, _, h => by
    have : rs = [] := by cases rs with | nil => rfl | cons a b => simp at h
    rw [this]; rfl
  | n + 1, m + 1, [], _, _ => rfl
  | n + 1, m + 1, x :: t, h1, h2 => by
    have hl := (ext_app g full t [x]).2.1
    rw [List.length_cons] at h1 h2
    rw [chk, chk, chk_fuel g full n m _ (by omega) (by omega)]
theorem chk_ok {g : Int → Int} {full : Int} (hf : full ≤ 120) : ∀ (n : Nat) (rs : RS), rs.length ≤ n → (chk g full n rs).flatten = rs ∧ (∀ x ∈ chk g full n rs, x ≠ [] ∧ partOK g x)
  | 0, rs, h => by
    have : rs = [] := by cases rs with | nil => rfl | cons a b => simp at h
    rw [this]; exact ⟨rfl, fun x hx => (by cases hx)⟩
  | n + 1, [], _ => ⟨rfl, fun x hx => (by cases hx)⟩
  | n + 1, x :: t, h => by
    obtain ⟨a, b, c, d⟩ := ext_app g full t [x]
    rw [List.length_cons] at h
    obtain ⟨e1, e2⟩ := chk_ok hf n (ext g full [x] t).2 (by omega)
    rw [chk]
    refine ⟨by rw [List.flatten_cons, e1, a]; rfl, fun y hy => ?_⟩
    rw [List.mem_cons] at hy
    rcases hy with hy | hy
    · rw [hy]
      refine ⟨c (by simp), ?_⟩
      rcases d (Or.inl (by simp)) with d | d
      · exact Or.inl d
      · exact Or.inr ⟨d.2, by have := d.1; omega⟩
    · exact e2 y hy
theorem cps_ok {g : Int → Int} {full : Int} (hf : full ≤ 120) (rs : RS) : (cps g full rs).flatten = rs ∧ neP (cps g full rs) ∧ (∀ x ∈ cps g full rs, partOK g x) ∧ 1 ≤ (cps g full rs).length := by
  unfold cps
  by_cases h : rs = []
  · rw [if_pos h, h]
    exact ⟨rfl, Or.inr rfl, fun x hx => by rw [mem_single hx]; exact Or.inl (by simp), by simp⟩
  · rw [if_neg h]
    obtain ⟨a, b⟩ := chk_ok (g := g) hf rs.length rs (Nat.le_refl _)
    refine ⟨a, Or.inl (fun x hx => (b x hx).1), fun x hx => (b x hx).2, ?_⟩
    cases hq : chk g full rs.length rs with
    | nil => rw [hq] at a; exact absurd a.symm h
    | cons x t => simp
-- the shape has the fewest bytes
theorem bb_min (x : List Int) : ∀ (k : Nat) (j : Nat), j ≤ k → (bb x k).1 ≤ ((pk x j).length : Int)
  | 0, j, h => by
    have : j = 0 := by omega
    subst this
    exact Int.le_refl _
  | k + 1, j, h => by
    unfold bb
    by_cases q : j = k + 1
    · subst q
      have e : ((k + 1 : Nat) : Int) = (k : Int) + 1 := by omega
      rw [e]
      split
      · exact Int.le_refl _
      · omega
    · have ih := bb_min x k j (by omega)
      split
      · dsimp only; omega
      · exact ih
theorem shape_min (x : List Int) (j : Nat) (hj : j ≤ 3) : ((shape x).length : Int) ≤ (pk x j).length := by
  have h1 := bb_min x 3 j hj
  have h2 := (bb_ok x 3).2
  unfold shape bf
  omega
def fFb : Nat → Prop := fun k => k = 193 ∨ fPk 4 k
theorem P_X1_fitsByAny {low high : Int} {r : Rec} {Q : Int → zMem → Prop} {M : zMem} (hT : tabC 3 M r) (hR : RecOK r) (h : 0 ≤ low ∧ low ≤ high ∧ high ≤ 256) (h4 : (plain (rI r low high)).length ≤ 400) (hg : trmOK (M.2 133)) (hQ1 : 2 + ((shape (plain (rI r low high))).length : Int) + M.2 133 0 ≤ 64 → ∀ M', Fr fFb M M' → Q 1 M') (hQ0 : ¬ 2 + ((shape (plain (rI r low high))).length : Int) + M.2 133 0 ≤ 64 → ∀ M', Fr fFb M M' → Q 0 M') : T_X1_fitsByAny low high Q M := by
  obtain ⟨x, hx⟩ : ∃ x, x = plain (rI r low high) := ⟨_, rfl⟩
  have hb : allB x := by rw [hx]; exact plain_b (rI_ok hR low high)
  rw [← hx] at h4 hQ1 hQ0
  unfold T_X1_fitsByAny
  apply P_X8_layOut hT hR h (by rw [← hx]; exact h4)
  rw [← hx]
  intro M7 hF7 hA7
  have a193 : alen 193 = 400 := alen_193
  unfold T_X1_fitsByAny_13
  apply zl1_rule (fun v4 M1 => (0 ≤ v4 ∧ v4 ≤ 4) ∧ Fr fFb M M1 ∧ AL (M1.2 193) 0 x ∧ ∀ j : Nat, (j : Int) < v4 → ¬ 2 + ((pk x j).length : Int) + M.2 133 0 ≤ 64) (fun v4 _ => (4 - v4).toNat)
  · intro X v4 M1 ⟨h1, h2, h3, h5⟩ hX
    have e133 : M1.2 133 = M.2 133 := h2.2 133 (by unfold fFb fPk; decide)
    refine ⟨fun q => ?_, fun q => ?_⟩
    · refine hQ0 ?_ M1 h2
      have hbf := bf_ok x
      have := h5 (bf x).toNat (by omega)
      have e : (((bf x).toNat : Nat) : Int) = bf x := by omega
      rw [e] at this
      exact this
    · apply P_X6_packRow (r := 193) (Or.inl rfl) h3 rfl (by omega) (by omega) (by unfold fPk; decide) hb
      intro M3 hF3 hA3
      have F3 : Fr fFb M M3 := Fr_trans h2 (Fr_mono hF3 (fun k h => Or.inr h))
      have e3 : M3.2 133 = M.2 133 := F3.2 133 (by unfold fFb fPk; decide)
      have hpl := pk_len x v4
      apply P_X1_fitsWith (by rw [e3]; exact hg) (by omega)
      · rw [e3]
        intro hfit
        refine ⟨fun q => by omega, fun _ => hQ1 ?_ M3 F3⟩
        have := shape_min x v4.toNat (by omega)
        have e : ((v4.toNat : Nat) : Int) = v4 := by omega
        rw [e] at this
        omega
      · rw [e3]
        intro hfit
        refine ⟨fun _ => ⟨inR_mk (by omega) (by omega), hX _ _ ⟨by omega, F3, ?_, ?_⟩ (by omega)⟩, fun q => absurd rfl q⟩
        · rw [hF3.2 193 (by unfold fPk; decide)]; exact h3
        · intro j hj
          by_cases qj : (j : Int) = v4
          · rw [qj]; exact hfit
          · exact h5 j (by omega)
  · exact ⟨by omega, Fr_mono hF7 (fun k h => Or.inl h), hA7, fun j hj => by omega⟩
theorem rI_first {r : Rec} {low : Int} (hl : 0 ≤ low ∧ low ≤ 256) (h : rI r low 256 ≠ []) : ∃ x t, rI r low 256 = x :: t ∧ lowK (rI r low 256) = x.1 ∧ (low ≤ x.1 ∧ x.1 < 256) ∧ r x.1 = some x.2 ∧ rI r low (x.1 + 1) = [x] ∧ rI r (x.1 + 1) 256 = t := by
  have key : ∀ (n : Nat) (low : Int), 0 ≤ low → low + n = 256 → rI r low 256 ≠ [] → ∃ x t, rI r low 256 = x :: t ∧ lowK (rI r low 256) = x.1 ∧ (low ≤ x.1 ∧ x.1 < 256) ∧ r x.1 = some x.2 ∧ rI r low (x.1 + 1) = [x] ∧ rI r (x.1 + 1) 256 = t := by
    intro n
    induction n with
    | zero => intro low h0 h1 hne; exact absurd (rI_nil r (by omega)) hne
    | succ n ih =>
      intro low h0 h1 hne
      cases hr : r low with
      | none =>
        have e : ∀ b, low < b → rI r low b = rI r (low + 1) b := fun b hb => by rw [rI_cons r hb, one_none hr]; rfl
        rw [e 256 (by omega)] at hne ⊢
        obtain ⟨x, t, a, b, c, d, e1, e2⟩ := ih (low + 1) (by omega) (by omega) hne
        exact ⟨x, t, a, b, by omega, d, by rw [e _ (by omega)]; exact e1, e2⟩
      | some v =>
        have e : rI r low 256 = (low, v) :: rI r (low + 1) 256 := by rw [rI_cons r (by omega), one_some hr]; rfl
        refine ⟨(low, v), rI r (low + 1) 256, e, by rw [e]; rfl, ⟨Int.le_refl _, by dsimp only; omega⟩, hr, ?_, rfl⟩
        rw [rI_one, one_some hr]
  exact key (256 - low).toNat low hl.1 (by omega) h
theorem P_X1_farthestEnd {low : Int} {r : Rec} {L : Lrn} {Q : Int → zMem → Prop} {M : zMem} (hT : tabC 3 M r) (hR : RecOK r) (h : 0 ≤ low ∧ low ≤ 256) (hg : trmOK (M.2 133)) (hL : lrnOK L) (hA : Lat (M.2 129) 0 L)
    (hQ0 : rI r low 256 = [] → ∀ M', Fr fFb M M' → Q 256 M')
    (hQ1 : ∀ x t, rI r low 256 = x :: t → ∀ hi, (low ≤ hi ∧ hi ≤ 256) → rI r low hi = (ext (M.2 133) (120 - L.1) [x] t).1 → rI r hi 256 = (ext (M.2 133) (120 - L.1) [x] t).2 → ∀ M', Fr fFb M M' → Q hi M') : T_X1_farthestEnd low Q M := by
  obtain ⟨g, hg0⟩ : ∃ g, g = M.2 133 := ⟨_, rfl⟩
  rw [← hg0] at hg hQ1
  unfold T_X1_farthestEnd
  apply P_X8_lowestIn hT (by omega)
  by_cases hne : rI r low 256 = []
  · rw [hne]
    refine ⟨fun q => absurd rfl q, fun _ => hQ0 hne M (Fr_refl M)⟩
  · obtain ⟨x, t, a, b, c, d, e1, e2⟩ := rI_first h hne
    rw [b]
    refine ⟨fun _ => ⟨inR_mk (by omega) (by omega), ?_⟩, fun q => by omega⟩
    have hQ := hQ1 x t a
    obtain ⟨res, hres⟩ : ∃ res, res = ext g (120 - L.1) [x] t := ⟨_, rfl⟩
    rw [← hres] at hQ
    unfold T_X1_farthestEnd_28
    apply zl2_rule (fun v3 v4 M1 => (low ≤ v3 ∧ v3 ≤ v4 ∧ v4 ≤ 256) ∧ rI r v3 v4 = [] ∧ rI r low v3 ≠ [] ∧ ext g (120 - L.1) (rI r low v3) (rI r v4 256) = res ∧ Fr fFb M M1) (fun _ v4 _ => (256 - v4).toNat)
    · intro X v3 v4 M1 ⟨h1, h2, h3, h4, h5⟩ hX
      have e133 : M1.2 133 = g := by rw [hg0]; exact h5.2 133 (by unfold fFb fPk; decide)
      have e129 : M1.2 129 = M.2 129 := h5.2 129 (by unfold fFb fPk; decide)
      have hT1 : tabC 3 M1 r := by
        unfold tabC
        rw [h5.2 (64 * 3 + 2) (by unfold fFb fPk; decide), h5.2 (64 * 3 + 3) (by unfold fFb fPk; decide)]
        exact hT
      have hrest : rI r v3 256 = rI r v4 256 := by
        rw [rI_split r (low := v3) (mid := v4) (high := 256) (by omega) (by omega), h2]; rfl
      refine ⟨fun q => ?_, fun q => ?_⟩
      · have e4 : v4 = 256 := by omega
        rw [e4, rI_nil r (Int.le_refl _), ext] at h4
        rw [e4, rI_nil r (Int.le_refl _)] at hrest
        exact hQ v3 ⟨by omega, by omega⟩ (by rw [← h4]) (by rw [← h4]; exact hrest) M1 h5
      · have hlow : rI r low v4 = rI r low v3 := by
          rw [rI_split r (low := low) (mid := v3) (high := v4) (by omega) (by omega), h2, List.append_nil]
        apply P_X8_sizeOf hT1 hR
        · intro v hv
          have e5 : rI r low (v4 + 1) = rI r low v3 ++ [(v4, v)] := by rw [rI_snoc r (by omega), hlow, one_some hv]
          have e6 : rI r v4 256 = (v4, v) :: rI r (v4 + 1) 256 := by rw [rI_cons r (by omega), one_some hv]; rfl
          rw [e6] at h4 hrest
          have stop : ¬ extC g (120 - L.1) (rI r low v3 ++ [(v4, v)]) → ∀ M', Fr fFb M M' → Q v3 M' := by
            intro hn M' hF'
            rw [ext_no hn] at h4
            exact hQ v3 ⟨by omega, by omega⟩ (by rw [← h4]) (by rw [← h4]; exact hrest) M' hF'
          refine ⟨fun _ => ⟨inR_mk (by omega) (by omega), ?_⟩, fun q2 => by omega⟩
          apply P_X8_plainSize hT1 hR (by omega)
          apply P_X1_full hL (by rw [e129]; exact hA)
          have hl0 := hL.1
          rw [e5]
          refine ⟨fun q2 => stop (fun hn => by have := hn.1; omega) M1 h5, fun q2 => ⟨inR_mk (by omega) (by omega), ?_⟩⟩
          apply P_X1_fitsByAny hT1 hR (by omega) (by rw [e5]; omega) (by rw [e133]; exact hg)
          · rw [e5, e133]
            intro hfit M8 hF8
            refine ⟨fun _ => ⟨inR_mk (by omega) (by omega), ?_⟩, fun q3 => by omega⟩
            unfold T_X1_farthestEnd_91
            refine ⟨inR_mk (by omega) (by omega), hX _ _ _ ⟨by omega, rI_nil r (by omega), ?_, ?_, Fr_trans h5 hF8⟩ (by omega)⟩
            · rw [e5]; simp
            · rw [e5, ← ext_yes ⟨by omega, hfit⟩]; exact h4
          · rw [e5, e133]
            intro hfit M8 hF8
            exact ⟨fun q3 => absurd rfl q3, fun _ => stop (fun hn => hfit hn.2) M8 (Fr_trans h5 hF8)⟩
        · intro hn
          refine ⟨fun q2 => absurd rfl q2, fun _ => ?_⟩
          unfold T_X1_farthestEnd_91
          refine ⟨inR_mk (by omega) (by omega), hX _ _ _ ⟨by omega, ?_, h3, ?_, h5⟩ (by omega)⟩
          · rw [rI_snoc r (by omega), h2, one_none hn]; rfl
          · rw [← h4, rI_cons r (i := v4) (by omega), one_none hn]; rfl
    · refine ⟨by omega, rI_nil r (by omega), by rw [e1]; simp, by rw [e1, e2, hres], Fr_refl M⟩
