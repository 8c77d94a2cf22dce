theorem adds_other : ∀ (rs : RS) (r : Rec) (j : Int), (∀ p ∈ rs, p.1 ≠ j) → adds r rs j = r j
  | [], _, _, _ => rfl
  | p :: t, r, j, h => by
    show adds (updR r p.1 (some p.2)) t j = r j
    rw [adds_other t _ j (fun q hq => h q (List.mem_cons_of_mem _ hq))]
    unfold updR
    rw [if_neg (fun e => h p List.mem_cons_self e.symm)]
theorem rl_empty {r : Rec} : ∀ (n : Nat) (a : Int), (∀ j, a ≤ j → j < a + n → r j = none) → rl r a n = []
  | 0, _, _ => rfl
  | n + 1, a, h => by
    rw [rl, one_none (h a (by omega) (by omega)), rl_empty n (a + 1) (fun j x y => h j (by omega) (by omega))]
    rfl
theorem rI_empty {r : Rec} {a b : Int} (h : ∀ j, a ≤ j → j < b → r j = none) : rI r a b = [] := by
  unfold rI
  exact rl_empty _ _ (fun j x y => h j x (by omega))
theorem rI_adds : ∀ (rs : RS) (r : Rec) (a b : Int), (∀ j, a ≤ j → j < b → r j = none) → sorted rs → keysIn a b rs → rI (adds r rs) a b = rs
  | [], r, a, b, h, _, _ => rI_empty h
  | p :: t, r, a, b, h, hs, hk => by
    have hp := hk p List.mem_cons_self
    have ht : keysIn (p.1 + 1) b t := fun q hq => by
      have h1 := hs.1 q hq
      have h2 := hk q (List.mem_cons_of_mem _ hq)
      omega
    have hoth : ∀ j, j ≤ p.1 → adds (updR r p.1 (some p.2)) t j = updR r p.1 (some p.2) j := fun j hj => adds_other t _ j (fun q hq e => by have := ht q hq; omega)
    show rI (adds (updR r p.1 (some p.2)) t) a b = p :: t
    rw [rI_split _ (low := a) (mid := p.1) (high := b) hp.1 (by omega), rI_cons _ (i := p.1) (by omega)]
    rw [rI_empty (a := a) (b := p.1) (fun j x y => by
      rw [hoth j (by omega)]
      unfold updR
      rw [if_neg (by omega)]
      exact h j x (by omega))]
    rw [one_some (v := p.2) (by rw [hoth p.1 (by omega)]; exact if_pos rfl)]
    rw [rI_adds t _ (p.1 + 1) b (fun j x y => by
      unfold updR
      rw [if_neg (by omega)]
      exact h j (by omega) y) hs.2 ht]
    rfl
theorem wB_Pg {f g : Int → Int} {p lo hi : Int} {rs : RS} (hp : 0 ≤ p ∧ p < 10) (hok : rsOK rs) (hs : sorted rs) (hg : trmOK g) (hpt : partOK g rs) (hk : keysIn lo hi rs) : PgB (wB f p (plain rs)) p lo hi (shape (plain rs)) [] rs := by
  have h62 := part62 hg hpt hok
  have h120 : (plain rs).length ≤ 120 := by
    rcases hpt with h | h
    · have := plain_small hok h; omega
    · exact h.2
  have hb := plain_b hok
  have e0 : wB f p (plain rs) (64 * p) = bf (plain rs) := by unfold wB; rw [if_pos (by omega), if_pos rfl]
  have e1 : wB f p (plain rs) (64 * p + 1) = (shape (plain rs)).length := by unfold wB; rw [if_pos (by omega), if_neg (by omega), if_pos rfl]
  have e2 : ∀ j, 2 ≤ j → j < 64 → wB f p (plain rs) (64 * p + j) = gi (shape (plain rs)) (j - 2) := by
    intro j h0 h1
    unfold wB
    rw [if_pos (by omega), if_neg (by omega), if_neg (by omega)]
    congr 1; omega
  have hfl : (([] : List (List Int)).flatten.length : Int) = 0 := rfl
  refine ⟨⟨⟨hp, e1, ?_, by rw [hfl]; omega, fun e h => (by cases h), ?_⟩, by rw [e0]; exact bf_ok _, ?_, ?_, hok, trivial⟩, hk, fun e h => (by cases h), ?_, ?_⟩
  · intro j h0 hj
    have hj2 : j < (shape (plain rs)).length := by simpa using hj
    have ej : 64 * p + 2 + j = 64 * p + (2 + j) := by omega
    rw [ej, e2 (2 + j) (by omega) (by omega)]
    have : 2 + j - 2 = j := by omega
    rw [this]
    simp
  · intro q
    rw [hfl] at q ⊢
    rw [e2 _ (by omega) (by omega)]
    exact gi_big (by omega)
  · exact pk_allB _ _ hb (by omega)
  · refine ⟨_, unp_pk (plain rs) (bf (plain rs)) (by omega), ?_⟩
    rw [e0]
    exact tb_fl _ _ 0 0 hb (by omega)
  · have : rI (pR [] rs) 0 256 = rs := rI_adds rs _ 0 256 (fun _ _ _ => rfl) hs (fun q hq => (hok q hq).1)
    rw [this]; exact h120
  · intro j h0 h1
    rw [hfl] at h0
    rw [e2 j (by omega) h1]
    exact gi_big (by omega)
theorem wB_bytes {f g : Int → Int} {p : Int} {rs : RS} (hp : 0 ≤ p ∧ p < 10) (hok : rsOK rs) (hg : trmOK g) (hpt : partOK g rs) (h : bytesOK f) : bytesOK (wB f p (plain rs)) := by
  have h62 := part62 hg hpt hok
  have h400 : (plain rs).length ≤ 400 := by
    rcases hpt with h | h
    · have := plain_small hok h; omega
    · omega
  intro j h0 h1
  unfold wB
  by_cases q : 64 * p ≤ j ∧ j < 64 * p + 64
  · rw [if_pos q]
    by_cases q1 : j = 64 * p
    · rw [if_pos q1]; have := bf_ok (plain rs); omega
    · rw [if_neg q1]
      by_cases q2 : j = 64 * p + 1
      · rw [if_pos q2]; omega
      · rw [if_neg q2]
        exact allB_gi (pk_allB _ _ (plain_b hok) h400) _
  · rw [if_neg q]; exact h j h0 h1
-- the page's own block written anew
theorem WFz_wB {f g : Int → Int} {i : Int} {rs : RS} (hW : WFz f) (hi : 0 ≤ i ∧ i < f 640) (hok : rsOK rs) (hs : sorted rs) (hg : trmOK g) (hpt : partOK g rs) (hk : keysIn (f (642 + 2 * i)) (hiF f i) rs) : WFz (wB f (f (641 + 2 * i)) (plain rs)) := by
  rw [WFz_E] at hW ⊢
  obtain ⟨h1, h2, h3⟩ := hW
  have hp := h1.2.1 i hi.1 hi.2
  have hw : ∀ k, 640 ≤ k → wB f (f (641 + 2 * i)) (plain rs) k = f k := fun k hk => wB_dir hp hk
  refine ⟨DirOK_wB hp h1, wB_bytes hp hok hg hpt h2, fun j a b => ?_⟩
  rw [hw 640 (by omega)] at b
  have hh : hiF (wB f (f (641 + 2 * i)) (plain rs)) j = hiF f j := by
    unfold hiF
    rw [hw 640 (by omega), hw _ (by omega)]
  unfold PgE
  rw [hw (641 + 2 * j) (by omega), hw (642 + 2 * j) (by omega), hh]
  by_cases q : j = i
  · subst q
    exact ⟨_, _, _, wB_Pg hp hok hs hg hpt hk⟩
  · obtain ⟨pkd', es', rs', hP'⟩ := h3 j a b
    refine ⟨pkd', es', rs', PgB_congr (f := f) (fun k k0 k1 => ?_) hP'⟩
    have hne : f (641 + 2 * j) ≠ f (641 + 2 * i) := by
      rcases Int.lt_or_gt_of_ne q with q | q
      · exact h1.2.2.1 j i a q hi.2
      · exact fun h => h1.2.2.1 i j hi.1 q b h.symm
    exact wB_other (by omega)
-- a new page behind one whose records lie ahead of it
theorem WFz_ins {f g : Int → Int} {m num : Int} {rs rs0 : RS} {pkd0 : List Int} (hW : WFz f) (hm : 1 ≤ m ∧ m ≤ f 640) (hu9 : f 640 < 10) (hn : 0 ≤ num ∧ num < 10) (hnu : ¬ IsUsed f num) (hok : rsOK rs) (hs : sorted rs) (hg : trmOK g) (hpt : partOK g rs) (hne : rs ≠ []) (h0 : PgB f (f (641 + 2 * (m - 1))) (f (642 + 2 * (m - 1))) (hiF f (m - 1)) pkd0 [] rs0) (hlt : ∀ q ∈ rs0, q.1 < lowK rs) (hk : ∀ q ∈ rs, lowK rs ≤ q.1 ∧ q.1 < hiF f (m - 1)) (hlo : f (642 + 2 * (m - 1)) < lowK rs) : WFz (wB (inD f m num (lowK rs)) num (plain rs)) ∧ hiF (wB (inD f m num (lowK rs)) num (plain rs)) m = hiF f (m - 1) := by
  rw [WFz_E] at hW ⊢
  obtain ⟨h1, h2, h3⟩ := hW
  have hu := h1.1
  obtain ⟨p1, hp1, hp2⟩ := lowK_mem hne
  have hfen : lowK rs ≤ 255 ∧ 0 ≤ lowK rs := by
    rw [hp2]
    have := (hok p1 hp1).1
    omega
  have hlh : lowK rs < hiF f (m - 1) := by
    have := hk p1 hp1
    rw [hp2]; omega
  have hf2 : m < f 640 → lowK rs < f (642 + 2 * m) := by
    intro q
    have : hiF f (m - 1) = f (642 + 2 * m) := by
      unfold hiF
      have e : m - 1 + 1 = m := by omega
      rw [e, if_pos q]
    omega
  have hDi := DirOK_in h1 hm hu9 hn hnu hlo hf2 hfen.1
  obtain ⟨F, hF⟩ : ∃ F, F = inD f m num (lowK rs) := ⟨_, rfl⟩
  have hnw := inD_new (f := f) (m := m) (num := num) (fen := lowK rs) (by omega)
  have hold := fun j => inD_old (f := f) (m := m) (num := num) (fen := lowK rs) (j := j) (by omega)
  have hpast := fun j => inD_past (f := f) (m := m) (num := num) (fen := lowK rs) (j := j) (by omega)
  have hblk : ∀ j, j < 640 → F j = f j := fun j hj => by rw [hF]; exact inD_blk (by omega) hj
  rw [← hF] at hDi hnw hold hpast ⊢
  have hw : ∀ k, 640 ≤ k → wB F num (plain rs) k = F k := fun k hk => wB_dir hn hk
  have hbF : bytesOK F := by
    intro j a b
    rw [hF]
    unfold inD
    by_cases q1 : j = 640
    · rw [if_pos q1]; omega
    · rw [if_neg q1]
      by_cases q2 : j = 641 + 2 * m
      · rw [if_pos q2]; omega
      · rw [if_neg q2]
        by_cases q3 : j = 642 + 2 * m
        · rw [if_pos q3]; omega
        · rw [if_neg q3]
          by_cases q4 : 643 + 2 * m ≤ j ∧ j < 643 + 2 * f 640
          · rw [if_pos q4]; exact h2 (j - 2) (by omega) (by omega)
          · rw [if_neg q4]; exact h2 j a b
  have hh : ∀ j, 0 ≤ j → hiF (wB F num (plain rs)) j = hiF F j := by
    intro j q0
    unfold hiF
    rw [hw 640 (by omega), hw _ (by omega)]
  have hhm : hiF F m = hiF f (m - 1) := by
    unfold hiF
    have e : m - 1 + 1 = m := by omega
    rw [hnw.2.2, e]
    by_cases q : m < f 640
    · rw [if_pos (by omega), if_pos q, (hpast (m + 1) (by omega)).2]
      have : m + 1 - 1 = m := by omega
      rw [this]
    · rw [if_neg (by omega), if_neg q]
  refine ⟨⟨DirOK_wB hn hDi, wB_bytes hn hok hg hpt hbF, fun j a b => ?_⟩, by rw [hh m (by omega), hhm]⟩
  rw [hw 640 (by omega), hnw.2.2] at b
  unfold PgE
  rw [hw (641 + 2 * j) (by omega), hw (642 + 2 * j) (by omega), hh j a]
  have oth : ∀ j', 0 ≤ j' → j' < f 640 → ∀ k, 64 * f (641 + 2 * j') ≤ k → k < 64 * f (641 + 2 * j') + 64 → wB F num (plain rs) k = f k := by
    intro j' a' b' k k0 k1
    have hpj := h1.2.1 j' a' b'
    have hne2 : f (641 + 2 * j') ≠ num := fun e => hnu ⟨j', a', b', e⟩
    rw [wB_other (by omega)]
    exact hblk k (by omega)
  rcases Int.lt_trichotomy j m with q | q | q
  · have ho := hold j ⟨a, q⟩
    rw [ho.1, ho.2]
    by_cases qm : j = m - 1
    · subst qm
      refine ⟨pkd0, [], rs0, PgB_congr (f := f) (oth (m - 1) a (by omega)) ⟨h0.1, fun x hx => ?_, fun x hx => (by cases hx), h0.2.2.2.1, h0.2.2.2.2⟩⟩
      have hx1 := h0.2.1 x hx
      have hx2 := hlt x hx
      have e : m - 1 + 1 = m := by omega
      unfold hiF
      rw [e, hnw.2.2, if_pos (by omega), hnw.2.1]
      exact ⟨hx1.1, hx2⟩
    · obtain ⟨pkd', es', rs', hP'⟩ := h3 j a (by omega)
      refine ⟨pkd', es', rs', PgB_congr (f := f) (oth j a (by omega)) (PgB_mono hP' (Int.le_refl _) ?_)⟩
      unfold hiF
      rw [hnw.2.2, if_pos (by omega), if_pos (by omega), (hold (j + 1) ⟨by omega, by omega⟩).2]
      omega
  · subst q
    rw [hnw.1, hnw.2.1, hhm]
    exact ⟨_, _, _, wB_Pg hn hok hs hg hpt hk⟩
  · have ho := hpast j ⟨q, by omega⟩
    rw [ho.1, ho.2]
    obtain ⟨pkd', es', rs', hP'⟩ := h3 (j - 1) (by omega) (by omega)
    refine ⟨pkd', es', rs', PgB_congr (f := f) (oth (j - 1) (by omega) (by omega)) (PgB_mono hP' (Int.le_refl _) ?_)⟩
    unfold hiF
    have e : j - 1 + 1 = j := by omega
    rw [hnw.2.2, e]
    by_cases q2 : j < f 640
    · rw [if_pos q2, if_pos (by omega), (hpast (j + 1) ⟨by omega, by omega⟩).2]
      have : j + 1 - 1 = j := by omega
      rw [this]; omega
    · rw [if_neg q2, if_neg (by omega)]; omega
