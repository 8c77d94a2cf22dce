def PgB (f : Int → Int) (p lo hi : Int) (pkd : List Int) (es : List (List Int)) (rs : RS) : Prop := Pg f p pkd es rs ∧ keysIn lo hi rs ∧ keyB lo hi es ∧ (plain (rI (pR es rs) 0 256)).length ≤ 120 ∧ zB f p pkd es
def PgE (f : Int → Int) (i : Int) : Prop := ∃ pkd es rs, PgB f (f (641 + 2 * i)) (f (642 + 2 * i)) (hiF f i) pkd es rs
def bytesOK (f : Int → Int) : Prop := ∀ j, 0 ≤ j → j < 661 → 0 ≤ f j ∧ f j < 256
theorem WFz_E {f : Int → Int} : WFz f ↔ DirOK f ∧ bytesOK f ∧ ∀ i, 0 ≤ i → i < f 640 → PgE f i := by
  constructor
  · rintro ⟨h1, h2, h3⟩
    refine ⟨h1, h2, fun i a b => ?_⟩
    obtain ⟨pkd, es, rs, h4, h5⟩ := h3 i a b
    exact ⟨pkd, es, rs, h4.1, h4.2.1, h4.2.2.1, h4.2.2.2, h5⟩
  · rintro ⟨h1, h2, h3⟩
    refine ⟨h1, h2, fun i a b => ?_⟩
    obtain ⟨pkd, es, rs, h4⟩ := h3 i a b
    exact ⟨pkd, es, rs, ⟨h4.1, h4.2.1, h4.2.2.1, h4.2.2.2.1⟩, h4.2.2.2.2⟩
theorem PgB_mono {f : Int → Int} {p lo hi lo' hi' : Int} {pkd : List Int} {es : List (List Int)} {rs : RS} (h : PgB f p lo hi pkd es rs) (h1 : lo' ≤ lo) (h2 : hi ≤ hi') : PgB f p lo' hi' pkd es rs := by
  obtain ⟨a, b, c, d, e⟩ := h
  exact ⟨a, fun q hq => by have := b q hq; omega, fun q hq => by have := c q hq; omega, d, e⟩
theorem Blk_congr {f g : Int → Int} {p : Int} {pkd : List Int} {es : List (List Int)} (h : ∀ j, 64 * p ≤ j → j < 64 * p + 64 → g j = f j) (hB : Blk f p pkd es) : Blk g p pkd es := by
  obtain ⟨h1, h2, h3, h4, h5, h6⟩ := hB
  refine ⟨h1, ?_, fun j h0 hj => ?_, h4, h5, fun q => ?_⟩
  · rw [h _ (by omega) (by omega)]; exact h2
  · rw [List.length_append] at hj
    rw [h _ (by omega) (by omega)]; exact h3 j h0 (by rw [List.length_append]; omega)
  · rw [h _ (by omega) (by omega)]; exact h6 q
theorem PgB_congr {f g : Int → Int} {p lo hi : Int} {pkd : List Int} {es : List (List Int)} {rs : RS} (h : ∀ j, 64 * p ≤ j → j < 64 * p + 64 → g j = f j) (hP : PgB f p lo hi pkd es rs) : PgB g p lo hi pkd es rs := by
  obtain ⟨⟨h1, h2, h3, h4, h5, h6⟩, b, c, d, hz⟩ := hP
  have e : g (64 * p) = f (64 * p) := h _ (by omega) (by omega)
  refine ⟨⟨Blk_congr h h1, by rw [e]; exact h2, h3, by rw [e]; exact h4, h5, h6⟩, b, c, d, ?_⟩
  intro j a q
  have := h1.2.2.2.1
  rw [h _ (by omega) (by omega)]
  exact hz j a q
-- a page goes
theorem WFz_rm {f : Int → Int} {i : Int} (hW : WFz f) (hi : 1 ≤ i ∧ i < f 640) : WFz (rmD f i) := by
  rw [WFz_E] at hW ⊢
  obtain ⟨h1, h2, h3⟩ := hW
  have hu := h1.1
  have hD := DirOK_rm h1 hi
  have e6 : rmD f i 640 = f 640 - 1 := rmD_640
  refine ⟨hD, fun j a b => ?_, fun j a b => ?_⟩
  · unfold rmD
    have q1 := h2 j a b
    by_cases q : j = 640
    · rw [if_pos q]; omega
    · rw [if_neg q]
      by_cases q2 : 641 + 2 * i ≤ j ∧ j < 641 + 2 * (f 640 - 1)
      · rw [if_pos q2]; exact h2 (j + 2) (by omega) (by omega)
      · rw [if_neg q2]; exact q1
  · rw [e6] at b
    by_cases q : j < i
    · obtain ⟨pkd, es, rs, hP⟩ := h3 j a (by omega)
      have ho := rmD_old (f := f) (m := i) (j := j) ⟨a, q⟩
      have hp := hP.1.1.1
      refine ⟨pkd, es, rs, ?_⟩
      rw [ho.1, ho.2]
      refine PgB_congr (f := f) (fun k _ _ => rmD_blk (by omega) (by omega)) (PgB_mono hP (Int.le_refl _) ?_)
      unfold hiF
      rw [e6]
      by_cases q1 : j + 1 < f 640 - 1
      · rw [if_pos q1, if_pos (by omega)]
        by_cases q2 : j + 1 < i
        · rw [(rmD_old (f := f) (m := i) (j := j + 1) ⟨by omega, q2⟩).2]; omega
        · rw [(rmD_past (f := f) (m := i) (j := j + 1) (by omega) ⟨by omega, q1⟩).2]
          exact Int.le_of_lt (h1.2.2.2.2.1 (j + 1) (j + 1 + 1) (by omega) (by omega) (by omega))
      · rw [if_neg q1]
        exact hiF_b h1 a
    · obtain ⟨pkd, es, rs, hP⟩ := h3 (j + 1) (by omega) (by omega)
      have ho := rmD_past (f := f) (m := i) (j := j) (by omega) ⟨by omega, b⟩
      have hp := hP.1.1.1
      refine ⟨pkd, es, rs, ?_⟩
      rw [ho.1, ho.2]
      refine PgB_congr (f := f) (fun k _ _ => rmD_blk (by omega) (by omega)) (PgB_mono hP (Int.le_refl _) ?_)
      unfold hiF
      rw [e6]
      by_cases q1 : j + 1 < f 640 - 1
      · rw [if_pos q1, if_pos (by omega), (rmD_past (f := f) (m := i) (j := j + 1) (by omega) ⟨by omega, q1⟩).2]; omega
      · rw [if_neg q1, if_neg (by omega)]; omega
-- an entry is logged
theorem canAll_snoc : ∀ (es : List (List Int)) (r : Rec) (e : List Int), canAll r es → can (es.foldl ap r) e → canAll r (es ++ [e])
  | [], r, e, _, h => ⟨h, trivial⟩
  | x :: t, r, e, h, h2 => ⟨h.1, canAll_snoc t (ap r x) e h.2 h2⟩
theorem pR_snoc (es : List (List Int)) (rs : RS) (e : List Int) : pR (es ++ [e]) rs = ap (pR es rs) e := by
  unfold pR; rw [List.foldl_append]; rfl
theorem WFz_log {f : Int → Int} {i : Int} {pkd : List Int} {es : List (List Int)} {rs : RS} {e : List Int} (hW : WFz f) (hi : 0 ≤ i ∧ i < f 640) (hP : PgX f i pkd es rs) (hz : zB f (f (641 + 2 * i)) pkd es) (he : eOK e) (hk : f (642 + 2 * i) ≤ gi e 1 ∧ gi e 1 < hiF f i) (hc : can (pR es rs) e) (hl : 2 + (pkd.length : Int) + es.flatten.length + e.length ≤ 64) (h120 : (plain (rI (ap (pR es rs) e) 0 256)).length ≤ 120) : WFz (lgF f (64 * f (641 + 2 * i) + (2 + pkd.length + es.flatten.length)) e) := by
  obtain ⟨p, hp⟩ : ∃ p, p = f (641 + 2 * i) := ⟨_, rfl⟩
  have hpb := hP.1.1.1
  rw [← hp] at hz hpb ⊢
  obtain ⟨F, hF⟩ : ∃ F, F = lgF f (64 * p + (2 + pkd.length + es.flatten.length)) e := ⟨_, rfl⟩
  have hlen := eOK_len he
  have hout : ∀ j : Int, j < 64 * p + (2 + pkd.length + es.flatten.length) ∨ 64 * p + (2 + pkd.length + es.flatten.length) + e.length ≤ j → F j = f j := by
    intro j hj; rw [hF]; unfold lgF; rw [if_neg (by omega)]
  have hin : ∀ j : Int, 0 ≤ j → j < e.length → F (64 * p + (2 + pkd.length + es.flatten.length) + j) = gi e j := by
    intro j h0 h1; rw [hF]; unfold lgF; rw [if_pos (by omega)]; congr 1; omega
  rw [← hF]
  rw [WFz_E] at hW ⊢
  obtain ⟨h1, h2, h3⟩ := hW
  have hu := h1.1
  have hdir : ∀ j, 640 ≤ j → F j = f j := fun j hj => hout j (by omega)
  have hhi : ∀ j, 0 ≤ j → hiF F j = hiF f j := by
    intro j hj
    unfold hiF
    rw [hdir 640 (by omega), hdir _ (by omega)]
  refine ⟨DirOK_congr h1 (fun j a b => hdir j a), fun j a b => ?_, fun j a b => ?_⟩
  · by_cases q : j < 64 * p + (2 + pkd.length + es.flatten.length) ∨ 64 * p + (2 + pkd.length + es.flatten.length) + e.length ≤ j
    · rw [hout j q]; exact h2 j a b
    · have := hin (j - (64 * p + (2 + pkd.length + es.flatten.length))) (by omega) (by omega)
      have ej : 64 * p + (2 + (pkd.length : Int) + es.flatten.length) + (j - (64 * p + (2 + pkd.length + es.flatten.length))) = j := by omega
      rw [ej] at this
      rw [this]
      exact allB_gi he.2.2 _
  · rw [hdir 640 (by omega)] at b
    unfold PgE
    rw [hdir (641 + 2 * j) (by omega), hdir (642 + 2 * j) (by omega), hhi j a]
    by_cases q : j = i
    · subst q
      rw [← hp]
      have hPg := hP.1
      rw [← hp] at hPg
      obtain ⟨⟨b1, b2, b3, b4, b5, b6⟩, c2, c3, c4, c5, c6⟩ := hPg
      have efl : (es ++ [e]).flatten = es.flatten ++ e := by simp
      have elen : ((es ++ [e]).flatten.length : Int) = es.flatten.length + e.length := by rw [efl, List.length_append]; omega
      have e0 : F (64 * p) = f (64 * p) := hout _ (by omega)
      refine ⟨pkd, es ++ [e], rs, ⟨⟨b1, ?_, ?_, by rw [elen]; omega, ?_, ?_⟩, by rw [e0]; exact c2, c3, by rw [e0]; exact c4, c5, canAll_snoc es _ e c6 hc⟩, hP.2.1, ?_, ?_, ?_⟩
      · rw [hout _ (by omega)]; exact b2
      · rw [efl, ← List.append_assoc, AL_app]
        refine ⟨fun k k0 k1 => ?_, fun k k0 k1 => ?_⟩
        · rw [List.length_append] at k1
          rw [hout _ (by omega)]; exact b3 k k0 (by rw [List.length_append]; omega)
        · rw [← hin k k0 k1, List.length_append]
          congr 1; omega
      · intro x hx
        rw [List.mem_append] at hx
        rcases hx with hx | hx
        · exact b5 x hx
        · rw [mem_single hx]; exact he
      · intro q2
        rw [elen] at q2 ⊢
        rw [hout _ (by omega)]
        exact hz _ (by omega) (by omega)
      · intro x hx
        rw [List.mem_append] at hx
        rcases hx with hx | hx
        · exact hP.2.2.1 x hx
        · rw [mem_single hx]; exact hk
      · rw [pR_snoc]; exact h120
      · intro k k0 k1
        rw [elen] at k0
        rw [hout _ (by omega)]
        exact hz k (by omega) k1
    · obtain ⟨pkd', es', rs', hP'⟩ := h3 j a b
      refine ⟨pkd', es', rs', PgB_congr (f := f) (fun k k0 k1 => ?_) hP'⟩
      have hne : f (641 + 2 * j) ≠ p := by
        rw [hp]
        rcases Int.lt_or_gt_of_ne q with q | q
        · exact h1.2.2.1 j i a q hi.2
        · exact fun h => h1.2.2.1 i j hi.1 q b h.symm
      exact hout k (by omega)
