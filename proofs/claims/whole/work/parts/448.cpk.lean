theorem WFz_cp {f g : Int → Int} {r : Rec} {R : List RS} (hb : bytesOK f) (hR : RecOK r) (hf : R.flatten = rI r 0 256) (hn : neP R) (hg : trmOK g) (hpt : ∀ rs ∈ R, partOK g rs) (hl : 1 ≤ R.length ∧ R.length ≤ 10) : WFz (cpN f R R.length) := by
  have hsort : sorted R.flatten := by rw [hf]; exact (rl_keys r _ 0).2
  have e640 : cpN f R R.length 640 = R.length := by unfold cpN; rw [if_pos rfl]
  have epg : ∀ i : Int, 0 ≤ i → i < R.length → cpN f R R.length (641 + 2 * i) = i := by
    intro i h0 h1
    unfold cpN
    rw [if_neg (by omega), if_pos (by omega), if_pos (by omega)]
    omega
  have efn : ∀ i : Int, 0 ≤ i → i < R.length → cpN f R R.length (642 + 2 * i) = if i = 0 then 0 else lowK (R.getD i.toNat []) := by
    intro i h0 h1
    unfold cpN
    rw [if_neg (by omega), if_pos (by omega), if_neg (by omega)]
    by_cases q : i = 0
    · rw [if_pos q, if_pos (by omega)]
    · rw [if_neg q, if_neg (by omega)]
      have : (642 + 2 * i - 641) / 2 = i := by omega
      rw [this]
  have get : ∀ i : Int, 0 ≤ i → i < R.length → ∃ rs, R[i.toNat]? = some rs ∧ R.getD i.toNat [] = rs ∧ rs ∈ R ∧ sorted rs ∧ rsOK rs ∧ (∀ q ∈ rs, 0 ≤ q.1 ∧ q.1 < 256) := by
    intro i h0 h1
    refine ⟨R[i.toNat]'(by omega), List.getElem?_eq_getElem (by omega), ?_, List.getElem_mem _, ?_, ?_, ?_⟩
    · rw [List.getD_eq_getElem?_getD, List.getElem?_eq_getElem (by omega)]; rfl
    · exact (sorted_part _ _ (List.getElem?_eq_getElem (by omega)) hsort).1
    · exact part_of hf (List.getElem_mem _) hR
    · intro q hq
      exact (part_of hf (List.getElem_mem _) hR q hq).1
  have low : ∀ i : Int, 0 ≤ i → i < R.length → 1 < R.length → ∃ p ∈ R.getD i.toNat [], lowK (R.getD i.toNat []) = p.1 := by
    intro i h0 h1 h2
    obtain ⟨rs, g1, g2, g3, g4, g5, g6⟩ := get i h0 h1
    rw [g2]
    apply lowK_mem
    rcases hn with hn | hn
    · exact hn rs g3
    · omega
  have cmp : ∀ i j : Int, 0 ≤ i → i < j → j < R.length → ∀ p ∈ R.getD i.toNat [], ∀ q ∈ R.getD j.toNat [], p.1 < q.1 := by
    intro i j h0 h1 h2 p hp q hq
    obtain ⟨rs, g1, g2, g3, g4, g5, g6⟩ := get i h0 (by omega)
    obtain ⟨rs', k1, k2, k3, k4, k5, k6⟩ := get j (by omega) h2
    rw [g2] at hp
    rw [k2] at hq
    exact (sorted_part j.toNat rs' k1 hsort).2 i.toNat rs (by omega) g1 p hp q hq
  have mono : ∀ i j : Int, 0 ≤ i → i < j → j < R.length → cpN f R R.length (642 + 2 * i) < cpN f R R.length (642 + 2 * j) := by
    intro i j h0 h1 h2
    obtain ⟨p, hp1, hp2⟩ := low i h0 (by omega) (by omega)
    obtain ⟨q, hq1, hq2⟩ := low j (by omega) h2 (by omega)
    have hc := cmp i j h0 h1 h2 p hp1 q hq1
    obtain ⟨rs, g1, g2, g3, g4, g5, g6⟩ := get i h0 (by omega)
    have := g6 p (by rw [← g2]; exact hp1)
    rw [efn i h0 (by omega), efn j (by omega) h2, if_neg (c := j = 0) (by omega), hq2]
    by_cases q0 : i = 0
    · rw [if_pos q0]; omega
    · rw [if_neg q0, hp2]; exact hc
  have hD : DirOK (cpN f R R.length) := by
    refine ⟨by rw [e640]; omega, fun i h0 h1 => ?_, fun i j h0 h1 h2 => ?_, ?_, fun i j h0 h1 h2 => ?_, fun i h0 h1 => ?_⟩
    · rw [e640] at h1; rw [epg i h0 h1]; omega
    · rw [e640] at h2; rw [epg i h0 (by omega), epg j (by omega) h2]; omega
    · have := efn 0 (by omega) (by omega)
      rw [if_pos rfl] at this
      exact this
    · rw [e640] at h2; exact mono i j h0 h1 h2
    · rw [e640] at h1
      rw [efn i h0 h1]
      by_cases q : i = 0
      · rw [if_pos q]; omega
      · rw [if_neg q]
        obtain ⟨p, hp1, hp2⟩ := low i h0 h1 (by omega)
        obtain ⟨rs, g1, g2, g3, g4, g5, g6⟩ := get i h0 h1
        have := g6 p (by rw [← g2]; exact hp1)
        omega
  have blk : ∀ i : Int, 0 ≤ i → i < R.length → ∀ j, 64 * i ≤ j → j < 64 * i + 64 → cpN f R R.length j = wB f i (plain (R.getD i.toNat [])) j := by
    intro i h0 h1 j j0 j1
    unfold cpN
    rw [if_neg (by omega), if_neg (by omega), if_pos (by omega)]
    have : j / 64 = i := by omega
    rw [this]
  rw [WFz_E]
  refine ⟨hD, fun j j0 j1 => ?_, fun i h0 h1 => ?_⟩
  · by_cases q0 : j = 640
    · rw [q0, e640]; omega
    · by_cases q1 : 641 ≤ j ∧ j < 641 + 2 * R.length
      · by_cases q2 : (j - 641) % 2 = 0
        · have : j = 641 + 2 * ((j - 641) / 2) := by omega
          rw [this, epg _ (by omega) (by omega)]; omega
        · have : j = 642 + 2 * ((j - 641) / 2) := by omega
          rw [this]
          have h5 := hD.2.2.2.2.2 ((j - 641) / 2) (by omega) (by rw [e640]; omega)
          have h6 := fen_b hD (i := (j - 641) / 2) ⟨by omega, by rw [e640]; omega⟩
          omega
      · by_cases q2 : j < 64 * R.length
        · rw [blk (j / 64) (by omega) (by omega) j (by omega) (by omega)]
          obtain ⟨rs, g1, g2, g3, g4, g5, g6⟩ := get (j / 64) (by omega) (by omega)
          rw [g2]
          exact wB_bytes (p := j / 64) (by omega) g5 hg (hpt rs g3) hb j j0 j1
        · unfold cpN
          rw [if_neg q0, if_neg q1, if_neg (by omega)]
          exact hb j j0 j1
  · rw [e640] at h1
    obtain ⟨rs, g1, g2, g3, g4, g5, g6⟩ := get i h0 h1
    unfold PgE
    rw [epg i h0 h1]
    have hk : keysIn (cpN f R R.length (642 + 2 * i)) (hiF (cpN f R R.length) i) rs := by
      intro p hp
      constructor
      · rw [efn i h0 h1]
        by_cases q : i = 0
        · rw [if_pos q]; exact (g6 p hp).1
        · rw [if_neg q, g2]; exact sorted_low g4 p hp
      · unfold hiF
        rw [e640]
        by_cases q : i + 1 < R.length
        · rw [if_pos q, efn (i + 1) (by omega) q, if_neg (by omega)]
          obtain ⟨q1, hq1, hq2⟩ := low (i + 1) (by omega) q (by omega)
          rw [hq2]
          exact cmp i (i + 1) h0 (by omega) q p (by rw [g2]; exact hp) q1 hq1
        · rw [if_neg q]; exact (g6 p hp).2
    have hP := wB_Pg (f := f) (p := i) ⟨h0, by omega⟩ g5 g4 hg (hpt rs g3) hk
    refine ⟨_, _, _, PgB_congr (fun j j0 j1 => ?_) hP⟩
    rw [blk i h0 h1 j j0 j1, g2]
