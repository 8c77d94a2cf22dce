-- an entry is written: its first byte at last
def weL (pl : Int) (e : List Int) : List (Int × Int) := cpL (pl + 1) (fun k => gi e (1 + k)) (e.length - 1) ++ [(pl, gi e 0)]
theorem P_X0_writeEntry {pl : Int} {e : List Int} {Q : zMem → Prop} {M : zMem} (hr : inR (M.1 65)) (hA : AL (M.2 4) 0 e) (he : eOK e) (hpl : 0 ≤ pl ∧ pl + e.length ≤ 640) (hQ : ∀ M', WC M M' (weL pl e) → Q M') : T_X0_writeEntry pl 4 Q M := by
  have a4 : alen 4 = 10 := alen_4
  have hel := eOK_len he
  have o4 : ∀ {M1 us}, WC M M1 us → M1.2 4 = M.2 4 := fun h => h.1.2 4 (by unfold fW; omega)
  have hg : ∀ k : Int, 0 ≤ k → k < e.length → M.2 4 k = gi e k := fun k h0 h1 => by have := hA k h0 h1; rw [Int.zero_add] at this; exact this
  unfold T_X0_writeEntry
  refine P_X0_startAct (M := M) hr ?_
  intro M4 h4
  refine ⟨by omega, ?_⟩
  apply P_X2_sizeAt (by omega) (by omega) (by omega) (fun _ => by
    rw [o4 h4, hg 0 (by omega) (by omega)]
    have := allB_gi he.2.2 0
    exact inR_mk (by omega) (by omega))
  have hsz : sA (M4.2 4) 0 (alen 4) = e.length := sA_hit (t := []) he (by rw [o4 h4]; simpa using hA) (by simp; omega)
  rw [hsz]
  unfold T_X0_writeEntry_15
  apply zl1_rule (fun v4 M1 => (1 ≤ v4 ∧ v4 ≤ e.length) ∧ WC M M1 (cpL (pl + 1) (fun k => gi e (1 + k)) (v4 - 1).toNat)) (fun v4 _ => ((e.length : Int) - v4).toNat)
  · intro X v4 M1 ⟨h1, h2⟩ hX
    rw [o4 h2]
    refine ⟨fun q => ⟨⟨by omega, by omega⟩, ?_⟩, fun q => ⟨inR_mk (by omega) (by omega), ⟨by omega, by omega⟩, ?_⟩⟩
    · have e4 : (v4 - 1).toNat = e.length - 1 := by omega
      rw [e4] at h2
      rw [hg 0 (by omega) (by omega)]
      apply P_X0_write h2 (by omega) (by rw [cpL_len]; omega)
      exact hQ
    · obtain ⟨k, hk⟩ : ∃ k : Nat, v4 = 1 + k := ⟨(v4 - 1).toNat, by omega⟩
      subst hk
      have ek : (1 + (k : Int) - 1).toNat = k := by omega
      rw [ek] at h2
      rw [hg _ (by omega) (by omega)]
      apply P_X0_write h2 (by omega) (by rw [cpL_len]; omega)
      intro M3 h3
      refine ⟨inR_mk (by omega) (by omega), hX _ _ ⟨by omega, ?_⟩ (by omega)⟩
      have ek2 : (1 + (k : Int) + 1 - 1).toNat = k + 1 := by omega
      have ep : pl + (1 + (k : Int)) = pl + 1 + k := by omega
      rw [ek2, cpL]
      rw [ep] at h3
      exact h3
  · exact ⟨by omega, h4⟩
theorem P_X10_alone_63 {v2 pl : Int} {e : List Int} {Q : Int → zMem → Prop} {M0 M : zMem} (hW : WR M0 M []) (h604 : M0.1 604 = pl) (h605 : M0.1 605 = e.length) (hA : AL (M0.2 583) pl e) (he : eOK e) (hpl : 0 ≤ pl ∧ pl + e.length ≤ 640) (hQ : ∀ M', WR M0 M' (weL pl e) → T_X10_ends v2 (fun y3 M4 => T_X10_letsFree (fun M5 => Q y3 M5) M4) M') : T_X10_alone_63 v2 Q 1 M := by
  have hel := eOK_len he
  have o583 : ∀ {M1 us}, WR M0 M1 us → M1.2 583 = M0.2 583 := fun h => h.1.2 583 (by unfold fWr; omega)
  have o604 : ∀ {M1 us}, WR M0 M1 us → M1.1 604 = pl := fun h => (h.1.1 604 (by unfold fWr; omega)).trans h604
  have o605 : ∀ {M1 us}, WR M0 M1 us → M1.1 605 = e.length := fun h => (h.1.1 605 (by unfold fWr; omega)).trans h605
  unfold T_X10_alone_63
  apply zl1_rule (fun v4 M1 => (1 ≤ v4 ∧ v4 ≤ e.length) ∧ WR M0 M1 (cpL (pl + 1) (fun k => gi e (1 + k)) (v4 - 1).toNat)) (fun v4 _ => ((e.length : Int) - v4).toNat)
  · intro X v4 M1 ⟨h1, h2⟩ hX
    rw [o604 h2, o605 h2, o583 h2]
    refine ⟨fun q => ⟨⟨by omega, by omega⟩, ?_⟩, fun q => ⟨inR_mk (by omega) (by omega), inR_mk (by omega) (by omega), ⟨by omega, by omega⟩, ?_⟩⟩
    · have e4 : (v4 - 1).toNat = e.length - 1 := by omega
      rw [e4] at h2
      have e0 : M0.2 583 pl = gi e 0 := by have := hA 0 (by omega) (by omega); rw [Int.add_zero] at this; exact this
      rw [e0]
      apply P_X10_writes (p := pl) h2 (by omega) (sg_lo (by omega) rfl) (by rw [cpL_len]; omega)
      exact hQ
    · obtain ⟨k, hk⟩ : ∃ k : Nat, v4 = 1 + k := ⟨(v4 - 1).toNat, by omega⟩
      subst hk
      have ek : (1 + (k : Int) - 1).toNat = k := by omega
      rw [ek] at h2
      rw [hA _ (by omega) (by omega)]
      apply P_X10_writes (p := pl + (1 + k)) h2 (by omega) (sg_lo (by omega) rfl) (by rw [cpL_len]; omega)
      intro M3 h3
      refine ⟨inR_mk (by omega) (by omega), hX _ _ ⟨by omega, ?_⟩ (by omega)⟩
      have ek2 : (1 + (k : Int) + 1 - 1).toNat = k + 1 := by omega
      have ep : pl + (1 + (k : Int)) = pl + 1 + k := by omega
      rw [ek2, cpL]
      rw [ep] at h3
      exact h3
  · exact ⟨by omega, hW⟩
-- what is on the disk when the fuse has blown
def JW (row F : Int → Int) (ps : List Int) : Prop := row 661 = 1 ∧ row 662 = ps.length ∧ (∀ (i : Nat) (p : Int), ps[i]? = some p → row (663 + 65 * i) = p ∧ ∀ k : Int, 0 ≤ k → k < 64 → row (663 + 65 * i + 1 + k) = F (64 * p + k)) ∧ (∀ k : Int, 0 ≤ k → k < dirN F → row (663 + 65 * ps.length + k) = F (640 + k)) ∧ (∀ j, 0 ≤ j → j < 661 → (∀ p ∈ ps, ¬ (64 * p ≤ j ∧ j < 64 * p + 64)) → ¬ (640 ≤ j ∧ j < 640 + dirN F) → row j = F j) ∧ WFz F ∧ (∀ p ∈ ps, 0 ≤ p ∧ p < 10) ∧ ps.length ≤ 10
def DOK (row : Int → Int) (d : Int) : Prop := (d = 0 ∧ row 661 = 0 ∧ WFz row) ∨ (d = 1 ∧ ((row 661 = 0 ∧ WFi row) ∨ ∃ F ps, JW row F ps))
theorem blL_mem {F : Int → Int} {ps : List Int} {w : Int × Int} (h : w ∈ blL F ps) : ∃ p ∈ ps, (64 * p ≤ w.1 ∧ w.1 < 64 * p + 64) ∧ w.2 = F w.1 := by
  unfold blL at h
  rw [List.mem_flatMap] at h
  obtain ⟨p, hp, hw⟩ := h
  obtain ⟨k, hk, e⟩ := cpL_mem.mp hw
  rw [e]
  exact ⟨p, hp, ⟨by dsimp only; omega, by dsimp only; omega⟩, rfl⟩
theorem tjB_mem {F : Int → Int} {ps : List Int} {w : Int × Int} (h : w ∈ tjB F ps) : ((∃ p ∈ ps, 64 * p ≤ w.1 ∧ w.1 < 64 * p + 64) ∨ (640 ≤ w.1 ∧ w.1 < 640 + dirN F)) ∧ w.2 = F w.1 := by
  unfold tjB at h
  rw [List.mem_append] at h
  rcases h with h | h
  · obtain ⟨p, h1, h2, h3⟩ := blL_mem h
    exact ⟨Or.inl ⟨p, h1, h2⟩, h3⟩
  · obtain ⟨k, hk, e⟩ := cpL_mem.mp h
    rw [e]
    exact ⟨Or.inr ⟨by dsimp only; omega, by dsimp only; omega⟩, rfl⟩
theorem tjB_hit {F : Int → Int} {ps : List Int} {j : Int} (h : (∃ p ∈ ps, 64 * p ≤ j ∧ j < 64 * p + 64) ∨ (640 ≤ j ∧ j < 640 + dirN F)) : ∃ w ∈ tjB F ps, w.1 = j := by
  unfold tjB
  rcases h with ⟨p, hp, h1, h2⟩ | ⟨h1, h2⟩
  · refine ⟨(64 * p + ((j - 64 * p).toNat : Int), F (64 * p + ((j - 64 * p).toNat : Int))), List.mem_append_left _ ?_, by dsimp only; omega⟩
    unfold blL
    rw [List.mem_flatMap]
    exact ⟨p, hp, cpL_mem.mpr ⟨(j - 64 * p).toNat, by omega, rfl⟩⟩
  · exact ⟨(640 + ((j - 640).toNat : Int), F (640 + ((j - 640).toNat : Int))), List.mem_append_right _ (cpL_mem.mpr ⟨(j - 640).toNat, by omega, rfl⟩), by dsimp only; omega⟩
-- the blocks and the directory, some of them: the journal stays good
theorem JW_part {row F : Int → Int} {ps : List Int} {us : List (Int × Int)} (h : JW row F ps) (hus : ∀ w ∈ us, w ∈ tjB F ps) : JW (apw row us) F ps := by
  obtain ⟨h1, h2, h3, h4, h5, h6, h7, h8⟩ := h
  have hd : ((dirN F : Nat) : Int) ≤ 21 := by have := h6.1.1; unfold dirN; omega
  have hi : ∀ j, 661 ≤ j → apw row us j = row j := by
    intro j hj
    apply apw_out
    intro w hw
    have := (tjB_mem (hus w hw)).1
    rcases this with ⟨p, hp, q⟩ | q
    · have := h7 p hp; omega
    · omega
  refine ⟨by rw [hi _ (by omega)]; exact h1, by rw [hi _ (by omega)]; exact h2, fun i p hip => ?_, fun k k0 k1 => ?_, fun j j0 j1 j2 j3 => ?_, h6, h7, h8⟩
  · obtain ⟨a, b⟩ := h3 i p hip
    exact ⟨by rw [hi _ (by omega)]; exact a, fun k k0 k1 => by rw [hi _ (by omega)]; exact b k k0 k1⟩
  · rw [hi _ (by omega)]; exact h4 k k0 k1
  · rw [apw_out]
    · exact h5 j j0 j1 j2 j3
    · intro w hw e
      have := (tjB_mem (hus w hw)).1
      rw [e] at this
      rcases this with ⟨p, hp, q⟩ | q
      · exact j2 p hp q
      · exact j3 q
theorem JW_all {row F : Int → Int} {ps : List Int} (h5 : ∀ j, 0 ≤ j → j < 661 → (∀ p ∈ ps, ¬ (64 * p ≤ j ∧ j < 64 * p + 64)) → ¬ (640 ≤ j ∧ j < 640 + dirN F) → row j = F j) : agr (apw row (tjB F ps)) F := by
  intro j j0 j1
  by_cases q : (∃ p ∈ ps, 64 * p ≤ j ∧ j < 64 * p + 64) ∨ (640 ≤ j ∧ j < 640 + dirN F)
  · refine apw_in (fun w hw e => ?_) (tjB_hit q)
    rw [← e]; exact (tjB_mem hw).2
  · rw [apw_out]
    · exact h5 j j0 j1 (fun p hp hh => q (Or.inl ⟨p, hp, hh⟩)) (fun hh => q (Or.inr hh))
    · intro w hw e
      have := (tjB_mem hw).1
      rw [e] at this
      exact q this
