noncomputable def bP (P : List Int) : Int → Int := fun q => if q ∈ P then 1 else 0
theorem bP_01 (P : List Int) (q : Int) : bP P q = 0 ∨ bP P q = 1 := by unfold bP; split <;> omega
theorem bP_mem {P : List Int} {p : Int} : p ∈ pgsTo (bP P) 10 ↔ (0 ≤ p ∧ p < 10) ∧ p ∈ P := by
  rw [pgsTo_mem]
  unfold bP
  constructor
  · rintro ⟨h1, h2⟩
    refine ⟨h1, ?_⟩
    by_cases q : p ∈ P
    · exact q
    · rw [if_neg q] at h2; omega
  · rintro ⟨h1, h2⟩
    exact ⟨h1, by rw [if_pos h2]⟩
section
variable {tr : Int → Int} {t : List Int} {s : Int × (Int → Int)} {fl : Int} {f : Int → Int} {L : Lrn} {d : Int} {u : Int × Int} {H : List Int × Int} {ps : List Mom}
theorem P_X9_tellOutcome {act v b N : Int} {Q : Int → zMem → Prop} {M : zMem} (hN : N ≤ 100000) (hC : CS M tr t s fl (f, L, d) u H ps) (hs : ∀ j, 0 ≤ j → j < 7 → 0 ≤ s.2 j ∧ s.2 j ≤ N) (hl : H.1.length ≤ 4) (h67 : M.1 67 = b)
    (hQ1 : b ≠ 0 → ∀ M', Fr (fun k => k < 576) M M' → CS M' tr t (rfS (-7) s) fl (f, L, d) u ([], H.2) ps → Q (-7) M')
    (hD : b = 0 → ¬ (act = 4 ∨ act = 5) → DirOK f)
    (hQ2 : b = 0 → (act = 4 ∨ act = 5) → ∀ M', Fr (fun k => k < 576) M M' → CS M' tr t (acS s) fl (f, L, d) u ([], H.2) ps → Q v M')
    (hQ3 : b = 0 → ¬ (act = 4 ∨ act = 5) → ∀ M', Fr (fun k => k < 576) M M' → CS M' tr t (acS s) fl (f, L, d) u (frF f H.1, H.2) ps → Q v M') : T_X9_tellOutcome act v Q M := by
  have all : b = 0 → (act = 4 ∨ act = 5) → T_X3_giveUpAll (fun M3 => T_X9_accept v (fun y4 M5 => Q y4 M5) M3) M := by
    intro hb ha
    refine P_X9_giveUpAll (M := M) hC ?_
    intro M3 hF3 hC3
    refine P_X9_accept (M := M3) hC3 ?_
    intro M5 hF5 hC5
    exact hQ2 hb ha M5 (Fr_trans (Fr_mono hF3 (fun k h => by omega)) (Fr_mono hF5 (fun k h => by omega))) hC5
  unfold T_X9_tellOutcome
  rw [h67]
  refine ⟨fun hb => ⟨fun q => all hb (Or.inl q), fun q => ⟨fun q2 => ?_, fun q2 => all hb (Or.inr q2)⟩⟩, fun hb => ?_⟩
  · have ha : ¬ (act = 4 ∨ act = 5) := by omega
    have ag := agr_c hC
    have hDf := hD hb ha
    apply P_X3_giveUpFree (agr_dir (agr_symm ag) hDf) hC.2.2.2.2.2.2.1.1 hl
    intro M7 hF7 hH7
    have ef : frF (M.2 64) H.1 = frF f H.1 := frF_agr ag (by rw [ag 640 (by omega) (by omega)]; exact hDf.1.2) H.1
    rw [ef] at hH7
    have hC7 : CS M7 tr t s fl (f, L, d) u (frF f H.1, H.2) ps := CS_He hC hF7 (fun k _ h => by unfold cHeI; omega) ⟨hH7, by rw [hF7.1 449 (by decide)]; exact hC.2.2.2.2.2.2.1.2⟩
    refine P_X9_accept (M := M7) hC7 ?_
    intro M9 hF9 hC9
    exact hQ3 hb ha M9 (Fr_trans (Fr_mono hF7 (fun k h => by omega)) (Fr_mono hF9 (fun k h => by omega))) hC9
  · refine P_X9_giveUpAll (M := M) hC ?_
    intro M13 hF13 hC13
    unfold T_X9_tellCutOff
    apply P_X9_refuse (by omega) hs hN hC13
    intro M15 hF15 hC15
    exact hQ1 hb M15 (Fr_trans (Fr_mono hF13 (fun k h => by omega)) (Fr_mono hF15 (fun k h => by omega))) hC15
-- through the journal: the class
theorem P_X9_carryOut {act v N : Int} {F b : Int → Int} {pg : List Int} {L' : Lrn} {Q : Int → zMem → Prop} {M : zMem} (hN : N ≤ 100000) (hC : CS M tr t s fl (f, L, 0) u H ps) (hs : ∀ j, 0 ≤ j → j < 7 → 0 ≤ s.2 j ∧ s.2 j ≤ N) (hl : H.1.length ≤ 4) (hu : inR u.1) (hL : Lat (M.2 129) 0 L') (hF : agr (M.2 128) F) (hFu : 1 ≤ F 640 ∧ F 640 ≤ 10) (hb : ∀ p, 0 ≤ p → p < 10 → M.2 130 p = b p ∧ (b p = 0 ∨ b p = 1)) (hpg : pg = pgsTo b 10) (hD : DirOK (apw f (tj F pg)))
    (hQ1 : blw u.1 (tj F pg).length → ∀ M', Fr (fun k => k < 576 ∨ 1024 ≤ k) M M' → CS M' tr t (rfS (-7) s) fl (apw f ((tj F pg).take (nwr u.1 (tj F pg).length)), L', 1) (-1, nwr u.1 (tj F pg).length) ([], H.2) (kpF (act, 0, f, L) ps) → Q (-7) M')
    (hQ2 : ¬ blw u.1 (tj F pg).length → ∀ M', Fr (fun k => k < 576 ∨ 1024 ≤ k) M M' → CS M' tr t (acS s) fl (apw f (tj F pg), L', 0) (fuN u.1 (tj F pg).length, (tj F pg).length) (if act = 4 ∨ act = 5 then [] else frF (apw f (tj F pg)) H.1, H.2) (kpF (act, 0, f, L) ps) → Q v M') : T_X9_carryOut act v Q M := by
  unfold T_X9_carryOut
  apply P_X9_keepAndLearn hC (Or.inl rfl) hL
  intro M1 hF1 hC1
  have n1 : ∀ k, 128 ≤ k → k < 448 → ¬ (k = 1 ∨ fPC k) := fun k a b => by unfold fPC; omega
  have FF1 : Fr (fun k => k < 576 ∨ 1024 ≤ k) M M1 := Fr_mono hF1 (fun k h => by unfold fPC at h; omega)
  refine P_X0_writeThroughJournal (F := F) (b := b) (by rw [hC1.2.2.2.2.2.1.1]; exact hu) (by rw [hF1.2 128 (n1 128 (by omega) (by omega))]; exact hF) hFu (by rw [hF1.2 130 (n1 130 (by omega) (by omega))]; exact hb) hpg ?_
  intro M2 hw
  have FF2 : Fr (fun k => k < 576 ∨ 1024 ≤ k) M M2 := Fr_trans FF1 (Fr_mono hw.1 (fun k h => by unfold fW at h; omega))
  obtain ⟨wc1, wc2⟩ := WC_CS hC1 hw
  by_cases hbl : blw u.1 (tj F pg).length
  · obtain ⟨hC2, h67⟩ := wc1 hbl
    apply P_X9_tellOutcome (b := 1) hN hC2 hs hl h67
    · intro _ M' hF' hC'
      exact hQ1 hbl M' (Fr_trans FF2 (Fr_mono hF' (fun k h => by omega))) hC'
    · intro h; omega
    · intro h; omega
    · intro h; omega
  · obtain ⟨hC2, h67⟩ := wc2 hbl
    apply P_X9_tellOutcome (b := 0) hN hC2 hs hl h67
    · intro h; exact absurd rfl h
    · intro _ _; exact hD
    · intro _ ha M' hF' hC'
      have := hQ2 hbl M' (Fr_trans FF2 (Fr_mono hF' (fun k h => by omega)))
      rw [if_pos ha] at this
      exact this hC'
    · intro _ ha M' hF' hC'
      have := hQ2 hbl M' (Fr_trans FF2 (Fr_mono hF' (fun k h => by omega)))
      rw [if_neg ha] at this
      exact this hC'
end
