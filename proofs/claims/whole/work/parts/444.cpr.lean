def fCr : Nat → Prop := fun k => k = 590 ∨ k = 591 ∨ fRp k
theorem rI_from {r : Rec} {k : Int} (hk : k < 256) (h : r k ≠ none) : ∃ v, r k = some v ∧ rI r k 256 = (k, v) :: rI r (k + 1) 256 ∧ rI r k (k + 1) = [(k, v)] := by
  cases hr : r k with
  | none => exact absurd hr h
  | some v => exact ⟨v, rfl, by rw [rI_cons r hk, one_some hr]; rfl, by rw [rI_one, one_some hr]⟩
theorem P_X10_lastTogether {low : Int} {x : Int × List Int} {t : RS} {r : Rec} {L : Lrn} {Q : Int → zMem → Prop} {M : zMem} (hT : tabR M r) (hR : RecOK r) (h : 0 ≤ low ∧ low < 256) (hx1 : rI r low (low + 1) = [x]) (hx2 : rI r (low + 1) 256 = t) (hg : trmOK (M.2 579)) (hL : lrnOK L) (hA : Lat (M.2 583) 661 L)
    (hQ : ∀ last, (low ≤ last ∧ last ≤ 255) → rI r low (last + 1) = (ext (M.2 579) (120 - L.1) [x] t).1 → rI r (last + 1) 256 = (ext (M.2 579) (120 - L.1) [x] t).2 → ∀ M', Fr fCr M M' → Q last M') : T_X10_lastTogether low Q M := by
  obtain ⟨g, hg0⟩ : ∃ g, g = M.2 579 := ⟨_, rfl⟩
  rw [← hg0] at hg hQ
  obtain ⟨res, hres⟩ : ∃ res, res = ext g (120 - L.1) [x] t := ⟨_, rfl⟩
  rw [← hres] at hQ
  unfold T_X10_lastTogether
  refine ⟨inR_mk (by omega) (by omega), ?_⟩
  unfold T_X10_lastTogether_6
  apply zl2_rule (fun v2 v3 M1 => (low ≤ v2 ∧ v2 < v3 ∧ v3 ≤ 256) ∧ rI r (v2 + 1) v3 = [] ∧ rI r low (v2 + 1) ≠ [] ∧ ext g (120 - L.1) (rI r low (v2 + 1)) (rI r v3 256) = res ∧ Fr fCr M M1) (fun _ v3 _ => (256 - v3).toNat)
  · intro X v2 v3 M1 ⟨h1, h2, h3, h4, h5⟩ hX
    have e579 : M1.2 579 = g := by rw [hg0]; exact h5.2 579 (by unfold fCr fRp; decide)
    have e583 : M1.2 583 = M.2 583 := h5.2 583 (by unfold fCr fRp; decide)
    have hT1 : tabR M1 r := by
      unfold tabR
      rw [h5.2 596 (by unfold fCr fRp; decide), h5.2 597 (by unfold fCr fRp; decide)]
      exact hT
    have hrest : rI r (v2 + 1) 256 = rI r v3 256 := by
      rw [rI_split r (low := v2 + 1) (mid := v3) (high := 256) (by omega) (by omega), h2]; rfl
    refine ⟨fun q => ?_, fun q => ⟨⟨by omega, by omega⟩, fun hs => ?_, fun hs => ?_⟩⟩
    · have e4 : v3 = 256 := by omega
      rw [e4, rI_nil r (Int.le_refl _), ext] at h4
      rw [e4, rI_nil r (Int.le_refl _)] at hrest
      exact hQ v2 ⟨by omega, by omega⟩ (by rw [← h4]) (by rw [← h4]; exact hrest) M1 h5
    · obtain ⟨v, hv, _, _⟩ := Tab_some hT1 (by omega) (by omega) hs
      have hlow : rI r low v3 = rI r low (v2 + 1) := by
        rw [rI_split r (low := low) (mid := v2 + 1) (high := v3) (by omega) (by omega), h2, List.append_nil]
      have e5 : rI r low (v3 + 1) = rI r low (v2 + 1) ++ [(v3, v)] := by rw [rI_snoc r (by omega), hlow, one_some hv]
      have e6 : rI r v3 256 = (v3, v) :: rI r (v3 + 1) 256 := by rw [rI_cons r (by omega), one_some hv]; rfl
      rw [e6] at h4 hrest
      have stop : ¬ extC g (120 - L.1) (rI r low (v2 + 1) ++ [(v3, v)]) → ∀ M', Fr fCr M M' → Q v2 M' := by
        intro hn M' hF'
        rw [ext_no hn] at h4
        exact hQ v2 ⟨by omega, by omega⟩ (by rw [← h4]) (by rw [← h4]; exact hrest) M' hF'
      have hl0 := hL.1
      have hlen2 : 1 < (rI r low (v3 + 1)).length := by
        rw [e5, List.length_append]
        cases hq : rI r low (v2 + 1) with
        | nil => exact absurd hq h3
        | cons a b => simp
      apply P_X10_plainOf hT1 hR (by omega)
      apply P_X10_full hL (by rw [e583]; exact hA)
      refine ⟨fun q2 => stop (fun hn => by have := hn.1; rw [e5] at q2; omega) M1 h5, fun q2 => ?_⟩
      apply P_X10_fits hT1 hR (by omega) (fun _ => by omega) (by rw [e579]; exact hg)
      rw [e579]
      intro M7 hF7
      have F7 : Fr fCr M M7 := Fr_trans h5 hF7
      unfold fitS
      rw [if_neg (by omega)]
      by_cases hfit : 2 + ((shape (plain (rI r low (v3 + 1)))).length : Int) + g 0 ≤ 64
      · rw [if_pos hfit]
        refine ⟨fun _ => ?_, fun q3 => by omega⟩
        unfold T_X10_lastTogether_52
        refine ⟨inR_mk (by omega) (by omega), hX _ _ _ ⟨by omega, rI_nil r (by omega), ?_, ?_, F7⟩ (by omega)⟩
        · rw [e5]; simp
        · rw [e5] at hfit q2 ⊢
          rw [← ext_yes ⟨by omega, hfit⟩]; exact h4
      · rw [if_neg hfit]
        exact ⟨fun q3 => absurd rfl q3, fun _ => stop (fun hn => hfit (by rw [e5]; exact hn.2)) M7 F7⟩
    · have hn : r v3 = none := (Tab_iff hT1 (by omega) (by omega)).mp hs
      unfold T_X10_lastTogether_52
      refine ⟨inR_mk (by omega) (by omega), hX _ _ _ ⟨by omega, ?_, h3, ?_, h5⟩ (by omega)⟩
      · rw [rI_snoc r (by omega), h2, one_none hn]; rfl
      · rw [← h4, rI_cons r (i := v3) (by omega), one_none hn]; rfl
  · exact ⟨by omega, rI_nil r (by omega), by rw [hx1]; simp, by rw [hx1, hx2, hres], Fr_refl M⟩
def PartsC (r : Rec) (pl ph : Int → Int) (acc : List RS) : Prop := ∀ k : Nat, k < acc.length → (0 ≤ pl k ∧ pl k ≤ ph k + 1 ∧ ph k ≤ 255) ∧ acc[k]? = some (rI r (pl k) (ph k + 1)) ∧ (1 ≤ k → lowK (rI r (pl k) (ph k + 1)) = pl k)
def fCq : Nat → Prop := fun k => fCr k ∨ k = 583 ∨ k = 598 ∨ k = 599 ∨ k = 600 ∨ k = 606
-- the pages are laid out one by one
theorem P_X10_compact_164 {f : Int → Int} {R : List RS} {r : Rec} {g : Int → Int} {Q : Int → zMem → Prop} {M : zMem} (hT : tabR M r) (hR : RecOK r) (hg : trmOK g) (hn : 1 ≤ R.length ∧ R.length ≤ 10) (hpt : ∀ x ∈ R, partOK g x) (hrok : rsOK R.flatten) (h600 : M.1 600 = R.length) (hP : PartsC r (M.2 598) (M.2 599) R) (hf : ∀ j, 0 ≤ j → j < 661 → M.2 583 j = if j = 640 then (R.length : Int) else f j)
    (hQ : ∀ M', Fr fCq M M' → (∀ j, 661 ≤ j → M'.2 583 j = M.2 583 j) → agr (M'.2 583) (cpN f R R.length) → (0 ≤ M'.1 606 ∧ M'.1 606 < 1024) → (∀ p, 0 ≤ p → p < 10 → bt (M'.1 606) p = if p < (R.length : Int) then 1 else 0) → M'.1 600 = R.length → T_X10_keeps 5 (fun M4 => T_X10_beginsWriting (fun M5 => T_X10_throughJournal (fun M6 => ∀ M7 : zMem, M7 = setS M6 612 0 → T_X10_ends (M7.1 600) (fun y8 M9 => Q y8 M9) M7) M5) M4) M') : T_X10_compact_164 Q 0 M := by
  unfold T_X10_compact_164
  apply zl1_rule (fun v2 M1 => (0 ≤ v2 ∧ v2 ≤ R.length) ∧ Fr (fun k => k = 583 ∨ fCr k) M M1 ∧ (∀ j, 661 ≤ j → M1.2 583 j = M.2 583 j) ∧ ∀ j, 0 ≤ j → j < 661 → M1.2 583 j = if j = 640 then (R.length : Int) else cpN f R v2 j) (fun v2 _ => ((R.length : Int) - v2).toNat)
  · intro X v2 M1 ⟨h1, h2, h3, h4⟩ hX
    have e600 : M1.1 600 = R.length := (h2.1 600 (by unfold fCr fRp; decide)).trans h600
    have e598 : M1.2 598 = M.2 598 := h2.2 598 (by unfold fCr fRp; decide)
    have e599 : M1.2 599 = M.2 599 := h2.2 599 (by unfold fCr fRp; decide)
    have hT1 : tabR M1 r := by
      unfold tabR
      rw [h2.2 596 (by unfold fCr fRp; decide), h2.2 597 (by unfold fCr fRp; decide)]
      exact hT
    rw [e600, e598, e599]
    refine ⟨fun q => ?_, fun q => ⟨⟨by omega, by omega⟩, ⟨by omega, by omega⟩, ?_⟩⟩
    · have e2 : v2 = R.length := by omega
      have hb := bt_low (n := R.length) (p := 0) (by omega) (by omega)
      refine ⟨inR_mk (by omega) (by omega), fun M3 hM3 => ?_⟩
      have o2 : M3.2 = M1.2 := by rw [hM3]; rfl
      have e606 : M3.1 606 = zshl 1 R.length - 1 := by rw [hM3]; rfl
      apply hQ M3
      · rw [hM3]
        exact Fr_trans (Fr_mono h2 (fun k h => by rcases h with h | h; exact Or.inr (Or.inl h); exact Or.inl h)) (Fr_setS (Or.inr (Or.inr (Or.inr (Or.inr (Or.inr rfl))))))
      · rw [o2]; exact h3
      · rw [o2]
        intro j j0 j1
        rw [h4 j j0 j1, e2]
        by_cases q1 : j = 640
        · rw [if_pos q1]; unfold cpN; rw [if_pos q1]
        · rw [if_neg q1]
      · rw [e606]; exact hb.1
      · intro p p0 p1
        rw [e606]
        exact (bt_low (n := R.length) (p := p) (by omega) (by omega)).2
      · rw [hM3]; exact e600
    · obtain ⟨n, hnn⟩ : ∃ n : Nat, v2 = n := ⟨v2.toNat, by omega⟩
      subst hnn
      obtain ⟨p1, p2, p3⟩ := hP n (by omega)
      have hmem : rI r (M.2 598 n) (M.2 599 n + 1) ∈ R := List.mem_of_getElem? p2
      have hgetD : R.getD n [] = rI r (M.2 598 n) (M.2 599 n + 1) := by rw [List.getD_eq_getElem?_getD, p2]; rfl
      have hpo := hpt _ hmem
      have hok : rsOK (rI r (M.2 598 n) (M.2 599 n + 1)) := rI_ok hR _ _
      have hp120 := part_plain hpo hok
      apply P_X10_shapes hT1 hR p1 ⟨by omega, by omega⟩ (by omega) (plain_b hok) (part62 hg hpo hok)
      intro M10 hF10 hw10
      refine ⟨inR_mk (by omega) (by omega), inR_mk (by omega) (by omega), ⟨by omega, by omega⟩, fun M11 hM11 => ⟨inR_mk (by omega) (by omega), inR_mk (by omega) (by omega), ?_⟩⟩
      have e11 : M11.2 583 = upI (M10.2 583) (641 + 2 * n) n := by rw [hM11]; rfl
      have e11b : M11.2 598 = M.2 598 := by
        rw [hM11, setA_2, if_neg (by decide), hF10.2 598 (by unfold fRp; decide), e598]
      have last : ∀ s2, s2 = (if (n : Int) = 0 then 0 else lowK (R.getD n [])) → T_X10_compact_227 n (642 + 2 * n) s2 X Q M11 := by
        intro s2 hs2
        unfold T_X10_compact_227
        refine ⟨⟨by omega, by omega⟩, fun M2 hM2 => ⟨inR_mk (by omega) (by omega), hX _ _ ⟨by omega, ?_, ?_, ?_⟩ (by omega)⟩⟩
        · rw [hM2, hM11]
          refine Fr_trans (Fr_trans (Fr_trans h2 (Fr_mono hF10 (fun k h => ?_))) (Fr_setA (Or.inl rfl))) (Fr_setA (Or.inl rfl))
          rcases h with h | h
          · exact Or.inl h
          · exact Or.inr h
        · intro j j0
          have e2 : M2.2 583 = upI (upI (M10.2 583) (641 + 2 * n) n) (642 + 2 * n) s2 := by rw [hM2, setA_2, if_pos rfl, e11]
          rw [e2]
          unfold upI
          rw [if_neg (by omega), if_neg (by omega), hw10 j, wB_dir ⟨by omega, by omega⟩ (by omega)]
          exact h3 j j0
        · intro j j0 j1
          have e2 : M2.2 583 = upI (upI (M10.2 583) (641 + 2 * n) n) (642 + 2 * n) s2 := by rw [hM2, setA_2, if_pos rfl, e11]
          rw [e2]
          unfold upI
          by_cases q0 : j = 640
          · rw [if_pos q0, if_neg (by omega), if_neg (by omega), hw10 j, wB_dir ⟨by omega, by omega⟩ (by omega), h4 j j0 j1, if_pos q0]
          · rw [if_neg q0, cpN_step ⟨by omega, by omega⟩ q0, Int.toNat_natCast]
            by_cases q1 : j = 642 + 2 * n
            · rw [if_pos q1, if_neg (by omega), if_pos q1]; exact hs2
            · rw [if_neg q1]
              by_cases q2 : j = 641 + 2 * n
              · rw [if_pos q2, if_pos q2]
              · rw [if_neg q2, if_neg q2, if_neg q1, hw10 j, hgetD]
                unfold wB
                by_cases q3 : 64 * (n : Int) ≤ j ∧ j < 64 * n + 64
                · rw [if_pos q3, if_pos q3]
                · rw [if_neg q3, if_neg q3, h4 j j0 j1, if_neg q0]
      refine ⟨fun q0 => ⟨⟨by omega, by omega⟩, ?_⟩, fun q0 => last 0 (by rw [if_pos q0])⟩
      rw [e11b]
      exact last _ (by rw [if_neg q0, hgetD]; exact (p3 (by omega)).symm)
  · refine ⟨by omega, Fr_refl M, fun j _ => rfl, fun j j0 j1 => ?_⟩
    rw [hf j j0 j1]
    by_cases q : j = 640
    · rw [if_pos q, if_pos q]
    · rw [if_neg q, if_neg q, cpN_0 q]
