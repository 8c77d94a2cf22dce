-- the reference's table of records: lengths 596, bytes 597
abbrev tabR (M : zMem) (r : Rec) : Prop := Tab (M.2 596) (M.2 597) r
theorem P_X10_clears {Q : zMem → Prop} {M : zMem} (hQ : ∀ M', Fr (fun k => k = 596) M M' → tabR M' (fun _ => none) → Q M') : T_X10_clears Q M := by
  unfold T_X10_clears T_X10_clears_2
  refine zl1_rule (fun i M1 => (0 ≤ i ∧ i ≤ 256) ∧ Fr (fun k => k = 596) M M1 ∧ ∀ j, 0 ≤ j → j < i → M1.2 596 j = -1) (fun i M1 => (256 - i).toNat) ?_ 0 M ⟨⟨by omega, by omega⟩, Fr_refl M, fun j h0 h1 => by omega⟩
  intro X i M1 hI ih
  obtain ⟨h1, h2, h3⟩ := hI
  refine ⟨fun hi => hQ M1 h2 (fun j j0 j1 => ⟨fun _ => h3 j j0 (by omega), fun v hv => by cases hv⟩), fun hi => ⟨⟨by omega, by omega⟩, fun M2 hM2 => ⟨inR_mk (by omega) (by omega), ih _ _ ⟨⟨by omega, by omega⟩, Fr_trans h2 (by rw [hM2]; exact Fr_setA rfl), fun j j0 j1 => ?_⟩ (by omega)⟩⟩⟩
  rw [hM2, setA_2, if_pos rfl]
  by_cases q : j = i
  · rw [q, upI_same]
  · rw [upI_ne q]; exact h3 j j0 (by omega)
theorem P_X10_recordMany {r : Rec} {Q : Int → Prop} {M : zMem} (hT : tabR M r) (hQ : Q (rI r 0 256).length) : T_X10_recordMany Q M := by
  unfold T_X10_recordMany T_X10_recordMany_4
  refine zp2_rule (fun c i => (0 ≤ i ∧ i ≤ 256) ∧ c = (rI r 0 i).length) (fun c i => (256 - i).toNat) ?_ _ _ ⟨⟨by omega, by omega⟩, by rw [rI_nil r (by omega)]; rfl⟩
  intro X c i hI ih
  obtain ⟨h1, h2⟩ := hI
  have hl := rI_len r (low := 0) (high := i) (by omega)
  refine ⟨fun hi => ?_, fun hi => ⟨⟨by omega, by omega⟩, fun hn => ?_, fun hn => ?_⟩⟩
  · have e : i = 256 := by omega
    rw [h2, e]; exact hQ
  · unfold T_X10_recordMany_24
    refine ⟨inR_mk (by omega) (by omega), ih _ _ ⟨⟨by omega, by omega⟩, ?_⟩ (by omega)⟩
    rw [rI_snoc r (by omega), one_none ((Tab_iff hT (by omega) (by omega)).mp hn), List.append_nil]; exact h2
  · unfold T_X10_recordMany_24
    obtain ⟨v, hv, -, -⟩ := Tab_some hT (by omega) (by omega) hn
    refine ⟨inR_mk (by omega) (by omega), inR_mk (by omega) (by omega), ih _ _ ⟨⟨by omega, by omega⟩, ?_⟩ (by omega)⟩
    rw [rI_snoc r (by omega), one_some hv, List.length_append, h2]; simp
theorem P_X10_keysFrom {low high : Int} {r : Rec} {Q : Int → Prop} {M : zMem} (hT : tabR M r) (h : 0 ≤ low ∧ low ≤ high + 1 ∧ high ≤ 255) (hQ : Q (rI r low (high + 1)).length) : T_X10_keysFrom low high Q M := by
  unfold T_X10_keysFrom T_X10_keysFrom_5
  refine zp2_rule (fun c i => (low ≤ i ∧ i ≤ high + 1) ∧ c = (rI r low i).length) (fun c i => (high + 1 - i).toNat) ?_ _ _ ⟨⟨by omega, by omega⟩, by rw [rI_nil r (by omega)]; rfl⟩
  intro X c i hI ih
  obtain ⟨h1, h2⟩ := hI
  have hl := rI_len r (low := low) (high := i) (by omega)
  unfold T_X10_keysFrom_28
  refine ⟨fun hi => ?_, fun hi => ⟨⟨by omega, by omega⟩, fun hn => ?_, fun hn => ?_⟩⟩
  · have e : i = high + 1 := by omega
    rw [h2, e]; exact hQ
  · obtain ⟨v, hv, -, -⟩ := Tab_some hT (by omega) (by omega) hn
    refine ⟨inR_mk (by omega) (by omega), inR_mk (by omega) (by omega), ih _ _ ⟨⟨by omega, by omega⟩, ?_⟩ (by omega)⟩
    rw [rI_snoc r (by omega), one_some hv, List.length_append, h2]; simp
  · refine ⟨inR_mk (by omega) (by omega), inR_mk (by omega) (by omega), ih _ _ ⟨⟨by omega, by omega⟩, ?_⟩ (by omega)⟩
    rw [rI_snoc r (by omega), one_none ((Tab_iff hT (by omega) (by omega)).mp hn), List.append_nil]; omega
theorem P_X10_plainOf {low high : Int} {r : Rec} {Q : Int → Prop} {M : zMem} (hT : tabR M r) (hR : RecOK r) (h : 0 ≤ low ∧ low ≤ high + 1 ∧ high ≤ 255) (hQ : Q (plain (rI r low (high + 1))).length) : T_X10_plainOf low high Q M := by
  unfold T_X10_plainOf T_X10_plainOf_5
  refine zp2_rule (fun c i => (low ≤ i ∧ i ≤ high + 1) ∧ c = (plain (rI r low i)).length) (fun c i => (high + 1 - i).toNat) ?_ _ _ ⟨⟨by omega, by omega⟩, by rw [rI_nil r (by omega)]; rfl⟩
  intro X c i hI ih
  obtain ⟨h1, h2⟩ := hI
  have hl := plain_len_le hR low (i - low).toNat
  have hl2 : (plain (rI r low i)).length ≤ 10 * (i - low).toNat := hl
  refine ⟨fun hi => ?_, fun hi => ⟨⟨by omega, by omega⟩, fun hn => ?_, fun hn => ?_⟩⟩
  · have e : i = high + 1 := by omega
    rw [h2, e]; exact hQ
  · unfold T_X10_plainOf_34
    refine ⟨inR_mk (by omega) (by omega), ih _ _ ⟨⟨by omega, by omega⟩, ?_⟩ (by omega)⟩
    rw [rI_snoc r (by omega), one_none ((Tab_iff hT (by omega) (by omega)).mp hn), List.append_nil]; exact h2
  · unfold T_X10_plainOf_34
    obtain ⟨v, hv, hs, -⟩ := Tab_some hT (by omega) (by omega) hn
    have hv8 := (hR _ v hv).2.1
    rw [hs]
    refine ⟨⟨by omega, by omega⟩, inR_mk (by omega) (by omega), inR_mk (by omega) (by omega), inR_mk (by omega) (by omega), ih _ _ ⟨⟨by omega, by omega⟩, ?_⟩ (by omega)⟩
    rw [rI_snoc r (by omega), one_some hv, plain_app, plain_one, List.length_append, pl1_len, h2]
    dsimp only
    omega
theorem P_X10_lowestKey {low high : Int} {r : Rec} {Q : Int → Prop} {M : zMem} (hT : tabR M r) (h : 0 ≤ low ∧ low ≤ high ∧ high ≤ 256) (hQ : ∀ k, (low ≤ k ∧ k ≤ high) → rI r low k = [] → (k < high → r k ≠ none) → Q k) : T_X10_lowestKey low high Q M := by
  unfold T_X10_lowestKey T_X10_lowestKey_2
  refine zp1_rule (fun i => (low ≤ i ∧ i ≤ high) ∧ rI r low i = []) (fun i => (high - i).toNat) ?_ _ ⟨⟨by omega, by omega⟩, rI_nil r (by omega)⟩
  intro X i hI ih
  obtain ⟨h1, h2⟩ := hI
  refine ⟨fun hi => hQ i h1 h2 (fun q => by omega), fun hi => ⟨⟨by omega, by omega⟩, fun hn => hQ i h1 h2 (fun _ e => hn ((Tab_iff hT (by omega) (by omega)).mpr e)), fun hn => ⟨inR_mk (by omega) (by omega), ih _ ⟨⟨by omega, by omega⟩, ?_⟩ (by omega)⟩⟩⟩
  rw [rI_snoc r (by omega), one_none ((Tab_iff hT (by omega) (by omega)).mp hn), h2]; rfl
theorem P_X10_middleOf {low high : Int} {r : Rec} {Q : Int → Prop} {M : zMem} (hT : tabR M r) (h : 0 ≤ low ∧ low ≤ high + 1 ∧ high ≤ 255) (hQ : ∀ c, (low ≤ c ∧ c ≤ high + 1) → rI r low c = (rI r low (high + 1)).take ((rI r low (high + 1)).length / 2) → rI r c (high + 1) = (rI r low (high + 1)).drop ((rI r low (high + 1)).length / 2) → Q c) : T_X10_middleOf low high Q M := by
  unfold T_X10_middleOf
  apply P_X10_keysFrom hT h
  rw [tdiv_pos (by omega)]
  unfold T_X10_middleOf_15
  have hl := rI_len r (low := low) (high := high + 1) (by omega)
  refine zp2_rule (fun i c => (low ≤ i ∧ i ≤ high + 1) ∧ c = (rI r low i).length ∧ c ≤ (rI r low (high + 1)).length / 2) (fun i c => (high + 1 - i).toNat) ?_ _ _ ⟨⟨by omega, by omega⟩, by rw [rI_nil r (by omega)]; rfl, by omega⟩
  intro X i c hI ih
  obtain ⟨g1, g2, g3⟩ := hI
  have hsp := rI_split r (low := low) (mid := i) (high := high + 1) (by omega) (by omega)
  have hlen : (rI r low (high + 1)).length = (rI r low i).length + (rI r i (high + 1)).length := by rw [hsp, List.length_append]
  have hlast : ¬ ((rI r low (high + 1)).length / 2 : Int) ≤ c → i < high + 1 := by
    intro hc
    by_cases q : i = high + 1
    · rw [q] at g2; omega
    · omega
  unfold T_X10_middleOf_39
  refine ⟨fun hc => ?_, fun hc => ⟨⟨by omega, by have := hlast hc; omega⟩, fun hn => ?_, fun hn => ?_⟩⟩
  · have e : (rI r low (high + 1)).length / 2 = (rI r low i).length := by omega
    refine hQ i ⟨by omega, by omega⟩ ?_ ?_
    · rw [e, hsp, List.take_left]
    · rw [e, hsp, List.drop_left]
  · have hi := hlast hc
    obtain ⟨v, hv, -, -⟩ := Tab_some hT (by omega) (by omega) hn
    refine ⟨inR_mk (by omega) (by omega), inR_mk (by omega) (by omega), ih _ _ ⟨⟨by omega, by omega⟩, ?_, by omega⟩ (by omega)⟩
    rw [rI_snoc r (by omega), one_some hv, List.length_append, g2]; simp
  · have hi := hlast hc
    refine ⟨inR_mk (by omega) (by omega), inR_mk (by omega) (by omega), ih _ _ ⟨⟨by omega, by omega⟩, ?_, by omega⟩ (by omega)⟩
    rw [rI_snoc r (by omega), one_none ((Tab_iff hT (by omega) (by omega)).mp hn), List.append_nil]; omega
theorem P_X10_laysPlain {low high : Int} {r : Rec} {Q : zMem → Prop} {M : zMem} (hT : tabR M r) (hR : RecOK r) (h : 0 ≤ low ∧ low ≤ high + 1 ∧ high ≤ 255) (hQ : ∀ M', Fr (fun k => k = 590 ∨ k = 591) M M' → AL (M'.2 590) 0 (plain (rI r low (high + 1))) → M'.1 591 = (plain (rI r low (high + 1))).length → Q M') : T_X10_laysPlain low high Q M := by
  unfold T_X10_laysPlain
  intro M0 hM0
  unfold T_X10_laysPlain_7
  refine zl1_rule (fun i M1 => (low ≤ i ∧ i ≤ high + 1) ∧ Fr (fun k => k = 590 ∨ k = 591) M M1 ∧ AL (M1.2 590) 0 (plain (rI r low i)) ∧ M1.1 591 = (plain (rI r low i)).length) (fun i M1 => (high + 1 - i).toNat) ?_ _ M0 ⟨⟨by omega, by omega⟩, by rw [hM0]; exact Fr_setS (Or.inr rfl), by rw [rI_nil r (by omega)]; exact AL_nil _ _, by rw [rI_nil r (by omega), hM0, setS_1, if_pos rfl]; rfl⟩
  intro X i M1 hI ih
  obtain ⟨h1, h2, h3, h5⟩ := hI
  have e2 : M1.2 596 = M.2 596 := h2.2 596 (by decide)
  have hl := plain_len_le hR low (i - low).toNat
  have hl2 : (plain (rI r low i)).length ≤ 10 * (i - low).toNat := hl
  refine ⟨fun hi => ?_, fun hi => ⟨⟨by omega, by omega⟩, fun hn => ?_, fun hn => ?_⟩⟩
  · have e : i = high + 1 := by omega
    rw [e] at h3 h5
    exact hQ M1 h2 h3 h5
  · rw [e2] at hn
    obtain ⟨v, hv, hs, hA⟩ := Tab_some hT (by omega) (by omega) hn
    have hv8 := (hR _ v hv).2.1
    apply P_X10_comesOut h3 h5 (by omega)
    intro M2 hF2 hA2 hl2'
    have e22 : M2.2 596 i = v.length := by rw [hF2.2 596 (by decide), e2]; exact hs
    rw [e22]
    refine ⟨⟨by omega, by omega⟩, ?_⟩
    apply P_X10_comesOut hA2 hl2' (by rw [List.length_append]; simp only [List.length_cons, List.length_nil]; omega)
    intro M3 hF3 hA3 hl3
    unfold T_X10_laysPlain_43
    refine zl1_rule (fun j M4 => (0 ≤ j ∧ j ≤ v.length) ∧ Fr (fun k => k = 590 ∨ k = 591) M M4 ∧ AL (M4.2 590) 0 (plain (rI r low i) ++ [i] ++ [(v.length : Int)] ++ v.take j.toNat) ∧ M4.1 591 = (plain (rI r low i) ++ [i] ++ [(v.length : Int)] ++ v.take j.toNat).length) (fun j M4 => (v.length - j).toNat) ?_ 0 M3 ⟨⟨by omega, by omega⟩, Fr_trans h2 (Fr_trans hF2 hF3), by simpa using hA3, by simpa using hl3⟩
    intro Y j M4 hI4 ih4
    obtain ⟨i1, i2, i3, i4⟩ := hI4
    have e42 : M4.2 596 i = v.length := by rw [i2.2 596 (by decide)]; exact hs
    have e43 : M4.2 597 = M.2 597 := i2.2 597 (by decide)
    rw [e42, e43]
    refine ⟨⟨by omega, by omega⟩, fun hj => ?_, fun hj => ⟨inR_mk (by omega) (by omega), inR_mk (by omega) (by omega), ⟨by omega, by omega⟩, ?_⟩⟩
    · unfold T_X10_laysPlain_76
      rw [List.take_of_length_le (by omega)] at i3 i4
      have e9 : plain (rI r low (i + 1)) = plain (rI r low i) ++ [i] ++ [(v.length : Int)] ++ v := by
        rw [rI_snoc r (by omega), one_some hv, plain_app, plain_one]; simp [pl1]
      exact ⟨inR_mk (by omega) (by omega), ih _ _ ⟨⟨by omega, by omega⟩, i2, by rw [e9]; exact i3, by rw [e9]; exact i4⟩ (by omega)⟩
    · rw [hA j (by omega) (by omega)]
      apply P_X10_comesOut i3 i4 (by rw [List.length_append, List.length_append, List.length_append, List.length_take]; simp only [List.length_cons, List.length_nil]; omega)
      intro M5 hF5 hA5 hl5
      have et : v.take (j + 1).toNat = v.take j.toNat ++ [gi v j] := by
        have e1 : (j + 1).toNat = j.toNat + 1 := by omega
        rw [e1, List.take_add_one]
        congr 1
        unfold gi
        rw [List.getD_eq_getElem?_getD, List.getElem?_eq_getElem (by omega)]
        rfl
      have e9 : plain (rI r low i) ++ [i] ++ [(v.length : Int)] ++ v.take (j + 1).toNat = plain (rI r low i) ++ [i] ++ [(v.length : Int)] ++ v.take j.toNat ++ [gi v j] := by rw [et, ← List.append_assoc]
      exact ⟨inR_mk (by omega) (by omega), ih4 _ _ ⟨⟨by omega, by omega⟩, Fr_trans i2 hF5, by rw [e9]; exact hA5, by rw [e9]; exact hl5⟩ (by omega)⟩
  · unfold T_X10_laysPlain_76
    rw [e2] at hn
    have e : rI r low (i + 1) = rI r low i := by rw [rI_snoc r (by omega), one_none ((Tab_iff hT (by omega) (by omega)).mp hn), List.append_nil]
    exact ⟨inR_mk (by omega) (by omega), ih _ _ ⟨⟨by omega, by omega⟩, h2, by rw [e]; exact h3, by rw [e]; exact h5⟩ (by omega)⟩
