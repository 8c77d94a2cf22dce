def fTb (o : Nat) : Nat → Prop := fun k => k = 64 * o + 2 ∨ k = 64 * o + 3
theorem ap_1 {r : Rec} {e : List Int} (h : gi e 0 / 16 = 1) : ap r e = updR r (gi e 1) (some (e.drop 2)) := by unfold ap; rw [if_pos h]
theorem ap_2 {r : Rec} {e : List Int} (h : gi e 0 / 16 = 2) : ap r e = updR r (gi e 1) none := by unfold ap; rw [if_neg (by omega), if_pos h]
theorem ap_3 {r : Rec} {e v : List Int} (h : gi e 0 / 16 = 3) (hv : r (gi e 1) = some v) : ap r e = updR r (gi e 1) (some (v.set (gi e 0 % 16).toNat (gi e 2))) := by unfold ap; rw [if_neg (by omega), if_neg (by omega), if_pos h, hv]
theorem ap_4 {r : Rec} {e v : List Int} (h : gi e 0 / 16 = 4) (hv : r (gi e 1) = some v) : ap r e = updR r (gi e 1) (some (v ++ e.drop 2)) := by unfold ap; rw [if_neg (by omega), if_neg (by omega), if_neg (by omega), hv]
theorem P_X8_apply {o src : Nat} {a : Int} {e : List Int} {r : Rec} {Q : zMem → Prop} {M : zMem} (hT : tabC o M r) (hR : RecOK r) (hA : AL (M.2 src) a e) (ha : 0 ≤ a ∧ a + e.length ≤ alen src ∧ alen src ≤ 30000) (he : eOK e) (hc : can r e) (hs : ¬ fTb o src) (hQ : ∀ M', Fr (fTb o) M M' → tabC o M' (ap r e) → Q M') : T_X8_apply o src a Q M := by
  have hcs := eOK_cases he
  have hk := allB_gi he.2.2 1
  have hh := allB_gi he.2.2 0
  have he2 := he.2.1
  have h0 : M.2 src a = gi e 0 := by have := hA 0 (by omega) (by omega); rwa [Int.add_zero] at this
  have h1 : M.2 src (a + 1) = gi e 1 := hA 1 (by omega) (by omega)
  have hz : zand (gi e 1) 255 = gi e 1 := by rw [zand_255]; omega
  have hd : AL (M.2 src) (a + 2) (e.drop 2) := AL_drop hA 2 (by omega)
  unfold T_X8_apply
  rw [h0, h1, hz]
  refine ⟨⟨by omega, by omega⟩, ?_⟩
  apply P_X2_kindOf (inR_mk (by omega) (by omega))
  refine ⟨⟨by omega, by omega⟩, ?_⟩
  apply P_X2_numberOf
  refine ⟨inR_mk (by omega) (by omega), ⟨by omega, by omega⟩, inR_mk (by omega) (by omega), fun n1 => ⟨fun n2 => ⟨fun n3 => ?_, fun n3 => ?_⟩, fun n2 => ⟨⟨by omega, by omega⟩, fun M1 hM1 => ?_⟩⟩, fun n1 => ⟨inR_mk (by omega) (by omega), ⟨⟨by omega, by omega, by omega⟩, by omega, by omega, by omega, by omega⟩, fun M1 hM1 => ⟨⟨by omega, by omega⟩, fun M2 hM2 => ?_⟩⟩⟩
  · have hc := (hc.resolve_left n1).resolve_left (fun h => n2 h.1)
    obtain ⟨v, hv, hc⟩ := hc
    have hc := hc.resolve_left (fun h => n3 h.1)
    have hv2 := (hT _ hk.1 hk.2).2 v hv
    have hv8 := (hR _ v hv).2.1
    unfold T_X8_apply_116
    refine ⟨fun n4 => absurd hc.1 n4, fun n4 => ⟨⟨by omega, by omega⟩, ?_⟩⟩
    rw [hv2.1]
    refine ⟨fun q => by omega, fun q => ⟨⟨by omega, by omega⟩, inR_mk (by omega) (by omega), fun q2 => by omega, fun q2 => ⟨inR_mk (by omega) (by omega), ⟨by omega, by omega⟩, inR_mk (by omega) (by omega), ⟨⟨by omega, by omega, by omega⟩, by omega, by omega, by omega, by omega⟩, fun M4 hM4 => ?_⟩⟩⟩
    have e2 : M4.2 (64 * o + 2) = M.2 (64 * o + 2) := by rw [hM4, putA_2, if_neg (by omega)]
    rw [e2, hv2.1]
    refine ⟨⟨by omega, by omega⟩, inR_mk (by omega) (by omega), ⟨by omega, by omega⟩, fun M5 hM5 => hQ M5 (Fr_trans (M' := M4) (by rw [hM4]; exact Fr_putA (Or.inr rfl)) (by rw [hM5]; exact Fr_setA (Or.inl rfl))) ?_⟩
    rw [ap_4 hc.1 hv]
    refine Tab_upd hT hR hk (fun j j0 j1 => ?_) ?_ (fun j j0 j1 j2 => ?_)
    · rw [hM5, setA_2, if_pos rfl, e2]
      by_cases q3 : j = gi e 1
      · rw [q3, upI_same, if_pos rfl, List.length_append, List.length_drop]; omega
      · rw [upI_ne q3, if_neg q3]
    · rw [hM5, setA_2, if_neg (by omega), hM4, putA_2, if_pos rfl, AL_app]
      refine ⟨AL_congr hv2.2 (fun j j0 j1 => ?_), fun j j0 j1 => ?_⟩
      · unfold cpA; rw [if_neg (by omega)]
      · rw [List.length_drop] at j1
        unfold cpA
        rw [if_pos (by omega)]
        exact (congrArg (M.2 src) (by omega)).trans (hd j j0 (by rw [List.length_drop]; omega))
    · rw [hM5, setA_2, if_neg (by omega), hM4, putA_2, if_pos rfl]
      unfold cpA
      rw [if_neg (by omega)]
  · have hc := (hc.resolve_left n1).resolve_left (fun h => n2 h.1)
    obtain ⟨v, hv, hc⟩ := hc
    have hc := hc.resolve_right (fun h => by omega)
    have hv2 := (hT _ hk.1 hk.2).2 v hv
    have hv8 := (hR _ v hv).2.1
    have h2 : M.2 src (a + 2) = gi e 2 := hA 2 (by omega) (by omega)
    rw [hv2.1, h2]
    refine ⟨⟨by omega, by omega⟩, fun q => by omega, fun q => ⟨inR_mk (by omega) (by omega), inR_mk (by omega) (by omega), ⟨by omega, by omega⟩, ⟨by omega, by omega⟩, fun M1 hM1 => hQ M1 (by rw [hM1]; exact Fr_setA (Or.inr rfl)) ?_⟩⟩
    rw [ap_3 n3 hv]
    refine Tab_upd hT hR hk (fun j j0 j1 => ?_) (fun j j0 j1 => ?_) (fun j j0 j1 j2 => ?_)
    · rw [hM1, setA_2, if_neg (by omega)]
      by_cases q3 : j = gi e 1
      · rw [if_pos q3, q3, hv2.1, List.length_set]
      · rw [if_neg q3]
    · rw [List.length_set] at j1
      rw [hM1, setA_2, if_pos rfl, set_gi (by omega) j0]
      by_cases q3 : j = gi e 0 % 16
      · rw [if_pos (by omega), q3]
        have e9 : 8 * gi e 1 + gi e 0 % 16 = gi e 1 * 8 + gi e 0 % 16 := by omega
        rw [e9, upI_same]
      · rw [if_neg (by omega), upI_ne (by omega)]
        exact hv2.2 j j0 j1
    · rw [hM1, setA_2, if_pos rfl, upI_ne (by omega)]
  · refine hQ M1 (by rw [hM1]; exact Fr_setA (Or.inl rfl)) ?_
    rw [ap_2 n2]
    have e3 : M1.2 (64 * o + 3) = M.2 (64 * o + 3) := by rw [hM1, setA_2, if_neg (by omega)]
    unfold tabC
    rw [e3]
    refine Tab_del hT (fun j j0 j1 => ?_)
    rw [hM1, setA_2, if_pos rfl]
    by_cases q3 : j = gi e 1
    · rw [q3, upI_same, if_pos rfl]
    · rw [upI_ne q3, if_neg q3]
  · refine hQ M2 (Fr_trans (M' := M1) (by rw [hM1]; exact Fr_putA (Or.inr rfl)) (by rw [hM2]; exact Fr_setA (Or.inl rfl))) ?_
    rw [ap_1 n1]
    refine Tab_upd hT hR hk (fun j j0 j1 => ?_) (fun j j0 j1 => ?_) (fun j j0 j1 j2 => ?_)
    · rw [hM2, setA_2, if_pos rfl, hM1, putA_2, if_neg (by omega)]
      by_cases q3 : j = gi e 1
      · rw [q3, upI_same, if_pos rfl, List.length_drop]; omega
      · rw [upI_ne q3, if_neg q3]
    · rw [List.length_drop] at j1
      rw [hM2, setA_2, if_neg (by omega), hM1, putA_2, if_pos rfl]
      unfold cpA
      rw [if_pos (by omega)]
      exact (congrArg (M.2 src) (by omega)).trans (hd j j0 (by rw [List.length_drop]; omega))
    · rw [hM2, setA_2, if_neg (by omega), hM1, putA_2, if_pos rfl]
      unfold cpA
      rw [if_neg (by omega)]
theorem P_X8_holdsBytes {o src : Nat} {key a : Int} {w v : List Int} {r : Rec} {Q : Int → Prop} {M : zMem} (hT : tabC o M r) (hR : RecOK r) (hv : r key = some v) (hA : AL (M.2 src) a w) (hl : v.length = w.length) (ha : 0 ≤ a ∧ a + w.length ≤ alen src ∧ alen src ≤ 30000) (hQ1 : v = w → Q 1) (hQ0 : v ≠ w → Q 0) : T_X8_holdsBytes o key src a Q M := by
  have hk := (hR key v hv).1
  have hv8 := (hR key v hv).2.1
  have hv2 := (hT key hk.1 hk.2).2 v hv
  unfold T_X8_holdsBytes T_X8_holdsBytes_3
  rw [hv2.1]
  refine zp1_rule (fun i => (0 ≤ i ∧ i ≤ v.length) ∧ ∀ j, 0 ≤ j → j < i → gi v j = gi w j) (fun i => (v.length - i).toNat) ?_ _ ⟨⟨by omega, by omega⟩, fun j h0 h1 => by omega⟩
  intro X i hI ih
  obtain ⟨h1, h2⟩ := hI
  refine ⟨⟨by omega, by omega⟩, fun hi => hQ1 (gi_ext hl (fun j j0 j1 => h2 j j0 (by omega))), fun hi => ⟨inR_mk (by omega) (by omega), inR_mk (by omega) (by omega), ⟨by omega, by omega⟩, inR_mk (by omega) (by omega), ⟨by omega, by omega⟩, ?_⟩⟩
  have e : key * 8 + i = 8 * key + i := by omega
  rw [e, hv2.2 i (by omega) (by omega), hA i (by omega) (by omega)]
  refine ⟨fun q => ⟨inR_mk (by omega) (by omega), ih _ ⟨⟨by omega, by omega⟩, fun j j0 j1 => ?_⟩ (by omega)⟩, fun q => hQ0 (fun h => q (by rw [h]))⟩
  by_cases q3 : j = i
  · rw [q3]; exact q
  · exact h2 j j0 (by omega)
theorem P_X8_refusalOf {o src : Nat} {a : Int} {e : List Int} {r : Rec} {Q : Int → Prop} {M : zMem} (hT : tabC o M r) (hR : RecOK r) (hA : AL (M.2 src) a e) (ha : 0 ≤ a ∧ a + e.length ≤ alen src ∧ alen src ≤ 30000) (he : eOK e) (hQ : Q (rf r e)) : T_X8_refusalOf o src a Q M := by
  have hcs := eOK_cases he
  have hk := allB_gi he.2.2 1
  have hh := allB_gi he.2.2 0
  have he2 := he.2.1
  have h0 : M.2 src a = gi e 0 := by have := hA 0 (by omega) (by omega); rwa [Int.add_zero] at this
  have h1 : M.2 src (a + 1) = gi e 1 := hA 1 (by omega) (by omega)
  have hz : zand (gi e 1) 255 = gi e 1 := by rw [zand_255]; omega
  have hd : AL (M.2 src) (a + 2) (e.drop 2) := AL_drop hA 2 (by omega)
  unfold T_X8_refusalOf
  rw [h0, h1, hz]
  refine ⟨⟨by omega, by omega⟩, ?_⟩
  apply P_X2_kindOf (inR_mk (by omega) (by omega))
  refine ⟨⟨by omega, by omega⟩, ?_⟩
  apply P_X2_numberOf
  refine ⟨inR_mk (by omega) (by omega), ⟨by omega, by omega⟩, ⟨by omega, by omega⟩, fun s hs => ⟨fun n1 => ⟨fun n2 => ?_, fun n2 => ?_⟩, fun n1 => ⟨fun n2 => ?_, fun n2 => ⟨inR_mk (by omega) (by omega), ?_⟩⟩⟩⟩
  · obtain ⟨v, hv, hs2, hA2⟩ := Tab_some hT hk.1 hk.2 (by rw [← hs]; exact n2)
    have hv8 := (hR _ v hv).2.1
    unfold rf at hQ
    rw [if_neg n1, hv] at hQ
    dsimp only at hQ
    refine ⟨fun n3 => ⟨fun n4 => ?_, fun n4 => ⟨inR_mk (by omega) (by omega), fun n5 => ?_, fun n5 => ?_⟩⟩, fun n3 => ⟨fun n4 => ?_, fun n4 => ⟨inR_mk (by omega) (by omega), inR_mk (by omega) (by omega), ⟨by omega, by omega⟩, inR_mk (by omega) (by omega), ⟨by omega, by omega⟩, ?_⟩⟩⟩
    · rw [if_neg n3, if_neg n4] at hQ; exact hQ
    · rw [if_neg n3, if_pos n4, if_neg (by omega)] at hQ; exact hQ
    · rw [if_neg n3, if_pos n4, if_pos (by omega)] at hQ; exact hQ
    · rw [if_pos n3, if_pos (Or.inl (by omega))] at hQ; exact hQ
    · have e9 : gi e 1 * 8 + gi e 0 % 16 = 8 * gi e 1 + gi e 0 % 16 := by omega
      rw [e9, hA2 (gi e 0 % 16) (by omega) (by omega), hA 2 (by omega) (by omega)]
      refine ⟨fun q => ?_, fun q => ?_⟩
      · rw [if_pos n3, if_neg (fun h => by rcases h with h | h; omega; exact q h)] at hQ; exact hQ
      · rw [if_pos n3, if_pos (Or.inr q)] at hQ; exact hQ
  · unfold rf at hQ
    rw [if_neg n1, (Tab_iff hT hk.1 hk.2).mp (by rw [← hs]; exact n2)] at hQ
    exact hQ
  · unfold rf at hQ
    rw [if_pos n1, if_neg (fun h => n2 (by rw [hs, ((hT _ hk.1 hk.2).2 _ h).1, List.length_drop]; omega))] at hQ
    exact hQ
  · obtain ⟨v, hv, hs2, hA2⟩ := Tab_some hT hk.1 hk.2 (by rw [← hs]; omega)
    unfold rf at hQ
    rw [if_pos n1, hv] at hQ
    apply P_X8_holdsBytes hT hR hv hd (by rw [List.length_drop]; omega) ⟨by omega, by rw [List.length_drop]; omega, by omega⟩
    · intro hvw
      rw [if_pos (by rw [hvw])] at hQ
      exact ⟨fun h => by omega, fun _ => hQ⟩
    · intro hvw
      rw [if_neg (fun h => hvw (Option.some.inj h))] at hQ
      exact ⟨fun _ => hQ, fun h => absurd rfl h⟩
