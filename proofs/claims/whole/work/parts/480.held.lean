-- pages that are held
def HC (M : zMem) (h : List Int) : Prop := M.1 448 = h.length ∧ AL (M.2 450) 0 h
def HR (M : zMem) (h : List Int) : Prop := M.1 612 = h.length ∧ AL (M.2 611) 0 h
theorem gi_erase {h : List Int} {k : Nat} {j : Int} (j0 : 0 ≤ j) : gi (h.eraseIdx k) j = if j < k then gi h j else gi h (j + 1) := by
  unfold gi
  rw [List.getD_eq_getElem?_getD, List.getElem?_eraseIdx]
  by_cases q : j < k
  · rw [if_pos q, if_pos (by omega), List.getD_eq_getElem?_getD]
  · rw [if_neg q, if_neg (by omega), List.getD_eq_getElem?_getD]
    congr 2
    omega
theorem erase_len {h : List Int} {k : Nat} (hk : k < h.length) : ((h.eraseIdx k).length : Int) = h.length - 1 := by
  rw [List.length_eraseIdx, if_pos hk]; omega
theorem AL_gi {a : Int → Int} {h : List Int} (hA : AL a 0 h) {j : Int} (j0 : 0 ≤ j) (j1 : j < h.length) : a j = gi h j := by
  have := hA j j0 j1
  rw [Int.zero_add] at this
  exact this
theorem gi_get {h : List Int} {j : Nat} (hj : j < h.length) : h[j]? = some (gi h j) := by
  unfold gi
  rw [Int.toNat_natCast, List.getD_eq_getElem?_getD, List.getElem?_eq_getElem hj]
  rfl
def fHC : Nat → Prop := fun k => 448 ≤ k ∧ k ≤ 450
def fHR : Nat → Prop := fun k => 611 ≤ k ∧ k ≤ 613
theorem P_X3_giveUp {k : Int} {h : List Int} {Q : zMem → Prop} {M : zMem} (hH : HC M h) (hk : 0 ≤ k ∧ k < h.length) (hl : h.length ≤ 4) (hQ : ∀ M', Fr (fun k => k = 448 ∨ k = 450) M M' → HC M' (h.eraseIdx k.toNat) → Q M') : T_X3_giveUp k Q M := by
  obtain ⟨h1, h2⟩ := hH
  unfold T_X3_giveUp
  rw [h1]
  refine ⟨fun q => by omega, fun _ => ⟨fun q => by omega, fun _ => ⟨inR_mk (by omega) (by omega), inR_mk (by omega) (by omega), inR_mk (by omega) (by omega), ⟨⟨by omega, by omega, by omega⟩, by omega, by omega, by omega, by omega⟩, fun M3 hM3 => ?_⟩⟩⟩
  have e3 : M3.1 448 = h.length := by rw [hM3]; exact h1
  rw [e3]
  refine ⟨inR_mk (by omega) (by omega), fun M4 hM4 => hQ M4 ?_ ⟨?_, ?_⟩⟩
  · rw [hM4, hM3]; exact Fr_trans (Fr_putA (Or.inr rfl)) (Fr_setS (Or.inl rfl))
  · rw [hM4, erase_len (by omega)]; rfl
  · have e4 : M4.2 450 = cpA (M.2 450) (M.2 450) (k + 1) k (h.length - 1 - k) := by rw [hM4, hM3]; rfl
    rw [e4]
    intro j j0 j1
    rw [erase_len (by omega)] at j1
    rw [gi_erase j0, Int.zero_add]
    unfold cpA
    have ek : ((k.toNat : Nat) : Int) = k := by omega
    rw [ek]
    by_cases q : j < k
    · rw [if_pos q, if_neg (by omega)]; exact AL_gi h2 j0 (by omega)
    · rw [if_neg q, if_pos (by omega)]
      have : k + 1 + (j - k) = j + 1 := by omega
      rw [this]
      exact AL_gi h2 (by omega) (by omega)
theorem P_X10_lets {k : Int} {h : List Int} {Q : zMem → Prop} {M : zMem} (hH : HR M h) (hk : 0 ≤ k ∧ k < h.length) (hl : h.length ≤ 4) (hQ : ∀ M', Fr (fun k => k = 611 ∨ k = 612) M M' → HR M' (h.eraseIdx k.toNat) → Q M') : T_X10_lets k Q M := by
  obtain ⟨h1, h2⟩ := hH
  unfold T_X10_lets
  rw [h1]
  refine ⟨inR_mk (by omega) (by omega), fun M3 hM3 => ?_⟩
  have F3 : Fr (fun k => k = 611 ∨ k = 612) M M3 := by rw [hM3]; exact Fr_setS (Or.inr rfl)
  unfold T_X10_lets_12
  apply zl1_rule (fun v2 M1 => (k ≤ v2 ∧ v2 ≤ h.length - 1) ∧ Fr (fun k => k = 611 ∨ k = 612) M M1 ∧ M1.1 612 = h.length - 1 ∧ ∀ j : Int, 0 ≤ j → j < h.length → M1.2 611 j = if k ≤ j ∧ j < v2 then gi h (j + 1) else gi h j) (fun v2 _ => ((h.length : Int) - v2).toNat)
  · intro X v2 M1 ⟨k1, k2, k3, k4⟩ hX
    rw [k3]
    refine ⟨fun q => ?_, fun q => ⟨inR_mk (by omega) (by omega), ⟨by omega, by omega⟩, ⟨by omega, by omega⟩, fun M2 hM2 => ⟨inR_mk (by omega) (by omega), hX _ _ ⟨by omega, ?_, ?_, ?_⟩ (by omega)⟩⟩⟩
    · refine hQ M1 k2 ⟨by rw [erase_len (by omega)]; exact k3, fun j j0 j1 => ?_⟩
      rw [erase_len (by omega)] at j1
      rw [gi_erase j0, Int.zero_add, k4 j j0 (by omega)]
      have ek : ((k.toNat : Nat) : Int) = k := by omega
      rw [ek]
      by_cases q2 : j < k
      · rw [if_pos q2, if_neg (by omega)]
      · rw [if_neg q2, if_pos (by omega)]
    · rw [hM2]; exact Fr_trans k2 (Fr_setA (Or.inl rfl))
    · rw [hM2]; exact k3
    · intro j j0 j1
      have e2 : M2.2 611 = upI (M1.2 611) v2 (M1.2 611 (v2 + 1)) := by rw [hM2]; rfl
      rw [e2, k4 (v2 + 1) (by omega) (by omega), if_neg (by omega)]
      unfold upI
      by_cases q2 : j = v2
      · rw [if_pos q2, if_pos (by omega), q2]
      · rw [if_neg q2, k4 j j0 j1]
        by_cases q3 : k ≤ j ∧ j < v2
        · rw [if_pos q3, if_pos (by omega)]
        · rw [if_neg q3, if_neg (by omega)]
  · refine ⟨by omega, F3, by rw [hM3]; rfl, fun j j0 j1 => ?_⟩
    rw [if_neg (by omega), hM3]
    exact AL_gi h2 j0 j1
def isIx (p k : Int) (h : List Int) : Prop := (k = -1 ∧ p ∉ h) ∨ ((0 ≤ k ∧ k < h.length) ∧ gi h k = p ∧ ∀ j : Int, 0 ≤ j → j < k → gi h j ≠ p)
theorem notin_gi {p : Int} {h : List Int} (hn : ∀ j : Int, 0 ≤ j → j < h.length → gi h j ≠ p) : p ∉ h := by
  intro hp
  obtain ⟨j, hj, e⟩ := List.mem_iff_getElem.mp hp
  have := hn j (by omega) (by omega)
  apply this
  have e2 := gi_get hj
  rw [List.getElem?_eq_getElem hj, e] at e2
  exact (Option.some.inj e2).symm
theorem P_X3_placeOf {p : Int} {h : List Int} {Q : Int → Prop} {M : zMem} (hH : HC M h) (hl : h.length ≤ 4) (hQ : ∀ k, isIx p k h → Q k) : T_X3_placeOf p Q M := by
  obtain ⟨h1, h2⟩ := hH
  unfold T_X3_placeOf T_X3_placeOf_2
  apply zp1_rule (fun v => (0 ≤ v ∧ v ≤ h.length) ∧ ∀ j, 0 ≤ j → j < v → gi h j ≠ p) (fun v => ((h.length : Int) - v).toNat)
  · intro X v ⟨k1, k2⟩ hX
    rw [h1]
    refine ⟨fun q => hQ _ (Or.inl ⟨rfl, notin_gi (fun j j0 j1 => k2 j j0 (by omega))⟩), fun q => ⟨⟨by omega, by omega⟩, ?_⟩⟩
    rw [AL_gi h2 k1.1 (by omega)]
    refine ⟨fun q2 => ⟨inR_mk (by omega) (by omega), hX _ ⟨by omega, fun j j0 j1 => ?_⟩ (by omega)⟩, fun q2 => hQ _ (Or.inr ⟨⟨k1.1, by omega⟩, q2, k2⟩)⟩
    by_cases q3 : j = v
    · rw [q3]; exact q2
    · exact k2 j j0 (by omega)
  · exact ⟨by omega, fun j a b => by omega⟩
theorem P_X10_placeHeld {p : Int} {h : List Int} {Q : Int → Prop} {M : zMem} (hH : HR M h) (hl : h.length ≤ 4) (hQ : ∀ k, isIx p k h → Q k) : T_X10_placeHeld p Q M := by
  obtain ⟨h1, h2⟩ := hH
  unfold T_X10_placeHeld T_X10_placeHeld_2
  apply zp1_rule (fun v => (0 ≤ v ∧ v ≤ h.length) ∧ ∀ j, 0 ≤ j → j < v → gi h j ≠ p) (fun v => ((h.length : Int) - v).toNat)
  · intro X v ⟨k1, k2⟩ hX
    rw [h1]
    refine ⟨fun q => hQ _ (Or.inl ⟨rfl, notin_gi (fun j j0 j1 => k2 j j0 (by omega))⟩), fun q => ⟨⟨by omega, by omega⟩, ?_⟩⟩
    rw [AL_gi h2 k1.1 (by omega)]
    refine ⟨fun q2 => ⟨inR_mk (by omega) (by omega), hX _ ⟨by omega, fun j j0 j1 => ?_⟩ (by omega)⟩, fun q2 => hQ _ (Or.inr ⟨⟨k1.1, by omega⟩, q2, k2⟩)⟩
    by_cases q3 : j = v
    · rw [q3]; exact q2
    · exact k2 j j0 (by omega)
  · exact ⟨by omega, fun j a b => by omega⟩
theorem isIx_uniq {p k k' : Int} {h : List Int} (h1 : isIx p k h) (h2 : isIx p k' h) : k = k' := by
  have inn : ∀ {k : Int}, 0 ≤ k → k < h.length → gi h k = p → p ∈ h := fun a b c => by rw [← c]; exact gi_mem a b
  rcases h1 with ⟨a, b⟩ | ⟨a, b, c⟩
  · rcases h2 with ⟨a', b'⟩ | ⟨a', b', c'⟩
    · omega
    · exact absurd (inn a'.1 a'.2 b') b
  · rcases h2 with ⟨a', b'⟩ | ⟨a', b', c'⟩
    · exact absurd (inn a.1 a.2 b) b'
    · by_cases q : k < k'
      · exact absurd b (c' k a.1 q)
      · by_cases q2 : k' < k
        · exact absurd b' (c k' a'.1 q2)
        · omega
-- used the longest ago: given up
noncomputable def ixF (p : Int) (h : List Int) : Int := Classical.epsilon (fun k => isIx p k h)
theorem ixF_eq {p k : Int} {h : List Int} (hk : isIx p k h) : ixF p h = k := isIx_uniq (Classical.epsilon_spec (p := fun k => isIx p k h) ⟨k, hk⟩) hk
noncomputable def hldF (lim : Nat) (h : List Int) (p : Int) : List Int := if ixF p h = -1 then h.drop (h.length + 1 - lim) ++ [p] else h.eraseIdx (ixF p h).toNat ++ [p]
noncomputable def hldN (h : List Int) (p : Int) : Int := if ixF p h = -1 then 1 else 0
theorem hld_len {lim : Nat} {h : List Int} {p : Int} (hl : h.length ≤ lim) (h1 : 1 ≤ lim) (hx : ∃ k, isIx p k h) : (hldF lim h p).length ≤ lim := by
  obtain ⟨k, hk⟩ := hx
  unfold hldF
  rw [ixF_eq hk]
  by_cases q : k = -1
  · rw [if_pos q, List.length_append, List.length_drop, List.length_cons, List.length_nil]; omega
  · rw [if_neg q]
    rcases hk with hk | hk
    · exact absurd hk.1 q
    · rw [List.length_append, List.length_eraseIdx, if_pos (by omega), List.length_cons, List.length_nil]; omega
theorem HC_push {M : zMem} {h : List Int} {p : Int} {Q : zMem → Prop} (hH : HC M h) (hl : h.length < 4) (hQ : ∀ M', Fr (fun k => k = 448 ∨ k = 450) M M' → HC M' (h ++ [p]) → Q M') : T_X3_hold_36 p Q M := by
  obtain ⟨h1, h2⟩ := hH
  unfold T_X3_hold_36
  rw [h1]
  refine ⟨fun q => by omega, fun _ => ⟨⟨by omega, by omega⟩, fun M2 hM2 => ?_⟩⟩
  have e2 : M2.1 448 = h.length := by rw [hM2]; exact h1
  rw [e2]
  refine ⟨inR_mk (by omega) (by omega), fun M3 hM3 => hQ M3 ?_ ⟨?_, ?_⟩⟩
  · rw [hM3, hM2]; exact Fr_trans (Fr_setA (Or.inr rfl)) (Fr_setS (Or.inl rfl))
  · rw [hM3, len_snoc]; rfl
  · have e3 : M3.2 450 = upI (M.2 450) h.length p := by rw [hM3, hM2]; rfl
    rw [e3]
    exact AL_snoc h2 (by omega)
theorem HR_push {M : zMem} {h : List Int} {p : Int} {Q : zMem → Prop} (hH : HR M h) (hl : h.length < 4) (hQ : ∀ M', Fr (fun k => k = 611 ∨ k = 612) M M' → HR M' (h ++ [p]) → Q M') : T_X10_uses_66 p Q M := by
  obtain ⟨h1, h2⟩ := hH
  unfold T_X10_uses_66
  rw [h1]
  refine ⟨⟨by omega, by omega⟩, fun M2 hM2 => ?_⟩
  have e2 : M2.1 612 = h.length := by rw [hM2]; exact h1
  rw [e2]
  refine ⟨inR_mk (by omega) (by omega), fun M3 hM3 => hQ M3 ?_ ⟨?_, ?_⟩⟩
  · rw [hM3, hM2]; exact Fr_trans (Fr_setA (Or.inl rfl)) (Fr_setS (Or.inr rfl))
  · rw [hM3, len_snoc]; rfl
  · have e3 : M3.2 611 = upI (M.2 611) h.length p := by rw [hM3, hM2]; rfl
    rw [e3]
    exact AL_snoc h2 (by omega)
theorem P_X3_shrinkTo {lim : Nat} {h : List Int} {Q : zMem → Prop} {M : zMem} (hH : HC M h) (hl : h.length ≤ 4) (hQ : ∀ M', Fr (fun k => k = 448 ∨ k = 450) M M' → HC M' (h.drop (h.length - lim)) → Q M') : T_X3_shrinkTo lim Q M := by
  unfold T_X3_shrinkTo T_X3_shrinkTo_2
  apply zl1_rule (fun v2 M1 => (0 ≤ v2 ∧ v2 ≤ 4) ∧ (v2 ≤ h.length ∧ v2 ≤ (h.length - lim : Nat)) ∧ Fr (fun k => k = 448 ∨ k = 450) M M1 ∧ HC M1 (h.drop v2.toNat)) (fun v2 _ => (4 - v2).toNat)
  · intro X v2 M1 ⟨k1, k2, k3, k4⟩ hX
    have e448 := k4.1
    rw [List.length_drop] at e448
    refine ⟨fun q => ?_, fun q => ⟨fun q2 => ?_, fun q2 => ?_⟩⟩
    · have : v2.toNat = h.length - lim := by omega
      rw [this] at k4
      exact hQ M1 k3 k4
    · have : v2.toNat = h.length - lim := by omega
      rw [this] at k4
      exact hQ M1 k3 k4
    · apply P_X3_giveUp k4 (by rw [List.length_drop]; omega) (by rw [List.length_drop]; omega)
      intro M3 hF3 hH3
      refine ⟨inR_mk (by omega) (by omega), hX _ _ ⟨by omega, by omega, Fr_trans k3 hF3, ?_⟩ (by omega)⟩
      have e : (h.drop v2.toNat).eraseIdx (0 : Int).toNat = h.drop (v2 + 1).toNat := by
        have e1 : (v2 + 1).toNat = v2.toNat + 1 := by omega
        rw [e1, ← List.drop_drop, List.drop_one]
        cases h.drop v2.toNat <;> rfl
      rw [← e]; exact hH3
  · exact ⟨by omega, by omega, Fr_refl M, hH⟩
theorem P_X3_hold {p : Int} {lim : Nat} {h : List Int} {Q : zMem → Prop} {M : zMem} (hH : HC M h) (hl : h.length ≤ lim) (hlim : 1 ≤ lim ∧ lim ≤ 4) (hu : 0 ≤ M.1 449 ∧ M.1 449 ≤ 100000) (hQ : (∃ k, isIx p k h) → ∀ M', Fr fHC M M' → HC M' (hldF lim h p) → M'.1 449 = M.1 449 + hldN h p → Q M') : T_X3_hold p lim Q M := by
  unfold T_X3_hold
  apply P_X3_placeOf hH (by omega)
  intro k hk
  have hQ := hQ ⟨k, hk⟩
  unfold hldF hldN at hQ
  rw [ixF_eq hk] at hQ
  refine ⟨fun q => ?_, fun q => ⟨inR_mk (by omega) (by omega), fun M7 hM7 => ⟨inR_mk (by omega) (by omega), ?_⟩⟩⟩
  · rw [if_neg q, if_neg q] at hQ
    rcases hk with hk | hk
    · exact absurd hk.1 q
    · apply P_X3_giveUp hH hk.1 (by omega)
      intro M6 hF6 hH6
      have hle := erase_len (h := h) (k := k.toNat) (by omega)
      apply HC_push hH6 (by omega)
      intro M' hF' hH'
      have FF := Fr_trans hF6 hF'
      refine hQ M' (Fr_mono FF (fun k h => by unfold fHC; omega)) hH' ?_
      rw [FF.1 449 (by decide)]; omega
  · rw [if_pos q, if_pos q] at hQ
    have F7 : Fr fHC M M7 := by rw [hM7]; exact Fr_setS (by unfold fHC; omega)
    have hH7 : HC M7 h := by rw [hM7]; exact hH
    have e449 : M7.1 449 = M.1 449 + 1 := by rw [hM7]; rfl
    have el : (lim : Int) - 1 = ((lim - 1 : Nat) : Int) := by omega
    rw [el]
    apply P_X3_shrinkTo hH7 (by omega)
    intro M8 hF8 hH8
    have e1 : h.length - (lim - 1) = h.length + 1 - lim := by omega
    rw [e1] at hH8
    apply HC_push hH8 (by rw [List.length_drop]; omega)
    intro M' hF' hH'
    have FF := Fr_trans hF8 hF'
    refine hQ M' (Fr_trans F7 (Fr_mono FF (fun k h => by unfold fHC; omega))) hH' ?_
    rw [FF.1 449 (by decide), e449]
theorem P_X10_uses {key i p : Int} {lim : Nat} {h : List Int} {Q : zMem → Prop} {M : zMem} (hD : DirOK (M.2 582)) (hO : IsOrd (M.2 582) key i) (hp : M.2 582 (641 + 2 * i) = p) (hH : HR M h) (hl : h.length ≤ lim) (hlim : 1 ≤ lim ∧ lim ≤ 4) (ht : M.2 579 4 = lim) (hu : 0 ≤ M.1 613 ∧ M.1 613 ≤ 100000) (hQ : (∃ k, isIx p k h) → ∀ M', Fr fHR M M' → HR M' (hldF lim h p) → M'.1 613 = M.1 613 + hldN h p → Q M') : T_X10_uses key Q M := by
  have a582 : alen 582 = 1339 := alen_582
  have hu1 := hD.1
  have hi := hO.1
  unfold T_X10_uses
  apply P_X10_placeFor (by omega) hD hO
  apply P_X10_numberOf (by omega) ⟨hi.1, by omega⟩
  rw [hp]
  apply P_X10_placeHeld hH (by omega)
  intro k hk
  have hQ := hQ ⟨k, hk⟩
  unfold hldF hldN at hQ
  rw [ixF_eq hk] at hQ
  refine ⟨fun q => ?_, fun q => ⟨inR_mk (by omega) (by omega), fun M11 hM11 => ?_⟩⟩
  · rw [if_neg q, if_neg q] at hQ
    unfold T_X10_uses_39
    apply P_X10_placeHeld hH (by omega)
    intro k' hk'
    have ekk := isIx_uniq hk' hk
    rw [ekk]
    refine ⟨fun _ => ?_, fun q2 => absurd q2 q⟩
    rcases hk with hk | hk
    · exact absurd hk.1 q
    · unfold T_X10_uses_61
      apply P_X10_lets hH hk.1 (by omega)
      intro M3 hF3 hH3
      have hle := erase_len (h := h) (k := k.toNat) (by omega)
      apply HR_push hH3 (by omega)
      intro M' hF' hH'
      have FF := Fr_trans hF3 hF'
      refine hQ M' (Fr_mono FF (fun k h => by unfold fHR; omega)) hH' ?_
      rw [FF.1 613 (by decide)]; omega
  · rw [if_pos q, if_pos q] at hQ
    have F11 : Fr fHR M M11 := by rw [hM11]; exact Fr_setS (by unfold fHR; omega)
    have hH11 : HR M11 h := by rw [hM11]; exact hH
    have e613 : M11.1 613 = M.1 613 + 1 := by rw [hM11]; rfl
    have et : M11.2 579 4 = lim := by rw [hM11]; exact ht
    unfold T_X10_uses_39
    apply P_X10_placeHeld hH11 (by omega)
    intro k' hk'
    have ekk := isIx_uniq hk' hk
    rw [ekk, q, hH11.1, et]
    refine ⟨fun q2 => absurd rfl q2, fun _ => ⟨⟨by omega, by omega⟩, fun q2 => ?_, fun q2 => ?_⟩⟩
    · have e1 : h.length + 1 - lim = 0 := by omega
      rw [e1, List.drop_zero] at hQ
      apply HR_push hH11 (by omega)
      intro M' hF' hH'
      refine hQ M' (Fr_trans F11 (Fr_mono hF' (fun k h => by unfold fHR; omega))) hH' ?_
      rw [hF'.1 613 (by decide), e613]
    · have e1 : h.length + 1 - lim = 1 := by omega
      rw [e1] at hQ
      have e2 : h.eraseIdx (0 : Int).toNat = h.drop 1 := by
        rw [List.drop_one]
        cases h <;> rfl
      unfold T_X10_uses_61
      apply P_X10_lets hH11 (by omega) (by omega)
      rw [e2]
      intro M3 hF3 hH3
      apply HR_push hH3 (by rw [List.length_drop]; omega)
      intro M' hF' hH'
      have FF := Fr_trans hF3 hF'
      refine hQ M' (Fr_trans F11 (Fr_mono FF (fun k h => by unfold fHR; omega))) hH' ?_
      rw [FF.1 613 (by decide), e613]
-- pages that are free are not held
noncomputable def usB (f : Int → Int) (p : Int) : Bool := @decide (IsUsed f p) (Classical.propDecidable _)
theorem usB_t {f : Int → Int} {p : Int} (h : IsUsed f p) : usB f p = true := @decide_eq_true _ (Classical.propDecidable _) h
theorem usB_f {f : Int → Int} {p : Int} (h : ¬ IsUsed f p) : usB f p = false := @decide_eq_false _ (Classical.propDecidable _) h
noncomputable def frF (f : Int → Int) (h : List Int) : List Int := h.filter (usB f)
noncomputable def frK (f : Int → Int) (h : List Int) (k : Nat) : List Int := h.take k ++ (h.drop k).filter (usB f)
theorem frK_len (f : Int → Int) (h : List Int) (k : Nat) : (frK f h k).length ≤ h.length := by
  unfold frK
  have := List.length_filter_le (usB f) (h.drop k)
  rw [List.length_append, List.length_take]
  rw [List.length_drop] at this
  omega
theorem frK_get {f : Int → Int} {h : List Int} {k : Nat} (hk : k < h.length) : gi (frK f h (k + 1)) k = gi h k ∧ (k < (frK f h (k + 1)).length) ∧ (IsUsed f (gi h k) → frK f h k = frK f h (k + 1)) ∧ (¬ IsUsed f (gi h k) → frK f h k = (frK f h (k + 1)).eraseIdx k) := by
  have hg := gi_get hk
  have e1 : h.take (k + 1) = h.take k ++ [gi h k] := by rw [List.take_succ, hg]; rfl
  have e2 : h.drop k = gi h k :: h.drop (k + 1) := by
    rw [List.drop_eq_getElem_cons hk]
    congr 1
    rw [List.getElem?_eq_getElem hk] at hg
    exact Option.some.inj hg
  have l1 : (h.take k).length = k := by rw [List.length_take]; omega
  have e3 : frK f h (k + 1) = h.take k ++ gi h k :: (h.drop (k + 1)).filter (usB f) := by unfold frK; rw [e1, List.append_assoc]; rfl
  refine ⟨?_, ?_, fun hus => ?_, fun hus => ?_⟩
  · rw [e3, gi_app_r (by omega), l1]
    have : (k : Int) - (k : Nat) = 0 := by omega
    rw [this]; rfl
  · rw [e3, List.length_append, List.length_cons]; omega
  · rw [e3]; unfold frK
    rw [e2, List.filter_cons_of_pos (usB_t hus)]
  · rw [e3]; unfold frK
    rw [e2, List.filter_cons_of_neg (by rw [usB_f hus]; exact Bool.false_ne_true), List.eraseIdx_append_of_length_le (by omega), l1, Nat.sub_self]
    rfl
theorem P_X3_giveUpFree {h : List Int} {Q : zMem → Prop} {M : zMem} (hD : DirOK (M.2 64)) (hH : HC M h) (hl : h.length ≤ 4) (hQ : ∀ M', Fr (fun k => k = 448 ∨ k = 450) M M' → HC M' (frF (M.2 64) h) → Q M') : T_X3_giveUpFree 64 Q M := by
  have a64 : alen 64 = 1334 := alen_64
  unfold T_X3_giveUpFree
  rw [hH.1]
  refine ⟨inR_mk (by omega) (by omega), ?_⟩
  unfold T_X3_giveUpFree_7
  apply zl1_rule (fun v2 M1 => (-1 ≤ v2 ∧ v2 < h.length) ∧ Fr (fun k => k = 448 ∨ k = 450) M M1 ∧ HC M1 (frK (M.2 64) h (v2 + 1).toNat)) (fun v2 _ => (v2 + 1).toNat)
  · intro X v2 M1 ⟨k1, k2, k3⟩ hX
    have e64 : M1.2 64 = M.2 64 := k2.2 64 (by decide)
    refine ⟨fun q => ?_, fun q => ⟨⟨by omega, by omega⟩, ?_⟩⟩
    · have : (v2 + 1).toNat = 0 := by omega
      rw [this] at k3
      exact hQ M1 k2 k3
    · obtain ⟨n, hn⟩ : ∃ n : Nat, v2 = n := ⟨v2.toNat, by omega⟩
      subst hn
      have en : ((n : Int) + 1).toNat = n + 1 := by omega
      have en2 : ((n : Int) + -1 + 1).toNat = n := by omega
      rw [en] at k3
      obtain ⟨g1, g2, g3, g4⟩ := frK_get (f := M.2 64) (h := h) (k := n) (by omega)
      have hle := frK_len (M.2 64) h (n + 1)
      rw [AL_gi k3.2 (by omega) (by omega), g1]
      apply P_X4_isUsed (by omega) (by rw [e64]; exact hD)
      · rw [e64]
        intro hus
        refine ⟨fun _ => ?_, fun q2 => by omega⟩
        unfold T_X3_giveUpFree_29
        refine ⟨inR_mk (by omega) (by omega), hX _ _ ⟨by omega, k2, ?_⟩ (by omega)⟩
        rw [en2, g3 hus]; exact k3
      · rw [e64]
        intro hus
        refine ⟨fun q2 => absurd rfl q2, fun _ => ?_⟩
        apply P_X3_giveUp k3 (by omega) (by omega)
        intro M4 hF4 hH4
        unfold T_X3_giveUpFree_29
        refine ⟨inR_mk (by omega) (by omega), hX _ _ ⟨by omega, Fr_trans k2 hF4, ?_⟩ (by omega)⟩
        rw [en2, g4 hus]; exact hH4
  · refine ⟨by omega, Fr_refl M, ?_⟩
    have : ((h.length : Int) - 1 + 1).toNat = h.length := by omega
    rw [this]
    unfold frK
    rw [List.take_length, List.drop_length]
    show HC M (h ++ [])
    rw [List.append_nil]; exact hH
theorem P_X10_letsFree {h : List Int} {Q : zMem → Prop} {M : zMem} (hD : h ≠ [] → DirOK (M.2 582)) (hH : HR M h) (hl : h.length ≤ 4) (hQ : ∀ M', Fr (fun k => k = 611 ∨ k = 612) M M' → HR M' (frF (M.2 582) h) → Q M') : T_X10_letsFree Q M := by
  unfold T_X10_letsFree
  rw [hH.1]
  refine ⟨inR_mk (by omega) (by omega), ?_⟩
  unfold T_X10_letsFree_7
  apply zl1_rule (fun v2 M1 => (-1 ≤ v2 ∧ v2 < h.length) ∧ Fr (fun k => k = 611 ∨ k = 612) M M1 ∧ HR M1 (frK (M.2 582) h (v2 + 1).toNat)) (fun v2 _ => (v2 + 1).toNat)
  · intro X v2 M1 ⟨k1, k2, k3⟩ hX
    have e64 : M1.2 582 = M.2 582 := k2.2 582 (by decide)
    refine ⟨fun q => ?_, fun q => ⟨⟨by omega, by omega⟩, ?_⟩⟩
    · have : (v2 + 1).toNat = 0 := by omega
      rw [this] at k3
      exact hQ M1 k2 k3
    · obtain ⟨n, hn⟩ : ∃ n : Nat, v2 = n := ⟨v2.toNat, by omega⟩
      subst hn
      have en : ((n : Int) + 1).toNat = n + 1 := by omega
      have en2 : ((n : Int) + -1 + 1).toNat = n := by omega
      rw [en] at k3
      obtain ⟨g1, g2, g3, g4⟩ := frK_get (f := M.2 582) (h := h) (k := n) (by omega)
      have hle := frK_len (M.2 582) h (n + 1)
      have hne : h ≠ [] := by intro e; rw [e] at k1; simp at k1; omega
      rw [AL_gi k3.2 (by omega) (by omega), g1]
      apply P_X10_isInUse (by rw [e64]; exact hD hne)
      · rw [e64]
        intro hus
        refine ⟨fun _ => ?_, fun q2 => by omega⟩
        unfold T_X10_letsFree_29
        refine ⟨inR_mk (by omega) (by omega), hX _ _ ⟨by omega, k2, ?_⟩ (by omega)⟩
        rw [en2, g3 hus]; exact k3
      · rw [e64]
        intro hus
        refine ⟨fun q2 => absurd rfl q2, fun _ => ?_⟩
        apply P_X10_lets k3 (by omega) (by omega)
        intro M4 hF4 hH4
        unfold T_X10_letsFree_29
        refine ⟨inR_mk (by omega) (by omega), hX _ _ ⟨by omega, Fr_trans k2 hF4, ?_⟩ (by omega)⟩
        rw [en2, g4 hus]; exact hH4
  · refine ⟨by omega, Fr_refl M, ?_⟩
    have : ((h.length : Int) - 1 + 1).toNat = h.length := by omega
    rw [this]
    unfold frK
    rw [List.take_length, List.drop_length]
    show HR M (h ++ [])
    rw [List.append_nil]; exact hH
theorem frF_agr {f f' : Int → Int} (h : agr f f') (hu : f 640 ≤ 10) (l : List Int) : frF f l = frF f' l := by
  unfold frF
  congr 1
  funext p
  by_cases q : IsUsed f p
  · rw [usB_t q, usB_t ((used_agr h hu p).mp q)]
  · rw [usB_f q, usB_f (fun q2 => q ((used_agr h hu p).mpr q2))]
theorem frF_len (f : Int → Int) (l : List Int) : (frF f l).length ≤ l.length := List.length_filter_le _ _
