section
variable {tr : Int → Int} {t : List Int} {s : Int × (Int → Int)} {fl : Int} {D : (Int → Int) × Lrn × Int} {u : Int × Int} {H : List Int × Int} {ps : List Mom}
theorem RT_cl {P : Nat → Prop} {M M' : zMem} (h : RT M tr t s fl D u H ps) (hF : Fr P M M') (hP : ∀ k, P k → k < 576 ∨ 640 ≤ k) : RT M' tr t s fl D u H ps :=
  RT_fr h hF (fun k hk hp => by have := hP k hp; unfold RTI rTrI rTpI rStI rFlI rDkI rFuI rHeI rPaI at hk; omega)
theorem CS_rf {P : Nat → Prop} {M M' : zMem} (h : CS M tr t s fl D u H ps) (hF : Fr P M M') (hP : ∀ k, P k → 576 ≤ k ∧ k < 640) : CS M' tr t s fl D u H ps :=
  CS_fr h hF (fun k hk hp => by have := hP k hp; unfold CSI cTrI cTpI cStI cFlI cDkI cFuI cHeI cPaI at hk; omega)
theorem CS_sc {P : Nat → Prop} {M M' : zMem} (h : CS M tr t s fl D u H ps) (hF : Fr P M M') (hP : ∀ k, P k → k = 4 ∨ k = 8 ∨ k = 67 ∨ (128 ≤ k ∧ k < 448)) : CS M' tr t s fl D u H ps :=
  CS_fr h hF (fun k hk hp => by have := hP k hp; unfold CSI cTrI cTpI cStI cFlI cDkI cFuI cHeI cPaI at hk; omega)
theorem RT_sc {P : Nat → Prop} {M M' : zMem} (h : RT M tr t s fl D u H ps) (hF : Fr P M M') (hP : ∀ k, P k → k = 576 ∨ k = 583 ∨ (589 ≤ k ∧ k ≤ 606) ∨ k = 614 ∨ k = 615) : RT M' tr t s fl D u H ps :=
  RT_fr h hF (fun k hk hp => by have := hP k hp; unfold RTI rTrI rTpI rStI rFlI rDkI rFuI rHeI rPaI at hk; omega)
def rfS (v : Int) (s : Int × (Int → Int)) : Int × (Int → Int) := (v, upI s.2 (-1 - v) (s.2 (-1 - v) + 1))
def acS (s : Int × (Int → Int)) : Int × (Int → Int) := (0, s.2)
theorem P_X9_refuse {v : Int} {N : Int} {Q : Int → zMem → Prop} {M : zMem} (hv : -7 ≤ v ∧ v ≤ -1) (hs : ∀ j, 0 ≤ j → j < 7 → 0 ≤ s.2 j ∧ s.2 j ≤ N) (hN : N ≤ 100000) (hC : CS M tr t s fl D u H ps) (hQ : ∀ M', Fr (fun k => k = 5 ∨ k = 6) M M' → CS M' tr t (rfS v s) fl D u H ps → Q v M') : T_X9_refuse v Q M := by
  unfold T_X9_refuse
  intro M1 hM1
  have hst := hC.2.2.1
  have e5 : M1.2 5 = M.2 5 := by rw [hM1]; rfl
  have es := hst.2 (-1 - v) (by omega) (by omega)
  have hb := hs (-1 - v) (by omega) (by omega)
  rw [e5, es]
  refine ⟨inR_mk (by omega) (by omega), fun q => by omega, fun _ => ⟨fun q => by omega, fun _ => ⟨⟨by omega, by omega⟩, inR_mk (by omega) (by omega), ⟨by omega, by omega⟩, fun M4 hM4 => ?_⟩⟩⟩
  have F4 : Fr (fun k => k = 5 ∨ k = 6) M M4 := by rw [hM4, hM1]; exact Fr_trans (Fr_setS (Or.inr rfl)) (Fr_setA (Or.inl rfl))
  refine hQ M4 F4 (CS_St hC F4 (fun k _ h => by unfold cStI; omega) ⟨?_, fun j j0 j1 => ?_⟩)
  · rw [hM4, hM1]; rfl
  · have e4 : M4.2 5 = upI (M.2 5) (-1 - v) (s.2 (-1 - v) + 1) := by rw [hM4, setA_2, if_pos rfl, e5]
    rw [e4]
    show _ = upI s.2 (-1 - v) (s.2 (-1 - v) + 1) j
    unfold upI
    by_cases q : j = -1 - v
    · rw [if_pos q, if_pos q]
    · rw [if_neg q, if_neg q]; exact hst.2 j j0 j1
theorem P_X9_accept {v : Int} {Q : Int → zMem → Prop} {M : zMem} (hC : CS M tr t s fl D u H ps) (hQ : ∀ M', Fr (fun k => k = 6) M M' → CS M' tr t (acS s) fl D u H ps → Q v M') : T_X9_accept v Q M := by
  unfold T_X9_accept
  intro M1 hM1
  have F1 : Fr (fun k => k = 6) M M1 := by rw [hM1]; exact Fr_setS rfl
  exact hQ M1 F1 (CS_St hC F1 (fun k _ h => by unfold cStI; omega) ⟨by rw [hM1]; rfl, fun j a b => by rw [hM1]; exact hC.2.2.1.2 j a b⟩)
theorem P_X10_refuses {v : Int} {N : Int} {Q : Int → zMem → Prop} {M : zMem} (hv : -7 ≤ v ∧ v ≤ -1) (hs : ∀ j, 0 ≤ j → j < 7 → 0 ≤ s.2 j ∧ s.2 j ≤ N) (hN : N ≤ 100000) (hC : RT M tr t s fl D u H ps) (hQ : ∀ M', Fr (fun k => k = 577 ∨ k = 578) M M' → RT M' tr t (rfS v s) fl D u H ps → Q v M') : T_X10_refuses v Q M := by
  unfold T_X10_refuses
  intro M1 hM1
  have hst := hC.2.2.1
  have e5 : M1.2 578 = M.2 578 := by rw [hM1]; rfl
  have es := hst.2 (-1 - v) (by omega) (by omega)
  have ei : -1 - v + 1 = -v := by omega
  rw [ei] at es
  have hb := hs (-1 - v) (by omega) (by omega)
  rw [e5, es]
  refine ⟨inR_mk (by omega) (by omega), ⟨by omega, by omega⟩, inR_mk (by omega) (by omega), ⟨by omega, by omega⟩, fun M4 hM4 => ?_⟩
  have F4 : Fr (fun k => k = 577 ∨ k = 578) M M4 := by rw [hM4, hM1]; exact Fr_trans (Fr_setS (Or.inl rfl)) (Fr_setA (Or.inr rfl))
  refine hQ M4 F4 (RT_St hC F4 (fun k _ h => by unfold rStI; omega) ⟨?_, fun j j0 j1 => ?_⟩)
  · rw [hM4, hM1]; rfl
  · have e4 : M4.2 578 = upI (M.2 578) (-v) (s.2 (-1 - v) + 1) := by rw [hM4, setA_2, if_pos rfl, e5]
    rw [e4]
    show _ = upI s.2 (-1 - v) (s.2 (-1 - v) + 1) j
    unfold upI
    by_cases q : j = -1 - v
    · rw [if_pos q, if_pos (by omega)]
    · rw [if_neg q, if_neg (by omega)]; exact hst.2 j j0 j1
theorem P_X10_tells {v : Int} {Q : Int → zMem → Prop} {M : zMem} (hC : RT M tr t s fl D u H ps) (hQ : ∀ M', Fr (fun k => k = 577) M M' → RT M' tr t (acS s) fl D u H ps → Q v M') : T_X10_tells v Q M := by
  unfold T_X10_tells
  intro M1 hM1
  have F1 : Fr (fun k => k = 577) M M1 := by rw [hM1]; exact Fr_setS rfl
  exact hQ M1 F1 (RT_St hC F1 (fun k _ h => by unfold rStI; omega) ⟨by rw [hM1]; rfl, fun j a b => by rw [hM1]; exact hC.2.2.1.2 j a b⟩)
theorem OKS_rf {N v : Int} (h : OKS N tr t s D u H ps) (hv : -7 ≤ v ∧ v ≤ -1) : OKS (N + 1) tr t (rfS v s) D u H ps := by
  obtain ⟨h1, h2, h3, h4, h5, h6, h7⟩ := h
  refine ⟨h1, h2, fun j a b => ?_, h4, h5, ⟨h6.1, h6.2.1, by have := h6.2.2; omega⟩, h7⟩
  show 0 ≤ upI s.2 (-1 - v) (s.2 (-1 - v) + 1) j ∧ upI s.2 (-1 - v) (s.2 (-1 - v) + 1) j ≤ N + 1
  have := h3 j a b
  have := h3 (-1 - v) (by omega) (by omega)
  unfold upI
  split <;> omega
theorem OKS_ac {N : Int} (h : OKS N tr t s D u H ps) : OKS N tr t (acS s) D u H ps := h
-- one call of both: the answers, the state behind it
def G (N : Int) (r : Int) (r' : Int) (M : zMem) : Prop := r = r' ∧ Inv (N + 1) M
theorem G_in {N r : Int} {M : zMem} (hC : CS M tr t s fl D u H ps) (hR : RT M tr t s fl D u H ps) (hO : OKS (N + 1) tr t s D u H ps) : G N r r M := ⟨rfl, tr, t, s, fl, D, u, H, ps, hC, hR, hO⟩
-- refused by both
theorem ref_r {N v : Int} {M : zMem} (hN : N ≤ 1000) (hv : -7 ≤ v ∧ v ≤ -1) (hC : CS M tr t (rfS v s) fl D u H ps) (hR : RT M tr t s fl D u H ps) (hO : OKS N tr t s D u H ps) : T_X10_refuses v (fun r' M2 => G N v r' M2) M := by
  apply P_X10_refuses hv hO.2.2.1 (by omega) hR
  intro M' hF' hR'
  exact G_in (CS_rf hC hF' (fun k h => by omega)) hR' (OKS_rf hO hv)
theorem tell_r {N v : Int} {M : zMem} (hC : CS M tr t (acS s) fl D u H ps) (hR : RT M tr t s fl D u H ps) (hO : OKS (N + 1) tr t s D u H ps) : T_X10_tells v (fun r' M2 => G N v r' M2) M := by
  refine P_X10_tells (M := M) hR ?_
  intro M' hF' hR'
  exact G_in (CS_rf hC hF' (fun k h => by omega)) hR' (OKS_ac hO)
end
theorem F576 (M : zMem) : Fr (fun k => k = 576) M (setS M 576 0) := Fr_setS rfl
theorem DOK_d {f : Int → Int} {d : Int} (h : DOK f d) : d = 0 ∨ d = 1 := by
  rcases h with h | h
  · exact Or.inl h.1
  · exact Or.inr h.1
theorem P_X10_isDown {d : Int} {Q : Int → Prop} {M : zMem} (h : M.2 582 665 = d) (hd : d = 0 ∨ d = 1) (hQ : Q d) : T_X10_isDown Q M := by
  unfold T_X10_isDown
  rw [h]
  refine ⟨⟨by omega, by omega⟩, fun q => ?_, fun q => ?_⟩
  · have : d = 0 := by omega
    rw [this] at hQ; exact hQ
  · rw [q] at hQ; exact hQ
theorem P_X10_isKey {v : Int} {Q : Int → Prop} {M : zMem} (hQ1 : 0 ≤ v ∧ v < 256 → Q 1) (hQ0 : ¬ (0 ≤ v ∧ v < 256) → Q 0) : T_X10_isKey v Q M := by
  unfold T_X10_isKey
  apply P_X10_isIn
  · intro a b; exact ⟨Or.inr rfl, hQ1 ⟨a, by omega⟩⟩
  · intro h; exact ⟨Or.inl rfl, hQ0 (by omega)⟩
theorem upI_agT {a b : Int → Int} (h : agT a b) (i v : Int) : agT (upI a i v) (upI b i v) := by
  intro j j0 j1
  unfold upI
  rw [h j j0 j1]
