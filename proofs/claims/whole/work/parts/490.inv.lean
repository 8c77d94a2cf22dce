-- both sides, group by group
def cTr (M : zMem) (tr : Int → Int) : Prop := agT (M.2 0) tr
def cTrI (k : Nat) : Prop := k = 0
theorem cTr_fr {P : Nat → Prop} {M M' : zMem} {tr : Int → Int} (h : cTr M tr) (hF : Fr P M M') (hP : ∀ k, cTrI k → ¬ P k) : cTr M' tr := by
  unfold cTr at h ⊢
  rw [hF.2 0 (hP 0 (by unfold cTrI; omega))]
  exact h
def cTp (M : zMem) (t : List Int) : Prop := M.1 3 = t.length ∧ AL (M.2 2) 0 t
def cTpI (k : Nat) : Prop := k = 2 ∨ k = 3
theorem cTp_fr {P : Nat → Prop} {M M' : zMem} {t : List Int} (h : cTp M t) (hF : Fr P M M') (hP : ∀ k, cTpI k → ¬ P k) : cTp M' t := by
  unfold cTp at h ⊢
  rw [hF.1 3 (hP 3 (by unfold cTpI; omega)), hF.2 2 (hP 2 (by unfold cTpI; omega))]
  exact h
def cSt (M : zMem) (s : Int × (Int → Int)) : Prop := M.1 6 = s.1 ∧ ∀ j, 0 ≤ j → j < 7 → M.2 5 j = s.2 j
def cStI (k : Nat) : Prop := k = 5 ∨ k = 6
theorem cSt_fr {P : Nat → Prop} {M M' : zMem} {s : Int × (Int → Int)} (h : cSt M s) (hF : Fr P M M') (hP : ∀ k, cStI k → ¬ P k) : cSt M' s := by
  unfold cSt at h ⊢
  rw [hF.1 6 (hP 6 (by unfold cStI; omega)), hF.2 5 (hP 5 (by unfold cStI; omega))]
  exact h
def cFl (M : zMem) (fl : Int) : Prop := M.1 7 = fl
def cFlI (k : Nat) : Prop := k = 7
theorem cFl_fr {P : Nat → Prop} {M M' : zMem} {fl : Int} (h : cFl M fl) (hF : Fr P M M') (hP : ∀ k, cFlI k → ¬ P k) : cFl M' fl := by
  unfold cFl at h ⊢
  rw [hF.1 7 (hP 7 (by unfold cFlI; omega))]
  exact h
def cDk (M : zMem) (D : (Int → Int) × Lrn × Int) : Prop := agD (M.2 64) D.1 ∧ Lat (M.2 1) 0 D.2.1 ∧ M.1 66 = D.2.2
def cDkI (k : Nat) : Prop := k = 1 ∨ k = 64 ∨ k = 66
theorem cDk_fr {P : Nat → Prop} {M M' : zMem} {D : (Int → Int) × Lrn × Int} (h : cDk M D) (hF : Fr P M M') (hP : ∀ k, cDkI k → ¬ P k) : cDk M' D := by
  unfold cDk at h ⊢
  rw [hF.1 66 (hP 66 (by unfold cDkI; omega)), hF.2 64 (hP 64 (by unfold cDkI; omega)), hF.2 1 (hP 1 (by unfold cDkI; omega))]
  exact h
def cFu (M : zMem) (u : Int × Int) : Prop := M.1 65 = u.1 ∧ M.1 68 = u.2
def cFuI (k : Nat) : Prop := k = 65 ∨ k = 68
theorem cFu_fr {P : Nat → Prop} {M M' : zMem} {u : Int × Int} (h : cFu M u) (hF : Fr P M M') (hP : ∀ k, cFuI k → ¬ P k) : cFu M' u := by
  unfold cFu at h ⊢
  rw [hF.1 65 (hP 65 (by unfold cFuI; omega)), hF.1 68 (hP 68 (by unfold cFuI; omega))]
  exact h
def cHe (M : zMem) (H : List Int × Int) : Prop := HC M H.1 ∧ M.1 449 = H.2
def cHeI (k : Nat) : Prop := k = 448 ∨ k = 449 ∨ k = 450
theorem cHe_fr {P : Nat → Prop} {M M' : zMem} {H : List Int × Int} (h : cHe M H) (hF : Fr P M M') (hP : ∀ k, cHeI k → ¬ P k) : cHe M' H := by
  unfold cHe HC at h ⊢
  rw [hF.1 448 (hP 448 (by unfold cHeI; omega)), hF.1 449 (hP 449 (by unfold cHeI; omega)), hF.2 450 (hP 450 (by unfold cHeI; omega))]
  exact h
def cPa (M : zMem) (ps : List Mom) : Prop := PC M ps
def cPaI (k : Nat) : Prop := k = 512 ∨ k = 514 ∨ 1024 ≤ k
theorem cPa_fr {P : Nat → Prop} {M M' : zMem} {ps : List Mom} (h : cPa M ps) (hF : Fr P M M') (hP : ∀ k, cPaI k → ¬ P k) : cPa M' ps := by
  unfold cPa PC at h ⊢
  have e1 : M'.1 512 = M.1 512 := hF.1 512 (hP 512 (by unfold cPaI; omega))
  have e2 : M'.1 514 = M.1 514 := hF.1 514 (hP 514 (by unfold cPaI; omega))
  have z : ∀ a : Int, 1024 ≤ zmo a := fun a => by unfold zmo; omega
  rw [e1, e2]
  refine ⟨h.1, h.2.1, h.2.2.1, fun i m hm => ?_⟩
  have hz := z ((M.1 514 - 1 - (i : Int)) % 16)
  rw [hF.1 _ (hP _ (by unfold cPaI; omega)), hF.1 _ (hP _ (by unfold cPaI; omega)), hF.1 _ (hP _ (by unfold cPaI; omega)), hF.2 _ (hP _ (by unfold cPaI; omega)), hF.2 _ (hP _ (by unfold cPaI; omega))]
  exact h.2.2.2 i m hm
def CS (M : zMem) (tr : Int → Int) (t : List Int) (s : Int × (Int → Int)) (fl : Int) (D : (Int → Int) × Lrn × Int) (u : Int × Int) (H : List Int × Int) (ps : List Mom) : Prop := cTr M tr ∧ cTp M t ∧ cSt M s ∧ cFl M fl ∧ cDk M D ∧ cFu M u ∧ cHe M H ∧ cPa M ps
def CSI (k : Nat) : Prop := cTrI k ∨ cTpI k ∨ cStI k ∨ cFlI k ∨ cDkI k ∨ cFuI k ∨ cHeI k ∨ cPaI k
theorem CS_fr {P : Nat → Prop} {M M' : zMem} {tr : Int → Int} {t : List Int} {s : Int × (Int → Int)} {fl : Int} {D : (Int → Int) × Lrn × Int} {u : Int × Int} {H : List Int × Int} {ps : List Mom} (h : CS M tr t s fl D u H ps) (hF : Fr P M M') (hP : ∀ k, CSI k → ¬ P k) : CS M' tr t s fl D u H ps := by
  obtain ⟨h1, h2, h3, h4, h5, h6, h7, h8⟩ := h
  exact ⟨cTr_fr h1 hF (fun k hk => hP k (Or.inl hk)), cTp_fr h2 hF (fun k hk => hP k (Or.inr (Or.inl hk))), cSt_fr h3 hF (fun k hk => hP k (Or.inr (Or.inr (Or.inl hk)))), cFl_fr h4 hF (fun k hk => hP k (Or.inr (Or.inr (Or.inr (Or.inl hk))))), cDk_fr h5 hF (fun k hk => hP k (Or.inr (Or.inr (Or.inr (Or.inr (Or.inl hk)))))), cFu_fr h6 hF (fun k hk => hP k (Or.inr (Or.inr (Or.inr (Or.inr (Or.inr (Or.inl hk))))))), cHe_fr h7 hF (fun k hk => hP k (Or.inr (Or.inr (Or.inr (Or.inr (Or.inr (Or.inr (Or.inl hk)))))))), cPa_fr h8 hF (fun k hk => hP k (Or.inr (Or.inr (Or.inr (Or.inr (Or.inr (Or.inr (Or.inr (hk)))))))))⟩
theorem CS_Tr {P : Nat → Prop} {M M' : zMem} {tr : Int → Int} {t : List Int} {s : Int × (Int → Int)} {fl : Int} {D : (Int → Int) × Lrn × Int} {u : Int × Int} {H : List Int × Int} {ps : List Mom} {tr' : Int → Int} (h : CS M tr t s fl D u H ps) (hF : Fr P M M') (hP : ∀ k, CSI k → P k → cTrI k) (hn : cTr M' tr') : CS M' tr' t s fl D u H ps := by
  obtain ⟨h1, h2, h3, h4, h5, h6, h7, h8⟩ := h
  exact ⟨hn, cTp_fr h2 hF (fun k hk hk2 => by have := hP k (Or.inr (Or.inl hk)) hk2; unfold cTpI at hk; unfold cTrI at this; omega), cSt_fr h3 hF (fun k hk hk2 => by have := hP k (Or.inr (Or.inr (Or.inl hk))) hk2; unfold cStI at hk; unfold cTrI at this; omega), cFl_fr h4 hF (fun k hk hk2 => by have := hP k (Or.inr (Or.inr (Or.inr (Or.inl hk)))) hk2; unfold cFlI at hk; unfold cTrI at this; omega), cDk_fr h5 hF (fun k hk hk2 => by have := hP k (Or.inr (Or.inr (Or.inr (Or.inr (Or.inl hk))))) hk2; unfold cDkI at hk; unfold cTrI at this; omega), cFu_fr h6 hF (fun k hk hk2 => by have := hP k (Or.inr (Or.inr (Or.inr (Or.inr (Or.inr (Or.inl hk)))))) hk2; unfold cFuI at hk; unfold cTrI at this; omega), cHe_fr h7 hF (fun k hk hk2 => by have := hP k (Or.inr (Or.inr (Or.inr (Or.inr (Or.inr (Or.inr (Or.inl hk))))))) hk2; unfold cHeI at hk; unfold cTrI at this; omega), cPa_fr h8 hF (fun k hk hk2 => by have := hP k (Or.inr (Or.inr (Or.inr (Or.inr (Or.inr (Or.inr (Or.inr (hk)))))))) hk2; unfold cPaI at hk; unfold cTrI at this; omega)⟩
theorem CS_Tp {P : Nat → Prop} {M M' : zMem} {tr : Int → Int} {t : List Int} {s : Int × (Int → Int)} {fl : Int} {D : (Int → Int) × Lrn × Int} {u : Int × Int} {H : List Int × Int} {ps : List Mom} {t' : List Int} (h : CS M tr t s fl D u H ps) (hF : Fr P M M') (hP : ∀ k, CSI k → P k → cTpI k) (hn : cTp M' t') : CS M' tr t' s fl D u H ps := by
  obtain ⟨h1, h2, h3, h4, h5, h6, h7, h8⟩ := h
  exact ⟨cTr_fr h1 hF (fun k hk hk2 => by have := hP k (Or.inl hk) hk2; unfold cTrI at hk; unfold cTpI at this; omega), hn, cSt_fr h3 hF (fun k hk hk2 => by have := hP k (Or.inr (Or.inr (Or.inl hk))) hk2; unfold cStI at hk; unfold cTpI at this; omega), cFl_fr h4 hF (fun k hk hk2 => by have := hP k (Or.inr (Or.inr (Or.inr (Or.inl hk)))) hk2; unfold cFlI at hk; unfold cTpI at this; omega), cDk_fr h5 hF (fun k hk hk2 => by have := hP k (Or.inr (Or.inr (Or.inr (Or.inr (Or.inl hk))))) hk2; unfold cDkI at hk; unfold cTpI at this; omega), cFu_fr h6 hF (fun k hk hk2 => by have := hP k (Or.inr (Or.inr (Or.inr (Or.inr (Or.inr (Or.inl hk)))))) hk2; unfold cFuI at hk; unfold cTpI at this; omega), cHe_fr h7 hF (fun k hk hk2 => by have := hP k (Or.inr (Or.inr (Or.inr (Or.inr (Or.inr (Or.inr (Or.inl hk))))))) hk2; unfold cHeI at hk; unfold cTpI at this; omega), cPa_fr h8 hF (fun k hk hk2 => by have := hP k (Or.inr (Or.inr (Or.inr (Or.inr (Or.inr (Or.inr (Or.inr (hk)))))))) hk2; unfold cPaI at hk; unfold cTpI at this; omega)⟩
theorem CS_St {P : Nat → Prop} {M M' : zMem} {tr : Int → Int} {t : List Int} {s : Int × (Int → Int)} {fl : Int} {D : (Int → Int) × Lrn × Int} {u : Int × Int} {H : List Int × Int} {ps : List Mom} {s' : Int × (Int → Int)} (h : CS M tr t s fl D u H ps) (hF : Fr P M M') (hP : ∀ k, CSI k → P k → cStI k) (hn : cSt M' s') : CS M' tr t s' fl D u H ps := by
  obtain ⟨h1, h2, h3, h4, h5, h6, h7, h8⟩ := h
  exact ⟨cTr_fr h1 hF (fun k hk hk2 => by have := hP k (Or.inl hk) hk2; unfold cTrI at hk; unfold cStI at this; omega), cTp_fr h2 hF (fun k hk hk2 => by have := hP k (Or.inr (Or.inl hk)) hk2; unfold cTpI at hk; unfold cStI at this; omega), hn, cFl_fr h4 hF (fun k hk hk2 => by have := hP k (Or.inr (Or.inr (Or.inr (Or.inl hk)))) hk2; unfold cFlI at hk; unfold cStI at this; omega), cDk_fr h5 hF (fun k hk hk2 => by have := hP k (Or.inr (Or.inr (Or.inr (Or.inr (Or.inl hk))))) hk2; unfold cDkI at hk; unfold cStI at this; omega), cFu_fr h6 hF (fun k hk hk2 => by have := hP k (Or.inr (Or.inr (Or.inr (Or.inr (Or.inr (Or.inl hk)))))) hk2; unfold cFuI at hk; unfold cStI at this; omega), cHe_fr h7 hF (fun k hk hk2 => by have := hP k (Or.inr (Or.inr (Or.inr (Or.inr (Or.inr (Or.inr (Or.inl hk))))))) hk2; unfold cHeI at hk; unfold cStI at this; omega), cPa_fr h8 hF (fun k hk hk2 => by have := hP k (Or.inr (Or.inr (Or.inr (Or.inr (Or.inr (Or.inr (Or.inr (hk)))))))) hk2; unfold cPaI at hk; unfold cStI at this; omega)⟩
theorem CS_Fl {P : Nat → Prop} {M M' : zMem} {tr : Int → Int} {t : List Int} {s : Int × (Int → Int)} {fl : Int} {D : (Int → Int) × Lrn × Int} {u : Int × Int} {H : List Int × Int} {ps : List Mom} {fl' : Int} (h : CS M tr t s fl D u H ps) (hF : Fr P M M') (hP : ∀ k, CSI k → P k → cFlI k) (hn : cFl M' fl') : CS M' tr t s fl' D u H ps := by
  obtain ⟨h1, h2, h3, h4, h5, h6, h7, h8⟩ := h
  exact ⟨cTr_fr h1 hF (fun k hk hk2 => by have := hP k (Or.inl hk) hk2; unfold cTrI at hk; unfold cFlI at this; omega), cTp_fr h2 hF (fun k hk hk2 => by have := hP k (Or.inr (Or.inl hk)) hk2; unfold cTpI at hk; unfold cFlI at this; omega), cSt_fr h3 hF (fun k hk hk2 => by have := hP k (Or.inr (Or.inr (Or.inl hk))) hk2; unfold cStI at hk; unfold cFlI at this; omega), hn, cDk_fr h5 hF (fun k hk hk2 => by have := hP k (Or.inr (Or.inr (Or.inr (Or.inr (Or.inl hk))))) hk2; unfold cDkI at hk; unfold cFlI at this; omega), cFu_fr h6 hF (fun k hk hk2 => by have := hP k (Or.inr (Or.inr (Or.inr (Or.inr (Or.inr (Or.inl hk)))))) hk2; unfold cFuI at hk; unfold cFlI at this; omega), cHe_fr h7 hF (fun k hk hk2 => by have := hP k (Or.inr (Or.inr (Or.inr (Or.inr (Or.inr (Or.inr (Or.inl hk))))))) hk2; unfold cHeI at hk; unfold cFlI at this; omega), cPa_fr h8 hF (fun k hk hk2 => by have := hP k (Or.inr (Or.inr (Or.inr (Or.inr (Or.inr (Or.inr (Or.inr (hk)))))))) hk2; unfold cPaI at hk; unfold cFlI at this; omega)⟩
theorem CS_Dk {P : Nat → Prop} {M M' : zMem} {tr : Int → Int} {t : List Int} {s : Int × (Int → Int)} {fl : Int} {D : (Int → Int) × Lrn × Int} {u : Int × Int} {H : List Int × Int} {ps : List Mom} {D' : (Int → Int) × Lrn × Int} (h : CS M tr t s fl D u H ps) (hF : Fr P M M') (hP : ∀ k, CSI k → P k → cDkI k) (hn : cDk M' D') : CS M' tr t s fl D' u H ps := by
  obtain ⟨h1, h2, h3, h4, h5, h6, h7, h8⟩ := h
  exact ⟨cTr_fr h1 hF (fun k hk hk2 => by have := hP k (Or.inl hk) hk2; unfold cTrI at hk; unfold cDkI at this; omega), cTp_fr h2 hF (fun k hk hk2 => by have := hP k (Or.inr (Or.inl hk)) hk2; unfold cTpI at hk; unfold cDkI at this; omega), cSt_fr h3 hF (fun k hk hk2 => by have := hP k (Or.inr (Or.inr (Or.inl hk))) hk2; unfold cStI at hk; unfold cDkI at this; omega), cFl_fr h4 hF (fun k hk hk2 => by have := hP k (Or.inr (Or.inr (Or.inr (Or.inl hk)))) hk2; unfold cFlI at hk; unfold cDkI at this; omega), hn, cFu_fr h6 hF (fun k hk hk2 => by have := hP k (Or.inr (Or.inr (Or.inr (Or.inr (Or.inr (Or.inl hk)))))) hk2; unfold cFuI at hk; unfold cDkI at this; omega), cHe_fr h7 hF (fun k hk hk2 => by have := hP k (Or.inr (Or.inr (Or.inr (Or.inr (Or.inr (Or.inr (Or.inl hk))))))) hk2; unfold cHeI at hk; unfold cDkI at this; omega), cPa_fr h8 hF (fun k hk hk2 => by have := hP k (Or.inr (Or.inr (Or.inr (Or.inr (Or.inr (Or.inr (Or.inr (hk)))))))) hk2; unfold cPaI at hk; unfold cDkI at this; omega)⟩
theorem CS_Fu {P : Nat → Prop} {M M' : zMem} {tr : Int → Int} {t : List Int} {s : Int × (Int → Int)} {fl : Int} {D : (Int → Int) × Lrn × Int} {u : Int × Int} {H : List Int × Int} {ps : List Mom} {u' : Int × Int} (h : CS M tr t s fl D u H ps) (hF : Fr P M M') (hP : ∀ k, CSI k → P k → cFuI k) (hn : cFu M' u') : CS M' tr t s fl D u' H ps := by
  obtain ⟨h1, h2, h3, h4, h5, h6, h7, h8⟩ := h
  exact ⟨cTr_fr h1 hF (fun k hk hk2 => by have := hP k (Or.inl hk) hk2; unfold cTrI at hk; unfold cFuI at this; omega), cTp_fr h2 hF (fun k hk hk2 => by have := hP k (Or.inr (Or.inl hk)) hk2; unfold cTpI at hk; unfold cFuI at this; omega), cSt_fr h3 hF (fun k hk hk2 => by have := hP k (Or.inr (Or.inr (Or.inl hk))) hk2; unfold cStI at hk; unfold cFuI at this; omega), cFl_fr h4 hF (fun k hk hk2 => by have := hP k (Or.inr (Or.inr (Or.inr (Or.inl hk)))) hk2; unfold cFlI at hk; unfold cFuI at this; omega), cDk_fr h5 hF (fun k hk hk2 => by have := hP k (Or.inr (Or.inr (Or.inr (Or.inr (Or.inl hk))))) hk2; unfold cDkI at hk; unfold cFuI at this; omega), hn, cHe_fr h7 hF (fun k hk hk2 => by have := hP k (Or.inr (Or.inr (Or.inr (Or.inr (Or.inr (Or.inr (Or.inl hk))))))) hk2; unfold cHeI at hk; unfold cFuI at this; omega), cPa_fr h8 hF (fun k hk hk2 => by have := hP k (Or.inr (Or.inr (Or.inr (Or.inr (Or.inr (Or.inr (Or.inr (hk)))))))) hk2; unfold cPaI at hk; unfold cFuI at this; omega)⟩
theorem CS_He {P : Nat → Prop} {M M' : zMem} {tr : Int → Int} {t : List Int} {s : Int × (Int → Int)} {fl : Int} {D : (Int → Int) × Lrn × Int} {u : Int × Int} {H : List Int × Int} {ps : List Mom} {H' : List Int × Int} (h : CS M tr t s fl D u H ps) (hF : Fr P M M') (hP : ∀ k, CSI k → P k → cHeI k) (hn : cHe M' H') : CS M' tr t s fl D u H' ps := by
  obtain ⟨h1, h2, h3, h4, h5, h6, h7, h8⟩ := h
  exact ⟨cTr_fr h1 hF (fun k hk hk2 => by have := hP k (Or.inl hk) hk2; unfold cTrI at hk; unfold cHeI at this; omega), cTp_fr h2 hF (fun k hk hk2 => by have := hP k (Or.inr (Or.inl hk)) hk2; unfold cTpI at hk; unfold cHeI at this; omega), cSt_fr h3 hF (fun k hk hk2 => by have := hP k (Or.inr (Or.inr (Or.inl hk))) hk2; unfold cStI at hk; unfold cHeI at this; omega), cFl_fr h4 hF (fun k hk hk2 => by have := hP k (Or.inr (Or.inr (Or.inr (Or.inl hk)))) hk2; unfold cFlI at hk; unfold cHeI at this; omega), cDk_fr h5 hF (fun k hk hk2 => by have := hP k (Or.inr (Or.inr (Or.inr (Or.inr (Or.inl hk))))) hk2; unfold cDkI at hk; unfold cHeI at this; omega), cFu_fr h6 hF (fun k hk hk2 => by have := hP k (Or.inr (Or.inr (Or.inr (Or.inr (Or.inr (Or.inl hk)))))) hk2; unfold cFuI at hk; unfold cHeI at this; omega), hn, cPa_fr h8 hF (fun k hk hk2 => by have := hP k (Or.inr (Or.inr (Or.inr (Or.inr (Or.inr (Or.inr (Or.inr (hk)))))))) hk2; unfold cPaI at hk; unfold cHeI at this; omega)⟩
theorem CS_Pa {P : Nat → Prop} {M M' : zMem} {tr : Int → Int} {t : List Int} {s : Int × (Int → Int)} {fl : Int} {D : (Int → Int) × Lrn × Int} {u : Int × Int} {H : List Int × Int} {ps : List Mom} {ps' : List Mom} (h : CS M tr t s fl D u H ps) (hF : Fr P M M') (hP : ∀ k, CSI k → P k → cPaI k) (hn : cPa M' ps') : CS M' tr t s fl D u H ps' := by
  obtain ⟨h1, h2, h3, h4, h5, h6, h7, h8⟩ := h
  exact ⟨cTr_fr h1 hF (fun k hk hk2 => by have := hP k (Or.inl hk) hk2; unfold cTrI at hk; unfold cPaI at this; omega), cTp_fr h2 hF (fun k hk hk2 => by have := hP k (Or.inr (Or.inl hk)) hk2; unfold cTpI at hk; unfold cPaI at this; omega), cSt_fr h3 hF (fun k hk hk2 => by have := hP k (Or.inr (Or.inr (Or.inl hk))) hk2; unfold cStI at hk; unfold cPaI at this; omega), cFl_fr h4 hF (fun k hk hk2 => by have := hP k (Or.inr (Or.inr (Or.inr (Or.inl hk)))) hk2; unfold cFlI at hk; unfold cPaI at this; omega), cDk_fr h5 hF (fun k hk hk2 => by have := hP k (Or.inr (Or.inr (Or.inr (Or.inr (Or.inl hk))))) hk2; unfold cDkI at hk; unfold cPaI at this; omega), cFu_fr h6 hF (fun k hk hk2 => by have := hP k (Or.inr (Or.inr (Or.inr (Or.inr (Or.inr (Or.inl hk)))))) hk2; unfold cFuI at hk; unfold cPaI at this; omega), cHe_fr h7 hF (fun k hk hk2 => by have := hP k (Or.inr (Or.inr (Or.inr (Or.inr (Or.inr (Or.inr (Or.inl hk))))))) hk2; unfold cHeI at hk; unfold cPaI at this; omega), hn⟩
def rTr (M : zMem) (tr : Int → Int) : Prop := agT (M.2 579) tr ∧ ∀ j, 0 ≤ j → j < 5 → M.2 580 j = zTL j ∧ M.2 581 j = zTH j
def rTrI (k : Nat) : Prop := k = 579 ∨ k = 580 ∨ k = 581
theorem rTr_fr {P : Nat → Prop} {M M' : zMem} {tr : Int → Int} (h : rTr M tr) (hF : Fr P M M') (hP : ∀ k, rTrI k → ¬ P k) : rTr M' tr := by
  unfold rTr at h ⊢
  rw [hF.2 579 (hP 579 (by unfold rTrI; omega)), hF.2 580 (hP 580 (by unfold rTrI; omega)), hF.2 581 (hP 581 (by unfold rTrI; omega))]
  exact h
def rTp (M : zMem) (t : List Int) : Prop := M.1 585 = t.length ∧ AL (M.2 584) 0 t
def rTpI (k : Nat) : Prop := k = 584 ∨ k = 585
theorem rTp_fr {P : Nat → Prop} {M M' : zMem} {t : List Int} (h : rTp M t) (hF : Fr P M M') (hP : ∀ k, rTpI k → ¬ P k) : rTp M' t := by
  unfold rTp at h ⊢
  rw [hF.1 585 (hP 585 (by unfold rTpI; omega)), hF.2 584 (hP 584 (by unfold rTpI; omega))]
  exact h
def rSt (M : zMem) (s : Int × (Int → Int)) : Prop := M.1 577 = s.1 ∧ ∀ j, 0 ≤ j → j < 7 → M.2 578 (j + 1) = s.2 j
def rStI (k : Nat) : Prop := k = 577 ∨ k = 578
theorem rSt_fr {P : Nat → Prop} {M M' : zMem} {s : Int × (Int → Int)} (h : rSt M s) (hF : Fr P M M') (hP : ∀ k, rStI k → ¬ P k) : rSt M' s := by
  unfold rSt at h ⊢
  rw [hF.1 577 (hP 577 (by unfold rStI; omega)), hF.2 578 (hP 578 (by unfold rStI; omega))]
  exact h
def rFl (M : zMem) (fl : Int) : Prop := M.1 586 = fl
def rFlI (k : Nat) : Prop := k = 586
theorem rFl_fr {P : Nat → Prop} {M M' : zMem} {fl : Int} (h : rFl M fl) (hF : Fr P M M') (hP : ∀ k, rFlI k → ¬ P k) : rFl M' fl := by
  unfold rFl at h ⊢
  rw [hF.1 586 (hP 586 (by unfold rFlI; omega))]
  exact h
def rDk (M : zMem) (D : (Int → Int) × Lrn × Int) : Prop := agD (rv M) D.1 ∧ Lat (M.2 582) 661 D.2.1 ∧ M.2 582 665 = D.2.2
def rDkI (k : Nat) : Prop := k = 582
theorem rDk_fr {P : Nat → Prop} {M M' : zMem} {D : (Int → Int) × Lrn × Int} (h : rDk M D) (hF : Fr P M M') (hP : ∀ k, rDkI k → ¬ P k) : rDk M' D := by
  unfold rDk rv at h ⊢
  rw [hF.2 582 (hP 582 (by unfold rDkI; omega))]
  exact h
def rFu (M : zMem) (u : Int × Int) : Prop := M.1 587 = u.1 ∧ M.1 588 = u.2
def rFuI (k : Nat) : Prop := k = 587 ∨ k = 588
theorem rFu_fr {P : Nat → Prop} {M M' : zMem} {u : Int × Int} (h : rFu M u) (hF : Fr P M M') (hP : ∀ k, rFuI k → ¬ P k) : rFu M' u := by
  unfold rFu at h ⊢
  rw [hF.1 587 (hP 587 (by unfold rFuI; omega)), hF.1 588 (hP 588 (by unfold rFuI; omega))]
  exact h
def rHe (M : zMem) (H : List Int × Int) : Prop := HR M H.1 ∧ M.1 613 = H.2
def rHeI (k : Nat) : Prop := k = 611 ∨ k = 612 ∨ k = 613
theorem rHe_fr {P : Nat → Prop} {M M' : zMem} {H : List Int × Int} (h : rHe M H) (hF : Fr P M M') (hP : ∀ k, rHeI k → ¬ P k) : rHe M' H := by
  unfold rHe HR at h ⊢
  rw [hF.1 612 (hP 612 (by unfold rHeI; omega)), hF.1 613 (hP 613 (by unfold rHeI; omega)), hF.2 611 (hP 611 (by unfold rHeI; omega))]
  exact h
def rPa (M : zMem) (ps : List Mom) : Prop := PR M ps
def rPaI (k : Nat) : Prop := k = 607 ∨ k = 608 ∨ k = 609 ∨ k = 610
theorem rPa_fr {P : Nat → Prop} {M M' : zMem} {ps : List Mom} (h : rPa M ps) (hF : Fr P M M') (hP : ∀ k, rPaI k → ¬ P k) : rPa M' ps := by
  unfold rPa PR at h ⊢
  rw [hF.1 609 (hP 609 (by unfold rPaI; omega)), hF.1 610 (hP 610 (by unfold rPaI; omega)), hF.2 607 (hP 607 (by unfold rPaI; omega)), hF.2 608 (hP 608 (by unfold rPaI; omega))]
  exact h
def RT (M : zMem) (tr : Int → Int) (t : List Int) (s : Int × (Int → Int)) (fl : Int) (D : (Int → Int) × Lrn × Int) (u : Int × Int) (H : List Int × Int) (ps : List Mom) : Prop := rTr M tr ∧ rTp M t ∧ rSt M s ∧ rFl M fl ∧ rDk M D ∧ rFu M u ∧ rHe M H ∧ rPa M ps
def RTI (k : Nat) : Prop := rTrI k ∨ rTpI k ∨ rStI k ∨ rFlI k ∨ rDkI k ∨ rFuI k ∨ rHeI k ∨ rPaI k
theorem RT_fr {P : Nat → Prop} {M M' : zMem} {tr : Int → Int} {t : List Int} {s : Int × (Int → Int)} {fl : Int} {D : (Int → Int) × Lrn × Int} {u : Int × Int} {H : List Int × Int} {ps : List Mom} (h : RT M tr t s fl D u H ps) (hF : Fr P M M') (hP : ∀ k, RTI k → ¬ P k) : RT M' tr t s fl D u H ps := by
  obtain ⟨h1, h2, h3, h4, h5, h6, h7, h8⟩ := h
  exact ⟨rTr_fr h1 hF (fun k hk => hP k (Or.inl hk)), rTp_fr h2 hF (fun k hk => hP k (Or.inr (Or.inl hk))), rSt_fr h3 hF (fun k hk => hP k (Or.inr (Or.inr (Or.inl hk)))), rFl_fr h4 hF (fun k hk => hP k (Or.inr (Or.inr (Or.inr (Or.inl hk))))), rDk_fr h5 hF (fun k hk => hP k (Or.inr (Or.inr (Or.inr (Or.inr (Or.inl hk)))))), rFu_fr h6 hF (fun k hk => hP k (Or.inr (Or.inr (Or.inr (Or.inr (Or.inr (Or.inl hk))))))), rHe_fr h7 hF (fun k hk => hP k (Or.inr (Or.inr (Or.inr (Or.inr (Or.inr (Or.inr (Or.inl hk)))))))), rPa_fr h8 hF (fun k hk => hP k (Or.inr (Or.inr (Or.inr (Or.inr (Or.inr (Or.inr (Or.inr (hk)))))))))⟩
theorem RT_Tr {P : Nat → Prop} {M M' : zMem} {tr : Int → Int} {t : List Int} {s : Int × (Int → Int)} {fl : Int} {D : (Int → Int) × Lrn × Int} {u : Int × Int} {H : List Int × Int} {ps : List Mom} {tr' : Int → Int} (h : RT M tr t s fl D u H ps) (hF : Fr P M M') (hP : ∀ k, RTI k → P k → rTrI k) (hn : rTr M' tr') : RT M' tr' t s fl D u H ps := by
  obtain ⟨h1, h2, h3, h4, h5, h6, h7, h8⟩ := h
  exact ⟨hn, rTp_fr h2 hF (fun k hk hk2 => by have := hP k (Or.inr (Or.inl hk)) hk2; unfold rTpI at hk; unfold rTrI at this; omega), rSt_fr h3 hF (fun k hk hk2 => by have := hP k (Or.inr (Or.inr (Or.inl hk))) hk2; unfold rStI at hk; unfold rTrI at this; omega), rFl_fr h4 hF (fun k hk hk2 => by have := hP k (Or.inr (Or.inr (Or.inr (Or.inl hk)))) hk2; unfold rFlI at hk; unfold rTrI at this; omega), rDk_fr h5 hF (fun k hk hk2 => by have := hP k (Or.inr (Or.inr (Or.inr (Or.inr (Or.inl hk))))) hk2; unfold rDkI at hk; unfold rTrI at this; omega), rFu_fr h6 hF (fun k hk hk2 => by have := hP k (Or.inr (Or.inr (Or.inr (Or.inr (Or.inr (Or.inl hk)))))) hk2; unfold rFuI at hk; unfold rTrI at this; omega), rHe_fr h7 hF (fun k hk hk2 => by have := hP k (Or.inr (Or.inr (Or.inr (Or.inr (Or.inr (Or.inr (Or.inl hk))))))) hk2; unfold rHeI at hk; unfold rTrI at this; omega), rPa_fr h8 hF (fun k hk hk2 => by have := hP k (Or.inr (Or.inr (Or.inr (Or.inr (Or.inr (Or.inr (Or.inr (hk)))))))) hk2; unfold rPaI at hk; unfold rTrI at this; omega)⟩
theorem RT_Tp {P : Nat → Prop} {M M' : zMem} {tr : Int → Int} {t : List Int} {s : Int × (Int → Int)} {fl : Int} {D : (Int → Int) × Lrn × Int} {u : Int × Int} {H : List Int × Int} {ps : List Mom} {t' : List Int} (h : RT M tr t s fl D u H ps) (hF : Fr P M M') (hP : ∀ k, RTI k → P k → rTpI k) (hn : rTp M' t') : RT M' tr t' s fl D u H ps := by
  obtain ⟨h1, h2, h3, h4, h5, h6, h7, h8⟩ := h
  exact ⟨rTr_fr h1 hF (fun k hk hk2 => by have := hP k (Or.inl hk) hk2; unfold rTrI at hk; unfold rTpI at this; omega), hn, rSt_fr h3 hF (fun k hk hk2 => by have := hP k (Or.inr (Or.inr (Or.inl hk))) hk2; unfold rStI at hk; unfold rTpI at this; omega), rFl_fr h4 hF (fun k hk hk2 => by have := hP k (Or.inr (Or.inr (Or.inr (Or.inl hk)))) hk2; unfold rFlI at hk; unfold rTpI at this; omega), rDk_fr h5 hF (fun k hk hk2 => by have := hP k (Or.inr (Or.inr (Or.inr (Or.inr (Or.inl hk))))) hk2; unfold rDkI at hk; unfold rTpI at this; omega), rFu_fr h6 hF (fun k hk hk2 => by have := hP k (Or.inr (Or.inr (Or.inr (Or.inr (Or.inr (Or.inl hk)))))) hk2; unfold rFuI at hk; unfold rTpI at this; omega), rHe_fr h7 hF (fun k hk hk2 => by have := hP k (Or.inr (Or.inr (Or.inr (Or.inr (Or.inr (Or.inr (Or.inl hk))))))) hk2; unfold rHeI at hk; unfold rTpI at this; omega), rPa_fr h8 hF (fun k hk hk2 => by have := hP k (Or.inr (Or.inr (Or.inr (Or.inr (Or.inr (Or.inr (Or.inr (hk)))))))) hk2; unfold rPaI at hk; unfold rTpI at this; omega)⟩
theorem RT_St {P : Nat → Prop} {M M' : zMem} {tr : Int → Int} {t : List Int} {s : Int × (Int → Int)} {fl : Int} {D : (Int → Int) × Lrn × Int} {u : Int × Int} {H : List Int × Int} {ps : List Mom} {s' : Int × (Int → Int)} (h : RT M tr t s fl D u H ps) (hF : Fr P M M') (hP : ∀ k, RTI k → P k → rStI k) (hn : rSt M' s') : RT M' tr t s' fl D u H ps := by
  obtain ⟨h1, h2, h3, h4, h5, h6, h7, h8⟩ := h
  exact ⟨rTr_fr h1 hF (fun k hk hk2 => by have := hP k (Or.inl hk) hk2; unfold rTrI at hk; unfold rStI at this; omega), rTp_fr h2 hF (fun k hk hk2 => by have := hP k (Or.inr (Or.inl hk)) hk2; unfold rTpI at hk; unfold rStI at this; omega), hn, rFl_fr h4 hF (fun k hk hk2 => by have := hP k (Or.inr (Or.inr (Or.inr (Or.inl hk)))) hk2; unfold rFlI at hk; unfold rStI at this; omega), rDk_fr h5 hF (fun k hk hk2 => by have := hP k (Or.inr (Or.inr (Or.inr (Or.inr (Or.inl hk))))) hk2; unfold rDkI at hk; unfold rStI at this; omega), rFu_fr h6 hF (fun k hk hk2 => by have := hP k (Or.inr (Or.inr (Or.inr (Or.inr (Or.inr (Or.inl hk)))))) hk2; unfold rFuI at hk; unfold rStI at this; omega), rHe_fr h7 hF (fun k hk hk2 => by have := hP k (Or.inr (Or.inr (Or.inr (Or.inr (Or.inr (Or.inr (Or.inl hk))))))) hk2; unfold rHeI at hk; unfold rStI at this; omega), rPa_fr h8 hF (fun k hk hk2 => by have := hP k (Or.inr (Or.inr (Or.inr (Or.inr (Or.inr (Or.inr (Or.inr (hk)))))))) hk2; unfold rPaI at hk; unfold rStI at this; omega)⟩
theorem RT_Fl {P : Nat → Prop} {M M' : zMem} {tr : Int → Int} {t : List Int} {s : Int × (Int → Int)} {fl : Int} {D : (Int → Int) × Lrn × Int} {u : Int × Int} {H : List Int × Int} {ps : List Mom} {fl' : Int} (h : RT M tr t s fl D u H ps) (hF : Fr P M M') (hP : ∀ k, RTI k → P k → rFlI k) (hn : rFl M' fl') : RT M' tr t s fl' D u H ps := by
  obtain ⟨h1, h2, h3, h4, h5, h6, h7, h8⟩ := h
  exact ⟨rTr_fr h1 hF (fun k hk hk2 => by have := hP k (Or.inl hk) hk2; unfold rTrI at hk; unfold rFlI at this; omega), rTp_fr h2 hF (fun k hk hk2 => by have := hP k (Or.inr (Or.inl hk)) hk2; unfold rTpI at hk; unfold rFlI at this; omega), rSt_fr h3 hF (fun k hk hk2 => by have := hP k (Or.inr (Or.inr (Or.inl hk))) hk2; unfold rStI at hk; unfold rFlI at this; omega), hn, rDk_fr h5 hF (fun k hk hk2 => by have := hP k (Or.inr (Or.inr (Or.inr (Or.inr (Or.inl hk))))) hk2; unfold rDkI at hk; unfold rFlI at this; omega), rFu_fr h6 hF (fun k hk hk2 => by have := hP k (Or.inr (Or.inr (Or.inr (Or.inr (Or.inr (Or.inl hk)))))) hk2; unfold rFuI at hk; unfold rFlI at this; omega), rHe_fr h7 hF (fun k hk hk2 => by have := hP k (Or.inr (Or.inr (Or.inr (Or.inr (Or.inr (Or.inr (Or.inl hk))))))) hk2; unfold rHeI at hk; unfold rFlI at this; omega), rPa_fr h8 hF (fun k hk hk2 => by have := hP k (Or.inr (Or.inr (Or.inr (Or.inr (Or.inr (Or.inr (Or.inr (hk)))))))) hk2; unfold rPaI at hk; unfold rFlI at this; omega)⟩
theorem RT_Dk {P : Nat → Prop} {M M' : zMem} {tr : Int → Int} {t : List Int} {s : Int × (Int → Int)} {fl : Int} {D : (Int → Int) × Lrn × Int} {u : Int × Int} {H : List Int × Int} {ps : List Mom} {D' : (Int → Int) × Lrn × Int} (h : RT M tr t s fl D u H ps) (hF : Fr P M M') (hP : ∀ k, RTI k → P k → rDkI k) (hn : rDk M' D') : RT M' tr t s fl D' u H ps := by
  obtain ⟨h1, h2, h3, h4, h5, h6, h7, h8⟩ := h
  exact ⟨rTr_fr h1 hF (fun k hk hk2 => by have := hP k (Or.inl hk) hk2; unfold rTrI at hk; unfold rDkI at this; omega), rTp_fr h2 hF (fun k hk hk2 => by have := hP k (Or.inr (Or.inl hk)) hk2; unfold rTpI at hk; unfold rDkI at this; omega), rSt_fr h3 hF (fun k hk hk2 => by have := hP k (Or.inr (Or.inr (Or.inl hk))) hk2; unfold rStI at hk; unfold rDkI at this; omega), rFl_fr h4 hF (fun k hk hk2 => by have := hP k (Or.inr (Or.inr (Or.inr (Or.inl hk)))) hk2; unfold rFlI at hk; unfold rDkI at this; omega), hn, rFu_fr h6 hF (fun k hk hk2 => by have := hP k (Or.inr (Or.inr (Or.inr (Or.inr (Or.inr (Or.inl hk)))))) hk2; unfold rFuI at hk; unfold rDkI at this; omega), rHe_fr h7 hF (fun k hk hk2 => by have := hP k (Or.inr (Or.inr (Or.inr (Or.inr (Or.inr (Or.inr (Or.inl hk))))))) hk2; unfold rHeI at hk; unfold rDkI at this; omega), rPa_fr h8 hF (fun k hk hk2 => by have := hP k (Or.inr (Or.inr (Or.inr (Or.inr (Or.inr (Or.inr (Or.inr (hk)))))))) hk2; unfold rPaI at hk; unfold rDkI at this; omega)⟩
theorem RT_Fu {P : Nat → Prop} {M M' : zMem} {tr : Int → Int} {t : List Int} {s : Int × (Int → Int)} {fl : Int} {D : (Int → Int) × Lrn × Int} {u : Int × Int} {H : List Int × Int} {ps : List Mom} {u' : Int × Int} (h : RT M tr t s fl D u H ps) (hF : Fr P M M') (hP : ∀ k, RTI k → P k → rFuI k) (hn : rFu M' u') : RT M' tr t s fl D u' H ps := by
  obtain ⟨h1, h2, h3, h4, h5, h6, h7, h8⟩ := h
  exact ⟨rTr_fr h1 hF (fun k hk hk2 => by have := hP k (Or.inl hk) hk2; unfold rTrI at hk; unfold rFuI at this; omega), rTp_fr h2 hF (fun k hk hk2 => by have := hP k (Or.inr (Or.inl hk)) hk2; unfold rTpI at hk; unfold rFuI at this; omega), rSt_fr h3 hF (fun k hk hk2 => by have := hP k (Or.inr (Or.inr (Or.inl hk))) hk2; unfold rStI at hk; unfold rFuI at this; omega), rFl_fr h4 hF (fun k hk hk2 => by have := hP k (Or.inr (Or.inr (Or.inr (Or.inl hk)))) hk2; unfold rFlI at hk; unfold rFuI at this; omega), rDk_fr h5 hF (fun k hk hk2 => by have := hP k (Or.inr (Or.inr (Or.inr (Or.inr (Or.inl hk))))) hk2; unfold rDkI at hk; unfold rFuI at this; omega), hn, rHe_fr h7 hF (fun k hk hk2 => by have := hP k (Or.inr (Or.inr (Or.inr (Or.inr (Or.inr (Or.inr (Or.inl hk))))))) hk2; unfold rHeI at hk; unfold rFuI at this; omega), rPa_fr h8 hF (fun k hk hk2 => by have := hP k (Or.inr (Or.inr (Or.inr (Or.inr (Or.inr (Or.inr (Or.inr (hk)))))))) hk2; unfold rPaI at hk; unfold rFuI at this; omega)⟩
theorem RT_He {P : Nat → Prop} {M M' : zMem} {tr : Int → Int} {t : List Int} {s : Int × (Int → Int)} {fl : Int} {D : (Int → Int) × Lrn × Int} {u : Int × Int} {H : List Int × Int} {ps : List Mom} {H' : List Int × Int} (h : RT M tr t s fl D u H ps) (hF : Fr P M M') (hP : ∀ k, RTI k → P k → rHeI k) (hn : rHe M' H') : RT M' tr t s fl D u H' ps := by
  obtain ⟨h1, h2, h3, h4, h5, h6, h7, h8⟩ := h
  exact ⟨rTr_fr h1 hF (fun k hk hk2 => by have := hP k (Or.inl hk) hk2; unfold rTrI at hk; unfold rHeI at this; omega), rTp_fr h2 hF (fun k hk hk2 => by have := hP k (Or.inr (Or.inl hk)) hk2; unfold rTpI at hk; unfold rHeI at this; omega), rSt_fr h3 hF (fun k hk hk2 => by have := hP k (Or.inr (Or.inr (Or.inl hk))) hk2; unfold rStI at hk; unfold rHeI at this; omega), rFl_fr h4 hF (fun k hk hk2 => by have := hP k (Or.inr (Or.inr (Or.inr (Or.inl hk)))) hk2; unfold rFlI at hk; unfold rHeI at this; omega), rDk_fr h5 hF (fun k hk hk2 => by have := hP k (Or.inr (Or.inr (Or.inr (Or.inr (Or.inl hk))))) hk2; unfold rDkI at hk; unfold rHeI at this; omega), rFu_fr h6 hF (fun k hk hk2 => by have := hP k (Or.inr (Or.inr (Or.inr (Or.inr (Or.inr (Or.inl hk)))))) hk2; unfold rFuI at hk; unfold rHeI at this; omega), hn, rPa_fr h8 hF (fun k hk hk2 => by have := hP k (Or.inr (Or.inr (Or.inr (Or.inr (Or.inr (Or.inr (Or.inr (hk)))))))) hk2; unfold rPaI at hk; unfold rHeI at this; omega)⟩
theorem RT_Pa {P : Nat → Prop} {M M' : zMem} {tr : Int → Int} {t : List Int} {s : Int × (Int → Int)} {fl : Int} {D : (Int → Int) × Lrn × Int} {u : Int × Int} {H : List Int × Int} {ps : List Mom} {ps' : List Mom} (h : RT M tr t s fl D u H ps) (hF : Fr P M M') (hP : ∀ k, RTI k → P k → rPaI k) (hn : rPa M' ps') : RT M' tr t s fl D u H ps' := by
  obtain ⟨h1, h2, h3, h4, h5, h6, h7, h8⟩ := h
  exact ⟨rTr_fr h1 hF (fun k hk hk2 => by have := hP k (Or.inl hk) hk2; unfold rTrI at hk; unfold rPaI at this; omega), rTp_fr h2 hF (fun k hk hk2 => by have := hP k (Or.inr (Or.inl hk)) hk2; unfold rTpI at hk; unfold rPaI at this; omega), rSt_fr h3 hF (fun k hk hk2 => by have := hP k (Or.inr (Or.inr (Or.inl hk))) hk2; unfold rStI at hk; unfold rPaI at this; omega), rFl_fr h4 hF (fun k hk hk2 => by have := hP k (Or.inr (Or.inr (Or.inr (Or.inl hk)))) hk2; unfold rFlI at hk; unfold rPaI at this; omega), rDk_fr h5 hF (fun k hk hk2 => by have := hP k (Or.inr (Or.inr (Or.inr (Or.inr (Or.inl hk))))) hk2; unfold rDkI at hk; unfold rPaI at this; omega), rFu_fr h6 hF (fun k hk hk2 => by have := hP k (Or.inr (Or.inr (Or.inr (Or.inr (Or.inr (Or.inl hk)))))) hk2; unfold rFuI at hk; unfold rPaI at this; omega), rHe_fr h7 hF (fun k hk hk2 => by have := hP k (Or.inr (Or.inr (Or.inr (Or.inr (Or.inr (Or.inr (Or.inl hk))))))) hk2; unfold rHeI at hk; unfold rPaI at this; omega), hn⟩
def OKS (N : Int) (tr : Int → Int) (t : List Int) (s : Int × (Int → Int)) (D : (Int → Int) × Lrn × Int) (u : Int × Int) (H : List Int × Int) (ps : List Mom) : Prop := trmOK tr ∧ (t.length ≤ 400 ∧ allB t) ∧ (∀ j, 0 ≤ j → j < 7 → 0 ≤ s.2 j ∧ s.2 j ≤ N) ∧ (DOK D.1 D.2.2 ∧ lrnOK D.2.1) ∧ (inR u.1 ∧ -1 ≤ u.1) ∧ ((H.1.length : Int) ≤ tr 4 ∧ 0 ≤ H.2 ∧ H.2 ≤ N) ∧ ∀ m ∈ ps, DOK m.2.2.1 m.2.1 ∧ lrnOK m.2.2.2
def Inv (N : Int) (M : zMem) : Prop := ∃ tr t s fl D u H ps, CS M tr t s fl D u H ps ∧ RT M tr t s fl D u H ps ∧ OKS N tr t s D u H ps
theorem OKS_mono {N N' : Int} {tr : Int → Int} {t : List Int} {s : Int × (Int → Int)} {D : (Int → Int) × Lrn × Int} {u : Int × Int} {H : List Int × Int} {ps : List Mom} (h : OKS N tr t s D u H ps) (hN : N ≤ N') : OKS N' tr t s D u H ps := by
  obtain ⟨h1, h2, h3, h4, h5, h6, h7⟩ := h
  exact ⟨h1, h2, fun j a b => by have := h3 j a b; omega, h4, h5, ⟨h6.1, h6.2.1, by have := h6.2.2; omega⟩, h7⟩
theorem Inv_mono {N N' : Int} {M : zMem} (h : Inv N M) (hN : N ≤ N') : Inv N' M := by
  obtain ⟨tr, t, s, fl, D, u, H, ps, h1, h2, h3⟩ := h
  exact ⟨tr, t, s, fl, D, u, H, ps, h1, h2, OKS_mono h3 hN⟩
theorem Inv_fr {N : Int} {P : Nat → Prop} {M M' : zMem} (h : Inv N M) (hF : Fr P M M') (hP : ∀ k, P k → ¬ CSI k ∧ ¬ RTI k) : Inv N M' := by
  obtain ⟨tr, t, s, fl, D, u, H, ps, h1, h2, h3⟩ := h
  exact ⟨tr, t, s, fl, D, u, H, ps, CS_fr h1 hF (fun k hk hp => (hP k hp).1 hk), RT_fr h2 hF (fun k hk hp => (hP k hp).2 hk), h3⟩
