theorem kp_mem {m x : Mom} {ps : List Mom} (h : m ∈ kpF x ps) : m = x ∨ m ∈ ps := by
  unfold kpF at h
  exact List.mem_cons.mp (take_mem h)
theorem fuN_ok {F : Int} {n : Nat} (hr : inR F) (h1 : -1 ≤ F) (hb : ¬ blw F n) : inR (fuN F n) ∧ -1 ≤ fuN F n := by
  have h2 := hr.2
  unfold fuN
  split
  · exact ⟨hr, h1⟩
  · exact ⟨inR_mk (by omega) (by omega), by omega⟩
section
variable {tr : Int → Int} {t : List Int} {s : Int × (Int → Int)} {fl : Int} {f : Int → Int} {L L' : Lrn} {u : Int × Int} {H : List Int × Int} {ps : List Mom}
theorem OKS_kp {N : Int} {act : Int} (hO : OKS N tr t s (f, L, 0) u H ps) : ∀ m ∈ kpF (act, 0, f, L) ps, DOK m.2.2.1 m.2.1 ∧ lrnOK m.2.2.2 := by
  intro m hm
  rcases kp_mem hm with h | h
  · rw [h]; exact hO.2.2.2.1
  · exact hO.2.2.2.2.2.2 m h
theorem OKS_b {N act : Int} {t' : List Int} {f' : Int → Int} {n : Nat} {un : Int} (hO : OKS N tr t s (f, L, 0) u H ps) (ht : t'.length ≤ 400 ∧ allB t') (hd : DOK f' 1) (hL : lrnOK L') (hu : 0 ≤ un ∧ un ≤ N + 1) : OKS (N + 1) tr t' s (f', L', 1) (-1, (n : Int)) ([], un) (kpF (act, 0, f, L) ps) := by
  obtain ⟨o1, o2, o3, o4, o5, o6, o7⟩ := OKS_mono hO (N' := N + 1) (by omega)
  have := o1.2.2.2.2
  exact ⟨o1, ht, o3, ⟨hd, hL⟩, ⟨(⟨by decide, by decide⟩ : inR (-1)), Int.le_refl _⟩, ⟨by show ((([] : List Int).length : Nat) : Int) ≤ _; rw [List.length_nil]; omega, hu⟩, OKS_kp hO⟩
theorem OKS_a {N act : Int} {t' : List Int} {f' : Int → Int} {h' : List Int} {n : Nat} {un : Int} (hO : OKS N tr t s (f, L, 0) u H ps) (ht : t'.length ≤ 400 ∧ allB t') (hd : DOK f' 0) (hL : lrnOK L') (hb : ¬ blw u.1 n) (hh : (h'.length : Int) ≤ tr 4) (hu : 0 ≤ un ∧ un ≤ N + 1) : OKS (N + 1) tr t' s (f', L', 0) (fuN u.1 n, (n : Int)) (h', un) (kpF (act, 0, f, L) ps) := by
  obtain ⟨o1, o2, o3, o4, o5, o6, o7⟩ := OKS_mono hO (N' := N + 1) (by omega)
  exact ⟨o1, ht, o3, ⟨hd, hL⟩, fuN_ok o5.1 o5.2 hb, ⟨hh, hu⟩, OKS_kp hO⟩
theorem rfS_ok {N v : Int} {D : (Int → Int) × Lrn × Int} (hv : -7 ≤ v ∧ v ≤ -1) (hs : ∀ j, 0 ≤ j → j < 7 → 0 ≤ s.2 j ∧ s.2 j ≤ N) (hO : OKS (N + 1) tr t s D u H ps) : OKS (N + 1) tr t (rfS v s) D u H ps := by
  obtain ⟨h1, h2, h3, h4, h5, h6, h7⟩ := hO
  refine ⟨h1, h2, fun j a b => ?_, h4, h5, h6, h7⟩
  show 0 ≤ upI s.2 (-1 - v) (s.2 (-1 - v) + 1) j ∧ upI s.2 (-1 - v) (s.2 (-1 - v) + 1) j ≤ N + 1
  have := hs j a b
  have := hs (-1 - v) (by omega) (by omega)
  unfold upI
  split <;> omega
end
-- an edit that is told alone: both
theorem ed_both {tr : Int → Int} {t : List Int} {s : Int × (Int → Int)} {fl : Int} {f : Int → Int} {L : Lrn} {d : Int} {u : Int × Int} {H : List Int × Int} {ps : List Mom} {key act N : Int} {e : List Int} {M : zMem} {TR : (Int → zMem → Prop) → zMem → Prop} (tape : Bool) (hta : (tape = true ↔ (act = 0 ∨ act = 1))) (hN : N ≤ 1000) (hC : CS M tr t s fl (f, L, d) u H ps) (hR : RT M tr t s fl (f, L, d) u H ps) (hO : OKS N tr t s (f, L, d) u H ps) (hA : AL (M.2 4) 0 e) (he : eOK e) (hkey : gi e 1 = key) (hact : 0 ≤ act ∧ act ≤ 3)
    (hT : ∀ (K : Int → zMem → Prop) (M3 : zMem), RT M3 tr t s fl (f, L, d) u H ps → (∀ M4, Fr (fun k => k = 576 ∨ k = 614) M3 M4 → AL (M4.2 614) 0 e → T_X10_alone act (fun y2 M5 => (tape = true → (0 ≤ y2 ∨ y2 = -7) → ∀ M6, M6 = setS M5 585 0 → K y2 M6) ∧ ((tape = false ∨ ¬ (0 ≤ y2 ∨ y2 = -7)) → K y2 M5)) M4) → TR K M3) :
    T_X9_editAlone key act (fun r M1 => TR (fun r' M2 => G N r r' M2) M1) M := by
  obtain ⟨lim, hlim, hl4, hlen⟩ := lim_ex hO
  have hs := hO.2.2.1
  have hg := hO.1
  have hLk : lrnOK L := hO.2.2.2.1.2
  have ho2 := hO.2.1
  have hh := hO.2.2.2.2.2.1
  have hx := isIx_ex (f (641 + 2 * od f key)) H.1
  have hn : 0 ≤ hldN H.1 (f (641 + 2 * od f key)) ∧ hldN H.1 (f (641 + 2 * od f key)) ≤ 1 := by unfold hldN; split <;> omega
  have hun : 0 ≤ (holdS lim H (f (641 + 2 * od f key))).2 ∧ (holdS lim H (f (641 + 2 * od f key))).2 ≤ N + 1 := by
    show 0 ≤ H.2 + hldN H.1 _ ∧ H.2 + hldN H.1 _ ≤ N + 1
    omega
  have hhl := hld_len (lim := lim) (p := f (641 + 2 * od f key)) hlen hl4.1 hx
  have ht' : (if act = 0 ∨ act = 1 then ([] : List Int) else t).length ≤ 400 ∧ allB (if act = 0 ∨ act = 1 then ([] : List Int) else t) := by
    split
    · exact ⟨by simp, allB_nil⟩
    · exact ho2
  have cl : ∀ {M1 : zMem}, Fr (fun k => k < 576 ∨ 1024 ≤ k) M M1 → RT M1 tr t s fl (f, L, d) u H ps := fun hF => RT_cl hR hF (fun k h => by omega)
  -- the end of the reference, the class being through
  have fin : ∀ {r : Int} {t1 t2 : List Int} {s1 : Int × (Int → Int)} {D1 : (Int → Int) × Lrn × Int} {u1 : Int × Int} {H1 : List Int × Int} {ps1 : List Mom} {M4 M5 : zMem}, CS M4 tr t1 s1 fl D1 u1 H1 ps1 → Fr (fun k => 576 ≤ k ∧ k < 640) M4 M5 → RT M5 tr t2 s1 fl D1 u1 H1 ps1 → (tape = true → (0 ≤ r ∨ r = -7) → t1 = []) → ((tape = false ∨ ¬ (0 ≤ r ∨ r = -7)) → t1 = t2) → OKS (N + 1) tr t1 s1 D1 u1 H1 ps1 → (tape = true → (0 ≤ r ∨ r = -7) → ∀ M6, M6 = setS M5 585 0 → G N r r M6) ∧ ((tape = false ∨ ¬ (0 ≤ r ∨ r = -7)) → G N r r M5) := by
    intro r t1 t2 s1 D1 u1 H1 ps1 M4 M5 hC4 hF5 hR5 e1 e2 hO5
    refine ⟨fun a b M6 hM6 => ?_, fun a => ?_⟩
    · have F6 : Fr (fun k => k = 585) M5 M6 := by rw [hM6]; exact Fr_setS rfl
      have := e1 a b
      subst this
      exact G_in (CS_rf (CS_rf hC4 hF5 (fun k h => h)) F6 (fun k h => by omega)) (RT_Tp hR5 F6 (fun k _ h => by unfold rTpI; omega) ⟨by rw [hM6]; rfl, AL_nil _ _⟩) hO5
    · have := e2 a
      subst this
      exact G_in (CS_rf hC4 hF5 (fun k h => h)) hR5 hO5
  have c614 : ∀ k, (k = 576 ∨ k = 614) → 576 ≤ k ∧ k < 640 := fun k h => by omega
  have r614 : ∀ k, (k = 576 ∨ k = 614) → k = 576 ∨ k = 583 ∨ (589 ≤ k ∧ k ≤ 606) ∨ k = 614 ∨ k = 615 := fun k h => by omega
  apply P_X9_editAlone hN hC hO hA he hkey hact hlim hl4
  · intro hdn M1 hF1 hC1
    apply hT _ M1 (cl hF1)
    intro M4 hF4 hA4
    have hR4 := RT_sc (cl hF1) hF4 r614
    have hC4 := CS_rf hC1 hF4 c614
    apply P_X10_alone hN hR4 hO hA4 he hkey hlim hl4
    · intro _ M5 hF5 hR5
      exact fin hC4 hF5 hR5 (fun _ h => by omega) (fun _ => rfl) (rfS_ok (by omega) hs (OKS_mono hO (by omega)))
    · intro h; exact absurd h hdn
    · intro h; exact absurd h hdn
    · intro h; exact absurd h hdn
  · intro hdn hx hneg M1 hF1 hC1
    subst hdn
    have hcd := ed_codes hneg
    apply hT _ M1 (cl hF1)
    intro M4 hF4 hA4
    have hR4 := RT_sc (cl hF1) hF4 r614
    have hC4 := CS_rf hC1 hF4 c614
    apply P_X10_alone hN hR4 hO hA4 he hkey hlim hl4
    · intro h; exact absurd rfl h
    · intro _ _ M5 hF5 hR5
      exact fin hC4 hF5 hR5 (fun _ h => by omega) (fun _ => rfl) (rfS_ok (by omega) hs (OKS_hold hO hlim hl4.1 hx))
    · intro _ h; omega
    · intro _ h; omega
  · intro hdn hx hpos hbl M1 hF1 hC1
    subst hdn
    obtain ⟨hW, h661⟩ : WFz f ∧ f 661 = 0 := OK_z hO rfl
    have hk := ed_keeps hW hg hLk he hpos
    apply hT _ M1 (cl hF1)
    intro M4 hF4 hA4
    have hR4 := RT_sc (cl hF1) hF4 r614
    have hC4 := CS_rf hC1 hF4 c614
    apply P_X10_alone hN hR4 hO hA4 he hkey hlim hl4
    · intro h; exact absurd rfl h
    · intro _ h; omega
    · intro _ _ _ M5 hF5 hR5
      refine fin hC4 hF5 hR5 (fun h _ => by rw [if_pos (hta.mp h)]) (fun h => ?_) (rfS_ok (by omega) hs (OKS_b hO ht' ((DOK_ws hW h661 hg hLk he hpos).1 ?_) hk.2.1 hun))
      · rcases h with h | h
        · rw [if_neg (fun q => by have := hta.mpr q; rw [h] at this; cases this)]
        · exact absurd (Or.inr rfl) h
      · have := nwr_blw hbl; omega
    · intro _ _ h; exact absurd hbl h
  · intro hdn hx hpos hbl M1 hF1 hC1
    subst hdn
    obtain ⟨hW, h661⟩ : WFz f ∧ f 661 = 0 := OK_z hO rfl
    have hk := ed_keeps hW hg hLk he hpos
    apply hT _ M1 (cl hF1)
    intro M4 hF4 hA4
    have hR4 := RT_sc (cl hF1) hF4 r614
    have hC4 := CS_rf hC1 hF4 c614
    apply P_X10_alone hN hR4 hO hA4 he hkey hlim hl4
    · intro h; exact absurd rfl h
    · intro _ h; omega
    · intro _ _ h; exact absurd h hbl
    · intro _ _ _ M5 hF5 hR5
      refine fin hC4 hF5 hR5 (fun h _ => by rw [if_pos (hta.mp h)]) (fun h => ?_) (OKS_a hO ht' (DOK_ws (n := 0) hW h661 hg hLk he hpos).2 hk.2.1 hbl ?_ hun)
      · rcases h with h | h
        · rw [if_neg (fun q => by have := hta.mpr q; rw [h] at this; cases this)]
        · exact absurd (Or.inl hpos) h
      · have h1 := frF_len (apw f (wsE (ed tr f L e) e)) (holdS lim H (f (641 + 2 * od f key))).1
        have h2 : (holdS lim H (f (641 + 2 * od f key))).1.length ≤ lim := hhl
        omega
