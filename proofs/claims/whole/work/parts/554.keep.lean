theorem zmX_cong {G : zG} {M M' : zMem} {f : Nat → Option (Nat × Nat × Nat)} (h : ∀ k, 1024 ≤ k → M'.1 k = M.1 k ∧ M'.2 k = M.2 k) : zmomX G M' f = zmomX G M f := by
  unfold zmomX
  rw [flat_congr (F := zmomC G M' f) (F' := zmomC G M f) (fun j _ => zmomC_cong rfl (h _ (by omega)).1 (h _ (by omega)).1 (h _ (by omega)).2 (h _ (by omega)).2)]
theorem zmom_513 (G : zG) (M : zMem) (f : Nat → Option (Nat × Nat × Nat)) : (zcl G M (zmomX G M f))[58]? = some (zad G 513, .inl (G.2.2.1, 16, .inr (.inr (.inr (.inr (fun j => (f j).map (fun q => q.1))))))) := by
  obtain ⟨A, B, hA, A', hu⟩ := zmom_upd G M f (i := 0) (by decide)
  rw [hu M f (zoth_rf 0 M) (fun _ _ => rfl)]
  have := zn_at (ws := A) (w := (zad G 513, .inl (G.2.2.1, 16, .inr (.inr (.inr (.inr (fun j => (f j).map (fun q => q.1))))))) :: (A' ++ (zmomC G M f 0 ++ B))) (k := 0) rfl
  rw [hA] at this
  exact this
-- a fresh moment takes its place
def zfr (i : Nat) (M : zMem) : zMem := putA (putA (setS (setS (setS M (64 * (16 + i) + 5) 1) (64 * (16 + i)) 0) (64 * (16 + i) + 1) 0) (64 * (16 + i) + 2) (fun _ => 0)) (64 * (16 + i) + 3) (fun _ => 0)
theorem zfr_oth (i : Nat) (M : zMem) : zoth i M (zfr i M) := by
  intro k hk
  unfold zfr
  exact ⟨by rw [putA_1, putA_1, setS_1, if_neg (by omega), setS_1, if_neg (by omega), setS_1, if_neg (by omega)], by rw [putA_2, if_neg (by omega), putA_2, if_neg (by omega), setS_2, setS_2, setS_2]⟩
theorem zmom_new (G : zG) (M : zMem) (f : Nat → Option (Nat × Nat × Nat)) {i q b d : Nat} (hi : i < 16) (hf : f i = none) : ((zcl G M (zmomX G M f) ++ sX5 G q b d).set 58 (zad G 513, .inl (G.2.2.1, 16, .inr (.inr (.inr (.inr (va_up (fun j => (f j).map (fun q => q.1)) i (some q)))))))).Perm (zcl G (zfr i M) (zmomX G (zfr i M) (va_up f i (some (q, b, d))))) := by
  obtain ⟨A, B, hA, A', hu⟩ := zmom_upd G M f hi
  rw [hu M f (zoth_rf i M) (fun _ _ => rfl), hu (zfr i M) (va_up f i (some (q, b, d))) (zfr_oth i M) (fun j hj => va_up_ne _ _ hj)]
  have e1 : zmomC G M f i = [] := by unfold zmomC; rw [hf]
  have e2 : zmomC G (zfr i M) (va_up f i (some (q, b, d))) i = sX5 G q b d := by
    unfold zmomC
    rw [va_up_self]
    unfold zfr
    simp only [putA_1, putA_2, setS_1, setS_2]
    simp only [if_true, ite_self]
  rw [e1, e2]
  have e3 : (va_up (fun j => (f j).map (fun q => q.1)) i (some q)) = (fun j => (va_up f i (some (q, b, d)) j).map (fun q => q.1)) := by
    funext j
    by_cases hj : j = i
    · subst hj; rw [va_up_self, va_up_self]; rfl
    · rw [va_up_ne _ _ hj, va_up_ne _ _ hj]
  rw [e3, List.append_assoc, ← hA]
  have e4 := zn_set (ws := A) (w := ((zad G 513, .inl (G.2.2.1, 16, .inr (.inr (.inr (.inr (fun j => (f j).map (fun q => q.1))))))) :: (A' ++ ([] ++ B))) ++ sX5 G q b d) (k := 0) (x := (zad G 513, .inl (G.2.2.1, 16, .inr (.inr (.inr (.inr (fun j => (va_up f i (some (q, b, d)) j).map (fun q => q.1)))))))) 
  rw [show A.length + 0 = A.length from rfl] at e4
  rw [e4]
  refine List.Perm.append_left A ?_
  rw [List.cons_append, List.set_cons_zero]
  refine List.Perm.cons _ ?_
  rw [List.nil_append, List.append_assoc]
  exact List.Perm.append_left A' List.perm_append_comm
theorem zkept_eq {v : Int} {r : Nat} {M Mx : zMem} (h514 : Mx.1 514 = M.1 514) (h66 : Mx.1 66 = M.1 66) (h512 : Mx.1 512 = M.1 512) (h64 : Mx.2 64 = M.2 64) (hr : Mx.2 r = M.2 r) (o1 : ∀ k, k ≠ zmo (M.1 514) → k ≠ zmo (M.1 514) + 1 → k ≠ zmo (M.1 514) + 5 → Mx.1 k = M.1 k) (o2 : ∀ k, k ≠ zmo (M.1 514) + 2 → k ≠ zmo (M.1 514) + 3 → Mx.2 k = M.2 k) : zkept v r Mx = zkept v r M := by
  unfold zkept
  rw [h514, h66, h512, h64, hr]
  refine Prod.ext (funext fun k => ?_) (funext fun k => ?_)
  · simp only [putA_1, setS_1]
    repeat' split
    all_goals first | rfl | exact o1 k (by assumption) (by assumption) (by assumption)
  · simp only [putA_2, setS_2]
    repeat' split
    all_goals first | rfl | exact o2 k (by assumption) (by assumption)
