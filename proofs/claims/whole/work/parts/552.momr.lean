theorem zoth_rf (i : Nat) (M : zMem) : zoth i M M := fun _ _ => ⟨rfl, rfl⟩
abbrev zmob (G : zG) (M : zMem) (i a b d : Nat) : Nat × va_E := (a, .inr (3, [.int (Int32.ofInt (M.1 (64 * (16 + i)))), .int (Int32.ofInt (M.1 (64 * (16 + i) + 1))), .ref b, .ref d]))
theorem zmom_at (G : zG) (M : zMem) (f : Nat → Option (Nat × Nat × Nat)) {i a b d : Nat} (hi : i < 16) (hf : f i = some (a, b, d)) : ∃ k : Nat, (zcl G M (zmomX G M f))[k]? = some (zmob G M i a b d) ∧ (zcl G M (zmomX G M f))[k + 1]? = some (b, zarrE G 1334 (M.2 (64 * (16 + i) + 2))) ∧ (zcl G M (zmomX G M f))[k + 2]? = some (d, zarrE G 4 (M.2 (64 * (16 + i) + 3))) ∧
    (∀ M' : zMem, zoth i M M' → M'.2 (64 * (16 + i) + 2) = M.2 (64 * (16 + i) + 2) → M'.2 (64 * (16 + i) + 3) = M.2 (64 * (16 + i) + 3) → (zcl G M (zmomX G M f)).set k (zmob G M' i a b d) = zcl G M' (zmomX G M' f)) ∧
    (∀ M' : zMem, zoth i M M' → M'.1 = M.1 → M'.2 (64 * (16 + i) + 3) = M.2 (64 * (16 + i) + 3) → (zcl G M (zmomX G M f)).set (k + 1) (b, zarrE G 1334 (M'.2 (64 * (16 + i) + 2))) = zcl G M' (zmomX G M' f)) ∧
    (∀ M' : zMem, zoth i M M' → M'.1 = M.1 → M'.2 (64 * (16 + i) + 2) = M.2 (64 * (16 + i) + 2) → (zcl G M (zmomX G M f)).set (k + 2) (d, zarrE G 4 (M'.2 (64 * (16 + i) + 3))) = zcl G M' (zmomX G M' f)) := by
  obtain ⟨A, B, -, A', hu⟩ := zmom_upd G M f hi
  obtain ⟨A2, hA2⟩ : ∃ A2 : va_W, A2 = A ++ ((zad G 513, .inl (G.2.2.1, 16, .inr (.inr (.inr (.inr (fun j => (f j).map (fun q => q.1))))))) :: A') := ⟨_, rfl⟩
  have hu2 : ∀ M' : zMem, zoth i M M' → zcl G M' (zmomX G M' f) = A2 ++ (zmob G M' i a b d :: (b, zarrE G 1334 (M'.2 (64 * (16 + i) + 2))) :: (d, zarrE G 4 (M'.2 (64 * (16 + i) + 3))) :: B) := by
    intro M' ho
    rw [hu M' f ho (fun _ _ => rfl), hA2]
    unfold zmomC
    rw [hf]
    simp only [List.append_assoc, List.cons_append, List.nil_append]
  have h0 := hu2 M (zoth_rf i M)
  refine ⟨A2.length, ?_, ?_, ?_, ?_, ?_, ?_⟩
  · rw [h0]; exact zn_at (k := 0) rfl
  · rw [h0]; exact zn_at (k := 1) rfl
  · rw [h0]; exact zn_at (k := 2) rfl
  · intro M' ho e2 e3
    rw [h0, hu2 M' ho, e2, e3]
    exact zn_set (k := 0)
  · intro M' ho e2 e3
    rw [h0, hu2 M' ho, e3]
    rw [show zmob G M' i a b d = zmob G M i a b d by unfold zmob; rw [e2]]
    exact zn_set (k := 1)
  · intro M' ho e2 e3
    rw [h0, hu2 M' ho, e3]
    rw [show zmob G M' i a b d = zmob G M i a b d by unfold zmob; rw [e2]]
    exact zn_set (k := 2)
def zWf (G : zG) (M : zMem) (f : Nat → Option (Nat × Nat × Nat)) (H : Heap) : Prop := va_P G.1 vwCl (zcl G M (zmomX G M f)) H ∧ va_D (zA G) (zcl G M (zmomX G M f)) ∧ zRM M ∧ ∀ i, i < 16 → M.1 (64 * (16 + i) + 5) = 1 → f i ≠ none
section zMom
variable {p : Program} {l : Launch} {e : Env} {R : Room} {s : State} {m : MethodId} {args : Array Value} {below : List Frame} {meth : Method} {c : Code} {cells slots : Nat} {Q : State → Prop} {cc : ByteArray} {nL : Nat} {own : String} {G : zG} {pc : Nat} {Lv : List (Nat × Value)} {st : List Value} {M : zMem} {f : Nat → Option (Nat × Nat × Nat)} {i a b d : Nat}
def zM (p : Program) (l : Launch) (e : Env) (R : Room) (s : State) (m : MethodId) (args : Array Value) (below : List Frame) (meth : Method) (c : Code) (G : zG) (nL cells slots : Nat) (Q : State → Prop) (f : Nat → Option (Nat × Nat × Nat)) (Lv : List (Nat × Value)) (pc : Nat) (st : List Value) (M : zMem) : Prop :=
  ∀ (ls : Array Slot) (H : Heap) (locs : List Loc), lv_has ls nL Lv → zWf G M f H → va_S (zA G) s.heap H locs → W p l e R s m args below meth c H locs cells slots Q (F0 m pc ls st)
theorem zm_of {L : List (Option zV)} {st : List zV} (kk : ∀ f, (∀ v ∈ st, zok v) → (∀ v, some v ∈ L → zok v) → zRM M → zM p l e R s m args below meth c G nL cells slots Q f (zpl G 0 L) pc (st.map (zmv G)) M) : zJ p l e R s m args below meth c G nL cells slots Q pc L st M := by
  intro h1 h2 ls H locs X hL hW hS
  obtain ⟨hP, hD, ⟨f, hf, rfl⟩, hR⟩ := hW
  exact kk f h1 h2 hR ls H locs hL ⟨hP, hD, hR, hf⟩ hS
theorem zm_to {L : List (Option zV)} {st : List zV} (h1 : ∀ v ∈ st, zok v) (h2 : ∀ v, some v ∈ L → zok v) (hL : ∀ q ∈ zpl G 0 L, q ∈ Lv) (kk : zJ p l e R s m args below meth c G nL cells slots Q pc L st M) : zM p l e R s m args below meth c G nL cells slots Q f Lv pc (st.map (zmv G)) M := by
  intro ls H locs hl hW hS
  obtain ⟨hP, hD, hR, hf⟩ := hW
  exact kk h1 h2 ls H locs _ ⟨hl.1, hl.2.1, fun q hq => hl.2.2 q (hL q hq)⟩ ⟨hP, hD, ⟨f, hf, rfl⟩, hR⟩ hS
theorem zm_iconst (hc : zCx p s m args c cc nL own G) {n : Int} (hd : decode cc pc = .ok (.iconst n, 1)) (kk : zM p l e R s m args below meth c G nL cells slots Q f Lv (pc + 1) (.int (Int32.ofInt n) :: st) M) : zM p l e R s m args below meth c G nL cells slots Q f Lv pc st M := by
  intro ls H locs hL hW hS
  exact lv_iconst hc.1 hc.2.1 hd rfl (kk ls H locs hL hW hS)
theorem zm_sipush (hc : zCx p s m args c cc nL own G) {n : Int} (hd : decode cc pc = .ok (.sipush n, 3)) (hv : (Int16.ofInt n).toInt32 = Int32.ofInt n) (kk : zM p l e R s m args below meth c G nL cells slots Q f Lv (pc + 3) (.int (Int32.ofInt n) :: st) M) : zM p l e R s m args below meth c G nL cells slots Q f Lv pc st M := by
  intro ls H locs hL hW hS
  exact lv_sipush hc.1 hc.2.1 hd hv (kk ls H locs hL hW hS)
theorem zm_aload_n (hc : zCx p s m args c cc nL own G) {k : Fin 4} (o : Nat) {x : Nat} (hd : decode cc pc = .ok (.aload_n k, 1)) (hl : Lv[o]? = some ((k : Nat), .ref x)) (kk : zM p l e R s m args below meth c G nL cells slots Q f Lv (pc + 1) (.ref x :: st) M) : zM p l e R s m args below meth c G nL cells slots Q f Lv pc st M := by
  intro ls H locs hL hW hS
  exact lv_aload_n hc.1 hc.2.1 hd rfl (lv_at hL o hl) (kk ls H locs hL hW hS)
theorem zm_iload_n (hc : zCx p s m args c cc nL own G) {k : Fin 4} (o : Nat) {x : Int} (hd : decode cc pc = .ok (.iload_n k, 1)) (hl : Lv[o]? = some ((k : Nat), .int (Int32.ofInt x))) (kk : zM p l e R s m args below meth c G nL cells slots Q f Lv (pc + 1) (.int (Int32.ofInt x) :: st) M) : zM p l e R s m args below meth c G nL cells slots Q f Lv pc st M := by
  intro ls H locs hL hW hS
  exact lv_iload_n hc.1 hc.2.1 hd rfl (lv_at hL o hl) (kk ls H locs hL hW hS)
theorem zm_aload (hc : zCx p s m args c cc nL own G) {k : Nat} (o : Nat) {x : Nat} (hd : decode cc pc = .ok (.aload k, 2)) (hl : Lv[o]? = some (k, .ref x)) (kk : zM p l e R s m args below meth c G nL cells slots Q f Lv (pc + 2) (.ref x :: st) M) : zM p l e R s m args below meth c G nL cells slots Q f Lv pc st M := by
  intro ls H locs hL hW hS
  exact lv_aload hc.1 hc.2.1 hd (lv_at hL o hl) (kk ls H locs hL hW hS)
-- fields of the known objects
theorem zm_get (hc : zCx p s m args c cc nL own G) {C : String} {T : u_T} {N ci index k o0 x : Nat} {fs : List Value} {v : Value} (hin : ∀ w ∈ u_ws C T N, w ∈ lw_ws) (hcl : vwCl[ci]? = some (C, T, N)) (hob : (zobjs G M)[o0]? = some (x, .inr (ci, fs))) (hk : k < N) (hv : fs[k]? = some v) (hlink : Cond.fieldLink own index (T k).1 (T k).2.1 (T k).2.2.1 ∈ lw_ws) (hd : decode cc pc = .ok (.getfield index, 3)) (kk : zM p l e R s m args below meth c G nL cells slots Q f Lv (pc + 3) (v :: st) M) : zM p l e R s m args below meth c G nL cells slots Q f Lv pc (.ref x :: st) M := by
  intro ls H locs hL hW hS
  have hlt : o0 < (zobjs G M).length := (List.getElem?_eq_some_iff.mp hob).1
  exact va_get (D := G.1) (ci := ci) (C := C) (T := T) (N := N) hc.1 hc.2.1 hc.2.2.2.2.1 hin hc.2.2.2.1 hc.2.2.2.2.2.1.1 hW.1 o0 (by unfold zcl; rw [List.getElem?_append_left hlt]; exact hob) hcl k hk (hc.2.2.2.2.1 _ hlink) (fun _ h9 => h9) hv hd (kk ls H locs hL hW hS)
theorem zWf_mo {M M' : zMem} {H : Heap} (h : zWf G M f H) : ∀ i, i < 16 → M.1 (64 * (16 + i) + 5) = 1 → f i ≠ none := h.2.2.2
-- fields of a moment
theorem zm_mget (hc : zCx p s m args c cc nL own G) (hi : i < 16) (hf : f i = some (a, b, d)) {index k : Nat} {v : Value} (hk : k < 4) (hv : ([.int (Int32.ofInt (M.1 (64 * (16 + i)))), .int (Int32.ofInt (M.1 (64 * (16 + i) + 1))), .ref b, .ref d] : List Value)[k]? = some v) (hlink : Cond.fieldLink own index (TX5 k).1 (TX5 k).2.1 (TX5 k).2.2.1 ∈ lw_ws) (hd : decode cc pc = .ok (.getfield index, 3)) (kk : zM p l e R s m args below meth c G nL cells slots Q f Lv (pc + 3) (v :: st) M) : zM p l e R s m args below meth c G nL cells slots Q f Lv pc (.ref a :: st) M := by
  intro ls H locs hL hW hS
  obtain ⟨q, h0, -⟩ := zmom_at G M f hi hf
  exact va_get (D := G.1) (ci := 3) (C := RX5) (T := TX5) (N := 4) hc.1 hc.2.1 hc.2.2.2.2.1 inT5 hc.2.2.2.1 hc.2.2.2.2.2.1.1 hW.1 q h0 rfl k hk (hc.2.2.2.2.1 _ hlink) (fun _ h9 => h9) hv hd (kk ls H locs hL hW hS)
theorem zoth_set {M : zMem} {k : Nat} {v : Int} (h1 : 64 * (16 + i) ≤ k) (h2 : k < 64 * (16 + i) + 64) : zoth i M (setS M k v) := fun j hj => ⟨if_neg (by omega), rfl⟩
theorem zoth_put {M : zMem} {k : Nat} {v : Int → Int} (h1 : 64 * (16 + i) ≤ k) (h2 : k < 64 * (16 + i) + 64) : zoth i M (putA M k v) := fun j hj => ⟨rfl, if_neg (by omega)⟩
theorem zm_mput0 (hc : zCx p s m args c cc nL own G) (hi : i < 16) (hf : f i = some (a, b, d)) {index : Nat} {x : Int} (hx : inR x) (hlink : Cond.fieldLink own index (TX5 0).1 (TX5 0).2.1 (TX5 0).2.2.1 ∈ lw_ws) (hd : decode cc pc = .ok (.putfield index, 3)) (kk : ∀ M1, M1 = setS M (64 * (16 + i)) x → zM p l e R s m args below meth c G nL cells slots Q f Lv (pc + 3) st M1) : zM p l e R s m args below meth c G nL cells slots Q f Lv pc (.int (Int32.ofInt x) :: .ref a :: st) M := by
  intro ls H locs hL hW hS
  obtain ⟨q, h0, -, -, hs, -⟩ := zmom_at G M f hi hf
  refine va_put (D := G.1) (ci := 3) (C := RX5) (T := TX5) (N := 4) (ty := .int) hc.1 hc.2.1 hc.2.2.2.2.1 inT5 tyX5 tyX5_ok nmX5 hc.2.2.2.1 hc.2.2.2.2.2.1.1 hW.1 hW.2.1 hS q h0 rfl 0 (by decide) (hc.2.2.2.2.1 _ hlink) (fun _ h9 => h9) rfl (by decide +kernel) rfl rfl (Nat.le_of_ble_eq_true rfl) hd (fun H1 locs1 hP hD hS1 => ?_)
  have e := hs (setS M (64 * (16 + i)) x) (zoth_set (by omega) (by omega)) rfl rfl
  have e1 : zmob G (setS M (64 * (16 + i)) x) i a b d = (a, .inr (3, [.int (Int32.ofInt x), .int (Int32.ofInt (M.1 (64 * (16 + i) + 1))), .ref b, .ref d])) := by
    unfold zmob
    rw [show (setS M (64 * (16 + i)) x).1 (64 * (16 + i)) = x from if_pos rfl, show (setS M (64 * (16 + i)) x).1 (64 * (16 + i) + 1) = M.1 (64 * (16 + i) + 1) from if_neg (by omega)]
  rw [e1] at e
  have hP : va_P G.1 vwCl ((zcl G M (zmomX G M f)).set q (a, .inr (3, [.int (Int32.ofInt x), .int (Int32.ofInt (M.1 (64 * (16 + i) + 1))), .ref b, .ref d]))) H1 := hP
  have hD : va_D (zA G) ((zcl G M (zmomX G M f)).set q (a, .inr (3, [.int (Int32.ofInt x), .int (Int32.ofInt (M.1 (64 * (16 + i) + 1))), .ref b, .ref d]))) := hD
  rw [e] at hP hD
  exact kk _ rfl ls H1 locs1 hL ⟨hP, hD, zRM_set hW.2.2.1 hx, fun j hj h5 => hW.2.2.2 j hj (by rw [← h5]; exact (if_neg (by omega)).symm)⟩ hS1
theorem zm_mput1 (hc : zCx p s m args c cc nL own G) (hi : i < 16) (hf : f i = some (a, b, d)) {index : Nat} {x : Int} (hx : x = 0 ∨ x = 1) (hlink : Cond.fieldLink own index (TX5 1).1 (TX5 1).2.1 (TX5 1).2.2.1 ∈ lw_ws) (hd : decode cc pc = .ok (.putfield index, 3)) (kk : ∀ M1, M1 = setS M (64 * (16 + i) + 1) x → zM p l e R s m args below meth c G nL cells slots Q f Lv (pc + 3) st M1) : zM p l e R s m args below meth c G nL cells slots Q f Lv pc (.int (Int32.ofInt x) :: .ref a :: st) M := by
  intro ls H locs hL hW hS
  obtain ⟨q, h0, -, -, hs, -⟩ := zmom_at G M f hi hf
  refine va_put (D := G.1) (ci := 3) (C := RX5) (T := TX5) (N := 4) (ty := .boolean) hc.1 hc.2.1 hc.2.2.2.2.1 inT5 tyX5 tyX5_ok nmX5 hc.2.2.2.1 hc.2.2.2.2.2.1.1 hW.1 hW.2.1 hS q h0 rfl 1 (by decide) (hc.2.2.2.2.1 _ hlink) (fun _ h9 => h9) rfl (by decide +kernel) (by rcases hx with rfl | rfl <;> rfl) (by rcases hx with rfl | rfl <;> rfl) (Nat.le_of_ble_eq_true rfl) hd (fun H1 locs1 hP hD hS1 => ?_)
  have e := hs (setS M (64 * (16 + i) + 1) x) (zoth_set (by omega) (by omega)) rfl rfl
  have e1 : zmob G (setS M (64 * (16 + i) + 1) x) i a b d = (a, .inr (3, [.int (Int32.ofInt (M.1 (64 * (16 + i)))), .int (Int32.ofInt x), .ref b, .ref d])) := by
    unfold zmob
    rw [show (setS M (64 * (16 + i) + 1) x).1 (64 * (16 + i) + 1) = x from if_pos rfl, show (setS M (64 * (16 + i) + 1) x).1 (64 * (16 + i)) = M.1 (64 * (16 + i)) from if_neg (by omega)]
  rw [e1] at e
  have hP : va_P G.1 vwCl ((zcl G M (zmomX G M f)).set q (a, .inr (3, [.int (Int32.ofInt (M.1 (64 * (16 + i)))), .int (Int32.ofInt x), .ref b, .ref d]))) H1 := hP
  have hD : va_D (zA G) ((zcl G M (zmomX G M f)).set q (a, .inr (3, [.int (Int32.ofInt (M.1 (64 * (16 + i)))), .int (Int32.ofInt x), .ref b, .ref d]))) := hD
  rw [e] at hP hD
  exact kk _ rfl ls H1 locs1 hL ⟨hP, hD, zRM_set hW.2.2.1 (by rcases hx with rfl | rfl <;> exact ⟨by decide, by decide⟩), fun j hj h5 => hW.2.2.2 j hj (by rw [← h5]; exact (if_neg (by omega)).symm)⟩ hS1
-- a whole array over another of the same length
theorem zw_copy (hc : zCx p s m args c cc nL own G) {ws : va_W} {ls : Array Slot} {H : Heap} {locs : List Loc} {index x y ka kb N : Nat} {n : Int} {fa fb : Int → Int} (hN : n = (N : Int)) (hn : N < 30000) (hd : decode cc pc = .ok (.invokestatic index, 3)) (hlink : Cond.methodLink own index arraycopyName ∈ lw_ws) (hnat : Cond.native arraycopyName ∈ lw_ws) (hstat : Cond.static arraycopyName ∈ lw_ws) (hini : Cond.initialized "java/lang/System" ∈ lw_ws) (hL : ls.size = nL) (hP : va_P G.1 vwCl ws H) (hD : va_D (zA G) ws) (hS : va_S (zA G) s.heap H locs) (hka : ws[ka]? = some (x, zarrE G N fa)) (hkb : ws[kb]? = some (y, zarrE G N fb)) (hfr : 1 ≤ R.frames) (hlo : (nativeFrameWords "java/lang/System" "arraycopy" 5 + 11) ≤ R.locals)
    (kk : ∀ (H1 : Heap) (locs1 : List Loc), va_P G.1 vwCl (ws.set kb (y, zarrE G N fa)) H1 → va_D (zA G) (ws.set kb (y, zarrE G N fa)) → va_S (zA G) s.heap H1 locs1 → W p l e R s m args below meth c H1 locs1 cells slots Q (F0 m (pc + 3) ls [])) : W p l e R s m args below meth c H locs cells slots Q (F0 m pc ls [.int (Int32.ofInt n), .int (Int32.ofInt 0), .ref y, .int (Int32.ofInt 0), .ref x]) := by
  have r1 : inR n := ⟨by omega, by omega⟩
  have r0 := zr_inR0
  refine va_copyi (ty := .int) hc.1 hc.2.1 (by rw [hc.2.2.1, hL]) hc.2.2.2.1 (hc.2.2.2.2.1 _ hlink) (hc.2.2.2.2.1 _ hnat) (hc.2.2.2.2.1 _ hstat) (hc.2.2.2.2.1 _ hini) hc.2.2.2.2.2.1.1 hP hD hS ka kb 0 0 hka hkb rfl rfl rfl (by rw [zr_0, zr_lt r0 zr_inR0]; omega) (by rw [zr_0, zr_lt r0 zr_inR0]; omega) (by rw [zr_0, zr_lt r1 zr_inR0]; omega) (by rw [zr_cl r0, zr_cl r1]; omega) (by rw [zr_cl r0, zr_cl r1]; omega) (fun _ _ => rfl) hfr (by simpa using hlo) hd (fun H1 locs1 hP1 hD1 hS1 => ?_)
  refine kk H1 locs1 (vaP_cong hP1 (fun j hj => ?_)) (hD.set hkb) hS1
  rw [zr_cl r1, zr_cl r0]
  unfold va_cpy
  rw [if_pos (by omega)]
  dsimp only
  rw [show (Int.toNat 0 + (j - Int.toNat 0)) = j by omega]
end zMom
