-- constructors: a frame whose only local is the object, over a world that grows at its end
theorem zn_at {ws w : va_W} {k : Nat} {x : Nat × va_E} (h : w[k]? = some x) : (ws ++ w)[ws.length + k]? = some x := by
  rw [List.getElem?_append_right (by omega), Nat.add_sub_cancel_left]; exact h
theorem zn_set {ws w : va_W} {k : Nat} {x : Nat × va_E} : (ws ++ w).set (ws.length + k) x = ws ++ w.set k x := by
  rw [List.set_append_right _ _ (by omega), Nat.add_sub_cancel_left]
section zNew
variable {p : Program} {l : Launch} {e : Env} {R : Room} {s : State} {m : MethodId} {args : Array Value} {below : List Frame} {meth : Method} {c : Code} {cells slots : Nat} {Q : State → Prop} {cc : ByteArray} {nL : Nat} {own : String} {G : zG} {pc : Nat} {Lv : List (Nat × Value)} {st : List Value} {ws w : va_W}
def zN (p : Program) (l : Launch) (e : Env) (R : Room) (s : State) (m : MethodId) (args : Array Value) (below : List Frame) (meth : Method) (c : Code) (G : zG) (nL cells slots : Nat) (Q : State → Prop) (Lv : List (Nat × Value)) (ws : va_W) (pc : Nat) (st : List Value) (w : va_W) : Prop :=
  ∀ (ls : Array Slot) (H : Heap) (locs : List Loc), lv_has ls nL Lv → va_P G.1 vwCl (ws ++ w) H → va_D (zA G) (ws ++ w) → va_S (zA G) s.heap H locs → W p l e R s m args below meth c H locs cells slots Q (F0 m pc ls st)
theorem zn_this (hc : zCx p s m args c cc nL own G) {q : Nat} (hd : decode cc pc = .ok (.aload_n 0, 1)) (hl : Lv[0]? = some (0, .ref q)) (kk : zN p l e R s m args below meth c G nL cells slots Q Lv ws (pc + 1) (.ref q :: st) w) : zN p l e R s m args below meth c G nL cells slots Q Lv ws pc st w := by
  intro ls H locs hL hP hD hS
  exact lv_aload_n hc.1 hc.2.1 hd rfl (lv_at hL 0 hl) (kk ls H locs hL hP hD hS)
theorem zn_iconst (hc : zCx p s m args c cc nL own G) {n : Int} (hd : decode cc pc = .ok (.iconst n, 1)) (kk : zN p l e R s m args below meth c G nL cells slots Q Lv ws (pc + 1) (.int (Int32.ofInt n) :: st) w) : zN p l e R s m args below meth c G nL cells slots Q Lv ws pc st w := by
  intro ls H locs hL hP hD hS
  exact lv_iconst hc.1 hc.2.1 hd rfl (kk ls H locs hL hP hD hS)
theorem zn_bipush (hc : zCx p s m args c cc nL own G) {n : Int} (hd : decode cc pc = .ok (.bipush n, 2)) (hv : (Int8.ofInt n).toInt32 = Int32.ofInt n) (kk : zN p l e R s m args below meth c G nL cells slots Q Lv ws (pc + 2) (.int (Int32.ofInt n) :: st) w) : zN p l e R s m args below meth c G nL cells slots Q Lv ws pc st w := by
  intro ls H locs hL hP hD hS
  exact lv_bipush hc.1 hc.2.1 hd hv (kk ls H locs hL hP hD hS)
theorem zn_sipush (hc : zCx p s m args c cc nL own G) {n : Int} (hd : decode cc pc = .ok (.sipush n, 3)) (hv : (Int16.ofInt n).toInt32 = Int32.ofInt n) (kk : zN p l e R s m args below meth c G nL cells slots Q Lv ws (pc + 3) (.int (Int32.ofInt n) :: st) w) : zN p l e R s m args below meth c G nL cells slots Q Lv ws pc st w := by
  intro ls H locs hL hP hD hS
  exact lv_sipush hc.1 hc.2.1 hd hv (kk ls H locs hL hP hD hS)
theorem zn_dup (hc : zCx p s m args c cc nL own G) {q : Nat} (hd : decode cc pc = .ok (.dup, 1)) (kk : zN p l e R s m args below meth c G nL cells slots Q Lv ws (pc + 1) (.ref q :: .ref q :: st) w) : zN p l e R s m args below meth c G nL cells slots Q Lv ws pc (.ref q :: st) w := by
  intro ls H locs hL hP hD hS
  exact lv_dup hc.1 hc.2.1 hd rfl (kk ls H locs hL hP hD hS)
theorem zn_obj (hc : zCx p s m args c cc nL own G) {q idx : Nat} (hlink : Cond.methodLink own idx Lib.objectInit ∈ lw_ws) (hi : Cond.instanceMethod Lib.objectInit ∈ lw_ws) (hcd : Cond.code Lib.objectInit ⟨#[0xb1]⟩ 1 none ∈ lw_ws) (hd : decode cc pc = .ok (.invokespecial idx, 3)) (hfr : 1 ≤ R.frames) (hlo : 12 ≤ R.locals) (kk : zN p l e R s m args below meth c G nL cells slots Q Lv ws (pc + 3) [] w) : zN p l e R s m args below meth c G nL cells slots Q Lv ws pc [.ref q] w := by
  intro ls H locs hL hP hD hS
  refine W.objInit hc.1 hc.2.1 hc.2.2.2.1 (hc.2.2.2.2.1 _ hlink) (hc.2.2.2.2.1 _ hi) (hc.2.2.2.2.1 _ hcd) rfl (by rw [hc.2.2.1]; exact hL.1) rfl hd hfr (by show 2 * 0 + 0 + 12 ≤ _; omega) ?_
  exact W.eq (g2 := F0 m (pc + 3) ls []) rfl (kk ls H locs hL hP hD hS)
theorem zn_cI (hc : zCx p s m args c cc nL own G) {cA : ClassId} {D : va_G} {cl : List vw_C} {tys : List (ClassId × FieldType)} (h : va_K D cl (tys ++ [(cA, .int)]) s) : cA = G.2.1 := by
  have h1 := (h.2 tys.length (cA, .int) (by rw [List.getElem?_append_right (Nat.le_refl _), Nat.sub_self]; rfl)).2
  have h2 := (hc.2.2.2.2.2.1.1.2 0 (G.2.1, .int) rfl).2
  exact Option.some.inj (h1.symm.trans h2)
theorem zn_cO (hc : zCx p s m args c cc nL own G) {cA : ClassId} {D : va_G} {cl : List vw_C} {tys : List (ClassId × FieldType)} (h : va_K D cl (tys ++ [(cA, .object "PackedPages$Moment")]) s) : cA = G.2.2.1 := by
  obtain ⟨_, _, _, _, _, h1⟩ := (h.2 tys.length (cA, .object "PackedPages$Moment") (by rw [List.getElem?_append_right (Nat.le_refl _), Nat.sub_self]; rfl)).2
  obtain ⟨_, _, _, _, _, h2⟩ := (hc.2.2.2.2.2.1.1.2 1 (G.2.2.1, .object "PackedPages$Moment") rfl).2
  exact Option.some.inj (h1.symm.trans h2)
theorem zn_hA (hc : zCx p s m args c cc nL own G) : ∀ q, s.heap.size ≤ q → zA G q := fun q h => Nat.le_trans hc.2.2.2.2.2.2 h
theorem zn_newa (hc : zCx p s m args c cc nL own G) {n : Nat} {x : Int} (hx : x = (n : Int)) (hn : n < 30000) (harr : Cond.arrayClass .int ∈ lw_ws) (hd : decode cc pc = .ok (.newarray .int, 2)) (hcs : cells + 1 ≤ R.cells ∧ slots + n ≤ R.slots) (kk : ∀ q : Nat, zN p l e R s m args below meth c G nL (cells + 1) (slots + n) Q Lv ws (pc + 2) (.ref q :: st) (w ++ [(q, zarrE G n (fun _ => 0))])) : zN p l e R s m args below meth c G nL cells slots Q Lv ws pc (.int (Int32.ofInt x) :: st) w := by
  intro ls H locs hL hP hD hS
  have hxr : inR x := ⟨by omega, by omega⟩
  refine va_newa (atype := .int) (ty := .int) (N' := n) (a0 := (n, .inl (fun _ : Nat => Int32.ofInt 0))) hc.1 hc.2.1 (hc.2.2.2.2.1 _ harr) rfl hc.2.2.2.2.2.1.1 hP hD hS (zn_hA hc) (fun cA => rfl) (by rw [zr_0, zr_lt hxr zr_inR0]; omega) (by rw [zr_cl hxr]; omega) (by show n * 4 ≤ 536870912; omega) hcs.1 hcs.2 hd (fun q cA H1 hK hP1 hD1 hS1 => ?_)
  have e := zn_cI hc hK
  subst e
  rw [List.append_assoc] at hP1 hD1
  exact kk q ls H1 locs hL hP1 hD1 hS1
theorem zn_newq (hc : zCx p s m args c cc nL own G) {n index : Nat} {x : Int} (hx : x = (n : Int)) (hn : n < 30000) (hcl : Cond.classLink own index "PackedPages$Moment" ∈ lw_ws) (hd : decode cc pc = .ok (.anewarray index, 3)) (hcs : cells + 1 ≤ R.cells ∧ slots + n ≤ R.slots) (kk : ∀ q : Nat, zN p l e R s m args below meth c G nL (cells + 1) (slots + n) Q Lv ws (pc + 3) (.ref q :: st) (w ++ [(q, .inl (G.2.2.1, n, .inr (.inr (.inr (.inr (fun _ => none))))))])) : zN p l e R s m args below meth c G nL cells slots Q Lv ws pc (.int (Int32.ofInt x) :: st) w := by
  intro ls H locs hL hP hD hS
  have hxr : inR x := ⟨by omega, by omega⟩
  refine va_newq (C := "PackedPages$Moment") (N' := n) hc.1 hc.2.1 hc.2.2.2.1 (hc.2.2.2.2.1 _ hcl) hc.2.2.2.2.2.1.2.2 hc.2.2.2.2.2.1.1 hP hD hS (zn_hA hc) (by rw [zr_0, zr_lt hxr zr_inR0]; omega) (by rw [zr_cl hxr]; omega) (by omega) hcs.1 hcs.2 hd (fun q cA H1 hK hP1 hD1 hS1 => ?_)
  have e := zn_cO hc hK
  subst e
  rw [List.append_assoc] at hP1 hD1
  exact kk q ls H1 locs hL hP1 hD1 hS1
theorem zn_new (hc : zCx p s m args c cc nL own G) {C : String} {T : u_T} {N ci index : Nat} {ty : Nat → FieldType} {fs : List Value} (hty : ∀ k, k < N → parseFieldDescriptor (T k).2.2.1 = some (ty k)) (hin : ∀ w ∈ u_ws C T N, w ∈ lw_ws) (hcl : vwCl[ci]? = some (C, T, N)) (hlk : Cond.classLink own index C ∈ lw_ws) (hinst : Cond.instantiable C N ∈ lw_ws) (hini : Cond.initialized C ∈ lw_ws) (hfs : ∀ j, j < N → defaultValue (ty j) = vp_V fs j) (hd : decode cc pc = .ok (.new index, 3)) (hcs : cells + 1 ≤ R.cells ∧ slots + N ≤ R.slots) (kk : ∀ q : Nat, zN p l e R s m args below meth c G nL (cells + 1) (slots + N) Q Lv ws (pc + 3) (.ref q :: st) (w ++ [(q, .inr (ci, fs))])) : zN p l e R s m args below meth c G nL cells slots Q Lv ws pc st w := by
  intro ls H locs hL hP hD hS
  refine va_new (ci := ci) (fs := fs) (C := C) (T := T) (N := N) hc.1 hc.2.1 hc.2.2.2.2.1 hin ty hty hc.2.2.2.1 (hc.2.2.2.2.1 _ hlk) (hc.2.2.2.2.1 _ hinst) (hc.2.2.2.2.1 _ hini) hc.2.2.2.2.2.1.1 hP hD hS (zn_hA hc) hcl hfs hcs.1 hcs.2 hd (fun q H1 hP1 hD1 hS1 => ?_)
  rw [List.append_assoc] at hP1 hD1
  exact kk q ls H1 locs hL hP1 hD1 hS1
theorem zn_put (hc : zCx p s m args c cc nL own G) {C : String} {T : u_T} {N ci index k o a : Nat} {fs : List Value} {v : Value} {ty0 : Nat → FieldType} {ty : FieldType} (hty : ∀ k, k < N → parseFieldDescriptor (T k).2.2.1 = some (ty0 k)) (hnm : ∀ a, a < N → ∀ b, b < N → a ≠ b → (T a).2.1 ≠ (T b).2.1) (hin : ∀ w ∈ u_ws C T N, w ∈ lw_ws) (hcl : vwCl[ci]? = some (C, T, N)) (hob : w[o]? = some (a, .inr (ci, fs))) (hk : k < N) (hl : k < fs.length) (hlink : Cond.fieldLink own index (T k).1 (T k).2.1 (T k).2.2.1 ∈ lw_ws) (hfin : (T k).2.2.2 = false) (hdesc : parseFieldDescriptor (T k).2.2.1 = some ty) (hn : narrow ty v = v) (hfit : fits ty v = true) (hd : decode cc pc = .ok (.putfield index, 3)) {w' : va_W} (hw' : w.set o (a, .inr (ci, fs.set k v)) = w') (kk : zN p l e R s m args below meth c G nL cells slots Q Lv ws (pc + 3) st w') : zN p l e R s m args below meth c G nL cells slots Q Lv ws pc (v :: .ref a :: st) w := by
  intro ls H locs hL hP hD hS
  refine va_put (D := G.1) (ci := ci) (C := C) (T := T) (N := N) (ty := ty) hc.1 hc.2.1 hc.2.2.2.2.1 hin ty0 hty hnm hc.2.2.2.1 hc.2.2.2.2.2.1.1 hP hD hS (ws.length + o) (zn_at hob) hcl k hk (hc.2.2.2.2.1 _ hlink) (fun _ h9 => h9) hfin hdesc hn hfit hl hd (fun H1 locs1 hP1 hD1 hS1 => ?_)
  rw [zn_set, hw'] at hP1 hD1
  exact kk ls H1 locs1 hL hP1 hD1 hS1
theorem zn_putF (hc : zCx p s m args c cc nL own G) (hmn : meth.name = "<init>") {C : String} {T : u_T} {N ci index k o a : Nat} {fs : List Value} {v : Value} {ty0 : Nat → FieldType} {ty : FieldType} (hty : ∀ k, k < N → parseFieldDescriptor (T k).2.2.1 = some (ty0 k)) (hnm : ∀ a, a < N → ∀ b, b < N → a ≠ b → (T a).2.1 ≠ (T b).2.1) (hin : ∀ w ∈ u_ws C T N, w ∈ lw_ws) (hcl : vwCl[ci]? = some (C, T, N)) (hob : w[o]? = some (a, .inr (ci, fs))) (hk : k < N) (hl : k < fs.length) (hlink : Cond.fieldLink own index (T k).1 (T k).2.1 (T k).2.2.1 ∈ lw_ws) (hfin : (T k).2.2.2 = true) (hdecl : (T k).1 = own) (hdesc : parseFieldDescriptor (T k).2.2.1 = some ty) (hn : narrow ty v = v) (hfit : fits ty v = true) (hd : decode cc pc = .ok (.putfield index, 3)) {w' : va_W} (hw' : w.set o (a, .inr (ci, fs.set k v)) = w') (kk : zN p l e R s m args below meth c G nL cells slots Q Lv ws (pc + 3) st w') : zN p l e R s m args below meth c G nL cells slots Q Lv ws pc (v :: .ref a :: st) w := by
  intro ls H locs hL hP hD hS
  refine va_putF (D := G.1) (ci := ci) (C := C) (T := T) (N := N) (ty := ty) hc.1 hc.2.1 hc.2.2.2.2.1 hin ty0 hty hnm hc.2.2.2.1 hc.2.2.2.2.2.1.1 hP hD hS (ws.length + o) (zn_at hob) hcl k hk (hc.2.2.2.2.1 _ hlink) (fun _ h9 => h9) hfin hmn hdecl hdesc hn hfit hl hd (fun H1 locs1 hP1 hD1 hS1 => ?_)
  rw [zn_set, hw'] at hP1 hD1
  exact kk ls H1 locs1 hL hP1 hD1 hS1
theorem zn_get (hc : zCx p s m args c cc nL own G) {C : String} {T : u_T} {N ci index k o a : Nat} {fs : List Value} {v : Value} (hin : ∀ w ∈ u_ws C T N, w ∈ lw_ws) (hcl : vwCl[ci]? = some (C, T, N)) (hob : w[o]? = some (a, .inr (ci, fs))) (hk : k < N) (hv : fs[k]? = some v) (hlink : Cond.fieldLink own index (T k).1 (T k).2.1 (T k).2.2.1 ∈ lw_ws) (hd : decode cc pc = .ok (.getfield index, 3)) (kk : zN p l e R s m args below meth c G nL cells slots Q Lv ws (pc + 3) (v :: st) w) : zN p l e R s m args below meth c G nL cells slots Q Lv ws pc (.ref a :: st) w := by
  intro ls H locs hL hP hD hS
  exact va_get (D := G.1) (ci := ci) (C := C) (T := T) (N := N) hc.1 hc.2.1 hc.2.2.2.2.1 hin hc.2.2.2.1 hc.2.2.2.2.2.1.1 hP (ws.length + o) (zn_at hob) hcl k hk (hc.2.2.2.2.1 _ hlink) (fun _ h9 => h9) hv hd (kk ls H locs hL hP hD hS)
theorem zup32 {f : Int → Int} {i v : Int} (hx : inR i) (h0 : 0 ≤ i) : upd (fun j : Nat => Int32.ofInt (f (j : Int))) (Int32.ofInt i).toNatClampNeg (Int32.ofInt v) = fun j : Nat => Int32.ofInt (upI f i v (j : Int)) := by
  funext j
  rw [zr_cl hx]
  unfold upd upI
  by_cases hj : (j : Int) = i
  · rw [if_pos hj, if_pos (by omega)]
  · rw [if_neg hj, if_neg (by omega)]
theorem zn_ist (hc : zCx p s m args c cc nL own G) {o a n : Nat} {f : Int → Int} {i v : Int} (hob : w[o]? = some (a, zarrE G n f)) (hi : 0 ≤ i ∧ i < (n : Int)) (hn : n < 30000) (hd : decode cc pc = .ok (.iastore, 1)) {w' : va_W} (hw' : w.set o (a, zarrE G n (upI f i v)) = w') (kk : zN p l e R s m args below meth c G nL cells slots Q Lv ws (pc + 1) st w') : zN p l e R s m args below meth c G nL cells slots Q Lv ws pc (.int (Int32.ofInt v) :: .int (Int32.ofInt i) :: .ref a :: st) w := by
  intro ls H locs hL hP hD hS
  have hx : inR i := ⟨by omega, by omega⟩
  refine va_iast hc.1 hc.2.1 hc.2.2.2.2.2.1.1 hP hD hS (ws.length + o) 0 (zn_at hob) rfl (zr_in hx hi.1 hi.2) hd (fun H1 locs1 hP1 hD1 hS1 => ?_)
  rw [zup32 hx hi.1, zn_set] at hP1 hD1
  rw [← hw'] at kk
  exact kk ls H1 locs1 hL hP1 hD1 hS1
-- a constructor's contract: the world before it ends with the bare object
def zMetN (l : Launch) (y : MethodName) (cc : ByteArray) (f lo mc ms : Nat) (G : zG) (ws : va_W) (q : Nat) (E0 : va_E) (Rw : va_W → Prop) : Prop :=
  Met l y (Cond.code y cc 1 none :: lw_ws) (zRoom f lo mc ms) (va_Pc [.ref q] (fun U => zbs G ≤ U.heap.size ∧ zKK G U ∧ va_P G.1 vwCl (ws ++ [(q, E0)]) U.heap ∧ va_D (zA G) (ws ++ [(q, E0)]))) (va_Qv (fun w : va_W => Rw w) (fun w t => va_P G.1 vwCl (ws ++ w) t.heap ∧ va_D (zA G) (ws ++ w)) (zA G)) mc ms (zA G)
theorem zmetN {y : MethodName} {f lo mc ms q : Nat} {E0 : va_E} {Rw : va_W → Prop} (hy : plainName y.cls = true) (hyn : y.name = "<init>")
    (body : ∀ (p : Program) (e : Env) (s : State) (m : MethodId) (args : Array Value) (below : List Frame) (meth : Method) (c : Code), zCx p s m args c cc 1 y.cls G → meth.sig.returnType = none → meth.locks = false → meth.name = "<init>" → zN p l e (zRoom f lo mc ms) s m args below meth c G 1 0 0 (MQ below (va_Qv (fun w : va_W => Rw w) (fun w t => va_P G.1 vwCl (ws ++ w) t.heap ∧ va_D (zA G) (ws ++ w)) (zA G)) args s mc ms (zA G)) [(0, .ref q)] ws 0 [] [(q, E0)]) : zMetN l y cc f lo mc ms G ws q E0 Rw := by
  refine Met.ofW (cc := cc) (maxL := 1) (ret := none) hy rfl ?_
  intro p e s m args below meth c s₁ B hml hv
  obtain ⟨rfl, hbs, hK, hP, hD⟩ := hv
  have hts := atoms_spec (ws := Cond.code y cc 1 none :: lw_ws) B.pre
  have hown : s.vm.findClass y.cls = some m.cls := findClass_of_methodNamed B.named
  have hnm : meth.name = "<init>" := (name_of_methodNamed B.named B.method).1.trans hyn
  have hl := lv_entry ([.ref q]) (n := 1) (Nat.le_of_ble_eq_true rfl)
  rw [lg_entry_eq]
  exact body p e s m _ below meth c ⟨B.exec, B.bytes, hml, hown, fun w hw => hts w (List.mem_cons_of_mem _ hw), hK, hbs⟩ B.returns B.notSynchronized hnm _ s.heap [] hl hP hD va_S.rf
theorem zn_ret (hc : zCx p s m args c cc nL own G) (hr : meth.sig.returnType = none) (hlk : meth.locks = false) {mc ms : Nat} {Rw : va_W → Prop} (hd : decode cc pc = .ok (.return_, 1)) (hcc : cells ≤ mc) (hss : slots ≤ ms) (hq : Rw w) : zN p l e R s m args below meth c G nL cells slots (MQ below (va_Qv (fun w : va_W => Rw w) (fun w t => va_P G.1 vwCl (ws ++ w) t.heap ∧ va_D (zA G) (ws ++ w)) (zA G)) args s mc ms (zA G)) Lv ws pc [] w := by
  intro ls H locs hL hP hD hS
  refine W.widen hcc hss ?_
  exact W.vret hc.1 hc.2.1 hr (fun t ht hW' => ⟨⟨w, rfl, hq, by rw [ht]; exact hP, hD⟩, hS.F ht⟩) hS.2.2 hd hlk
theorem zn_blind {q : Nat} {E0 : va_E} : FrameBlind (va_Pc [.ref q] (fun U => zbs G ≤ U.heap.size ∧ zKK G U ∧ va_P G.1 vwCl (ws ++ [(q, E0)]) U.heap ∧ va_D (zA G) (ws ++ [(q, E0)]))) := by
  intro a U g mk q
  obtain ⟨q0, q1, q2, q3, q4⟩ := q
  exact ⟨q0, q1, zKK_same (u := U) (U := U.calling g mk a) rfl q2, q3, q4⟩
theorem zn_pre (hc : zCx p s m args c cc nL own G) {q : Nat} {E0 : va_E} {H : Heap} {locs : List Loc} (hP : va_P G.1 vwCl (ws ++ [(q, E0)]) H) (hD : va_D (zA G) (ws ++ [(q, E0)])) (hS : va_S (zA G) s.heap H locs) : ∀ U : State, U.heap = H → s.WarmedH U.vm → va_Pc [.ref q] (fun U => zbs G ≤ U.heap.size ∧ zKK G U ∧ va_P G.1 vwCl (ws ++ [(q, E0)]) U.heap ∧ va_D (zA G) (ws ++ [(q, E0)])) [.ref q].toArray U := by
  intro U hU hWm
  exact ⟨rfl, by rw [hU]; exact Nat.le_trans hc.2.2.2.2.2.2 hS.1, zKK_warm hWm hc.2.2.2.2.2.1, by rw [hU]; exact hP, hD⟩
theorem zn_call (hc : zCx p s m args c cc nL own G) {y : MethodName} {cc' : ByteArray} {f lo mc ms index q : Nat} {E0 : va_E} {Rw : va_W → Prop} (hk : zKs y cc' 1 none 0) (hyn : y.name = "<init>") (hst : Cond.instanceMethod y ∈ lw_ws) (hl : Cond.methodLink own index y ∈ lw_ws) (hM : zMetN l y cc' f lo mc ms G (ws ++ w) q E0 Rw) (hroom : f + 1 ≤ R.frames ∧ 8 + (1 + 11) + lo ≤ R.locals) (hcap : (st.map fun v => v.category).sum ≤ 8) (hcs : cells + mc ≤ R.cells ∧ slots + ms ≤ R.slots) (hd : decode cc pc = .ok (.invokespecial index, 3))
    (kk : ∀ (w1 : va_W), Rw w1 → zN p l e R s m args below meth c G nL (cells + mc) (slots + ms) Q Lv ws (pc + 3) st (w ++ w1)) : zN p l e R s m args below meth c G nL cells slots Q Lv ws pc (.ref q :: st) (w ++ [(q, E0)]) := by
  intro ls H locs hL hP hD hS
  rw [← List.append_assoc] at hP hD
  refine va_callv (va_runI (As := []) (rest := st) ⟨hc.1, hc.2.1, hc.2.2.1, hc.2.2.2.1, hc.2.2.2.2.1⟩ hM ⟨zcallB hc hk hl hroom, hyn, hc.2.2.2.2.1 _ hst⟩ ⟨zn_blind, zn_pre hc hP hD hS⟩ rfl rfl hL.1 rfl (lv_room hcap) hd hcs) hS (fun q _ h => h) (fun q h => h) (fun w1 t H1 locs1 ht hvm hw hB hz1 hk1 hS1 => ?_)
  rw [ht] at hB
  obtain ⟨hP1, hD1⟩ := hB
  rw [List.append_assoc] at hP1 hD1
  exact kk w1 hw ls H1 locs1 hL hP1 hD1 hS1
theorem zn_callN (hc : zCx p s m args c cc nL own G) {y : MethodName} {host : String} {cc' : ByteArray} {f lo mc ms index q : Nat} {E0 : va_E} {Rw : va_W → Prop} (hk : zKs y cc' 1 none 0) (hyn : y.name = "<init>") (hst : Cond.instanceMethod y ∈ lw_ws) (hl : Cond.methodLinkNest own index y host ∈ zNW) (hM : zMetN l y cc' f lo mc ms G (ws ++ w) q E0 Rw) (hroom : f + 1 ≤ R.frames ∧ 8 + (1 + 11) + lo ≤ R.locals) (hcap : (st.map fun v => v.category).sum ≤ 8) (hcs : cells + mc ≤ R.cells ∧ slots + ms ≤ R.slots) (hd : decode cc pc = .ok (.invokespecial index, 3))
    (kk : ∀ (w1 : va_W), Rw w1 → zN p l e R s m args below meth c G nL (cells + mc) (slots + ms) Q Lv ws (pc + 3) st (w ++ w1)) : zN p l e R s m args below meth c G nL cells slots Q Lv ws pc (.ref q :: st) (w ++ [(q, E0)]) := by
  intro ls H locs hL hP hD hS
  rw [← List.append_assoc] at hP hD
  refine va_callv (va_runIN (As := []) (rest := st) ⟨hc.1, hc.2.1, hc.2.2.1, hc.2.2.2.1, hc.2.2.2.2.1⟩ hM ⟨va_cnB 0 hc.2.2.2.2.1 (zgood hk) rfl rfl rfl (hc.2.2.2.2.2.1.2.1 _ hl) (hc.2.2.2.2.1 _ hk.2.1) hk.2.2 hroom, hyn, hc.2.2.2.2.1 _ hst⟩ ⟨zn_blind, zn_pre hc hP hD hS⟩ rfl rfl hL.1 rfl (lv_room hcap) hd hcs) hS (fun q _ h => h) (fun q h => h) (fun w1 t H1 locs1 ht hvm hw hB hz1 hk1 hS1 => ?_)
  rw [ht] at hB
  obtain ⟨hP1, hD1⟩ := hB
  rw [List.append_assoc] at hP1 hD1
  exact kk w1 hw ls H1 locs1 hL hP1 hD1 hS1
end zNew
