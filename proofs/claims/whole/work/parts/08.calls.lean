def zPre (G : zG) (M : zMem) (As : List zV) (U : State) : Prop := zbs G ≤ U.heap.size ∧ (∃ X, zWd G M X U.heap) ∧ zKK G U ∧ ∀ v ∈ As, zok v
def zPo (G : zG) (M : zMem) (t : State) : Prop := ∃ X, zWd G M X t.heap
abbrev zQi (G : zG) (Qr : Int → zMem → Prop) : Array Value → State → Outcome → State → Prop := va_Qi (fun (r : Int32) (M' : zMem) => Qr r.toInt M') (zPo G) (zA G)
abbrev zQv (G : zG) (Qr : zMem → Prop) : Array Value → State → Outcome → State → Prop := va_Qv (fun (M' : zMem) => Qr M') (zPo G) (zA G)
abbrev zRoom (f lo mc ms : Nat) : Room := { frames := f, cells := mc, slots := ms, locals := lo }
def zMetI (l : Launch) (y : MethodName) (cc : ByteArray) (maxL : Nat) (ret : Option FieldType) (f lo mc ms : Nat) (G : zG) (As : List zV) (M : zMem) (Qr : Int → zMem → Prop) : Prop :=
  Met l y (Cond.code y cc maxL ret :: lw_ws) (zRoom f lo mc ms) (va_Pc (As.map (zmv G)) (zPre G M As)) (zQi G Qr) mc ms (zA G)
def zMetV (l : Launch) (y : MethodName) (cc : ByteArray) (maxL : Nat) (ret : Option FieldType) (f lo mc ms : Nat) (G : zG) (As : List zV) (M : zMem) (Qr : zMem → Prop) : Prop :=
  Met l y (Cond.code y cc maxL ret :: lw_ws) (zRoom f lo mc ms) (va_Pc (As.map (zmv G)) (zPre G M As)) (zQv G Qr) mc ms (zA G)
theorem zlg_len (G : zG) : ∀ As : List zV, (lg_sl (As.map (zmv G))).length = As.length
  | [] => rfl
  | v :: t => by
    have h := zlg_len G t
    cases v <;> simp [lg_sl, zmv, Value.category] at h ⊢ <;> omega
theorem zlv_args (G : zG) : ∀ (As : List zV) (k j : Nat) (v : zV), As[j]? = some v → (k + j, zmv G v) ∈ lv_args k (As.map (zmv G))
  | [], _, _, _, h => by simp at h
  | w :: t, k, 0, v, h => by
    have : w = v := by simpa using h
    subst this
    exact List.mem_cons_self
  | w :: t, k, j + 1, v, h => by
    have h2 := zlv_args G t (k + 1) j v (by simpa using h)
    unfold lv_args
    rw [List.map_cons]
    dsimp only
    rw [zcat, if_neg (by decide)]
    refine List.mem_cons_of_mem _ ?_
    have : k + (j + 1) = k + 1 + j := by omega
    rw [this]
    exact h2
theorem zentry (G : zG) (As : List zV) {n : Nat} (h : As.length ≤ n) {L : List (Option zV)} (hL : As.map some ++ List.replicate (n - As.length) none = L) : lv_has ((lg_sl (As.map (zmv G)) ++ List.replicate (n - (lg_sl (As.map (zmv G))).length) Slot.unset).toArray) n (zpl G 0 L) := by
  have h0 := lv_entry (As.map (zmv G)) (n := n) (by rw [zlg_len]; exact h)
  refine ⟨h0.1, h0.2.1, fun q hq => h0.2.2 q ?_⟩
  obtain ⟨j, v, h1, h2, h3⟩ := zpl_mem.mp hq
  rw [← hL] at h2
  have h4 : As[j]? = some v := by
    rcases Nat.lt_or_ge j As.length with hj | hj
    · rw [List.getElem?_append_left (by rw [List.length_map]; exact hj), List.getElem?_map] at h2
      cases h5 : As[j]? with
      | none => rw [h5] at h2; cases h2
      | some w => rw [h5] at h2; cases h2; rfl
    · rw [List.getElem?_append_right (by rw [List.length_map]; exact hj)] at h2
      obtain ⟨h7, h6⟩ := List.getElem?_eq_some_iff.mp h2
      rw [List.getElem_replicate] at h6
      cases h6
  have h5 := zlv_args G As 0 j v h4
  rw [← h1, ← h3] at h5
  exact h5
theorem zok0 {n : Nat} {As : List zV} {L : List (Option zV)} (hL : As.map some ++ List.replicate (n - As.length) none = L) (h : ∀ v ∈ As, zok v) : ∀ v, some v ∈ L → zok v := by
  intro v hv
  rw [← hL, List.mem_append, List.mem_map] at hv
  rcases hv with ⟨w, h1, h2⟩ | h3
  · cases h2; exact h v h1
  · have := List.eq_of_mem_replicate h3; cases this
theorem zmetI {l : Launch} {y : MethodName} {cc : ByteArray} {maxL : Nat} {ret : Option FieldType} {f lo mc ms : Nat} {G : zG} {As : List zV} {M : zMem} {Qr : Int → zMem → Prop} (hy : plainName y.cls = true) (hlen : As.length ≤ maxL) (L : List (Option zV)) (hL : As.map some ++ List.replicate (maxL - As.length) none = L)
    (body : ∀ (p : Program) (e : Env) (s : State) (m : MethodId) (args : Array Value) (below : List Frame) (meth : Method) (c : Code), zCx p s m args c cc maxL y.cls G → meth.sig.returnType = ret → meth.locks = false → zJ p l e (zRoom f lo mc ms) s m args below meth c G maxL 0 0 (MQ below (zQi G Qr) args s mc ms (zA G)) 0 L [] M) : zMetI l y cc maxL ret f lo mc ms G As M Qr := by
  refine Met.ofW (cc := cc) (maxL := maxL) (ret := ret) hy rfl ?_
  intro p e s m args below meth c s₁ B hml hv
  obtain ⟨rfl, hbs, ⟨X, hW⟩, hK, hok⟩ := hv
  have hts := atoms_spec (ws := Cond.code y cc maxL ret :: lw_ws) B.pre
  have hown : s.vm.findClass y.cls = some m.cls := findClass_of_methodNamed B.named
  rw [lg_entry_eq]
  exact body p e s m _ below meth c ⟨B.exec, B.bytes, hml, hown, fun w hw => hts w (List.mem_cons_of_mem _ hw), hK, hbs⟩ B.returns B.notSynchronized (fun v h => by cases h) (zok0 hL hok) _ s.heap [] X (zentry G As hlen hL) hW va_S.rf
theorem zmetV {l : Launch} {y : MethodName} {cc : ByteArray} {maxL : Nat} {ret : Option FieldType} {f lo mc ms : Nat} {G : zG} {As : List zV} {M : zMem} {Qr : zMem → Prop} (hy : plainName y.cls = true) (hlen : As.length ≤ maxL) (L : List (Option zV)) (hL : As.map some ++ List.replicate (maxL - As.length) none = L)
    (body : ∀ (p : Program) (e : Env) (s : State) (m : MethodId) (args : Array Value) (below : List Frame) (meth : Method) (c : Code), zCx p s m args c cc maxL y.cls G → meth.sig.returnType = ret → meth.locks = false → zJ p l e (zRoom f lo mc ms) s m args below meth c G maxL 0 0 (MQ below (zQv G Qr) args s mc ms (zA G)) 0 L [] M) : zMetV l y cc maxL ret f lo mc ms G As M Qr := by
  refine Met.ofW (cc := cc) (maxL := maxL) (ret := ret) hy rfl ?_
  intro p e s m args below meth c s₁ B hml hv
  obtain ⟨rfl, hbs, ⟨X, hW⟩, hK, hok⟩ := hv
  have hts := atoms_spec (ws := Cond.code y cc maxL ret :: lw_ws) B.pre
  have hown : s.vm.findClass y.cls = some m.cls := findClass_of_methodNamed B.named
  rw [lg_entry_eq]
  exact body p e s m _ below meth c ⟨B.exec, B.bytes, hml, hown, fun w hw => hts w (List.mem_cons_of_mem _ hw), hK, hbs⟩ B.returns B.notSynchronized (fun v h => by cases h) (zok0 hL hok) _ s.heap [] X (zentry G As hlen hL) hW va_S.rf
section zCalls
variable {p : Program} {l : Launch} {e : Env} {R : Room} {s : State} {m : MethodId} {args : Array Value} {below : List Frame} {meth : Method} {c : Code} {cells slots : Nat} {Q : State → Prop} {cc : ByteArray} {nL : Nat} {own : String} {G : zG} {pc : Nat} {L : List (Option zV)} {st : List zV} {M : zMem}
theorem zj_iret (hc : zCx p s m args c cc nL own G) (hr : meth.sig.returnType = some .int) (hlk : meth.locks = false) {mc ms : Nat} {Qr : Int → zMem → Prop} {x : Int} (hd : decode cc pc = .ok (.ireturn, 1)) (hcc : cells ≤ mc) (hss : slots ≤ ms) (hq : Qr x M) : zJ p l e R s m args below meth c G nL cells slots (MQ below (zQi G Qr) args s mc ms (zA G)) pc L [.inl x] M := by
  intro h1 h2 ls H locs X hL hW hS
  have hx : inR x := zokH h1
  refine W.widen hcc hss ?_
  exact W.iret (v := Int32.ofInt x) hc.1 hc.2.1 hr (fun t ht hW' => ⟨⟨_, M, rfl, by show Qr (Int32.ofInt x).toInt M; rw [zr_toInt hx]; exact hq, X, by rw [ht]; exact hW⟩, hS.F ht⟩) hS.2.2 hd hlk
theorem zj_zret (hc : zCx p s m args c cc nL own G) (hr : meth.sig.returnType = some .boolean) (hlk : meth.locks = false) {mc ms : Nat} {Qr : Int → zMem → Prop} {x : Int} (hd : decode cc pc = .ok (.ireturn, 1)) (hcc : cells ≤ mc) (hss : slots ≤ ms) (hb : x = 0 ∨ x = 1) (hq : Qr x M) : zJ p l e R s m args below meth c G nL cells slots (MQ below (zQi G Qr) args s mc ms (zA G)) pc L [.inl x] M := by
  intro h1 h2 ls H locs X hL hW hS
  have hx : inR x := zokH h1
  refine W.widen hcc hss ?_
  exact W.zret (v := Int32.ofInt x) hc.1 hc.2.1 hr (by rcases hb with rfl | rfl <;> decide) (fun t ht hW' => ⟨⟨_, M, rfl, by show Qr (Int32.ofInt x).toInt M; rw [zr_toInt hx]; exact hq, X, by rw [ht]; exact hW⟩, hS.F ht⟩) hS.2.2 hd hlk
theorem zj_vret (hc : zCx p s m args c cc nL own G) (hr : meth.sig.returnType = none) (hlk : meth.locks = false) {mc ms : Nat} {Qr : zMem → Prop} (hd : decode cc pc = .ok (.return_, 1)) (hcc : cells ≤ mc) (hss : slots ≤ ms) (hq : Qr M) : zJ p l e R s m args below meth c G nL cells slots (MQ below (zQv G Qr) args s mc ms (zA G)) pc L [] M := by
  intro h1 h2 ls H locs X hL hW hS
  refine W.widen hcc hss ?_
  exact W.vret hc.1 hc.2.1 hr (fun t ht hW' => ⟨⟨M, rfl, hq, X, by rw [ht]; exact hW⟩, hS.F ht⟩) hS.2.2 hd hlk
def zKs (y : MethodName) (cc : ByteArray) (maxL : Nat) (ret : Option FieldType) (n : Nat) : Prop := Cond.code y cc maxL ret ∈ lw_ws ∧ Cond.initialized y.cls ∈ lw_ws ∧ (y.cls ≠ "java/lang/invoke/MethodHandle" ∧ y.cls ≠ "java/lang/invoke/VarHandle" ∧ (parseMethodDescriptor y.desc).map (fun d => d.parameters.length) = some n)
def zRecv (G : zG) (M : zMem) (a : Nat) (C : String) : Prop := ∃ (o0 ci : Nat) (fs : List Value) (T : u_T) (N : Nat), (zobjs G M)[o0]? = some (zad G a, .inr (ci, fs)) ∧ vwCl[ci]? = some (C, T, N)
theorem zgood {y : MethodName} {cc : ByteArray} {maxL : Nat} {ret : Option FieldType} {n : Nat} (hk : zKs y cc maxL ret n) : GoodIn lw_ws (Cond.code y cc maxL ret :: lw_ws) := by
  have h0 : ∀ w ∈ lw_ws, w ∈ lw_ws ∧ ((w.onTables && w.keeps) = true ∨ ∃ ty, w = .arrayClass ty) := fun w hw => ⟨hw, good_of_word (List.mem_filter.mp hw).2⟩
  exact List.forall_mem_cons.mpr ⟨h0 _ hk.1, h0⟩
theorem zcallB (hc : zCx p s m args c cc nL own G) {y : MethodName} {cc' : ByteArray} {maxL : Nat} {ret : Option FieldType} {n f lo mc ms index : Nat} (hk : zKs y cc' maxL ret n) (hl : Cond.methodLink own index y ∈ lw_ws) (hroom : f + 1 ≤ R.frames ∧ 8 + (maxL + 11) + lo ≤ R.locals) : CallB R s args own index y cc' maxL ret (Cond.code y cc' maxL ret :: lw_ws) (zRoom f lo mc ms) mc ms n :=
  callB_of n hc.2.2.2.2.1 (zgood hk) rfl rfl rfl (hc.2.2.2.2.1 _ hk.2.1) (hc.2.2.2.2.1 _ hl) hk.2.2 hroom
theorem zblind (As : List zV) (M : zMem) : FrameBlind (va_Pc (As.map (zmv G)) (zPre G M As)) := by
  intro a U g mk q
  obtain ⟨q0, q1, q2, q3, q4⟩ := q
  exact ⟨q0, q1, q2, zKK_same (u := U) (U := U.calling g mk a) rfl q3, q4⟩
theorem zstk (As st : List zV) : (As.reverse ++ st).map (zmv G) = (As.map (zmv G)).reverse ++ st.map (zmv G) := by rw [List.map_append, List.map_reverse]
theorem zcats (G : zG) : ∀ st : List zV, ((st.map (zmv G)).map fun v => v.category).sum = st.length
  | [] => rfl
  | v :: t => by simp only [List.map_cons, List.sum_cons, zcat, zcats G t, List.length_cons]; omega
theorem zpre_of (hc : zCx p s m args c cc nL own G) {X : va_W} {H : Heap} {locs : List Loc} (hW : zWd G M X H) (hS : va_S (zA G) s.heap H locs) {As : List zV} (hok : ∀ v ∈ As, zok v) : ∀ U : State, U.heap = H → s.WarmedH U.vm → va_Pc (As.map (zmv G)) (zPre G M As) (As.map (zmv G)).toArray U := by
  intro U hU hWm
  exact ⟨rfl, by rw [hU]; exact Nat.le_trans hc.2.2.2.2.2.2 hS.1, ⟨X, by rw [hU]; exact hW⟩, zKK_warm hWm hc.2.2.2.2.2.1, hok⟩
theorem zokA {As st : List zV} (h1 : ∀ v ∈ As.reverse ++ st, zok v) : ∀ v ∈ As, zok v := fun v hv => h1 v (List.mem_append_left _ (List.mem_reverse.mpr hv))
theorem zokB {As st : List zV} (h1 : ∀ v ∈ As.reverse ++ st, zok v) : ∀ v ∈ st, zok v := fun v hv => h1 v (List.mem_append_right _ hv)
theorem zj_sti (hc : zCx p s m args c cc nL own G) {y : MethodName} {cc' : ByteArray} {maxL : Nat} {ret : Option FieldType} {n f lo mc ms index : Nat} {As : List zV} {Qr : Int → zMem → Prop} (hk : zKs y cc' maxL ret n) (hst : Cond.static y ∈ lw_ws) (hl : Cond.methodLink own index y ∈ lw_ws) (hM : zMetI l y cc' maxL ret f lo mc ms G As M Qr) (hn : As.length = n) (hroom : f + 1 ≤ R.frames ∧ 8 + (maxL + 11) + lo ≤ R.locals) (hcap : st.length ≤ 8) (hcs : cells + mc ≤ R.cells ∧ slots + ms ≤ R.slots) (hd : decode cc pc = .ok (.invokestatic index, 3)) {st0 : List zV} (hs0 : st0 = As.reverse ++ st)
    (kk : ∀ (r : Int) (M' : zMem), Qr r M' → zJ p l e R s m args below meth c G nL (cells + mc) (slots + ms) Q (pc + 3) L (.inl r :: st) M') : zJ p l e R s m args below meth c G nL cells slots Q pc L st0 M := by
  intro h1 h2 ls H locs X hL hW hS
  subst hs0
  refine va_calli (va_runS (As := As.map (zmv G)) (rest := st.map (zmv G)) ⟨hc.1, hc.2.1, hc.2.2.1, hc.2.2.2.1, hc.2.2.2.2.1⟩ hM ⟨zcallB hc hk hl hroom, hc.2.2.2.2.1 _ hst⟩ ⟨zblind As M, zpre_of hc hW hS (zokA h1)⟩ rfl (by rw [List.length_map]; exact hn) hL.1 (zstk As st) (lv_room (by rw [zcats]; exact hcap)) hd hcs) hS (fun q _ h => h) (fun q h => h) (fun r M' t H1 locs1 ht hvm hw hB hz1 hk1 hS1 => ?_)
  obtain ⟨X', hW'⟩ := hB
  rw [ht] at hW'
  have h9 := kk r.toInt M' hw (zokC (zokB h1) (zr_of r)) h2 ls H1 locs1 X' hL hW' hS1
  rw [List.map_cons, zmv, zr_back] at h9
  exact h9
theorem zj_stv (hc : zCx p s m args c cc nL own G) {y : MethodName} {cc' : ByteArray} {maxL : Nat} {ret : Option FieldType} {n f lo mc ms index : Nat} {As : List zV} {Qr : zMem → Prop} (hk : zKs y cc' maxL ret n) (hst : Cond.static y ∈ lw_ws) (hl : Cond.methodLink own index y ∈ lw_ws) (hM : zMetV l y cc' maxL ret f lo mc ms G As M Qr) (hn : As.length = n) (hroom : f + 1 ≤ R.frames ∧ 8 + (maxL + 11) + lo ≤ R.locals) (hcap : st.length ≤ 8) (hcs : cells + mc ≤ R.cells ∧ slots + ms ≤ R.slots) (hd : decode cc pc = .ok (.invokestatic index, 3)) {st0 : List zV} (hs0 : st0 = As.reverse ++ st)
    (kk : ∀ (M' : zMem), Qr M' → zJ p l e R s m args below meth c G nL (cells + mc) (slots + ms) Q (pc + 3) L st M') : zJ p l e R s m args below meth c G nL cells slots Q pc L st0 M := by
  intro h1 h2 ls H locs X hL hW hS
  subst hs0
  refine va_callv (va_runS (As := As.map (zmv G)) (rest := st.map (zmv G)) ⟨hc.1, hc.2.1, hc.2.2.1, hc.2.2.2.1, hc.2.2.2.2.1⟩ hM ⟨zcallB hc hk hl hroom, hc.2.2.2.2.1 _ hst⟩ ⟨zblind As M, zpre_of hc hW hS (zokA h1)⟩ rfl (by rw [List.length_map]; exact hn) hL.1 (zstk As st) (lv_room (by rw [zcats]; exact hcap)) hd hcs) hS (fun q _ h => h) (fun q h => h) (fun M' t H1 locs1 ht hvm hw hB hz1 hk1 hS1 => ?_)
  obtain ⟨X', hW'⟩ := hB
  rw [ht] at hW'
  exact kk M' hw (zokB h1) h2 ls H1 locs1 X' hL hW' hS1
theorem zj_vti (hc : zCx p s m args c cc nL own G) {y : MethodName} {cc' : ByteArray} {maxL : Nat} {ret : Option FieldType} {n f lo mc ms index a : Nat} {As : List zV} {Qr : Int → zMem → Prop} (hk : zKs y cc' maxL ret n) (hst : Cond.instanceMethod y ∈ lw_ws ∧ Cond.selects y.cls y y ∈ lw_ws) (hl : Cond.methodLink own index y ∈ lw_ws) (hrv : zRecv G M a y.cls) (hM : zMetI l y cc' maxL ret f lo mc ms G (.inr a :: As) M Qr) (hn : As.length = n) (hroom : f + 1 ≤ R.frames ∧ 8 + (maxL + 11) + lo ≤ R.locals) (hcap : st.length ≤ 8) (hcs : cells + mc ≤ R.cells ∧ slots + ms ≤ R.slots) (hd : decode cc pc = .ok (.invokevirtual index, 3)) {st0 : List zV} (hs0 : st0 = As.reverse ++ (.inr a :: st))
    (kk : ∀ (r : Int) (M' : zMem), Qr r M' → zJ p l e R s m args below meth c G nL (cells + mc) (slots + ms) Q (pc + 3) L (.inl r :: st) M') : zJ p l e R s m args below meth c G nL cells slots Q pc L st0 M := by
  intro h1 h2 ls H locs X hL hW hS
  subst hs0
  have hok : ∀ v ∈ (.inr a :: As : List zV), zok v := List.forall_mem_cons.mpr ⟨trivial, zokA h1⟩
  obtain ⟨o0, ci, fs, T, N, hob, hcl⟩ := hrv
  have hlt : o0 < (zobjs G M).length := (List.getElem?_eq_some_iff.mp hob).1
  refine va_calli (va_runV (C := y.cls) (b := zad G a) (As := As.map (zmv G)) (rest := st.map (zmv G)) ⟨hc.1, hc.2.1, hc.2.2.1, hc.2.2.2.1, hc.2.2.2.2.1⟩ hM ⟨zcallB hc hk hl hroom, hc.2.2.2.2.1 _ hst.1, hc.2.2.2.2.1 _ hst.2⟩ ⟨zblind (.inr a :: As) M, va_recv hc.2.2.2.2.2.1.1 hW.1 hcl (q0 := o0) (by unfold zcl; rw [List.getElem?_append_left hlt]; exact hob), zpre_of hc hW hS hok⟩ rfl (by rw [List.length_map]; exact hn) hL.1 (zstk As (.inr a :: st)) (lv_room (by rw [zcats]; exact hcap)) hd hcs) hS (fun q _ h => h) (fun q h => h) (fun r M' t H1 locs1 ht hvm hw hB hz1 hk1 hS1 => ?_)
  obtain ⟨X', hW'⟩ := hB
  rw [ht] at hW'
  have h9 := kk r.toInt M' hw (zokC (zokT (zokB h1)) (zr_of r)) h2 ls H1 locs1 X' hL hW' hS1
  rw [List.map_cons, zmv, zr_back] at h9
  exact h9
theorem zj_vtv (hc : zCx p s m args c cc nL own G) {y : MethodName} {cc' : ByteArray} {maxL : Nat} {ret : Option FieldType} {n f lo mc ms index a : Nat} {As : List zV} {Qr : zMem → Prop} (hk : zKs y cc' maxL ret n) (hst : Cond.instanceMethod y ∈ lw_ws ∧ Cond.selects y.cls y y ∈ lw_ws) (hl : Cond.methodLink own index y ∈ lw_ws) (hrv : zRecv G M a y.cls) (hM : zMetV l y cc' maxL ret f lo mc ms G (.inr a :: As) M Qr) (hn : As.length = n) (hroom : f + 1 ≤ R.frames ∧ 8 + (maxL + 11) + lo ≤ R.locals) (hcap : st.length ≤ 8) (hcs : cells + mc ≤ R.cells ∧ slots + ms ≤ R.slots) (hd : decode cc pc = .ok (.invokevirtual index, 3)) {st0 : List zV} (hs0 : st0 = As.reverse ++ (.inr a :: st))
    (kk : ∀ (M' : zMem), Qr M' → zJ p l e R s m args below meth c G nL (cells + mc) (slots + ms) Q (pc + 3) L st M') : zJ p l e R s m args below meth c G nL cells slots Q pc L st0 M := by
  intro h1 h2 ls H locs X hL hW hS
  subst hs0
  have hok : ∀ v ∈ (.inr a :: As : List zV), zok v := List.forall_mem_cons.mpr ⟨trivial, zokA h1⟩
  obtain ⟨o0, ci, fs, T, N, hob, hcl⟩ := hrv
  have hlt : o0 < (zobjs G M).length := (List.getElem?_eq_some_iff.mp hob).1
  refine va_callv (va_runV (C := y.cls) (b := zad G a) (As := As.map (zmv G)) (rest := st.map (zmv G)) ⟨hc.1, hc.2.1, hc.2.2.1, hc.2.2.2.1, hc.2.2.2.2.1⟩ hM ⟨zcallB hc hk hl hroom, hc.2.2.2.2.1 _ hst.1, hc.2.2.2.2.1 _ hst.2⟩ ⟨zblind (.inr a :: As) M, va_recv hc.2.2.2.2.2.1.1 hW.1 hcl (q0 := o0) (by unfold zcl; rw [List.getElem?_append_left hlt]; exact hob), zpre_of hc hW hS hok⟩ rfl (by rw [List.length_map]; exact hn) hL.1 (zstk As (.inr a :: st)) (lv_room (by rw [zcats]; exact hcap)) hd hcs) hS (fun q _ h => h) (fun q h => h) (fun M' t H1 locs1 ht hvm hw hB hz1 hk1 hS1 => ?_)
  obtain ⟨X', hW'⟩ := hB
  rw [ht] at hW'
  exact kk M' hw (zokT (zokB h1)) h2 ls H1 locs1 X' hL hW' hS1
theorem zj_sni (hc : zCx p s m args c cc nL own G) {y : MethodName} {host : String} {cc' : ByteArray} {maxL : Nat} {ret : Option FieldType} {n f lo mc ms index : Nat} {As : List zV} {Qr : Int → zMem → Prop} (hk : zKs y cc' maxL ret n) (hst : Cond.static y ∈ lw_ws) (hl : Cond.methodLinkNest own index y host ∈ zNW) (hM : zMetI l y cc' maxL ret f lo mc ms G As M Qr) (hn : As.length = n) (hroom : f + 1 ≤ R.frames ∧ 8 + (maxL + 11) + lo ≤ R.locals) (hcap : st.length ≤ 8) (hcs : cells + mc ≤ R.cells ∧ slots + ms ≤ R.slots) (hd : decode cc pc = .ok (.invokestatic index, 3)) {st0 : List zV} (hs0 : st0 = As.reverse ++ st)
    (kk : ∀ (r : Int) (M' : zMem), Qr r M' → zJ p l e R s m args below meth c G nL (cells + mc) (slots + ms) Q (pc + 3) L (.inl r :: st) M') : zJ p l e R s m args below meth c G nL cells slots Q pc L st0 M := by
  intro h1 h2 ls H locs X hL hW hS
  subst hs0
  refine va_calli (va_runSN (As := As.map (zmv G)) (rest := st.map (zmv G)) ⟨hc.1, hc.2.1, hc.2.2.1, hc.2.2.2.1, hc.2.2.2.2.1⟩ hM ⟨va_cnB n hc.2.2.2.2.1 (zgood hk) rfl rfl rfl (hc.2.2.2.2.2.1.2.1 _ hl) (hc.2.2.2.2.1 _ hk.2.1) hk.2.2 hroom, hc.2.2.2.2.1 _ hst, trivial⟩ ⟨zblind As M, zpre_of hc hW hS (zokA h1)⟩ rfl (by rw [List.length_map]; exact hn) hL.1 (zstk As st) (lv_room (by rw [zcats]; exact hcap)) hd hcs) hS (fun q _ h => h) (fun q h => h) (fun r M' t H1 locs1 ht hvm hw hB hz1 hk1 hS1 => ?_)
  obtain ⟨X', hW'⟩ := hB
  rw [ht] at hW'
  have h9 := kk r.toInt M' hw (zokC (zokB h1) (zr_of r)) h2 ls H1 locs1 X' hL hW' hS1
  rw [List.map_cons, zmv, zr_back] at h9
  exact h9
theorem zj_min (hc : zCx p s m args c cc nL own G) {index : Nat} {x y : Int} (hd : decode cc pc = .ok (.invokestatic index, 3)) (hlink : Cond.methodLink own index Lib.Math.min.name ∈ lw_ws) (hstat : Cond.static Lib.Math.min.name ∈ lw_ws) (hini : Cond.initialized "java/lang/Math" ∈ lw_ws) (hcode : Cond.code Lib.Math.min.name Lib.Math.min.code 2 (some .int) ∈ lw_ws) (hfr : 1 ≤ R.frames) (hlo : st.length + 13 ≤ R.locals) (hcs : cells ≤ R.cells ∧ slots ≤ R.slots)
    (kk : zJ p l e R s m args below meth c G nL cells slots Q (pc + 3) L (.inl (min x y) :: st) M) : zJ p l e R s m args below meth c G nL cells slots Q pc L (.inl y :: .inl x :: st) M := by
  intro h1 h2 ls H locs X hL hW hS
  have hy : inR y := zokH h1
  have hx : inR x := zokH (zokT h1)
  refine va_mmin hc.1 hc.2.1 (by rw [hc.2.2.1, hL.1]) hc.2.2.2.1 (hc.2.2.2.2.1 _ hlink) (hc.2.2.2.2.1 _ hstat) (hc.2.2.2.2.1 _ hini) (hc.2.2.2.2.1 _ hcode) hfr (by rw [zcats]; exact hlo) hcs.1 hcs.2 hd ?_
  have he : (if Int32.ofInt y < Int32.ofInt x then Int32.ofInt y else Int32.ofInt x) = Int32.ofInt (min x y) := by
    by_cases h : y < x
    · rw [if_pos ((zr_lt hy hx).mpr h), Int.min_eq_right (by omega)]
    · rw [if_neg (fun h9 => h ((zr_lt hy hx).mp h9)), Int.min_eq_left (by omega)]
  rw [he]
  exact kk (zokC (zokT (zokT h1)) (by have := hx.1; have := hx.2; have := hy.1; have := hy.2; exact ⟨by omega, by omega⟩)) h2 ls H locs X hL hW hS
theorem zj_max (hc : zCx p s m args c cc nL own G) {index : Nat} {x y : Int} (hd : decode cc pc = .ok (.invokestatic index, 3)) (hlink : Cond.methodLink own index Lib.Math.max.name ∈ lw_ws) (hstat : Cond.static Lib.Math.max.name ∈ lw_ws) (hini : Cond.initialized "java/lang/Math" ∈ lw_ws) (hcode : Cond.code Lib.Math.max.name Lib.Math.max.code 2 (some .int) ∈ lw_ws) (hfr : 1 ≤ R.frames) (hlo : st.length + 13 ≤ R.locals) (hcs : cells ≤ R.cells ∧ slots ≤ R.slots)
    (kk : zJ p l e R s m args below meth c G nL cells slots Q (pc + 3) L (.inl (max x y) :: st) M) : zJ p l e R s m args below meth c G nL cells slots Q pc L (.inl y :: .inl x :: st) M := by
  intro h1 h2 ls H locs X hL hW hS
  have hy : inR y := zokH h1
  have hx : inR x := zokH (zokT h1)
  refine va_mmax hc.1 hc.2.1 (by rw [hc.2.2.1, hL.1]) hc.2.2.2.1 (hc.2.2.2.2.1 _ hlink) (hc.2.2.2.2.1 _ hstat) (hc.2.2.2.2.1 _ hini) (hc.2.2.2.2.1 _ hcode) hfr (by rw [zcats]; exact hlo) hcs.1 hcs.2 hd ?_
  have he : (if Int32.ofInt x < Int32.ofInt y then Int32.ofInt y else Int32.ofInt x) = Int32.ofInt (max x y) := by
    by_cases h : x < y
    · rw [if_pos ((zr_lt hx hy).mpr h), Int.max_eq_right (by omega)]
    · rw [if_neg (fun h9 => h ((zr_lt hx hy).mp h9)), Int.max_eq_left (by omega)]
  rw [he]
  exact kk (zokC (zokT (zokT h1)) (by have := hx.1; have := hx.2; have := hy.1; have := hy.2; exact ⟨by omega, by omega⟩)) h2 ls H locs X hL hW hS
end zCalls
