-- the nest's words (they are kept by warming, not among lw_ws)
def zNW : List Cond := [.methodLinkNest "PackedPages" 49 ⟨"PackedPages$Draft", "<init>", "()V"⟩ "PackedPages", .methodLinkNest "PackedPages$Draft" 27 ⟨"PackedPages$Records", "<init>", "()V"⟩ "PackedPages", .methodLinkNest "PackedPages$Records" 11 ⟨"PackedPages$Packer", "<init>", "()V"⟩ "PackedPages", .methodLinkNest "PackedPages" 56 ⟨"PackedPages$Records", "<init>", "()V"⟩ "PackedPages", .methodLinkNest "PackedPages" 63 ⟨"PackedPages$Frames", "<init>", "()V"⟩ "PackedPages", .methodLinkNest "PackedPages" 70 ⟨"PackedPages$Past", "<init>", "()V"⟩ "PackedPages", .methodLinkNest "PackedPages$Records" 74 ⟨"PackedPages", "isByte", "(I)Z"⟩ "PackedPages", .methodLinkNest "PackedPages$Past" 24 ⟨"PackedPages$Moment", "<init>", "()V"⟩ "PackedPages"]
def zKK (G : zG) (U : State) : Prop := va_K G.1 vwCl (ztys G) U ∧ (∀ w ∈ zNW, va_Nw w U) ∧ va_AO "PackedPages$Moment" U
theorem zNW_warm {s U : State} (hW : s.WarmedH U.vm) (h : ∀ w ∈ zNW, va_Nw w s) : ∀ w ∈ zNW, va_Nw w U := by
  simp only [zNW, List.forall_mem_cons] at h ⊢
  exact ⟨va_Nw.warmM hW h.1, va_Nw.warmM hW h.2.1, va_Nw.warmM hW h.2.2.1, va_Nw.warmM hW h.2.2.2.1, va_Nw.warmM hW h.2.2.2.2.1, va_Nw.warmM hW h.2.2.2.2.2.1, va_Nw.warmM hW h.2.2.2.2.2.2.1, va_Nw.warmM hW h.2.2.2.2.2.2.2.1, fun _ h => by cases h⟩
theorem zNW_same {u U : State} (hvm : u.vm = U.vm) (h : ∀ w ∈ zNW, va_Nw w u) : ∀ w ∈ zNW, va_Nw w U := by
  simp only [zNW, List.forall_mem_cons] at h ⊢
  exact ⟨va_Nw.same rfl hvm h.1, va_Nw.same rfl hvm h.2.1, va_Nw.same rfl hvm h.2.2.1, va_Nw.same rfl hvm h.2.2.2.1, va_Nw.same rfl hvm h.2.2.2.2.1, va_Nw.same rfl hvm h.2.2.2.2.2.1, va_Nw.same rfl hvm h.2.2.2.2.2.2.1, va_Nw.same rfl hvm h.2.2.2.2.2.2.2.1, fun _ h => by cases h⟩
theorem zKK_warm {G : zG} {s U : State} (hW : s.WarmedH U.vm) (h : zKK G s) : zKK G U := ⟨va_K.moved hW.alike h.1, zNW_warm hW h.2.1, va_AO.moved hW.alike h.2.2⟩
theorem zKK_same {G : zG} {u U : State} (hvm : u.vm = U.vm) (h : zKK G u) : zKK G U := ⟨va_K.moved (by rw [hvm]; exact Vm.Alike.refl U.vm) h.1, zNW_same hvm h.2.1, va_AO.moved (by rw [hvm]; exact Vm.Alike.refl U.vm) h.2.2⟩
-- locals by their places
def zpl (G : zG) : Nat → List (Option zV) → List (Nat × Value)
  | _, [] => []
  | i, none :: t => zpl G (i + 1) t
  | i, some v :: t => (i, zmv G v) :: zpl G (i + 1) t
theorem zpl_mem {G : zG} {q : Nat × Value} : ∀ {k : Nat} {L : List (Option zV)}, q ∈ zpl G k L ↔ ∃ (j : Nat) (v : zV), q.1 = k + j ∧ L[j]? = some (some v) ∧ q.2 = zmv G v
  | k, [] => by simp [zpl]
  | k, none :: t => by
    unfold zpl
    rw [zpl_mem (k := k + 1) (L := t)]
    constructor
    · rintro ⟨j, v, h1, h2, h3⟩
      exact ⟨j + 1, v, by omega, by simpa using h2, h3⟩
    · rintro ⟨j, v, h1, h2, h3⟩
      cases j with
      | zero => simp at h2
      | succ j => exact ⟨j, v, by omega, by simpa using h2, h3⟩
  | k, some w :: t => by
    unfold zpl
    rw [List.mem_cons, zpl_mem (k := k + 1) (L := t)]
    constructor
    · rintro (h | ⟨j, v, h1, h2, h3⟩)
      · exact ⟨0, w, by rw [h]; rfl, rfl, by rw [h]⟩
      · exact ⟨j + 1, v, by omega, by simpa using h2, h3⟩
    · rintro ⟨j, v, h1, h2, h3⟩
      cases j with
      | zero =>
        refine Or.inl ?_
        have : w = v := by simpa using h2
        subst this
        exact Prod.ext (by rw [h1]; rfl) h3
      | succ j => exact Or.inr ⟨j, v, by omega, by simpa using h2, h3⟩
theorem zpl_at {G : zG} {ls : Array Slot} {nL : Nat} {L : List (Option zV)} (h : lv_has ls nL (zpl G 0 L)) {i : Nat} {v : zV} (hi : L[i]? = some (some v)) : ls[i]? = some (.val (zmv G v)) :=
  h.2.2 (i, zmv G v) (zpl_mem.mpr ⟨i, v, (Nat.zero_add i).symm, hi, rfl⟩)
theorem zcat (G : zG) (v : zV) : (zmv G v).category = 1 := by cases v <;> rfl
theorem zpl_set {G : zG} {ls : Array Slot} {nL : Nat} {L : List (Option zV)} {i : Nat} {v : zV} (h : lv_has ls nL ((i, zmv G v) :: (zpl G 0 L).filter (fun q => !(q.1 == i) && !(q.1 + 1 == i && q.2.category == 2)))) : lv_has ls nL (zpl G 0 (L.set i (some v))) := by
  refine ⟨h.1, h.2.1, fun q hq => ?_⟩
  obtain ⟨j, w, h1, h2, h3⟩ := zpl_mem.mp hq
  rw [Nat.zero_add] at h1
  refine h.2.2 q ?_
  rw [List.getElem?_set] at h2
  by_cases hij : i = j
  · rw [if_pos hij] at h2
    split at h2
    · have : v = w := by simpa using h2
      refine List.mem_cons.mpr (Or.inl (Prod.ext (by rw [h1, hij]) (by rw [h3, this])))
    · cases h2
  · rw [if_neg hij] at h2
    refine List.mem_cons_of_mem _ (List.mem_filter.mpr ⟨zpl_mem.mpr ⟨j, w, by omega, h2, h3⟩, ?_⟩)
    have h5 : (q.1 == i) = false := by rw [beq_eq_false_iff_ne]; omega
    have h6 : (q.2.category == 2) = false := by rw [h3, zcat]; rfl
    rw [h5, h6, Bool.and_false]
    rfl
def zmask : List Bool → List (Option zV) → List (Option zV)
  | [], _ => []
  | _ :: _, [] => []
  | b :: bs, v :: vs => (bif b then v else none) :: zmask bs vs
theorem zmask_at : ∀ {bs : List Bool} {L : List (Option zV)} {i : Nat} {v : zV}, (zmask bs L)[i]? = some (some v) → L[i]? = some (some v)
  | [], _, _, _, h => by simp [zmask] at h
  | _ :: _, [], _, _, h => by simp [zmask] at h
  | b :: bs, w :: vs, i, v, h => by
    unfold zmask at h
    cases i with
    | zero =>
      cases b with
      | true => simpa using h
      | false => simp at h
    | succ i =>
      have := zmask_at (bs := bs) (L := vs) (i := i) (v := v) (by simpa using h)
      simpa using this
section zRules
variable {p : Program} {l : Launch} {e : Env} {R : Room} {s : State} {m : MethodId} {args : Array Value} {below : List Frame} {meth : Method} {c : Code} {cells slots : Nat} {Q : State → Prop} {cc : ByteArray} {nL : Nat} {own : String} {G : zG} {pc : Nat} {L : List (Option zV)} {st : List zV} {M : zMem}
def zJ (p : Program) (l : Launch) (e : Env) (R : Room) (s : State) (m : MethodId) (args : Array Value) (below : List Frame) (meth : Method) (c : Code) (G : zG) (nL cells slots : Nat) (Q : State → Prop) (pc : Nat) (L : List (Option zV)) (st : List zV) (M : zMem) : Prop :=
  (∀ v ∈ st, zok v) → (∀ v, some v ∈ L → zok v) → ∀ (ls : Array Slot) (H : Heap) (locs : List Loc) (X : va_W), lv_has ls nL (zpl G 0 L) → zWd G M X H → va_S (zA G) s.heap H locs → W p l e R s m args below meth c H locs cells slots Q (F0 m pc ls (st.map (zmv G)))
def zCx (p : Program) (s : State) (m : MethodId) (args : Array Value) (c : Code) (cc : ByteArray) (nL : Nat) (own : String) (G : zG) : Prop :=
  p.tables.exec = Jvm.exec ∧ c.code = cc ∧ c.maxLocals = nL ∧ s.vm.findClass own = some m.cls ∧ (∀ w ∈ lw_ws, w.before args s = true) ∧ zKK G s ∧ zbs G ≤ s.heap.size
theorem zokL {L : List (Option zV)} (h2 : ∀ v, some v ∈ L → zok v) {i : Nat} {v : zV} (hl : L[i]? = some (some v)) : zok v := h2 v (List.mem_of_getElem? hl)
theorem zokC {v : zV} {st : List zV} (h : ∀ v ∈ st, zok v) (hv : zok v) : ∀ w ∈ v :: st, zok w := List.forall_mem_cons.mpr ⟨hv, h⟩
theorem zokT {v : zV} {st : List zV} (h : ∀ w ∈ v :: st, zok w) : ∀ w ∈ st, zok w := (List.forall_mem_cons.mp h).2
theorem zokH {v : zV} {st : List zV} (h : ∀ w ∈ v :: st, zok w) : zok v := (List.forall_mem_cons.mp h).1
theorem zokS {L : List (Option zV)} (h2 : ∀ v, some v ∈ L → zok v) {i : Nat} {v : zV} (hv : zok v) : ∀ w, some w ∈ L.set i (some v) → zok w := by
  intro w hw
  rcases List.mem_or_eq_of_mem_set hw with h | h
  · exact h2 w h
  · cases h; exact hv
theorem zj_mask {bs : List Bool} (kk : zJ p l e R s m args below meth c G nL cells slots Q pc (zmask bs L) st M) : zJ p l e R s m args below meth c G nL cells slots Q pc L st M := by
  intro h1 h2 ls H locs X hL hW hS
  refine kk h1 (fun v hv => ?_) ls H locs X ⟨hL.1, hL.2.1, fun q hq => ?_⟩ hW hS
  · obtain ⟨i, hi⟩ := List.getElem?_of_mem hv
    exact zokL h2 (zmask_at hi)
  · obtain ⟨j, w, e1, e2, e3⟩ := zpl_mem.mp hq
    exact hL.2.2 q (zpl_mem.mpr ⟨j, w, e1, zmask_at e2, e3⟩)
theorem zj_iconst (hc : zCx p s m args c cc nL own G) {n : Int} (hd : decode cc pc = .ok (.iconst n, 1)) (hr : inR n) (kk : zJ p l e R s m args below meth c G nL cells slots Q (pc + 1) L (.inl n :: st) M) : zJ p l e R s m args below meth c G nL cells slots Q pc L st M := by
  intro h1 h2 ls H locs X hL hW hS
  exact lv_iconst hc.1 hc.2.1 hd rfl (kk (zokC h1 hr) h2 ls H locs X hL hW hS)
theorem zj_bipush (hc : zCx p s m args c cc nL own G) {n : Int} (hd : decode cc pc = .ok (.bipush n, 2)) (hv : (Int8.ofInt n).toInt32 = Int32.ofInt n) (hr : inR n) (kk : zJ p l e R s m args below meth c G nL cells slots Q (pc + 2) L (.inl n :: st) M) : zJ p l e R s m args below meth c G nL cells slots Q pc L st M := by
  intro h1 h2 ls H locs X hL hW hS
  exact lv_bipush hc.1 hc.2.1 hd hv (kk (zokC h1 hr) h2 ls H locs X hL hW hS)
theorem zj_sipush (hc : zCx p s m args c cc nL own G) {n : Int} (hd : decode cc pc = .ok (.sipush n, 3)) (hv : (Int16.ofInt n).toInt32 = Int32.ofInt n) (hr : inR n) (kk : zJ p l e R s m args below meth c G nL cells slots Q (pc + 3) L (.inl n :: st) M) : zJ p l e R s m args below meth c G nL cells slots Q pc L st M := by
  intro h1 h2 ls H locs X hL hW hS
  exact lv_sipush hc.1 hc.2.1 hd hv (kk (zokC h1 hr) h2 ls H locs X hL hW hS)

theorem zj_iload (hc : zCx p s m args c cc nL own G) {i : Nat} {x : Int} (hd : decode cc pc = .ok (.iload i, 2)) (hl : L[i]? = some (some (.inl x))) (kk : zJ p l e R s m args below meth c G nL cells slots Q (pc + 2) L (.inl x :: st) M) : zJ p l e R s m args below meth c G nL cells slots Q pc L st M := by
  intro h1 h2 ls H locs X hL hW hS
  exact lv_iload hc.1 hc.2.1 hd (zpl_at hL hl) (kk (zokC h1 (zokL h2 hl)) h2 ls H locs X hL hW hS)
theorem zj_iload_n (hc : zCx p s m args c cc nL own G) {k : Fin 4} {x : Int} (hd : decode cc pc = .ok (.iload_n k, 1)) (hl : L[(k : Nat)]? = some (some (.inl x))) (kk : zJ p l e R s m args below meth c G nL cells slots Q (pc + 1) L (.inl x :: st) M) : zJ p l e R s m args below meth c G nL cells slots Q pc L st M := by
  intro h1 h2 ls H locs X hL hW hS
  exact lv_iload_n hc.1 hc.2.1 hd rfl (zpl_at hL hl) (kk (zokC h1 (zokL h2 hl)) h2 ls H locs X hL hW hS)
theorem zj_aload (hc : zCx p s m args c cc nL own G) {i : Nat} {x : Nat} (hd : decode cc pc = .ok (.aload i, 2)) (hl : L[i]? = some (some (.inr x))) (kk : zJ p l e R s m args below meth c G nL cells slots Q (pc + 2) L (.inr x :: st) M) : zJ p l e R s m args below meth c G nL cells slots Q pc L st M := by
  intro h1 h2 ls H locs X hL hW hS
  exact lv_aload hc.1 hc.2.1 hd (zpl_at hL hl) (kk (zokC h1 (zokL h2 hl)) h2 ls H locs X hL hW hS)
theorem zj_aload_n (hc : zCx p s m args c cc nL own G) {k : Fin 4} {x : Nat} (hd : decode cc pc = .ok (.aload_n k, 1)) (hl : L[(k : Nat)]? = some (some (.inr x))) (kk : zJ p l e R s m args below meth c G nL cells slots Q (pc + 1) L (.inr x :: st) M) : zJ p l e R s m args below meth c G nL cells slots Q pc L st M := by
  intro h1 h2 ls H locs X hL hW hS
  exact lv_aload_n hc.1 hc.2.1 hd rfl (zpl_at hL hl) (kk (zokC h1 (zokL h2 hl)) h2 ls H locs X hL hW hS)
theorem zj_istore (hc : zCx p s m args c cc nL own G) {i : Nat} {x : Int} (hd : decode cc pc = .ok (.istore i, 2)) (hn : i < nL) (kk : zJ p l e R s m args below meth c G nL cells slots Q (pc + 2) (L.set i (some (.inl x))) st M) : zJ p l e R s m args below meth c G nL cells slots Q pc L (.inl x :: st) M := by
  intro h1 h2 ls H locs X hL hW hS
  refine lv_istore hc.1 hc.2.1 hd hL hn rfl (fun ls2 hL2 => ?_)
  exact kk (zokT h1) (zokS h2 (zokH h1)) ls2 H locs X (zpl_set (v := .inl x) hL2) hW hS
theorem zj_istore_n (hc : zCx p s m args c cc nL own G) {k : Fin 4} {x : Int} (hd : decode cc pc = .ok (.istore_n k, 1)) (hn : (k : Nat) < nL) (kk : zJ p l e R s m args below meth c G nL cells slots Q (pc + 1) (L.set (k : Nat) (some (.inl x))) st M) : zJ p l e R s m args below meth c G nL cells slots Q pc L (.inl x :: st) M := by
  intro h1 h2 ls H locs X hL hW hS
  refine lv_istore_n hc.1 hc.2.1 hd rfl hL hn rfl (fun ls2 hL2 => ?_)
  exact kk (zokT h1) (zokS h2 (zokH h1)) ls2 H locs X (zpl_set (v := .inl x) hL2) hW hS
theorem zj_astore (hc : zCx p s m args c cc nL own G) {i : Nat} {x : Nat} (hd : decode cc pc = .ok (.astore i, 2)) (hn : i < nL) (kk : zJ p l e R s m args below meth c G nL cells slots Q (pc + 2) (L.set i (some (.inr x))) st M) : zJ p l e R s m args below meth c G nL cells slots Q pc L (.inr x :: st) M := by
  intro h1 h2 ls H locs X hL hW hS
  refine lv_astore hc.1 hc.2.1 hd hL hn rfl (fun ls2 hL2 => ?_)
  exact kk (zokT h1) (zokS h2 (zokH h1)) ls2 H locs X (zpl_set (v := .inr x) hL2) hW hS
theorem zj_astore_n (hc : zCx p s m args c cc nL own G) {k : Fin 4} {x : Nat} (hd : decode cc pc = .ok (.astore_n k, 1)) (hn : (k : Nat) < nL) (kk : zJ p l e R s m args below meth c G nL cells slots Q (pc + 1) (L.set (k : Nat) (some (.inr x))) st M) : zJ p l e R s m args below meth c G nL cells slots Q pc L (.inr x :: st) M := by
  intro h1 h2 ls H locs X hL hW hS
  refine lv_astore_n hc.1 hc.2.1 hd rfl hL hn rfl (fun ls2 hL2 => ?_)
  exact kk (zokT h1) (zokS h2 (zokH h1)) ls2 H locs X (zpl_set (v := .inr x) hL2) hW hS
theorem zj_iinc (hc : zCx p s m args c cc nL own G) {i : Nat} {n x : Int} (hd : decode cc pc = .ok (.iinc i n, 3)) (hl : L[i]? = some (some (.inl x))) (hn : i < nL) (hr : inR (x + n)) (kk : zJ p l e R s m args below meth c G nL cells slots Q (pc + 3) (L.set i (some (.inl (x + n)))) st M) : zJ p l e R s m args below meth c G nL cells slots Q pc L st M := by
  intro h1 h2 ls H locs X hL hW hS
  obtain ⟨k, hk⟩ := List.getElem?_of_mem (zpl_mem (G := G) (k := 0) (q := (i, zmv G (.inl x))) |>.mpr ⟨i, .inl x, (Nat.zero_add i).symm, hl, rfl⟩)
  refine lv_iinc (v := Int32.ofInt (x + n)) hc.1 hc.2.1 hd hL (k := k) hk (by rw [Int32.ofInt_add]) hn rfl (fun ls2 hL2 => ?_)
  exact kk h1 (zokS h2 hr) ls2 H locs X (zpl_set (v := .inl (x + n)) hL2) hW hS
theorem zj_iadd (hc : zCx p s m args c cc nL own G) {x y : Int} (hd : decode cc pc = .ok (.iadd, 1)) (hr : inR (x + y)) (kk : zJ p l e R s m args below meth c G nL cells slots Q (pc + 1) L (.inl (x + y) :: st) M) : zJ p l e R s m args below meth c G nL cells slots Q pc L (.inl y :: .inl x :: st) M := by
  intro h1 h2 ls H locs X hL hW hS
  have he : Int32.ofInt x + Int32.ofInt y = Int32.ofInt (x + y) := by rw [← Int32.ofInt_add]
  refine lv_iadd hc.1 hc.2.1 hd ?_
  rw [he]
  exact kk (zokC (zokT (zokT h1)) hr) h2 ls H locs X hL hW hS
theorem zj_isub (hc : zCx p s m args c cc nL own G) {x y : Int} (hd : decode cc pc = .ok (.isub, 1)) (hr : inR (x - y)) (kk : zJ p l e R s m args below meth c G nL cells slots Q (pc + 1) L (.inl (x - y) :: st) M) : zJ p l e R s m args below meth c G nL cells slots Q pc L (.inl y :: .inl x :: st) M := by
  intro h1 h2 ls H locs X hL hW hS
  have he : Int32.ofInt x - Int32.ofInt y = Int32.ofInt (x - y) := by rw [← Int32.ofInt_sub]
  refine lv_isub hc.1 hc.2.1 hd ?_
  rw [he]
  exact kk (zokC (zokT (zokT h1)) hr) h2 ls H locs X hL hW hS
theorem zj_imul (hc : zCx p s m args c cc nL own G) {x y : Int} (hd : decode cc pc = .ok (.imul, 1)) (hr : inR (x * y)) (kk : zJ p l e R s m args below meth c G nL cells slots Q (pc + 1) L (.inl (x * y) :: st) M) : zJ p l e R s m args below meth c G nL cells slots Q pc L (.inl y :: .inl x :: st) M := by
  intro h1 h2 ls H locs X hL hW hS
  have he : Int32.ofInt x * Int32.ofInt y = Int32.ofInt (x * y) := by rw [← Int32.ofInt_mul]
  refine lv_imul hc.1 hc.2.1 hd ?_
  rw [he]
  exact kk (zokC (zokT (zokT h1)) hr) h2 ls H locs X hL hW hS
theorem zj_iand (hc : zCx p s m args c cc nL own G) {x y : Int} (hd : decode cc pc = .ok (.iand, 1)) (kk : zJ p l e R s m args below meth c G nL cells slots Q (pc + 1) L (.inl (zand x y) :: st) M) : zJ p l e R s m args below meth c G nL cells slots Q pc L (.inl y :: .inl x :: st) M := by
  intro h1 h2 ls H locs X hL hW hS
  have he : Int32.ofInt x &&& Int32.ofInt y = Int32.ofInt (zand x y) := by unfold zand; rw [zr_back]
  refine lv_iand hc.1 hc.2.1 hd ?_
  rw [he]
  exact kk (zokC (zokT (zokT h1)) (zr_of _)) h2 ls H locs X hL hW hS
theorem zj_ior (hc : zCx p s m args c cc nL own G) {x y : Int} (hd : decode cc pc = .ok (.ior, 1)) (kk : zJ p l e R s m args below meth c G nL cells slots Q (pc + 1) L (.inl (zor x y) :: st) M) : zJ p l e R s m args below meth c G nL cells slots Q pc L (.inl y :: .inl x :: st) M := by
  intro h1 h2 ls H locs X hL hW hS
  have he : Int32.ofInt x ||| Int32.ofInt y = Int32.ofInt (zor x y) := by unfold zor; rw [zr_back]
  refine lv_ior hc.1 hc.2.1 hd ?_
  rw [he]
  exact kk (zokC (zokT (zokT h1)) (zr_of _)) h2 ls H locs X hL hW hS
theorem zj_ixor (hc : zCx p s m args c cc nL own G) {x y : Int} (hd : decode cc pc = .ok (.ixor, 1)) (kk : zJ p l e R s m args below meth c G nL cells slots Q (pc + 1) L (.inl (zxor x y) :: st) M) : zJ p l e R s m args below meth c G nL cells slots Q pc L (.inl y :: .inl x :: st) M := by
  intro h1 h2 ls H locs X hL hW hS
  have he : Int32.ofInt x ^^^ Int32.ofInt y = Int32.ofInt (zxor x y) := by unfold zxor; rw [zr_back]
  refine lv_ixor hc.1 hc.2.1 hd ?_
  rw [he]
  exact kk (zokC (zokT (zokT h1)) (zr_of _)) h2 ls H locs X hL hW hS
theorem zj_ishl (hc : zCx p s m args c cc nL own G) {x y : Int} (hd : decode cc pc = .ok (.ishl, 1)) (kk : zJ p l e R s m args below meth c G nL cells slots Q (pc + 1) L (.inl (zshl x y) :: st) M) : zJ p l e R s m args below meth c G nL cells slots Q pc L (.inl y :: .inl x :: st) M := by
  intro h1 h2 ls H locs X hL hW hS
  have he : Int32.ofInt x <<< (Int32.ofInt y &&& 31) = Int32.ofInt (zshl x y) := by unfold zshl; rw [zr_back]
  refine lv_ishl hc.1 hc.2.1 hd ?_
  rw [he]
  exact kk (zokC (zokT (zokT h1)) (zr_of _)) h2 ls H locs X hL hW hS
theorem zj_ishr (hc : zCx p s m args c cc nL own G) {x y : Int} (hd : decode cc pc = .ok (.ishr, 1)) (kk : zJ p l e R s m args below meth c G nL cells slots Q (pc + 1) L (.inl (zshr x y) :: st) M) : zJ p l e R s m args below meth c G nL cells slots Q pc L (.inl y :: .inl x :: st) M := by
  intro h1 h2 ls H locs X hL hW hS
  have he : Int32.ofInt x >>> (Int32.ofInt y &&& 31) = Int32.ofInt (zshr x y) := by unfold zshr; rw [zr_back]
  refine lv_ishr hc.1 hc.2.1 hd ?_
  rw [he]
  exact kk (zokC (zokT (zokT h1)) (zr_of _)) h2 ls H locs X hL hW hS
theorem zj_iushr (hc : zCx p s m args c cc nL own G) {x y : Int} (hd : decode cc pc = .ok (.iushr, 1)) (kk : zJ p l e R s m args below meth c G nL cells slots Q (pc + 1) L (.inl (zushr x y) :: st) M) : zJ p l e R s m args below meth c G nL cells slots Q pc L (.inl y :: .inl x :: st) M := by
  intro h1 h2 ls H locs X hL hW hS
  refine lv_iushr hc.1 hc.2.1 hd (v := Int32.ofInt (zushr x y)) (by unfold zushr; rw [zr_back]) ?_
  exact kk (zokC (zokT (zokT h1)) (zr_of _)) h2 ls H locs X hL hW hS
theorem zj_ineg (hc : zCx p s m args c cc nL own G) {x : Int} (hd : decode cc pc = .ok (.ineg, 1)) (hr : inR (-x)) (kk : zJ p l e R s m args below meth c G nL cells slots Q (pc + 1) L (.inl (-x) :: st) M) : zJ p l e R s m args below meth c G nL cells slots Q pc L (.inl x :: st) M := by
  intro h1 h2 ls H locs X hL hW hS
  have he : -Int32.ofInt x = Int32.ofInt (-x) := by rw [← Int32.ofInt_neg]
  refine lv_ineg hc.1 hc.2.1 hd ?_
  rw [he]
  exact kk (zokC (zokT h1) hr) h2 ls H locs X hL hW hS
theorem zj_idiv (hc : zCx p s m args c cc nL own G) {x y : Int} (hd : decode cc pc = .ok (.idiv, 1)) (hp : 0 < y) (kk : zJ p l e R s m args below meth c G nL cells slots Q (pc + 1) L (.inl (x.tdiv y) :: st) M) : zJ p l e R s m args below meth c G nL cells slots Q pc L (.inl y :: .inl x :: st) M := by
  intro h1 h2 ls H locs X hL hW hS
  have hy : inR y := zokH h1
  have hx : inR x := zokH (zokT h1)
  refine lv_idiv hc.1 hc.2.1 hd (by rw [zr_0, zr_eq hy zr_inR0]; omega) ?_
  rw [zr_div hx hy hp]
  exact kk (zokC (zokT (zokT h1)) (zr_divR hx hp)) h2 ls H locs X hL hW hS
theorem zj_irem (hc : zCx p s m args c cc nL own G) {x y : Int} (hd : decode cc pc = .ok (.irem, 1)) (hp : 0 < y) (kk : zJ p l e R s m args below meth c G nL cells slots Q (pc + 1) L (.inl (x.tmod y) :: st) M) : zJ p l e R s m args below meth c G nL cells slots Q pc L (.inl y :: .inl x :: st) M := by
  intro h1 h2 ls H locs X hL hW hS
  have hy : inR y := zokH h1
  have hx : inR x := zokH (zokT h1)
  refine lv_irem hc.1 hc.2.1 hd (by rw [zr_0, zr_eq hy zr_inR0]; omega) ?_
  rw [zr_rem hx hy hp]
  exact kk (zokC (zokT (zokT h1)) (zr_remR hx hy hp)) h2 ls H locs X hL hW hS
theorem zj_dup (hc : zCx p s m args c cc nL own G) {v : zV} (hd : decode cc pc = .ok (.dup, 1)) (kk : zJ p l e R s m args below meth c G nL cells slots Q (pc + 1) L (v :: v :: st) M) : zJ p l e R s m args below meth c G nL cells slots Q pc L (v :: st) M := by
  intro h1 h2 ls H locs X hL hW hS
  exact lv_dup hc.1 hc.2.1 hd (zcat G v) (kk (zokC h1 (zokH h1)) h2 ls H locs X hL hW hS)
theorem zj_pop (hc : zCx p s m args c cc nL own G) {v : zV} (hd : decode cc pc = .ok (.pop, 1)) (kk : zJ p l e R s m args below meth c G nL cells slots Q (pc + 1) L st M) : zJ p l e R s m args below meth c G nL cells slots Q pc L (v :: st) M := by
  intro h1 h2 ls H locs X hL hW hS
  exact lv_pop hc.1 hc.2.1 hd (zcat G v) (kk (zokT h1) h2 ls H locs X hL hW hS)
theorem zj_dup2 (hc : zCx p s m args c cc nL own G) {v w : zV} (hd : decode cc pc = .ok (.dup2, 1)) (kk : zJ p l e R s m args below meth c G nL cells slots Q (pc + 1) L (v :: w :: v :: w :: st) M) : zJ p l e R s m args below meth c G nL cells slots Q pc L (v :: w :: st) M := by
  intro h1 h2 ls H locs X hL hW hS
  exact lv_dup2_11 hc.1 hc.2.1 hd (zcat G v) (zcat G w) (kk (zokC (zokC h1 (zokH (zokT h1))) (zokH h1)) h2 ls H locs X hL hW hS)
theorem zj_goto (hc : zCx p s m args c cc nL own G) {off : Int} {tgt : Nat} (hd : decode cc pc = .ok (.goto off, 3)) (ht : (pc : Int) + off = (tgt : Int)) (kk : zJ p l e R s m args below meth c G nL cells slots Q tgt L st M) : zJ p l e R s m args below meth c G nL cells slots Q pc L st M := by
  intro h1 h2 ls H locs X hL hW hS
  exact lv_goto hc.1 hc.2.1 hd ht (kk h1 h2 ls H locs X hL hW hS)
theorem zj_icmp_lt (hc : zCx p s m args c cc nL own G) {x y : Int} {off : Int} {tgt : Nat} (hd : decode cc pc = .ok (.if_icmp .lt off, 3)) (ht : (pc : Int) + off = (tgt : Int)) (kt : x < y → zJ p l e R s m args below meth c G nL cells slots Q tgt L st M) (kf : ¬ x < y → zJ p l e R s m args below meth c G nL cells slots Q (pc + 3) L st M) : zJ p l e R s m args below meth c G nL cells slots Q pc L (.inl y :: .inl x :: st) M := by
  intro h1 h2 ls H locs X hL hW hS
  have hy : inR y := zokH h1
  have hx : inR x := zokH (zokT h1)
  have h3 := zokT (zokT h1)
  exact lv_icmp_lt hc.1 hc.2.1 hd ht (fun h => kt ((zr_lt hx hy).mp h) h3 h2 ls H locs X hL hW hS) (fun h => kf (fun h9 => h ((zr_lt hx hy).mpr h9)) h3 h2 ls H locs X hL hW hS)
theorem zj_if_lt (hc : zCx p s m args c cc nL own G) {x : Int} {off : Int} {tgt : Nat} (hd : decode cc pc = .ok (.ifCond .lt off, 3)) (ht : (pc : Int) + off = (tgt : Int)) (kt : x < 0 → zJ p l e R s m args below meth c G nL cells slots Q tgt L st M) (kf : ¬ x < 0 → zJ p l e R s m args below meth c G nL cells slots Q (pc + 3) L st M) : zJ p l e R s m args below meth c G nL cells slots Q pc L (.inl x :: st) M := by
  intro h1 h2 ls H locs X hL hW hS
  have hx : inR x := zokH h1
  have hy : inR 0 := zr_inR0
  have h3 := zokT h1
  exact lv_if_lt hc.1 hc.2.1 hd ht (fun h => kt ((zr_lt hx hy).mp h) h3 h2 ls H locs X hL hW hS) (fun h => kf (fun h9 => h ((zr_lt hx hy).mpr h9)) h3 h2 ls H locs X hL hW hS)
theorem zj_icmp_ge (hc : zCx p s m args c cc nL own G) {x y : Int} {off : Int} {tgt : Nat} (hd : decode cc pc = .ok (.if_icmp .ge off, 3)) (ht : (pc : Int) + off = (tgt : Int)) (kt : y ≤ x → zJ p l e R s m args below meth c G nL cells slots Q tgt L st M) (kf : ¬ y ≤ x → zJ p l e R s m args below meth c G nL cells slots Q (pc + 3) L st M) : zJ p l e R s m args below meth c G nL cells slots Q pc L (.inl y :: .inl x :: st) M := by
  intro h1 h2 ls H locs X hL hW hS
  have hy : inR y := zokH h1
  have hx : inR x := zokH (zokT h1)
  have h3 := zokT (zokT h1)
  exact lv_icmp_ge hc.1 hc.2.1 hd ht (fun h => kt ((zr_le hy hx).mp h) h3 h2 ls H locs X hL hW hS) (fun h => kf (fun h9 => h ((zr_le hy hx).mpr h9)) h3 h2 ls H locs X hL hW hS)
theorem zj_if_ge (hc : zCx p s m args c cc nL own G) {x : Int} {off : Int} {tgt : Nat} (hd : decode cc pc = .ok (.ifCond .ge off, 3)) (ht : (pc : Int) + off = (tgt : Int)) (kt : 0 ≤ x → zJ p l e R s m args below meth c G nL cells slots Q tgt L st M) (kf : ¬ 0 ≤ x → zJ p l e R s m args below meth c G nL cells slots Q (pc + 3) L st M) : zJ p l e R s m args below meth c G nL cells slots Q pc L (.inl x :: st) M := by
  intro h1 h2 ls H locs X hL hW hS
  have hx : inR x := zokH h1
  have hy : inR 0 := zr_inR0
  have h3 := zokT h1
  exact lv_if_ge hc.1 hc.2.1 hd ht (fun h => kt ((zr_le hy hx).mp h) h3 h2 ls H locs X hL hW hS) (fun h => kf (fun h9 => h ((zr_le hy hx).mpr h9)) h3 h2 ls H locs X hL hW hS)
theorem zj_icmp_gt (hc : zCx p s m args c cc nL own G) {x y : Int} {off : Int} {tgt : Nat} (hd : decode cc pc = .ok (.if_icmp .gt off, 3)) (ht : (pc : Int) + off = (tgt : Int)) (kt : y < x → zJ p l e R s m args below meth c G nL cells slots Q tgt L st M) (kf : ¬ y < x → zJ p l e R s m args below meth c G nL cells slots Q (pc + 3) L st M) : zJ p l e R s m args below meth c G nL cells slots Q pc L (.inl y :: .inl x :: st) M := by
  intro h1 h2 ls H locs X hL hW hS
  have hy : inR y := zokH h1
  have hx : inR x := zokH (zokT h1)
  have h3 := zokT (zokT h1)
  exact lv_icmp_gt hc.1 hc.2.1 hd ht (fun h => kt ((zr_lt hy hx).mp h) h3 h2 ls H locs X hL hW hS) (fun h => kf (fun h9 => h ((zr_lt hy hx).mpr h9)) h3 h2 ls H locs X hL hW hS)
theorem zj_if_gt (hc : zCx p s m args c cc nL own G) {x : Int} {off : Int} {tgt : Nat} (hd : decode cc pc = .ok (.ifCond .gt off, 3)) (ht : (pc : Int) + off = (tgt : Int)) (kt : 0 < x → zJ p l e R s m args below meth c G nL cells slots Q tgt L st M) (kf : ¬ 0 < x → zJ p l e R s m args below meth c G nL cells slots Q (pc + 3) L st M) : zJ p l e R s m args below meth c G nL cells slots Q pc L (.inl x :: st) M := by
  intro h1 h2 ls H locs X hL hW hS
  have hx : inR x := zokH h1
  have hy : inR 0 := zr_inR0
  have h3 := zokT h1
  exact lv_if_gt hc.1 hc.2.1 hd ht (fun h => kt ((zr_lt hy hx).mp h) h3 h2 ls H locs X hL hW hS) (fun h => kf (fun h9 => h ((zr_lt hy hx).mpr h9)) h3 h2 ls H locs X hL hW hS)
theorem zj_icmp_le (hc : zCx p s m args c cc nL own G) {x y : Int} {off : Int} {tgt : Nat} (hd : decode cc pc = .ok (.if_icmp .le off, 3)) (ht : (pc : Int) + off = (tgt : Int)) (kt : x ≤ y → zJ p l e R s m args below meth c G nL cells slots Q tgt L st M) (kf : ¬ x ≤ y → zJ p l e R s m args below meth c G nL cells slots Q (pc + 3) L st M) : zJ p l e R s m args below meth c G nL cells slots Q pc L (.inl y :: .inl x :: st) M := by
  intro h1 h2 ls H locs X hL hW hS
  have hy : inR y := zokH h1
  have hx : inR x := zokH (zokT h1)
  have h3 := zokT (zokT h1)
  exact lv_icmp_le hc.1 hc.2.1 hd ht (fun h => kt ((zr_le hx hy).mp h) h3 h2 ls H locs X hL hW hS) (fun h => kf (fun h9 => h ((zr_le hx hy).mpr h9)) h3 h2 ls H locs X hL hW hS)
theorem zj_if_le (hc : zCx p s m args c cc nL own G) {x : Int} {off : Int} {tgt : Nat} (hd : decode cc pc = .ok (.ifCond .le off, 3)) (ht : (pc : Int) + off = (tgt : Int)) (kt : x ≤ 0 → zJ p l e R s m args below meth c G nL cells slots Q tgt L st M) (kf : ¬ x ≤ 0 → zJ p l e R s m args below meth c G nL cells slots Q (pc + 3) L st M) : zJ p l e R s m args below meth c G nL cells slots Q pc L (.inl x :: st) M := by
  intro h1 h2 ls H locs X hL hW hS
  have hx : inR x := zokH h1
  have hy : inR 0 := zr_inR0
  have h3 := zokT h1
  exact lv_if_le hc.1 hc.2.1 hd ht (fun h => kt ((zr_le hx hy).mp h) h3 h2 ls H locs X hL hW hS) (fun h => kf (fun h9 => h ((zr_le hx hy).mpr h9)) h3 h2 ls H locs X hL hW hS)
theorem zj_icmp_eq (hc : zCx p s m args c cc nL own G) {x y : Int} {off : Int} {tgt : Nat} (hd : decode cc pc = .ok (.if_icmp .eq off, 3)) (ht : (pc : Int) + off = (tgt : Int)) (kt : x = y → zJ p l e R s m args below meth c G nL cells slots Q tgt L st M) (kf : ¬ x = y → zJ p l e R s m args below meth c G nL cells slots Q (pc + 3) L st M) : zJ p l e R s m args below meth c G nL cells slots Q pc L (.inl y :: .inl x :: st) M := by
  intro h1 h2 ls H locs X hL hW hS
  have hy : inR y := zokH h1
  have hx : inR x := zokH (zokT h1)
  have h3 := zokT (zokT h1)
  exact lv_icmp_eq hc.1 hc.2.1 hd ht (fun h => kt ((zr_eq hx hy).mp h) h3 h2 ls H locs X hL hW hS) (fun h => kf (fun h9 => h ((zr_eq hx hy).mpr h9)) h3 h2 ls H locs X hL hW hS)
theorem zj_if_eq (hc : zCx p s m args c cc nL own G) {x : Int} {off : Int} {tgt : Nat} (hd : decode cc pc = .ok (.ifCond .eq off, 3)) (ht : (pc : Int) + off = (tgt : Int)) (kt : x = 0 → zJ p l e R s m args below meth c G nL cells slots Q tgt L st M) (kf : ¬ x = 0 → zJ p l e R s m args below meth c G nL cells slots Q (pc + 3) L st M) : zJ p l e R s m args below meth c G nL cells slots Q pc L (.inl x :: st) M := by
  intro h1 h2 ls H locs X hL hW hS
  have hx : inR x := zokH h1
  have hy : inR 0 := zr_inR0
  have h3 := zokT h1
  exact lv_if_eq hc.1 hc.2.1 hd ht (fun h => kt ((zr_eq hx hy).mp h) h3 h2 ls H locs X hL hW hS) (fun h => kf (fun h9 => h ((zr_eq hx hy).mpr h9)) h3 h2 ls H locs X hL hW hS)
theorem zj_icmp_ne (hc : zCx p s m args c cc nL own G) {x y : Int} {off : Int} {tgt : Nat} (hd : decode cc pc = .ok (.if_icmp .ne off, 3)) (ht : (pc : Int) + off = (tgt : Int)) (kt : ¬ x = y → zJ p l e R s m args below meth c G nL cells slots Q tgt L st M) (kf : x = y → zJ p l e R s m args below meth c G nL cells slots Q (pc + 3) L st M) : zJ p l e R s m args below meth c G nL cells slots Q pc L (.inl y :: .inl x :: st) M := by
  intro h1 h2 ls H locs X hL hW hS
  have hy : inR y := zokH h1
  have hx : inR x := zokH (zokT h1)
  have h3 := zokT (zokT h1)
  exact lv_icmp_ne hc.1 hc.2.1 hd ht (fun h => kt (fun h9 => h ((zr_eq hx hy).mpr h9)) h3 h2 ls H locs X hL hW hS) (fun h => kf ((zr_eq hx hy).mp h) h3 h2 ls H locs X hL hW hS)
theorem zj_if_ne (hc : zCx p s m args c cc nL own G) {x : Int} {off : Int} {tgt : Nat} (hd : decode cc pc = .ok (.ifCond .ne off, 3)) (ht : (pc : Int) + off = (tgt : Int)) (kt : ¬ x = 0 → zJ p l e R s m args below meth c G nL cells slots Q tgt L st M) (kf : x = 0 → zJ p l e R s m args below meth c G nL cells slots Q (pc + 3) L st M) : zJ p l e R s m args below meth c G nL cells slots Q pc L (.inl x :: st) M := by
  intro h1 h2 ls H locs X hL hW hS
  have hx : inR x := zokH h1
  have hy : inR 0 := zr_inR0
  have h3 := zokT h1
  exact lv_if_ne hc.1 hc.2.1 hd ht (fun h => kt (fun h9 => h ((zr_eq hx hy).mpr h9)) h3 h2 ls H locs X hL hW hS) (fun h => kf ((zr_eq hx hy).mp h) h3 h2 ls H locs X hL hW hS)
theorem zj_tableOut (hc : zCx p s m args c cc nL own G) {dflt lo hi : Int} {offs : Array Int} {len : Nat} {x : Int} {tgt : Nat} (hd : decode cc pc = .ok (.tableswitch dflt lo hi offs, len)) (h : x < lo ∨ hi < x) (ht : (pc : Int) + dflt = (tgt : Int)) (kk : zJ p l e R s m args below meth c G nL cells slots Q tgt L st M) : zJ p l e R s m args below meth c G nL cells slots Q pc L (.inl x :: st) M := by
  intro h1 h2 ls H locs X hL hW hS
  have hx : inR x := zokH h1
  exact lv_tableOut hc.1 hc.2.1 hd (by rw [zr_toInt hx]; exact h) ht (kk (zokT h1) h2 ls H locs X hL hW hS)
theorem zj_tableIn (hc : zCx p s m args c cc nL own G) {dflt lo hi : Int} {offs : Array Int} {len : Nat} {x off : Int} {tgt : Nat} (hd : decode cc pc = .ok (.tableswitch dflt lo hi offs, len)) (h : lo ≤ x ∧ x ≤ hi) (ho : offs[(x - lo).toNat]? = some off) (ht : (pc : Int) + off = (tgt : Int)) (kk : zJ p l e R s m args below meth c G nL cells slots Q tgt L st M) : zJ p l e R s m args below meth c G nL cells slots Q pc L (.inl x :: st) M := by
  intro h1 h2 ls H locs X hL hW hS
  have hx : inR x := zokH h1
  exact lv_tableIn hc.1 hc.2.1 hd (by rw [zr_toInt hx]; omega) (by rw [zr_toInt hx]; omega) (by rw [zr_toInt hx]; exact ho) ht (kk (zokT h1) h2 ls H locs X hL hW hS)
-- arrays
theorem zj_iald (hc : zCx p s m args c cc nL own G) {id : Nat} {i n9 : Int} (hd : decode cc pc = .ok (.iaload, 1)) (hn9 : alen id = n9) (hi : 0 ≤ i ∧ i < n9) (kk : zJ p l e R s m args below meth c G nL cells slots Q (pc + 1) L (.inl (M.2 id i) :: st) M) : zJ p l e R s m args below meth c G nL cells slots Q pc L (.inl i :: .inr id :: st) M := by
  intro h1 h2 ls H locs X hL hW hS
  subst hn9
  obtain ⟨n, hn, hl⟩ := zlen_mem hi
  obtain ⟨k, hk, -⟩ := zarr_at G M X hn
  have hx : inR i := zokH h1
  refine va_iald hc.1 hc.2.1 hc.2.2.2.2.2.1.1 hW.1 k 0 hk rfl (zr_in hx hi.1 (by rw [← hl]; exact hi.2)) hd ?_
  rw [zr_cl hx, Int.toNat_of_nonneg hi.1]
  exact kk (zokC (zokT (zokT h1)) (hW.2.2.2.2 id i)) h2 ls H locs X hL hW hS
theorem zj_iast (hc : zCx p s m args c cc nL own G) {id : Nat} {i v n9 : Int} (hd : decode cc pc = .ok (.iastore, 1)) (hn9 : alen id = n9) (hi : 0 ≤ i ∧ i < n9) (kk : ∀ M1 : zMem, M1 = setA M id i v → zJ p l e R s m args below meth c G nL cells slots Q (pc + 1) L st M1) : zJ p l e R s m args below meth c G nL cells slots Q pc L (.inl v :: .inl i :: .inr id :: st) M := by
  intro h1 h2 ls H locs X hL hW hS
  subst hn9
  obtain ⟨n, hn, hl⟩ := zlen_mem hi
  obtain ⟨k, hk, hset⟩ := zarr_at G M X hn
  have hv : inR v := zokH h1
  have hx : inR i := zokH (zokT h1)
  refine va_iast hc.1 hc.2.1 hc.2.2.2.2.2.1.1 hW.1 hW.2.1 hS k 0 hk rfl (zr_in hx hi.1 (by rw [← hl]; exact hi.2)) hd (fun H1 locs1 hP hD hS1 => ?_)
  have he : upd (fun j : Nat => Int32.ofInt (M.2 id (j : Int))) (Int32.ofInt i).toNatClampNeg (Int32.ofInt v) = fun j : Nat => Int32.ofInt (upI (M.2 id) i v (j : Int)) := by
    funext j
    rw [zr_cl hx]
    unfold upd upI
    by_cases hj : (j : Int) = i
    · rw [if_pos hj, if_pos (by omega)]
    · rw [if_neg hj, if_neg (by omega)]
  rw [he, hset] at hP hD
  exact kk _ rfl (zokT (zokT (zokT h1))) h2 ls H1 locs1 X hL ⟨hP, hD, zMo_put hW.2.2.1 (Nat.lt_trans (zlen_small _ hn).1 (by decide)) _, zRM_put hW.2.2.2 (zRM_up hW.2.2.2 hv)⟩ hS1
theorem zj_alen (hc : zCx p s m args c cc nL own G) {id : Nat} {n9 : Int} (hd : decode cc pc = .ok (.arraylength, 1)) (hn9 : alen id = n9) (hi : 0 < n9) (kk : zJ p l e R s m args below meth c G nL cells slots Q (pc + 1) L (.inl n9 :: st) M) : zJ p l e R s m args below meth c G nL cells slots Q pc L (.inr id :: st) M := by
  intro h1 h2 ls H locs X hL hW hS
  subst hn9
  obtain ⟨n, hn, hl⟩ := zlen_mem (i := 0) ⟨Int.le_refl 0, hi⟩
  obtain ⟨k, hk, -⟩ := zarr_at G M X hn
  have hs := (zlen_small _ hn).2
  refine va_alen hc.1 hc.2.1 hc.2.2.2.2.2.1.1 hW.1 k 0 hk (ty := .int) rfl (v := Int32.ofInt (alen id)) (by rw [hl]; rfl) hd ?_
  exact kk (zokC (zokT h1) (by rw [hl]; exact ⟨by omega, by dsimp only at hs; omega⟩)) h2 ls H locs X hL hW hS
def cpA (f g : Int → Int) (sp dp n : Int) : Int → Int := fun j => if dp ≤ j ∧ j < dp + n then f (sp + (j - dp)) else g j
theorem zj_copy (hc : zCx p s m args c cc nL own G) {index a b : Nat} {sp dp n na9 nb9 : Int} (hd : decode cc pc = .ok (.invokestatic index, 3)) (hlink : Cond.methodLink own index arraycopyName ∈ lw_ws) (hnat : Cond.native arraycopyName ∈ lw_ws) (hstat : Cond.static arraycopyName ∈ lw_ws) (hini : Cond.initialized "java/lang/System" ∈ lw_ws) (ha9 : alen a = na9) (hb9 : alen b = nb9) (hi : (0 ≤ sp ∧ 0 ≤ dp ∧ 0 ≤ n) ∧ sp + n ≤ na9 ∧ dp + n ≤ nb9 ∧ 0 < na9 ∧ 0 < nb9) (hfr : 1 ≤ R.frames) (hlo : (st.length) + (nativeFrameWords "java/lang/System" "arraycopy" 5 + 11) ≤ R.locals)
    (kk : ∀ M1 : zMem, M1 = putA M b (cpA (M.2 a) (M.2 b) sp dp n) → zJ p l e R s m args below meth c G nL cells slots Q (pc + 3) L st M1) : zJ p l e R s m args below meth c G nL cells slots Q pc L (.inl n :: .inl dp :: .inr b :: .inl sp :: .inr a :: st) M := by
  intro h1 h2 ls H locs X hL hW hS
  subst ha9 hb9
  obtain ⟨⟨i1, i2, i3⟩, i4, i5, i6, i7⟩ := hi
  obtain ⟨na, hna, hla⟩ := zlen_mem (i := 0) ⟨Int.le_refl 0, i6⟩
  obtain ⟨nb, hnb, hlb⟩ := zlen_mem (i := 0) ⟨Int.le_refl 0, i7⟩
  obtain ⟨ka, hka, -⟩ := zarr_at G M X hna
  obtain ⟨kb, hkb, hset⟩ := zarr_at G M X hnb
  have r1 : inR n := zokH h1
  have r2 : inR dp := zokH (zokT h1)
  have r3 : inR sp := zokH (zokT (zokT (zokT h1)))
  have hcat : ((st.map (zmv G)).map fun v => v.category).sum = st.length := by
    clear h1 kk hlo
    induction st with
    | nil => rfl
    | cons v t ih => simp only [List.map_cons, List.sum_cons, zcat, ih, List.length_cons]; omega
  refine va_copyi (ty := .int) hc.1 hc.2.1 (by rw [hc.2.2.1, hL.1]) hc.2.2.2.1 (hc.2.2.2.2.1 _ hlink) (hc.2.2.2.2.1 _ hnat) (hc.2.2.2.2.1 _ hstat) (hc.2.2.2.2.1 _ hini) hc.2.2.2.2.2.1.1 hW.1 hW.2.1 hS ka kb 0 0 hka hkb rfl rfl rfl (by rw [zr_0, zr_lt r3 zr_inR0]; omega) (by rw [zr_0, zr_lt r2 zr_inR0]; omega) (by rw [zr_0, zr_lt r1 zr_inR0]; omega) (by rw [zr_cl r3, zr_cl r1]; omega) (by rw [zr_cl r2, zr_cl r1]; omega) (fun _ _ => rfl) hfr (by rw [hcat]; exact hlo) hd (fun H1 locs1 hP hD hS1 => ?_)
  have he : va_cpy (fun j : Nat => Int32.ofInt (M.2 a (j : Int))) (fun j : Nat => Int32.ofInt (M.2 b (j : Int))) (Int32.ofInt sp).toNatClampNeg (Int32.ofInt dp).toNatClampNeg (Int32.ofInt n).toNatClampNeg = fun j : Nat => Int32.ofInt (cpA (M.2 a) (M.2 b) sp dp n (j : Int)) := by
    funext j
    rw [zr_cl r1, zr_cl r2, zr_cl r3]
    unfold va_cpy cpA
    by_cases hj : dp.toNat ≤ j ∧ j < dp.toNat + n.toNat
    · rw [if_pos hj, if_pos (by omega)]
      dsimp only
      have e9 : ((sp.toNat + (j - dp.toNat) : Nat) : Int) = sp + ((j : Int) - dp) := by omega
      rw [e9]
    · rw [if_neg hj, if_neg (by omega)]
  rw [he, hset] at hP hD
  exact kk _ rfl (zokT (zokT (zokT (zokT (zokT h1))))) h2 ls H1 locs1 X hL ⟨hP, hD, zMo_put hW.2.2.1 (Nat.lt_trans (zlen_small _ hnb).1 (by decide)) _, zRM_put hW.2.2.2 (fun i => by unfold cpA; split; exact hW.2.2.2.2 _ _; exact hW.2.2.2.2 _ _)⟩ hS1
-- fields
theorem zj_get (hc : zCx p s m args c cc nL own G) {C : String} {T : u_T} {N ci index k o0 a : Nat} {fs : List Value} {v : zV} (hin : ∀ w ∈ u_ws C T N, w ∈ lw_ws) (hcl : vwCl[ci]? = some (C, T, N)) (hob : (zobjs G M)[o0]? = some (zad G a, .inr (ci, fs))) (hk : k < N) (hv : fs[k]? = some (zmv G v)) (hok : zRM M → zok v) (hlink : Cond.fieldLink own index (T k).1 (T k).2.1 (T k).2.2.1 ∈ lw_ws) (hd : decode cc pc = .ok (.getfield index, 3)) (kk : zJ p l e R s m args below meth c G nL cells slots Q (pc + 3) L (v :: st) M) : zJ p l e R s m args below meth c G nL cells slots Q pc L (.inr a :: st) M := by
  intro h1 h2 ls H locs X hL hW hS
  have hlt : o0 < (zobjs G M).length := (List.getElem?_eq_some_iff.mp hob).1
  refine va_get (D := G.1) (ci := ci) (C := C) (T := T) (N := N) hc.1 hc.2.1 hc.2.2.2.2.1 hin hc.2.2.2.1 hc.2.2.2.2.2.1.1 hW.1 o0 (by unfold zcl; rw [List.getElem?_append_left hlt]; exact hob) hcl k hk (hc.2.2.2.2.1 _ hlink) (fun _ h9 => h9) hv hd ?_
  exact kk (zokC (zokT h1) (hok hW.2.2.2)) h2 ls H locs X hL hW hS
theorem zj_put (hc : zCx p s m args c cc nL own G) {C : String} {T : u_T} {N ci index k o0 a j : Nat} {fs : List Value} {x : Int} {ty0 : Nat → FieldType} (hty : ∀ k, k < N → parseFieldDescriptor (T k).2.2.1 = some (ty0 k)) (hnm : ∀ a, a < N → ∀ b, b < N → a ≠ b → (T a).2.1 ≠ (T b).2.1) (hin : ∀ w ∈ u_ws C T N, w ∈ lw_ws) (hcl : vwCl[ci]? = some (C, T, N)) (hob : (zobjs G M)[o0]? = some (zad G a, .inr (ci, fs))) (hset : (zobjs G M).set o0 (zad G a, .inr (ci, fs.set k (.int (Int32.ofInt x)))) = zobjs G (setS M j x)) (hj : j < 1024) (hk : k < N) (hl : k < fs.length) (hlink : Cond.fieldLink own index (T k).1 (T k).2.1 (T k).2.2.1 ∈ lw_ws) (hfin : (T k).2.2.2 = false) {ty : FieldType} (hdesc : parseFieldDescriptor (T k).2.2.1 = some ty) (hn : narrow ty (.int (Int32.ofInt x)) = .int (Int32.ofInt x)) (hfit : fits ty (.int (Int32.ofInt x)) = true) (hd : decode cc pc = .ok (.putfield index, 3)) (kk : ∀ M1 : zMem, M1 = setS M j x → zJ p l e R s m args below meth c G nL cells slots Q (pc + 3) L st M1) : zJ p l e R s m args below meth c G nL cells slots Q pc L (.inl x :: .inr a :: st) M := by
  intro h1 h2 ls H locs X hL hW hS
  have hlt : o0 < (zobjs G M).length := (List.getElem?_eq_some_iff.mp hob).1
  have hx : inR x := zokH h1
  refine va_put (D := G.1) (ci := ci) (C := C) (T := T) (N := N) (ty := ty) hc.1 hc.2.1 hc.2.2.2.2.1 hin ty0 hty hnm hc.2.2.2.1 hc.2.2.2.2.2.1.1 hW.1 hW.2.1 hS o0 (by unfold zcl; rw [List.getElem?_append_left hlt]; exact hob) hcl k hk (hc.2.2.2.2.1 _ hlink) (fun _ h9 => h9) hfin hdesc hn hfit hl hd (fun H1 locs1 hP hD hS1 => ?_)
  have he : (zcl G M X).set o0 (zad G a, .inr (ci, fs.set k (.int (Int32.ofInt x)))) = zcl G (setS M j x) X := by
    unfold zcl
    rw [List.set_append_left _ _ hlt, hset]
    rfl
  have hP : va_P G.1 vwCl ((zcl G M X).set o0 (zad G a, .inr (ci, fs.set k (.int (Int32.ofInt x))))) H1 := hP
  have hD : va_D (zA G) ((zcl G M X).set o0 (zad G a, .inr (ci, fs.set k (.int (Int32.ofInt x))))) := hD
  rw [he] at hP hD
  exact kk _ rfl (zokT (zokT h1)) h2 ls H1 locs1 X hL ⟨hP, hD, zMo_set hW.2.2.1 hj _, zRM_set hW.2.2.2 hx⟩ hS1
theorem zj_nm {x : Int} (kk : ∀ v : Int, v = x → zJ p l e R s m args below meth c G nL cells slots Q pc L (.inl v :: st) M) : zJ p l e R s m args below meth c G nL cells slots Q pc L (.inl x :: st) M := kk x rfl
theorem zj_widen {k n : Nat} (h1 : cells ≤ k) (h2 : slots ≤ n) (kk : zJ p l e R s m args below meth c G nL k n Q pc L st M) : zJ p l e R s m args below meth c G nL cells slots Q pc L st M := fun a b ls H locs X hL hW hS => W.widen h1 h2 (kk a b ls H locs X hL hW hS)
end zRules
def zl0 (F : (zMem → Prop) → zMem → Prop) (M : zMem) : Prop := ∀ X : zMem → Prop, (∀ (M : zMem), F X  M → X  M) → X  M
theorem zl0_use {F : (zMem → Prop) → zMem → Prop}  {M : zMem} (h : zl0 F  M) (P : zMem → Prop) (hP : ∀ X : zMem → Prop, (∀ (M : zMem), X  M → P  M) → ∀ (M : zMem), F X  M → P  M) : P  M := h P (hP P (fun  _ h => h))
theorem zl0_rule {F : (zMem → Prop) → zMem → Prop} (I : zMem → Prop) (mu : zMem → Nat) (hs : ∀ (X : zMem → Prop) (M : zMem), I  M → (∀  (M2 : zMem), I  M2 → mu  M2 < mu  M → X  M2) → F X  M) : ∀ (M : zMem), I  M → zl0 F  M := by
  intro  M hI X hX
  generalize hn : mu  M = n
  induction n using Nat.strongRecOn generalizing  M with
  | _ n ih =>
    refine hX  M (hs X  M hI (fun  M2 h2 hl => ih _ (by rw [← hn]; exact hl)  M2 h2 rfl))
def zl1 (F : (Int → zMem → Prop) → Int → zMem → Prop) (a0 : Int) (M : zMem) : Prop := ∀ X : Int → zMem → Prop, (∀ (a0 : Int) (M : zMem), F X a0 M → X a0 M) → X a0 M
theorem zl1_use {F : (Int → zMem → Prop) → Int → zMem → Prop} {a0 : Int} {M : zMem} (h : zl1 F a0 M) (P : Int → zMem → Prop) (hP : ∀ X : Int → zMem → Prop, (∀ (a0 : Int) (M : zMem), X a0 M → P a0 M) → ∀ (a0 : Int) (M : zMem), F X a0 M → P a0 M) : P a0 M := h P (hP P (fun _ _ h => h))
theorem zl1_rule {F : (Int → zMem → Prop) → Int → zMem → Prop} (I : Int → zMem → Prop) (mu : Int → zMem → Nat) (hs : ∀ (X : Int → zMem → Prop) (a0 : Int) (M : zMem), I a0 M → (∀ (b0 : Int) (M2 : zMem), I b0 M2 → mu b0 M2 < mu a0 M → X b0 M2) → F X a0 M) : ∀ (a0 : Int) (M : zMem), I a0 M → zl1 F a0 M := by
  intro a0 M hI X hX
  generalize hn : mu a0 M = n
  induction n using Nat.strongRecOn generalizing a0 M with
  | _ n ih =>
    refine hX a0 M (hs X a0 M hI (fun b0 M2 h2 hl => ih _ (by rw [← hn]; exact hl) b0 M2 h2 rfl))
def zl2 (F : (Int → Int → zMem → Prop) → Int → Int → zMem → Prop) (a0 a1 : Int) (M : zMem) : Prop := ∀ X : Int → Int → zMem → Prop, (∀ (a0 a1 : Int) (M : zMem), F X a0 a1 M → X a0 a1 M) → X a0 a1 M
theorem zl2_use {F : (Int → Int → zMem → Prop) → Int → Int → zMem → Prop} {a0 a1 : Int} {M : zMem} (h : zl2 F a0 a1 M) (P : Int → Int → zMem → Prop) (hP : ∀ X : Int → Int → zMem → Prop, (∀ (a0 a1 : Int) (M : zMem), X a0 a1 M → P a0 a1 M) → ∀ (a0 a1 : Int) (M : zMem), F X a0 a1 M → P a0 a1 M) : P a0 a1 M := h P (hP P (fun _ _ _ h => h))
theorem zl2_rule {F : (Int → Int → zMem → Prop) → Int → Int → zMem → Prop} (I : Int → Int → zMem → Prop) (mu : Int → Int → zMem → Nat) (hs : ∀ (X : Int → Int → zMem → Prop) (a0 a1 : Int) (M : zMem), I a0 a1 M → (∀ (b0 b1 : Int) (M2 : zMem), I b0 b1 M2 → mu b0 b1 M2 < mu a0 a1 M → X b0 b1 M2) → F X a0 a1 M) : ∀ (a0 a1 : Int) (M : zMem), I a0 a1 M → zl2 F a0 a1 M := by
  intro a0 a1 M hI X hX
  generalize hn : mu a0 a1 M = n
  induction n using Nat.strongRecOn generalizing a0 a1 M with
  | _ n ih =>
    refine hX a0 a1 M (hs X a0 a1 M hI (fun b0 b1 M2 h2 hl => ih _ (by rw [← hn]; exact hl) b0 b1 M2 h2 rfl))
def zl3 (F : (Int → Int → Int → zMem → Prop) → Int → Int → Int → zMem → Prop) (a0 a1 a2 : Int) (M : zMem) : Prop := ∀ X : Int → Int → Int → zMem → Prop, (∀ (a0 a1 a2 : Int) (M : zMem), F X a0 a1 a2 M → X a0 a1 a2 M) → X a0 a1 a2 M
theorem zl3_use {F : (Int → Int → Int → zMem → Prop) → Int → Int → Int → zMem → Prop} {a0 a1 a2 : Int} {M : zMem} (h : zl3 F a0 a1 a2 M) (P : Int → Int → Int → zMem → Prop) (hP : ∀ X : Int → Int → Int → zMem → Prop, (∀ (a0 a1 a2 : Int) (M : zMem), X a0 a1 a2 M → P a0 a1 a2 M) → ∀ (a0 a1 a2 : Int) (M : zMem), F X a0 a1 a2 M → P a0 a1 a2 M) : P a0 a1 a2 M := h P (hP P (fun _ _ _ _ h => h))
theorem zl3_rule {F : (Int → Int → Int → zMem → Prop) → Int → Int → Int → zMem → Prop} (I : Int → Int → Int → zMem → Prop) (mu : Int → Int → Int → zMem → Nat) (hs : ∀ (X : Int → Int → Int → zMem → Prop) (a0 a1 a2 : Int) (M : zMem), I a0 a1 a2 M → (∀ (b0 b1 b2 : Int) (M2 : zMem), I b0 b1 b2 M2 → mu b0 b1 b2 M2 < mu a0 a1 a2 M → X b0 b1 b2 M2) → F X a0 a1 a2 M) : ∀ (a0 a1 a2 : Int) (M : zMem), I a0 a1 a2 M → zl3 F a0 a1 a2 M := by
  intro a0 a1 a2 M hI X hX
  generalize hn : mu a0 a1 a2 M = n
  induction n using Nat.strongRecOn generalizing a0 a1 a2 M with
  | _ n ih =>
    refine hX a0 a1 a2 M (hs X a0 a1 a2 M hI (fun b0 b1 b2 M2 h2 hl => ih _ (by rw [← hn]; exact hl) b0 b1 b2 M2 h2 rfl))
def zl4 (F : (Int → Int → Int → Int → zMem → Prop) → Int → Int → Int → Int → zMem → Prop) (a0 a1 a2 a3 : Int) (M : zMem) : Prop := ∀ X : Int → Int → Int → Int → zMem → Prop, (∀ (a0 a1 a2 a3 : Int) (M : zMem), F X a0 a1 a2 a3 M → X a0 a1 a2 a3 M) → X a0 a1 a2 a3 M
theorem zl4_use {F : (Int → Int → Int → Int → zMem → Prop) → Int → Int → Int → Int → zMem → Prop} {a0 a1 a2 a3 : Int} {M : zMem} (h : zl4 F a0 a1 a2 a3 M) (P : Int → Int → Int → Int → zMem → Prop) (hP : ∀ X : Int → Int → Int → Int → zMem → Prop, (∀ (a0 a1 a2 a3 : Int) (M : zMem), X a0 a1 a2 a3 M → P a0 a1 a2 a3 M) → ∀ (a0 a1 a2 a3 : Int) (M : zMem), F X a0 a1 a2 a3 M → P a0 a1 a2 a3 M) : P a0 a1 a2 a3 M := h P (hP P (fun _ _ _ _ _ h => h))
theorem zl4_rule {F : (Int → Int → Int → Int → zMem → Prop) → Int → Int → Int → Int → zMem → Prop} (I : Int → Int → Int → Int → zMem → Prop) (mu : Int → Int → Int → Int → zMem → Nat) (hs : ∀ (X : Int → Int → Int → Int → zMem → Prop) (a0 a1 a2 a3 : Int) (M : zMem), I a0 a1 a2 a3 M → (∀ (b0 b1 b2 b3 : Int) (M2 : zMem), I b0 b1 b2 b3 M2 → mu b0 b1 b2 b3 M2 < mu a0 a1 a2 a3 M → X b0 b1 b2 b3 M2) → F X a0 a1 a2 a3 M) : ∀ (a0 a1 a2 a3 : Int) (M : zMem), I a0 a1 a2 a3 M → zl4 F a0 a1 a2 a3 M := by
  intro a0 a1 a2 a3 M hI X hX
  generalize hn : mu a0 a1 a2 a3 M = n
  induction n using Nat.strongRecOn generalizing a0 a1 a2 a3 M with
  | _ n ih =>
    refine hX a0 a1 a2 a3 M (hs X a0 a1 a2 a3 M hI (fun b0 b1 b2 b3 M2 h2 hl => ih _ (by rw [← hn]; exact hl) b0 b1 b2 b3 M2 h2 rfl))
def zl5 (F : (Int → Int → Int → Int → Int → zMem → Prop) → Int → Int → Int → Int → Int → zMem → Prop) (a0 a1 a2 a3 a4 : Int) (M : zMem) : Prop := ∀ X : Int → Int → Int → Int → Int → zMem → Prop, (∀ (a0 a1 a2 a3 a4 : Int) (M : zMem), F X a0 a1 a2 a3 a4 M → X a0 a1 a2 a3 a4 M) → X a0 a1 a2 a3 a4 M
theorem zl5_use {F : (Int → Int → Int → Int → Int → zMem → Prop) → Int → Int → Int → Int → Int → zMem → Prop} {a0 a1 a2 a3 a4 : Int} {M : zMem} (h : zl5 F a0 a1 a2 a3 a4 M) (P : Int → Int → Int → Int → Int → zMem → Prop) (hP : ∀ X : Int → Int → Int → Int → Int → zMem → Prop, (∀ (a0 a1 a2 a3 a4 : Int) (M : zMem), X a0 a1 a2 a3 a4 M → P a0 a1 a2 a3 a4 M) → ∀ (a0 a1 a2 a3 a4 : Int) (M : zMem), F X a0 a1 a2 a3 a4 M → P a0 a1 a2 a3 a4 M) : P a0 a1 a2 a3 a4 M := h P (hP P (fun _ _ _ _ _ _ h => h))
theorem zl5_rule {F : (Int → Int → Int → Int → Int → zMem → Prop) → Int → Int → Int → Int → Int → zMem → Prop} (I : Int → Int → Int → Int → Int → zMem → Prop) (mu : Int → Int → Int → Int → Int → zMem → Nat) (hs : ∀ (X : Int → Int → Int → Int → Int → zMem → Prop) (a0 a1 a2 a3 a4 : Int) (M : zMem), I a0 a1 a2 a3 a4 M → (∀ (b0 b1 b2 b3 b4 : Int) (M2 : zMem), I b0 b1 b2 b3 b4 M2 → mu b0 b1 b2 b3 b4 M2 < mu a0 a1 a2 a3 a4 M → X b0 b1 b2 b3 b4 M2) → F X a0 a1 a2 a3 a4 M) : ∀ (a0 a1 a2 a3 a4 : Int) (M : zMem), I a0 a1 a2 a3 a4 M → zl5 F a0 a1 a2 a3 a4 M := by
  intro a0 a1 a2 a3 a4 M hI X hX
  generalize hn : mu a0 a1 a2 a3 a4 M = n
  induction n using Nat.strongRecOn generalizing a0 a1 a2 a3 a4 M with
  | _ n ih =>
    refine hX a0 a1 a2 a3 a4 M (hs X a0 a1 a2 a3 a4 M hI (fun b0 b1 b2 b3 b4 M2 h2 hl => ih _ (by rw [← hn]; exact hl) b0 b1 b2 b3 b4 M2 h2 rfl))
def zl6 (F : (Int → Int → Int → Int → Int → Int → zMem → Prop) → Int → Int → Int → Int → Int → Int → zMem → Prop) (a0 a1 a2 a3 a4 a5 : Int) (M : zMem) : Prop := ∀ X : Int → Int → Int → Int → Int → Int → zMem → Prop, (∀ (a0 a1 a2 a3 a4 a5 : Int) (M : zMem), F X a0 a1 a2 a3 a4 a5 M → X a0 a1 a2 a3 a4 a5 M) → X a0 a1 a2 a3 a4 a5 M
theorem zl6_use {F : (Int → Int → Int → Int → Int → Int → zMem → Prop) → Int → Int → Int → Int → Int → Int → zMem → Prop} {a0 a1 a2 a3 a4 a5 : Int} {M : zMem} (h : zl6 F a0 a1 a2 a3 a4 a5 M) (P : Int → Int → Int → Int → Int → Int → zMem → Prop) (hP : ∀ X : Int → Int → Int → Int → Int → Int → zMem → Prop, (∀ (a0 a1 a2 a3 a4 a5 : Int) (M : zMem), X a0 a1 a2 a3 a4 a5 M → P a0 a1 a2 a3 a4 a5 M) → ∀ (a0 a1 a2 a3 a4 a5 : Int) (M : zMem), F X a0 a1 a2 a3 a4 a5 M → P a0 a1 a2 a3 a4 a5 M) : P a0 a1 a2 a3 a4 a5 M := h P (hP P (fun _ _ _ _ _ _ _ h => h))
theorem zl6_rule {F : (Int → Int → Int → Int → Int → Int → zMem → Prop) → Int → Int → Int → Int → Int → Int → zMem → Prop} (I : Int → Int → Int → Int → Int → Int → zMem → Prop) (mu : Int → Int → Int → Int → Int → Int → zMem → Nat) (hs : ∀ (X : Int → Int → Int → Int → Int → Int → zMem → Prop) (a0 a1 a2 a3 a4 a5 : Int) (M : zMem), I a0 a1 a2 a3 a4 a5 M → (∀ (b0 b1 b2 b3 b4 b5 : Int) (M2 : zMem), I b0 b1 b2 b3 b4 b5 M2 → mu b0 b1 b2 b3 b4 b5 M2 < mu a0 a1 a2 a3 a4 a5 M → X b0 b1 b2 b3 b4 b5 M2) → F X a0 a1 a2 a3 a4 a5 M) : ∀ (a0 a1 a2 a3 a4 a5 : Int) (M : zMem), I a0 a1 a2 a3 a4 a5 M → zl6 F a0 a1 a2 a3 a4 a5 M := by
  intro a0 a1 a2 a3 a4 a5 M hI X hX
  generalize hn : mu a0 a1 a2 a3 a4 a5 M = n
  induction n using Nat.strongRecOn generalizing a0 a1 a2 a3 a4 a5 M with
  | _ n ih =>
    refine hX a0 a1 a2 a3 a4 a5 M (hs X a0 a1 a2 a3 a4 a5 M hI (fun b0 b1 b2 b3 b4 b5 M2 h2 hl => ih _ (by rw [← hn]; exact hl) b0 b1 b2 b3 b4 b5 M2 h2 rfl))
def zl7 (F : (Int → Int → Int → Int → Int → Int → Int → zMem → Prop) → Int → Int → Int → Int → Int → Int → Int → zMem → Prop) (a0 a1 a2 a3 a4 a5 a6 : Int) (M : zMem) : Prop := ∀ X : Int → Int → Int → Int → Int → Int → Int → zMem → Prop, (∀ (a0 a1 a2 a3 a4 a5 a6 : Int) (M : zMem), F X a0 a1 a2 a3 a4 a5 a6 M → X a0 a1 a2 a3 a4 a5 a6 M) → X a0 a1 a2 a3 a4 a5 a6 M
theorem zl7_use {F : (Int → Int → Int → Int → Int → Int → Int → zMem → Prop) → Int → Int → Int → Int → Int → Int → Int → zMem → Prop} {a0 a1 a2 a3 a4 a5 a6 : Int} {M : zMem} (h : zl7 F a0 a1 a2 a3 a4 a5 a6 M) (P : Int → Int → Int → Int → Int → Int → Int → zMem → Prop) (hP : ∀ X : Int → Int → Int → Int → Int → Int → Int → zMem → Prop, (∀ (a0 a1 a2 a3 a4 a5 a6 : Int) (M : zMem), X a0 a1 a2 a3 a4 a5 a6 M → P a0 a1 a2 a3 a4 a5 a6 M) → ∀ (a0 a1 a2 a3 a4 a5 a6 : Int) (M : zMem), F X a0 a1 a2 a3 a4 a5 a6 M → P a0 a1 a2 a3 a4 a5 a6 M) : P a0 a1 a2 a3 a4 a5 a6 M := h P (hP P (fun _ _ _ _ _ _ _ _ h => h))
theorem zl7_rule {F : (Int → Int → Int → Int → Int → Int → Int → zMem → Prop) → Int → Int → Int → Int → Int → Int → Int → zMem → Prop} (I : Int → Int → Int → Int → Int → Int → Int → zMem → Prop) (mu : Int → Int → Int → Int → Int → Int → Int → zMem → Nat) (hs : ∀ (X : Int → Int → Int → Int → Int → Int → Int → zMem → Prop) (a0 a1 a2 a3 a4 a5 a6 : Int) (M : zMem), I a0 a1 a2 a3 a4 a5 a6 M → (∀ (b0 b1 b2 b3 b4 b5 b6 : Int) (M2 : zMem), I b0 b1 b2 b3 b4 b5 b6 M2 → mu b0 b1 b2 b3 b4 b5 b6 M2 < mu a0 a1 a2 a3 a4 a5 a6 M → X b0 b1 b2 b3 b4 b5 b6 M2) → F X a0 a1 a2 a3 a4 a5 a6 M) : ∀ (a0 a1 a2 a3 a4 a5 a6 : Int) (M : zMem), I a0 a1 a2 a3 a4 a5 a6 M → zl7 F a0 a1 a2 a3 a4 a5 a6 M := by
  intro a0 a1 a2 a3 a4 a5 a6 M hI X hX
  generalize hn : mu a0 a1 a2 a3 a4 a5 a6 M = n
  induction n using Nat.strongRecOn generalizing a0 a1 a2 a3 a4 a5 a6 M with
  | _ n ih =>
    refine hX a0 a1 a2 a3 a4 a5 a6 M (hs X a0 a1 a2 a3 a4 a5 a6 M hI (fun b0 b1 b2 b3 b4 b5 b6 M2 h2 hl => ih _ (by rw [← hn]; exact hl) b0 b1 b2 b3 b4 b5 b6 M2 h2 rfl))
def zl8 (F : (Int → Int → Int → Int → Int → Int → Int → Int → zMem → Prop) → Int → Int → Int → Int → Int → Int → Int → Int → zMem → Prop) (a0 a1 a2 a3 a4 a5 a6 a7 : Int) (M : zMem) : Prop := ∀ X : Int → Int → Int → Int → Int → Int → Int → Int → zMem → Prop, (∀ (a0 a1 a2 a3 a4 a5 a6 a7 : Int) (M : zMem), F X a0 a1 a2 a3 a4 a5 a6 a7 M → X a0 a1 a2 a3 a4 a5 a6 a7 M) → X a0 a1 a2 a3 a4 a5 a6 a7 M
theorem zl8_use {F : (Int → Int → Int → Int → Int → Int → Int → Int → zMem → Prop) → Int → Int → Int → Int → Int → Int → Int → Int → zMem → Prop} {a0 a1 a2 a3 a4 a5 a6 a7 : Int} {M : zMem} (h : zl8 F a0 a1 a2 a3 a4 a5 a6 a7 M) (P : Int → Int → Int → Int → Int → Int → Int → Int → zMem → Prop) (hP : ∀ X : Int → Int → Int → Int → Int → Int → Int → Int → zMem → Prop, (∀ (a0 a1 a2 a3 a4 a5 a6 a7 : Int) (M : zMem), X a0 a1 a2 a3 a4 a5 a6 a7 M → P a0 a1 a2 a3 a4 a5 a6 a7 M) → ∀ (a0 a1 a2 a3 a4 a5 a6 a7 : Int) (M : zMem), F X a0 a1 a2 a3 a4 a5 a6 a7 M → P a0 a1 a2 a3 a4 a5 a6 a7 M) : P a0 a1 a2 a3 a4 a5 a6 a7 M := h P (hP P (fun _ _ _ _ _ _ _ _ _ h => h))
theorem zl8_rule {F : (Int → Int → Int → Int → Int → Int → Int → Int → zMem → Prop) → Int → Int → Int → Int → Int → Int → Int → Int → zMem → Prop} (I : Int → Int → Int → Int → Int → Int → Int → Int → zMem → Prop) (mu : Int → Int → Int → Int → Int → Int → Int → Int → zMem → Nat) (hs : ∀ (X : Int → Int → Int → Int → Int → Int → Int → Int → zMem → Prop) (a0 a1 a2 a3 a4 a5 a6 a7 : Int) (M : zMem), I a0 a1 a2 a3 a4 a5 a6 a7 M → (∀ (b0 b1 b2 b3 b4 b5 b6 b7 : Int) (M2 : zMem), I b0 b1 b2 b3 b4 b5 b6 b7 M2 → mu b0 b1 b2 b3 b4 b5 b6 b7 M2 < mu a0 a1 a2 a3 a4 a5 a6 a7 M → X b0 b1 b2 b3 b4 b5 b6 b7 M2) → F X a0 a1 a2 a3 a4 a5 a6 a7 M) : ∀ (a0 a1 a2 a3 a4 a5 a6 a7 : Int) (M : zMem), I a0 a1 a2 a3 a4 a5 a6 a7 M → zl8 F a0 a1 a2 a3 a4 a5 a6 a7 M := by
  intro a0 a1 a2 a3 a4 a5 a6 a7 M hI X hX
  generalize hn : mu a0 a1 a2 a3 a4 a5 a6 a7 M = n
  induction n using Nat.strongRecOn generalizing a0 a1 a2 a3 a4 a5 a6 a7 M with
  | _ n ih =>
    refine hX a0 a1 a2 a3 a4 a5 a6 a7 M (hs X a0 a1 a2 a3 a4 a5 a6 a7 M hI (fun b0 b1 b2 b3 b4 b5 b6 b7 M2 h2 hl => ih _ (by rw [← hn]; exact hl) b0 b1 b2 b3 b4 b5 b6 b7 M2 h2 rfl))
def zl9 (F : (Int → Int → Int → Int → Int → Int → Int → Int → Int → zMem → Prop) → Int → Int → Int → Int → Int → Int → Int → Int → Int → zMem → Prop) (a0 a1 a2 a3 a4 a5 a6 a7 a8 : Int) (M : zMem) : Prop := ∀ X : Int → Int → Int → Int → Int → Int → Int → Int → Int → zMem → Prop, (∀ (a0 a1 a2 a3 a4 a5 a6 a7 a8 : Int) (M : zMem), F X a0 a1 a2 a3 a4 a5 a6 a7 a8 M → X a0 a1 a2 a3 a4 a5 a6 a7 a8 M) → X a0 a1 a2 a3 a4 a5 a6 a7 a8 M
theorem zl9_use {F : (Int → Int → Int → Int → Int → Int → Int → Int → Int → zMem → Prop) → Int → Int → Int → Int → Int → Int → Int → Int → Int → zMem → Prop} {a0 a1 a2 a3 a4 a5 a6 a7 a8 : Int} {M : zMem} (h : zl9 F a0 a1 a2 a3 a4 a5 a6 a7 a8 M) (P : Int → Int → Int → Int → Int → Int → Int → Int → Int → zMem → Prop) (hP : ∀ X : Int → Int → Int → Int → Int → Int → Int → Int → Int → zMem → Prop, (∀ (a0 a1 a2 a3 a4 a5 a6 a7 a8 : Int) (M : zMem), X a0 a1 a2 a3 a4 a5 a6 a7 a8 M → P a0 a1 a2 a3 a4 a5 a6 a7 a8 M) → ∀ (a0 a1 a2 a3 a4 a5 a6 a7 a8 : Int) (M : zMem), F X a0 a1 a2 a3 a4 a5 a6 a7 a8 M → P a0 a1 a2 a3 a4 a5 a6 a7 a8 M) : P a0 a1 a2 a3 a4 a5 a6 a7 a8 M := h P (hP P (fun _ _ _ _ _ _ _ _ _ _ h => h))
theorem zl9_rule {F : (Int → Int → Int → Int → Int → Int → Int → Int → Int → zMem → Prop) → Int → Int → Int → Int → Int → Int → Int → Int → Int → zMem → Prop} (I : Int → Int → Int → Int → Int → Int → Int → Int → Int → zMem → Prop) (mu : Int → Int → Int → Int → Int → Int → Int → Int → Int → zMem → Nat) (hs : ∀ (X : Int → Int → Int → Int → Int → Int → Int → Int → Int → zMem → Prop) (a0 a1 a2 a3 a4 a5 a6 a7 a8 : Int) (M : zMem), I a0 a1 a2 a3 a4 a5 a6 a7 a8 M → (∀ (b0 b1 b2 b3 b4 b5 b6 b7 b8 : Int) (M2 : zMem), I b0 b1 b2 b3 b4 b5 b6 b7 b8 M2 → mu b0 b1 b2 b3 b4 b5 b6 b7 b8 M2 < mu a0 a1 a2 a3 a4 a5 a6 a7 a8 M → X b0 b1 b2 b3 b4 b5 b6 b7 b8 M2) → F X a0 a1 a2 a3 a4 a5 a6 a7 a8 M) : ∀ (a0 a1 a2 a3 a4 a5 a6 a7 a8 : Int) (M : zMem), I a0 a1 a2 a3 a4 a5 a6 a7 a8 M → zl9 F a0 a1 a2 a3 a4 a5 a6 a7 a8 M := by
  intro a0 a1 a2 a3 a4 a5 a6 a7 a8 M hI X hX
  generalize hn : mu a0 a1 a2 a3 a4 a5 a6 a7 a8 M = n
  induction n using Nat.strongRecOn generalizing a0 a1 a2 a3 a4 a5 a6 a7 a8 M with
  | _ n ih =>
    refine hX a0 a1 a2 a3 a4 a5 a6 a7 a8 M (hs X a0 a1 a2 a3 a4 a5 a6 a7 a8 M hI (fun b0 b1 b2 b3 b4 b5 b6 b7 b8 M2 h2 hl => ih _ (by rw [← hn]; exact hl) b0 b1 b2 b3 b4 b5 b6 b7 b8 M2 h2 rfl))
def zp1 (F : (Int → Prop) → Int → Prop) (a0 : Int) : Prop := ∀ X : Int → Prop, (∀ (a0 : Int), F X a0 → X a0) → X a0
theorem zp1_use {F : (Int → Prop) → Int → Prop} {a0 : Int} (h : zp1 F a0) (P : Int → Prop) (hP : ∀ X : Int → Prop, (∀ (a0 : Int), X a0 → P a0) → ∀ (a0 : Int), F X a0 → P a0) : P a0 := h P (hP P (fun _ h => h))
theorem zp1_rule {F : (Int → Prop) → Int → Prop} (I : Int → Prop) (mu : Int → Nat) (hs : ∀ (X : Int → Prop) (a0 : Int), I a0 → (∀ (b0 : Int), I b0 → mu b0 < mu a0 → X b0) → F X a0) : ∀ (a0 : Int), I a0 → zp1 F a0 := by
  intro a0 hI X hX
  generalize hn : mu a0 = n
  induction n using Nat.strongRecOn generalizing a0 with
  | _ n ih =>
    refine hX a0 (hs X a0 hI (fun b0 h2 hl => ih _ (by rw [← hn]; exact hl) b0 h2 rfl))
def zp2 (F : (Int → Int → Prop) → Int → Int → Prop) (a0 a1 : Int) : Prop := ∀ X : Int → Int → Prop, (∀ (a0 a1 : Int), F X a0 a1 → X a0 a1) → X a0 a1
theorem zp2_use {F : (Int → Int → Prop) → Int → Int → Prop} {a0 a1 : Int} (h : zp2 F a0 a1) (P : Int → Int → Prop) (hP : ∀ X : Int → Int → Prop, (∀ (a0 a1 : Int), X a0 a1 → P a0 a1) → ∀ (a0 a1 : Int), F X a0 a1 → P a0 a1) : P a0 a1 := h P (hP P (fun _ _ h => h))
theorem zp2_rule {F : (Int → Int → Prop) → Int → Int → Prop} (I : Int → Int → Prop) (mu : Int → Int → Nat) (hs : ∀ (X : Int → Int → Prop) (a0 a1 : Int), I a0 a1 → (∀ (b0 b1 : Int), I b0 b1 → mu b0 b1 < mu a0 a1 → X b0 b1) → F X a0 a1) : ∀ (a0 a1 : Int), I a0 a1 → zp2 F a0 a1 := by
  intro a0 a1 hI X hX
  generalize hn : mu a0 a1 = n
  induction n using Nat.strongRecOn generalizing a0 a1 with
  | _ n ih =>
    refine hX a0 a1 (hs X a0 a1 hI (fun b0 b1 h2 hl => ih _ (by rw [← hn]; exact hl) b0 b1 h2 rfl))
def zp3 (F : (Int → Int → Int → Prop) → Int → Int → Int → Prop) (a0 a1 a2 : Int) : Prop := ∀ X : Int → Int → Int → Prop, (∀ (a0 a1 a2 : Int), F X a0 a1 a2 → X a0 a1 a2) → X a0 a1 a2
theorem zp3_use {F : (Int → Int → Int → Prop) → Int → Int → Int → Prop} {a0 a1 a2 : Int} (h : zp3 F a0 a1 a2) (P : Int → Int → Int → Prop) (hP : ∀ X : Int → Int → Int → Prop, (∀ (a0 a1 a2 : Int), X a0 a1 a2 → P a0 a1 a2) → ∀ (a0 a1 a2 : Int), F X a0 a1 a2 → P a0 a1 a2) : P a0 a1 a2 := h P (hP P (fun _ _ _ h => h))
theorem zp3_rule {F : (Int → Int → Int → Prop) → Int → Int → Int → Prop} (I : Int → Int → Int → Prop) (mu : Int → Int → Int → Nat) (hs : ∀ (X : Int → Int → Int → Prop) (a0 a1 a2 : Int), I a0 a1 a2 → (∀ (b0 b1 b2 : Int), I b0 b1 b2 → mu b0 b1 b2 < mu a0 a1 a2 → X b0 b1 b2) → F X a0 a1 a2) : ∀ (a0 a1 a2 : Int), I a0 a1 a2 → zp3 F a0 a1 a2 := by
  intro a0 a1 a2 hI X hX
  generalize hn : mu a0 a1 a2 = n
  induction n using Nat.strongRecOn generalizing a0 a1 a2 with
  | _ n ih =>
    refine hX a0 a1 a2 (hs X a0 a1 a2 hI (fun b0 b1 b2 h2 hl => ih _ (by rw [← hn]; exact hl) b0 b1 b2 h2 rfl))
def zp4 (F : (Int → Int → Int → Int → Prop) → Int → Int → Int → Int → Prop) (a0 a1 a2 a3 : Int) : Prop := ∀ X : Int → Int → Int → Int → Prop, (∀ (a0 a1 a2 a3 : Int), F X a0 a1 a2 a3 → X a0 a1 a2 a3) → X a0 a1 a2 a3
theorem zp4_use {F : (Int → Int → Int → Int → Prop) → Int → Int → Int → Int → Prop} {a0 a1 a2 a3 : Int} (h : zp4 F a0 a1 a2 a3) (P : Int → Int → Int → Int → Prop) (hP : ∀ X : Int → Int → Int → Int → Prop, (∀ (a0 a1 a2 a3 : Int), X a0 a1 a2 a3 → P a0 a1 a2 a3) → ∀ (a0 a1 a2 a3 : Int), F X a0 a1 a2 a3 → P a0 a1 a2 a3) : P a0 a1 a2 a3 := h P (hP P (fun _ _ _ _ h => h))
theorem zp4_rule {F : (Int → Int → Int → Int → Prop) → Int → Int → Int → Int → Prop} (I : Int → Int → Int → Int → Prop) (mu : Int → Int → Int → Int → Nat) (hs : ∀ (X : Int → Int → Int → Int → Prop) (a0 a1 a2 a3 : Int), I a0 a1 a2 a3 → (∀ (b0 b1 b2 b3 : Int), I b0 b1 b2 b3 → mu b0 b1 b2 b3 < mu a0 a1 a2 a3 → X b0 b1 b2 b3) → F X a0 a1 a2 a3) : ∀ (a0 a1 a2 a3 : Int), I a0 a1 a2 a3 → zp4 F a0 a1 a2 a3 := by
  intro a0 a1 a2 a3 hI X hX
  generalize hn : mu a0 a1 a2 a3 = n
  induction n using Nat.strongRecOn generalizing a0 a1 a2 a3 with
  | _ n ih =>
    refine hX a0 a1 a2 a3 (hs X a0 a1 a2 a3 hI (fun b0 b1 b2 b3 h2 hl => ih _ (by rw [← hn]; exact hl) b0 b1 b2 b3 h2 rfl))
def zp5 (F : (Int → Int → Int → Int → Int → Prop) → Int → Int → Int → Int → Int → Prop) (a0 a1 a2 a3 a4 : Int) : Prop := ∀ X : Int → Int → Int → Int → Int → Prop, (∀ (a0 a1 a2 a3 a4 : Int), F X a0 a1 a2 a3 a4 → X a0 a1 a2 a3 a4) → X a0 a1 a2 a3 a4
theorem zp5_use {F : (Int → Int → Int → Int → Int → Prop) → Int → Int → Int → Int → Int → Prop} {a0 a1 a2 a3 a4 : Int} (h : zp5 F a0 a1 a2 a3 a4) (P : Int → Int → Int → Int → Int → Prop) (hP : ∀ X : Int → Int → Int → Int → Int → Prop, (∀ (a0 a1 a2 a3 a4 : Int), X a0 a1 a2 a3 a4 → P a0 a1 a2 a3 a4) → ∀ (a0 a1 a2 a3 a4 : Int), F X a0 a1 a2 a3 a4 → P a0 a1 a2 a3 a4) : P a0 a1 a2 a3 a4 := h P (hP P (fun _ _ _ _ _ h => h))
theorem zp5_rule {F : (Int → Int → Int → Int → Int → Prop) → Int → Int → Int → Int → Int → Prop} (I : Int → Int → Int → Int → Int → Prop) (mu : Int → Int → Int → Int → Int → Nat) (hs : ∀ (X : Int → Int → Int → Int → Int → Prop) (a0 a1 a2 a3 a4 : Int), I a0 a1 a2 a3 a4 → (∀ (b0 b1 b2 b3 b4 : Int), I b0 b1 b2 b3 b4 → mu b0 b1 b2 b3 b4 < mu a0 a1 a2 a3 a4 → X b0 b1 b2 b3 b4) → F X a0 a1 a2 a3 a4) : ∀ (a0 a1 a2 a3 a4 : Int), I a0 a1 a2 a3 a4 → zp5 F a0 a1 a2 a3 a4 := by
  intro a0 a1 a2 a3 a4 hI X hX
  generalize hn : mu a0 a1 a2 a3 a4 = n
  induction n using Nat.strongRecOn generalizing a0 a1 a2 a3 a4 with
  | _ n ih =>
    refine hX a0 a1 a2 a3 a4 (hs X a0 a1 a2 a3 a4 hI (fun b0 b1 b2 b3 b4 h2 hl => ih _ (by rw [← hn]; exact hl) b0 b1 b2 b3 b4 h2 rfl))
def zp6 (F : (Int → Int → Int → Int → Int → Int → Prop) → Int → Int → Int → Int → Int → Int → Prop) (a0 a1 a2 a3 a4 a5 : Int) : Prop := ∀ X : Int → Int → Int → Int → Int → Int → Prop, (∀ (a0 a1 a2 a3 a4 a5 : Int), F X a0 a1 a2 a3 a4 a5 → X a0 a1 a2 a3 a4 a5) → X a0 a1 a2 a3 a4 a5
theorem zp6_use {F : (Int → Int → Int → Int → Int → Int → Prop) → Int → Int → Int → Int → Int → Int → Prop} {a0 a1 a2 a3 a4 a5 : Int} (h : zp6 F a0 a1 a2 a3 a4 a5) (P : Int → Int → Int → Int → Int → Int → Prop) (hP : ∀ X : Int → Int → Int → Int → Int → Int → Prop, (∀ (a0 a1 a2 a3 a4 a5 : Int), X a0 a1 a2 a3 a4 a5 → P a0 a1 a2 a3 a4 a5) → ∀ (a0 a1 a2 a3 a4 a5 : Int), F X a0 a1 a2 a3 a4 a5 → P a0 a1 a2 a3 a4 a5) : P a0 a1 a2 a3 a4 a5 := h P (hP P (fun _ _ _ _ _ _ h => h))
theorem zp6_rule {F : (Int → Int → Int → Int → Int → Int → Prop) → Int → Int → Int → Int → Int → Int → Prop} (I : Int → Int → Int → Int → Int → Int → Prop) (mu : Int → Int → Int → Int → Int → Int → Nat) (hs : ∀ (X : Int → Int → Int → Int → Int → Int → Prop) (a0 a1 a2 a3 a4 a5 : Int), I a0 a1 a2 a3 a4 a5 → (∀ (b0 b1 b2 b3 b4 b5 : Int), I b0 b1 b2 b3 b4 b5 → mu b0 b1 b2 b3 b4 b5 < mu a0 a1 a2 a3 a4 a5 → X b0 b1 b2 b3 b4 b5) → F X a0 a1 a2 a3 a4 a5) : ∀ (a0 a1 a2 a3 a4 a5 : Int), I a0 a1 a2 a3 a4 a5 → zp6 F a0 a1 a2 a3 a4 a5 := by
  intro a0 a1 a2 a3 a4 a5 hI X hX
  generalize hn : mu a0 a1 a2 a3 a4 a5 = n
  induction n using Nat.strongRecOn generalizing a0 a1 a2 a3 a4 a5 with
  | _ n ih =>
    refine hX a0 a1 a2 a3 a4 a5 (hs X a0 a1 a2 a3 a4 a5 hI (fun b0 b1 b2 b3 b4 b5 h2 hl => ih _ (by rw [← hn]; exact hl) b0 b1 b2 b3 b4 b5 h2 rfl))
def zp7 (F : (Int → Int → Int → Int → Int → Int → Int → Prop) → Int → Int → Int → Int → Int → Int → Int → Prop) (a0 a1 a2 a3 a4 a5 a6 : Int) : Prop := ∀ X : Int → Int → Int → Int → Int → Int → Int → Prop, (∀ (a0 a1 a2 a3 a4 a5 a6 : Int), F X a0 a1 a2 a3 a4 a5 a6 → X a0 a1 a2 a3 a4 a5 a6) → X a0 a1 a2 a3 a4 a5 a6
theorem zp7_use {F : (Int → Int → Int → Int → Int → Int → Int → Prop) → Int → Int → Int → Int → Int → Int → Int → Prop} {a0 a1 a2 a3 a4 a5 a6 : Int} (h : zp7 F a0 a1 a2 a3 a4 a5 a6) (P : Int → Int → Int → Int → Int → Int → Int → Prop) (hP : ∀ X : Int → Int → Int → Int → Int → Int → Int → Prop, (∀ (a0 a1 a2 a3 a4 a5 a6 : Int), X a0 a1 a2 a3 a4 a5 a6 → P a0 a1 a2 a3 a4 a5 a6) → ∀ (a0 a1 a2 a3 a4 a5 a6 : Int), F X a0 a1 a2 a3 a4 a5 a6 → P a0 a1 a2 a3 a4 a5 a6) : P a0 a1 a2 a3 a4 a5 a6 := h P (hP P (fun _ _ _ _ _ _ _ h => h))
theorem zp7_rule {F : (Int → Int → Int → Int → Int → Int → Int → Prop) → Int → Int → Int → Int → Int → Int → Int → Prop} (I : Int → Int → Int → Int → Int → Int → Int → Prop) (mu : Int → Int → Int → Int → Int → Int → Int → Nat) (hs : ∀ (X : Int → Int → Int → Int → Int → Int → Int → Prop) (a0 a1 a2 a3 a4 a5 a6 : Int), I a0 a1 a2 a3 a4 a5 a6 → (∀ (b0 b1 b2 b3 b4 b5 b6 : Int), I b0 b1 b2 b3 b4 b5 b6 → mu b0 b1 b2 b3 b4 b5 b6 < mu a0 a1 a2 a3 a4 a5 a6 → X b0 b1 b2 b3 b4 b5 b6) → F X a0 a1 a2 a3 a4 a5 a6) : ∀ (a0 a1 a2 a3 a4 a5 a6 : Int), I a0 a1 a2 a3 a4 a5 a6 → zp7 F a0 a1 a2 a3 a4 a5 a6 := by
  intro a0 a1 a2 a3 a4 a5 a6 hI X hX
  generalize hn : mu a0 a1 a2 a3 a4 a5 a6 = n
  induction n using Nat.strongRecOn generalizing a0 a1 a2 a3 a4 a5 a6 with
  | _ n ih =>
    refine hX a0 a1 a2 a3 a4 a5 a6 (hs X a0 a1 a2 a3 a4 a5 a6 hI (fun b0 b1 b2 b3 b4 b5 b6 h2 hl => ih _ (by rw [← hn]; exact hl) b0 b1 b2 b3 b4 b5 b6 h2 rfl))
def zp8 (F : (Int → Int → Int → Int → Int → Int → Int → Int → Prop) → Int → Int → Int → Int → Int → Int → Int → Int → Prop) (a0 a1 a2 a3 a4 a5 a6 a7 : Int) : Prop := ∀ X : Int → Int → Int → Int → Int → Int → Int → Int → Prop, (∀ (a0 a1 a2 a3 a4 a5 a6 a7 : Int), F X a0 a1 a2 a3 a4 a5 a6 a7 → X a0 a1 a2 a3 a4 a5 a6 a7) → X a0 a1 a2 a3 a4 a5 a6 a7
theorem zp8_use {F : (Int → Int → Int → Int → Int → Int → Int → Int → Prop) → Int → Int → Int → Int → Int → Int → Int → Int → Prop} {a0 a1 a2 a3 a4 a5 a6 a7 : Int} (h : zp8 F a0 a1 a2 a3 a4 a5 a6 a7) (P : Int → Int → Int → Int → Int → Int → Int → Int → Prop) (hP : ∀ X : Int → Int → Int → Int → Int → Int → Int → Int → Prop, (∀ (a0 a1 a2 a3 a4 a5 a6 a7 : Int), X a0 a1 a2 a3 a4 a5 a6 a7 → P a0 a1 a2 a3 a4 a5 a6 a7) → ∀ (a0 a1 a2 a3 a4 a5 a6 a7 : Int), F X a0 a1 a2 a3 a4 a5 a6 a7 → P a0 a1 a2 a3 a4 a5 a6 a7) : P a0 a1 a2 a3 a4 a5 a6 a7 := h P (hP P (fun _ _ _ _ _ _ _ _ h => h))
theorem zp8_rule {F : (Int → Int → Int → Int → Int → Int → Int → Int → Prop) → Int → Int → Int → Int → Int → Int → Int → Int → Prop} (I : Int → Int → Int → Int → Int → Int → Int → Int → Prop) (mu : Int → Int → Int → Int → Int → Int → Int → Int → Nat) (hs : ∀ (X : Int → Int → Int → Int → Int → Int → Int → Int → Prop) (a0 a1 a2 a3 a4 a5 a6 a7 : Int), I a0 a1 a2 a3 a4 a5 a6 a7 → (∀ (b0 b1 b2 b3 b4 b5 b6 b7 : Int), I b0 b1 b2 b3 b4 b5 b6 b7 → mu b0 b1 b2 b3 b4 b5 b6 b7 < mu a0 a1 a2 a3 a4 a5 a6 a7 → X b0 b1 b2 b3 b4 b5 b6 b7) → F X a0 a1 a2 a3 a4 a5 a6 a7) : ∀ (a0 a1 a2 a3 a4 a5 a6 a7 : Int), I a0 a1 a2 a3 a4 a5 a6 a7 → zp8 F a0 a1 a2 a3 a4 a5 a6 a7 := by
  intro a0 a1 a2 a3 a4 a5 a6 a7 hI X hX
  generalize hn : mu a0 a1 a2 a3 a4 a5 a6 a7 = n
  induction n using Nat.strongRecOn generalizing a0 a1 a2 a3 a4 a5 a6 a7 with
  | _ n ih =>
    refine hX a0 a1 a2 a3 a4 a5 a6 a7 (hs X a0 a1 a2 a3 a4 a5 a6 a7 hI (fun b0 b1 b2 b3 b4 b5 b6 b7 h2 hl => ih _ (by rw [← hn]; exact hl) b0 b1 b2 b3 b4 b5 b6 b7 h2 rfl))
def zp9 (F : (Int → Int → Int → Int → Int → Int → Int → Int → Int → Prop) → Int → Int → Int → Int → Int → Int → Int → Int → Int → Prop) (a0 a1 a2 a3 a4 a5 a6 a7 a8 : Int) : Prop := ∀ X : Int → Int → Int → Int → Int → Int → Int → Int → Int → Prop, (∀ (a0 a1 a2 a3 a4 a5 a6 a7 a8 : Int), F X a0 a1 a2 a3 a4 a5 a6 a7 a8 → X a0 a1 a2 a3 a4 a5 a6 a7 a8) → X a0 a1 a2 a3 a4 a5 a6 a7 a8
theorem zp9_use {F : (Int → Int → Int → Int → Int → Int → Int → Int → Int → Prop) → Int → Int → Int → Int → Int → Int → Int → Int → Int → Prop} {a0 a1 a2 a3 a4 a5 a6 a7 a8 : Int} (h : zp9 F a0 a1 a2 a3 a4 a5 a6 a7 a8) (P : Int → Int → Int → Int → Int → Int → Int → Int → Int → Prop) (hP : ∀ X : Int → Int → Int → Int → Int → Int → Int → Int → Int → Prop, (∀ (a0 a1 a2 a3 a4 a5 a6 a7 a8 : Int), X a0 a1 a2 a3 a4 a5 a6 a7 a8 → P a0 a1 a2 a3 a4 a5 a6 a7 a8) → ∀ (a0 a1 a2 a3 a4 a5 a6 a7 a8 : Int), F X a0 a1 a2 a3 a4 a5 a6 a7 a8 → P a0 a1 a2 a3 a4 a5 a6 a7 a8) : P a0 a1 a2 a3 a4 a5 a6 a7 a8 := h P (hP P (fun _ _ _ _ _ _ _ _ _ h => h))
theorem zp9_rule {F : (Int → Int → Int → Int → Int → Int → Int → Int → Int → Prop) → Int → Int → Int → Int → Int → Int → Int → Int → Int → Prop} (I : Int → Int → Int → Int → Int → Int → Int → Int → Int → Prop) (mu : Int → Int → Int → Int → Int → Int → Int → Int → Int → Nat) (hs : ∀ (X : Int → Int → Int → Int → Int → Int → Int → Int → Int → Prop) (a0 a1 a2 a3 a4 a5 a6 a7 a8 : Int), I a0 a1 a2 a3 a4 a5 a6 a7 a8 → (∀ (b0 b1 b2 b3 b4 b5 b6 b7 b8 : Int), I b0 b1 b2 b3 b4 b5 b6 b7 b8 → mu b0 b1 b2 b3 b4 b5 b6 b7 b8 < mu a0 a1 a2 a3 a4 a5 a6 a7 a8 → X b0 b1 b2 b3 b4 b5 b6 b7 b8) → F X a0 a1 a2 a3 a4 a5 a6 a7 a8) : ∀ (a0 a1 a2 a3 a4 a5 a6 a7 a8 : Int), I a0 a1 a2 a3 a4 a5 a6 a7 a8 → zp9 F a0 a1 a2 a3 a4 a5 a6 a7 a8 := by
  intro a0 a1 a2 a3 a4 a5 a6 a7 a8 hI X hX
  generalize hn : mu a0 a1 a2 a3 a4 a5 a6 a7 a8 = n
  induction n using Nat.strongRecOn generalizing a0 a1 a2 a3 a4 a5 a6 a7 a8 with
  | _ n ih =>
    refine hX a0 a1 a2 a3 a4 a5 a6 a7 a8 (hs X a0 a1 a2 a3 a4 a5 a6 a7 a8 hI (fun b0 b1 b2 b3 b4 b5 b6 b7 b8 h2 hl => ih _ (by rw [← hn]; exact hl) b0 b1 b2 b3 b4 b5 b6 b7 b8 h2 rfl))
