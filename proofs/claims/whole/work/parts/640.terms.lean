-- the two constant tables of the class: old cells, never written
abbrev zTb (G : zG) (U : State) (n : String) (T : Int → Int) (a : Nat) : Prop := va_Z "PackedPages" n "[I" (.ref a) (zA G) U U.heap ∧ va_T .int a 5 (fun j : Nat => .int (Int32.ofInt (T (j : Int)))) (zA G) U U.heap
def zST (G : zG) (U : State) : Prop := ∃ a1 a2 : Nat, zTb G U "TERM_LOWEST" zTL a1 ∧ zTb G U "TERM_HIGHEST" zTH a2
theorem zTL_r (v : Int) : inR (zTL v) := by
  unfold zTL inR
  refine ⟨?_, ?_⟩
  all_goals repeat' split
  all_goals decide
theorem zTH_r (v : Int) : inR (zTH v) := by
  unfold zTH inR
  refine ⟨?_, ?_⟩
  all_goals repeat' split
  all_goals decide
theorem zTb_keep {G : zG} {s U : State} {H : Heap} {locs : List Loc} {n : String} {T : Int → Int} {a : Nat} (h : zTb G s n T a) (hS : va_S (zA G) s.heap H locs) (hU : U.heap = H) (hvm : s.vm.Alike U.vm) : zTb G U n T a := by
  obtain ⟨h1, h2⟩ := h
  refine ⟨?_, ?_⟩
  · rw [hU]; exact (h1.moved hvm).kept hS.2.1
  · rw [hU]; exact (h2.moved hvm).kept hS.2.1
theorem zST_keep {G : zG} {s U : State} {H : Heap} {locs : List Loc} (h : zST G s) (hS : va_S (zA G) s.heap H locs) (hU : U.heap = H) (hvm : s.vm.Alike U.vm) : zST G U := by
  obtain ⟨a1, a2, h1, h2⟩ := h
  exact ⟨a1, a2, zTb_keep h1 hS hU hvm, zTb_keep h2 hS hU hvm⟩
theorem zj_stat {p : Program} {l : Launch} {e : Env} {R : Room} {s : State} {m : MethodId} {args : Array Value} {below : List Frame} {meth : Method} {c : Code} {cells slots : Nat} {Q : State → Prop} {cc : ByteArray} {nL : Nat} {own : String} {G : zG} {pc : Nat} {L : List (Option zV)} {st : List zV} {M : zMem} (hc : zCx p s m args c cc nL own G) {C n d : String} {a idx : Nat} {T : Int → Int} {k : Fin 4} {v : Int} (hZ : va_Z C n d (.ref a) (zA G) s s.heap) (hX : va_T .int a 5 (fun j : Nat => .int (Int32.ofInt (T (j : Int)))) (zA G) s s.heap) (hlink : Cond.fieldLink own idx C n d ∈ lw_ws) (hd1 : decode cc pc = .ok (.getstatic idx, 3)) (hd2 : decode cc (pc + 3) = .ok (.iload_n k, 1)) (hd3 : decode cc (pc + 3 + 1) = .ok (.iaload, 1)) (hl : L[(k : Nat)]? = some (some (.inl v))) (hv : 0 ≤ v ∧ v < 5) (hT : inR (T v)) (kk : zJ p l e R s m args below meth c G nL cells slots Q (pc + 3 + 1 + 1) L (.inl (T v) :: st) M) : zJ p l e R s m args below meth c G nL cells slots Q pc L st M := by
  intro h1 h2 ls H locs X hL hW hS
  have hvr : inR v := ⟨by omega, by omega⟩
  refine va_gets hc.1 hc.2.1 hZ hS hc.2.2.2.1 (hc.2.2.2.2.1 _ hlink) (fun _ h9 => h9) hd1 ?_
  refine lv_iload_n hc.1 hc.2.1 hd2 rfl (zpl_at hL hl) ?_
  refine va_ti (v := .int (Int32.ofInt (T v))) hc.1 hc.2.1 hX hS (zr_in hvr hv.1 hv.2) (by rw [zr_cl hvr, Int.toNat_of_nonneg hv.1]) hd3 ?_
  exact kk (zokC h1 hT) h2 ls H locs X hL hW hS
def zMetT (l : Launch) (f lo : Nat) (G : zG) (As : List zV) (M : zMem) (Qr : Int → zMem → Prop) : Prop :=
  Met l yX9_terms (Cond.code yX9_terms cX9_terms 4 (some .int) :: lw_ws) (zRoom f lo 0 0) (va_Pc (As.map (zmv G)) (fun U => zPre G M As U ∧ zST G U)) (zQi G Qr) 0 0 (zA G)
theorem zmetT {l : Launch} {f lo : Nat} {G : zG} {As : List zV} {M : zMem} {Qr : Int → zMem → Prop} (hlen : As.length ≤ 4) (L : List (Option zV)) (hL : As.map some ++ List.replicate (4 - As.length) none = L)
    (body : ∀ (p : Program) (e : Env) (s : State) (m : MethodId) (args : Array Value) (below : List Frame) (meth : Method) (c : Code), zCx p s m args c cX9_terms 4 RX9 G → meth.sig.returnType = some .int → meth.locks = false → zST G s → zJ p l e (zRoom f lo 0 0) s m args below meth c G 4 0 0 (MQ below (zQi G Qr) args s 0 0 (zA G)) 0 L [] M) : zMetT l f lo G As M Qr := by
  refine Met.ofW (cc := cX9_terms) (maxL := 4) (ret := some .int) (by decide) rfl ?_
  intro p e s m args below meth c s₁ B hml hv
  obtain ⟨rfl, ⟨hbs, ⟨X, hW⟩, hK, hok⟩, hst⟩ := hv
  have hts := atoms_spec (ws := Cond.code yX9_terms cX9_terms 4 (some .int) :: lw_ws) B.pre
  have hown : s.vm.findClass yX9_terms.cls = some m.cls := findClass_of_methodNamed B.named
  rw [lg_entry_eq]
  exact body p e s m _ below meth c ⟨B.exec, B.bytes, hml, hown, fun w hw => hts w (List.mem_cons_of_mem _ hw), hK, hbs⟩ B.returns B.notSynchronized hst (fun v h => by cases h) (zok0 hL hok) _ s.heap [] X (zentry G As hlen hL) hW va_S.rf
set_option maxRecDepth 100000 in
theorem lk_X9_s75 : Cond.fieldLink RX9 75 "PackedPages" "TERM_LOWEST" "[I" ∈ lw_ws := ws_at 334 rfl rfl
set_option maxRecDepth 100000 in
theorem lk_X9_s78 : Cond.fieldLink RX9 78 "PackedPages" "TERM_HIGHEST" "[I" ∈ lw_ws := ws_at 336 rfl rfl
set_option maxHeartbeats 4000000 in
set_option maxRecDepth 100000 in
theorem S_X9_terms (l : Launch) (G : zG) (v1 : Int) (v2 : Int) (M : zMem) (Qr : Int → zMem → Prop) (h : T_X9_terms v1 v2 Qr M) : zMetT l 3 69 G [.inr 63, .inl v1, .inl v2] M Qr := by
  refine zmetT (Nat.le_of_ble_eq_true rfl) [some (.inr 63), some (.inl v1), some (.inl v2), none] rfl ?_
  intro p e s m args below meth c hc hr hlk ⟨a1, a2, ⟨hZ1, hX1⟩, hZ2, hX2⟩
  unfold T_X9_terms at h
  refine zj_iload_n (pc := 0) hc dX9_terms_0 rfl ?_
  refine zj_if_lt (pc := 1) (tgt := 31) hc dX9_terms_1 (by decide) (fun hx1 => ?_) (fun hx1 => ?_)
  · have h := h.1 hx1
    refine zj_aload_n (pc := 31) hc dX9_terms_31 rfl ?_
    refine zj_iconst (pc := 32) hc dX9_terms_32 (zin _ rfl) ?_
    refine zj_vti (pc := 33) (st := []) hc ks_X9_refuse iv_X9_refuse lk_X9_81 (zrv_0 G M) (S_X9_refuse l G (-1) M _ h) rfl ⟨Nat.le_of_ble_eq_true rfl, Nat.le_of_ble_eq_true rfl⟩ (Nat.le_of_ble_eq_true rfl) ⟨Nat.le_of_ble_eq_true rfl, Nat.le_of_ble_eq_true rfl⟩ dX9_terms_33 rfl (fun y2 M3 h => ?_)
    exact zj_iret (pc := 36) hc hr hlk dX9_terms_36 (by decide) (by decide) h
  · have h := h.2 hx1
    refine zj_iload_n (pc := 4) hc dX9_terms_4 rfl ?_
    refine zj_aload_n (pc := 5) hc dX9_terms_5 rfl ?_
    refine zg_0_0 (pc := 6) hc lk_X9_9 dX9_terms_6 ?_
    refine zj_alen (pc := 9) hc dX9_terms_9 alen_0 (by decide) ?_
    refine zj_icmp_ge (pc := 10) (tgt := 31) hc dX9_terms_10 (by decide) (fun hx4 => ?_) (fun hx4 => ?_)
    · have h := h.1 hx4
      refine zj_aload_n (pc := 31) hc dX9_terms_31 rfl ?_
      refine zj_iconst (pc := 32) hc dX9_terms_32 (zin _ rfl) ?_
      refine zj_vti (pc := 33) (st := []) hc ks_X9_refuse iv_X9_refuse lk_X9_81 (zrv_0 G M) (S_X9_refuse l G (-1) M _ h) rfl ⟨Nat.le_of_ble_eq_true rfl, Nat.le_of_ble_eq_true rfl⟩ (Nat.le_of_ble_eq_true rfl) ⟨Nat.le_of_ble_eq_true rfl, Nat.le_of_ble_eq_true rfl⟩ dX9_terms_33 rfl (fun y5 M6 h => ?_)
      exact zj_iret (pc := 36) hc hr hlk dX9_terms_36 (by decide) (by decide) h
    · have h := h.2 hx4
      refine zj_iload_n (pc := 13) hc dX9_terms_13 rfl ?_
      refine zj_stat (pc := 14) (k := 1) (v := v1) (T := zTL) hc hZ1 hX1 lk_X9_s75 dX9_terms_14 dX9_terms_17 dX9_terms_18 rfl h.1 (zTL_r v1) ?_
      have h := h.2
      refine zj_icmp_lt (pc := 19) (tgt := 31) hc dX9_terms_19 (by decide) (fun hx7 => ?_) (fun hx7 => ?_)
      · have h := h.1 hx7
        refine zj_aload_n (pc := 31) hc dX9_terms_31 rfl ?_
        refine zj_iconst (pc := 32) hc dX9_terms_32 (zin _ rfl) ?_
        refine zj_vti (pc := 33) (st := []) hc ks_X9_refuse iv_X9_refuse lk_X9_81 (zrv_0 G M) (S_X9_refuse l G (-1) M _ h) rfl ⟨Nat.le_of_ble_eq_true rfl, Nat.le_of_ble_eq_true rfl⟩ (Nat.le_of_ble_eq_true rfl) ⟨Nat.le_of_ble_eq_true rfl, Nat.le_of_ble_eq_true rfl⟩ dX9_terms_33 rfl (fun y8 M9 h => ?_)
        exact zj_iret (pc := 36) hc hr hlk dX9_terms_36 (by decide) (by decide) h
      · have h := h.2 hx7
        refine zj_iload_n (pc := 22) hc dX9_terms_22 rfl ?_
        refine zj_stat (pc := 23) (k := 1) (v := v1) (T := zTH) hc hZ2 hX2 lk_X9_s78 dX9_terms_23 dX9_terms_26 dX9_terms_27 rfl h.1 (zTH_r v1) ?_
        have h := h.2
        refine zj_icmp_le (pc := 28) (tgt := 37) hc dX9_terms_28 (by decide) (fun hx10 => ?_) (fun hx10 => ?_)
        · have h := h.1 hx10
          refine zj_aload_n (pc := 37) hc dX9_terms_37 rfl ?_
          refine zg_0_0 (pc := 38) hc lk_X9_9 dX9_terms_38 ?_
          refine zj_iload_n (pc := 41) hc dX9_terms_41 rfl ?_
          refine zj_iald (pc := 42) hc dX9_terms_42 alen_0 h.1 ?_
          have h := h.2
          refine zj_istore_n (pc := 43) hc dX9_terms_43 (by decide) ?_
          refine zj_aload_n (pc := 44) hc dX9_terms_44 rfl ?_
          refine zg_0_0 (pc := 45) hc lk_X9_9 dX9_terms_45 ?_
          refine zj_iload_n (pc := 48) hc dX9_terms_48 rfl ?_
          refine zj_iload_n (pc := 49) hc dX9_terms_49 rfl ?_
          refine zj_iast (pc := 50) hc dX9_terms_50 alen_0 h.1 (fun M11 hM11 => ?_)
          have h := h.2 M11 hM11
          refine zj_aload_n (pc := 51) hc dX9_terms_51 rfl ?_
          refine zg_0_12 (pc := 52) hc lk_X9_64 dX9_terms_52 ?_
          refine zj_aload_n (pc := 55) hc dX9_terms_55 rfl ?_
          refine zg_0_0 (pc := 56) hc lk_X9_9 dX9_terms_56 ?_
          refine zj_iconst (pc := 59) hc dX9_terms_59 (zin _ rfl) ?_
          refine zj_iald (pc := 60) hc dX9_terms_60 alen_0 h.1 ?_
          have h := h.2
          refine zj_vtv (pc := 61) (st := []) hc ks_X3_shrinkTo iv_X3_shrinkTo lk_X9_85 (zrv_7 G M11) (S_X3_shrinkTo l G (M11.2 0 4) M11 _ h) rfl ⟨Nat.le_of_ble_eq_true rfl, Nat.le_of_ble_eq_true rfl⟩ (Nat.le_of_ble_eq_true rfl) ⟨Nat.le_of_ble_eq_true rfl, Nat.le_of_ble_eq_true rfl⟩ dX9_terms_61 rfl (fun M12 h => ?_)
          refine zj_aload_n (pc := 64) hc dX9_terms_64 rfl ?_
          refine zj_iload_n (pc := 65) hc dX9_terms_65 rfl ?_
          refine zj_vti (pc := 66) (st := []) hc ks_X9_accept iv_X9_accept lk_X9_89 (zrv_0 G M12) (S_X9_accept l G (M.2 0 v1) M12 _ h) rfl ⟨Nat.le_of_ble_eq_true rfl, Nat.le_of_ble_eq_true rfl⟩ (Nat.le_of_ble_eq_true rfl) ⟨Nat.le_of_ble_eq_true rfl, Nat.le_of_ble_eq_true rfl⟩ dX9_terms_66 rfl (fun y13 M14 h => ?_)
          exact zj_iret (pc := 69) hc hr hlk dX9_terms_69 (by decide) (by decide) h
        · have h := h.2 hx10
          refine zj_aload_n (pc := 31) hc dX9_terms_31 rfl ?_
          refine zj_iconst (pc := 32) hc dX9_terms_32 (zin _ rfl) ?_
          refine zj_vti (pc := 33) (st := []) hc ks_X9_refuse iv_X9_refuse lk_X9_81 (zrv_0 G M) (S_X9_refuse l G (-1) M _ h) rfl ⟨Nat.le_of_ble_eq_true rfl, Nat.le_of_ble_eq_true rfl⟩ (Nat.le_of_ble_eq_true rfl) ⟨Nat.le_of_ble_eq_true rfl, Nat.le_of_ble_eq_true rfl⟩ dX9_terms_33 rfl (fun y15 M16 h => ?_)
          exact zj_iret (pc := 36) hc hr hlk dX9_terms_36 (by decide) (by decide) h
