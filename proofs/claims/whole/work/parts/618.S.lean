set_option maxHeartbeats 4000000 in
set_option maxRecDepth 100000 in
theorem S_X10_likeFrom (l : Launch) (G : zG) (v1 : Int) (v2 : Int) (M : zMem) (Qr : Int → Prop) (h : T_X10_likeFrom v1 v2 Qr M) : zMetI l yX10_likeFrom cX10_likeFrom 4 (some .int) 0 0 0 0 G [.inr 639, .inl v1, .inl v2] M (fun r9 M9 => M = M9 ∧ Qr r9) := by
  refine zmetI (by decide) (Nat.le_of_ble_eq_true rfl) [some (.inr 639), some (.inl v1), some (.inl v2), none] rfl ?_
  intro p e s m args below meth c hc hr hlk
  have k2 : ∀ (v1 : Int) (v2 : Int) (v3 : Int), T_X10_likeFrom_2 v1 v2 Qr v3 M → zJ p l e (zRoom 0 0 0 0) s m args below meth c G 4 0 0 (MQ below (zQi G (fun r9 M9 => M = M9 ∧ Qr r9)) args s 0 0 (zA G)) 2 [some (.inr 639), some (.inl v1), some (.inl v2), some (.inl v3)] [] M := by
    intro v1 v2 v3 h
    unfold T_X10_likeFrom_2 at h
    refine zp1_use h (fun v3 => zJ p l e (zRoom 0 0 0 0) s m args below meth c G 4 0 0 (MQ below (zQi G (fun r9 M9 => M = M9 ∧ Qr r9)) args s 0 0 (zA G)) 2 [some (.inr 639), some (.inl v1), some (.inl v2), some (.inl v3)] [] M) (fun X2 hX2 v3 h => ?_)
    refine zj_iload_n (pc := 2) hc dX10_likeFrom_2 rfl ?_
    refine zj_sipush (pc := 3) hc dX10_likeFrom_3 (by decide) (zin _ rfl) ?_
    refine zj_icmp_ge (pc := 6) (tgt := 46) hc dX10_likeFrom_6 (by decide) (fun hx1 => ?_) (fun hx1 => ?_)
    · have h := h.1 hx1
      refine zj_iload_n (pc := 46) hc dX10_likeFrom_46 rfl ?_
      exact zj_iret (pc := 47) hc hr hlk dX10_likeFrom_47 (by decide) (by decide) ⟨rfl, h⟩
    · have h := h.2 hx1
      refine zj_iload_n (pc := 9) hc dX10_likeFrom_9 rfl ?_
      refine zj_iload_n (pc := 10) hc dX10_likeFrom_10 rfl ?_
      refine zj_iadd (pc := 11) hc dX10_likeFrom_11 h.1 ?_
      have h := h.2
      refine zj_aload_n (pc := 12) hc dX10_likeFrom_12 rfl ?_
      refine zg_9_15 (pc := 13) hc lk_X10_107 dX10_likeFrom_13 ?_
      refine zj_icmp_ge (pc := 16) (tgt := 46) hc dX10_likeFrom_16 (by decide) (fun hx2 => ?_) (fun hx2 => ?_)
      · have h := h.1 hx2
        refine zj_iload_n (pc := 46) hc dX10_likeFrom_46 rfl ?_
        exact zj_iret (pc := 47) hc hr hlk dX10_likeFrom_47 (by decide) (by decide) ⟨rfl, h⟩
      · have h := h.2 hx2
        refine zj_aload_n (pc := 19) hc dX10_likeFrom_19 rfl ?_
        refine zg_9_16 (pc := 20) hc lk_X10_41 dX10_likeFrom_20 ?_
        refine zj_iload_n (pc := 23) hc dX10_likeFrom_23 rfl ?_
        refine zj_iload_n (pc := 24) hc dX10_likeFrom_24 rfl ?_
        refine zj_iadd (pc := 25) hc dX10_likeFrom_25 h.1 ?_
        have h := h.2
        refine zj_iald (pc := 26) hc dX10_likeFrom_26 alen_592 h.1 ?_
        have h := h.2
        refine zj_aload_n (pc := 27) hc dX10_likeFrom_27 rfl ?_
        refine zg_9_16 (pc := 28) hc lk_X10_41 dX10_likeFrom_28 ?_
        refine zj_iload_n (pc := 31) hc dX10_likeFrom_31 rfl ?_
        refine zj_iload_n (pc := 32) hc dX10_likeFrom_32 rfl ?_
        refine zj_iadd (pc := 33) hc dX10_likeFrom_33 h.1 ?_
        have h := h.2
        refine zj_iload_n (pc := 34) hc dX10_likeFrom_34 rfl ?_
        refine zj_isub (pc := 35) hc dX10_likeFrom_35 h.1 ?_
        have h := h.2
        refine zj_iald (pc := 36) hc dX10_likeFrom_36 alen_592 h.1 ?_
        have h := h.2
        refine zj_icmp_ne (pc := 37) (tgt := 46) hc dX10_likeFrom_37 (by decide) (fun hx3 => ?_) (fun hx3 => ?_)
        · have h := h.1 hx3
          refine zj_iload_n (pc := 46) hc dX10_likeFrom_46 rfl ?_
          exact zj_iret (pc := 47) hc hr hlk dX10_likeFrom_47 (by decide) (by decide) ⟨rfl, h⟩
        · have h := h.2 hx3
          refine zj_iinc (pc := 40) hc dX10_likeFrom_40 rfl (by decide) h.1 ?_
          have h := h.2
          refine zj_goto (pc := 43) (tgt := 2) hc dX10_likeFrom_43 (by decide) ?_
          exact hX2 (v3 + 1) h
  unfold T_X10_likeFrom at h
  refine zj_iconst (pc := 0) hc dX10_likeFrom_0 (zin _ rfl) ?_
  refine zj_istore_n (pc := 1) hc dX10_likeFrom_1 (by decide) ?_
  exact k2 v1 v2 0 h
set_option maxHeartbeats 4000000 in
set_option maxRecDepth 100000 in
theorem S_X10_emits (l : Launch) (G : zG) (v1 : Int) (M : zMem) (Qr : zMem → Prop) (h : T_X10_emits v1 Qr M) : zMetV l yX10_emits cX10_emits 2 none 0 0 0 0 G [.inr 639, .inl v1] M Qr := by
  refine zmetV (by decide) (Nat.le_of_ble_eq_true rfl) [some (.inr 639), some (.inl v1)] rfl ?_
  intro p e s m args below meth c hc hr hlk
  unfold T_X10_emits at h
  refine zj_aload_n (pc := 0) hc dX10_emits_0 rfl ?_
  refine zg_9_17 (pc := 1) hc lk_X10_44 dX10_emits_1 ?_
  refine zj_aload_n (pc := 4) hc dX10_emits_4 rfl ?_
  refine zg_9_18 (pc := 5) hc lk_X10_110 dX10_emits_5 ?_
  refine zj_iload_n (pc := 8) hc dX10_emits_8 rfl ?_
  refine zj_iast (pc := 9) hc dX10_emits_9 alen_593 h.1 (fun M1 hM1 => ?_)
  have h := h.2 M1 hM1
  refine zj_aload_n (pc := 10) hc dX10_emits_10 rfl ?_
  refine zj_dup (pc := 11) hc dX10_emits_11 ?_
  refine zg_9_18 (pc := 12) hc lk_X10_110 dX10_emits_12 ?_
  refine zj_iconst (pc := 15) hc dX10_emits_15 (zin _ rfl) ?_
  refine zj_iadd (pc := 16) hc dX10_emits_16 h.1 ?_
  have h := h.2
  refine zs_9_18 (pc := 17) hc lk_X10_110 dX10_emits_17 (fun M2 hM2 => ?_)
  have h := h M2 hM2
  exact zj_vret (pc := 20) hc hr hlk dX10_emits_20 (by decide) (by decide) h
set_option maxHeartbeats 4000000 in
set_option maxRecDepth 100000 in
theorem S_X10_emitsSingle (l : Launch) (G : zG) (v1 : Int) (v2 : Int) (M : zMem) (Qr : zMem → Prop) (h : T_X10_emitsSingle v1 v2 Qr M) : zMetV l yX10_emitsSingle cX10_emitsSingle 6 none 1 21 0 0 G [.inr 639, .inl v1, .inl v2] M Qr := by
  refine zmetV (by decide) (Nat.le_of_ble_eq_true rfl) [some (.inr 639), some (.inl v1), some (.inl v2), none, none, none] rfl ?_
  intro p e s m args below meth c hc hr hlk
  have k38 : ∀ (M : zMem) (v2 : Int) (v3 : Int) (v4 : Int) (X2 : Int → zMem → Prop) (hX2 : ∀ (v3 : Int) (M : zMem), X2 v3 M → zJ p l e (zRoom 1 21 0 0) s m args below meth c G 6 0 0 (MQ below (zQv G (Qr)) args s 0 0 (zA G)) 2 [some (.inr 639), none, some (.inl v2), some (.inl v3), none, none] [] M) (v5 : Int), T_X10_emitsSingle_38 v2 v3 v4 X2 Qr v5 M → zJ p l e (zRoom 1 21 0 0) s m args below meth c G 6 0 0 (MQ below (zQv G (Qr)) args s 0 0 (zA G)) 38 [some (.inr 639), none, some (.inl v2), some (.inl v3), some (.inl v4), some (.inl v5)] [] M := by
    intro M v2 v3 v4 X2 hX2 v5 h
    unfold T_X10_emitsSingle_38 at h
    refine zl1_use h (fun v5 M => zJ p l e (zRoom 1 21 0 0) s m args below meth c G 6 0 0 (MQ below (zQv G (Qr)) args s 0 0 (zA G)) 38 [some (.inr 639), none, some (.inl v2), some (.inl v3), some (.inl v4), some (.inl v5)] [] M) (fun X38 hX38 v5 M h => ?_)
    refine zj_iload (pc := 38) hc dX10_emitsSingle_38 rfl ?_
    refine zj_iload (pc := 40) hc dX10_emitsSingle_40 rfl ?_
    refine zj_icmp_ge (pc := 42) (tgt := 64) hc dX10_emitsSingle_42 (by decide) (fun hx1 => ?_) (fun hx1 => ?_)
    · have h := h.1 hx1
      refine zj_iload_n (pc := 64) hc dX10_emitsSingle_64 rfl ?_
      refine zj_iload (pc := 65) hc dX10_emitsSingle_65 rfl ?_
      refine zj_iadd (pc := 67) hc dX10_emitsSingle_67 h.1 ?_
      have h := h.2
      refine zj_istore_n (pc := 68) hc dX10_emitsSingle_68 (by decide) ?_
      refine zj_goto (pc := 69) (tgt := 2) hc dX10_emitsSingle_69 (by decide) ?_
      refine zj_mask (bs := [true, true, true, true, false, false]) ?_
      exact hX2 (v3 + v4) M h
    · have h := h.2 hx1
      refine zj_aload_n (pc := 45) hc dX10_emitsSingle_45 rfl ?_
      refine zj_aload_n (pc := 46) hc dX10_emitsSingle_46 rfl ?_
      refine zg_9_16 (pc := 47) hc lk_X10_41 dX10_emitsSingle_47 ?_
      refine zj_iload_n (pc := 50) hc dX10_emitsSingle_50 rfl ?_
      refine zj_iload (pc := 51) hc dX10_emitsSingle_51 rfl ?_
      refine zj_iadd (pc := 53) hc dX10_emitsSingle_53 h.1 ?_
      have h := h.2
      refine zj_iald (pc := 54) hc dX10_emitsSingle_54 alen_592 h.1 ?_
      have h := h.2
      refine zj_vtv (pc := 55) (st := []) hc ks_X10_emits iv_X10_emits lk_X10_113 (zrv_9 G M) (S_X10_emits l G (M.2 592 (v3 + v5)) M _ h) rfl ⟨Nat.le_of_ble_eq_true rfl, Nat.le_of_ble_eq_true rfl⟩ (Nat.le_of_ble_eq_true rfl) ⟨Nat.le_of_ble_eq_true rfl, Nat.le_of_ble_eq_true rfl⟩ dX10_emitsSingle_55 rfl (fun M2 h => ?_)
      refine zj_iinc (pc := 58) hc dX10_emitsSingle_58 rfl (by decide) h.1 ?_
      have h := h.2
      refine zj_goto (pc := 61) (tgt := 38) hc dX10_emitsSingle_61 (by decide) ?_
      exact hX38 (v5 + 1) M2 h
  have k25 : ∀ (M : zMem) (v2 : Int) (v3 : Int) (s0 : Int) (X2 : Int → zMem → Prop) (hX2 : ∀ (v3 : Int) (M : zMem), X2 v3 M → zJ p l e (zRoom 1 21 0 0) s m args below meth c G 6 0 0 (MQ below (zQv G (Qr)) args s 0 0 (zA G)) 2 [some (.inr 639), none, some (.inl v2), some (.inl v3), none, none] [] M), T_X10_emitsSingle_25 v2 v3 s0 X2 Qr M → zJ p l e (zRoom 1 21 0 0) s m args below meth c G 6 0 0 (MQ below (zQv G (Qr)) args s 0 0 (zA G)) 25 [some (.inr 639), none, some (.inl v2), some (.inl v3), none, none] [.inl s0] M := by
    intro M v2 v3 s0 X2 hX2 h
    unfold T_X10_emitsSingle_25 at h
    refine zj_istore (pc := 25) hc dX10_emitsSingle_25 (by decide) ?_
    refine zj_aload_n (pc := 27) hc dX10_emitsSingle_27 rfl ?_
    refine zj_iload (pc := 28) hc dX10_emitsSingle_28 rfl ?_
    refine zj_iconst (pc := 30) hc dX10_emitsSingle_30 (zin _ rfl) ?_
    refine zj_isub (pc := 31) hc dX10_emitsSingle_31 h.1 ?_
    have h := h.2
    refine zj_vtv (pc := 32) (st := []) hc ks_X10_emits iv_X10_emits lk_X10_113 (zrv_9 G M) (S_X10_emits l G (s0 - 1) M _ h) rfl ⟨Nat.le_of_ble_eq_true rfl, Nat.le_of_ble_eq_true rfl⟩ (Nat.le_of_ble_eq_true rfl) ⟨Nat.le_of_ble_eq_true rfl, Nat.le_of_ble_eq_true rfl⟩ dX10_emitsSingle_32 rfl (fun M3 h => ?_)
    refine zj_iconst (pc := 35) hc dX10_emitsSingle_35 (zin _ rfl) ?_
    refine zj_istore (pc := 36) hc dX10_emitsSingle_36 (by decide) ?_
    exact k38 M3 v2 v3 s0 X2 hX2 0 h
  have k2 : ∀ (M : zMem) (v2 : Int) (v3 : Int), T_X10_emitsSingle_2 v2 Qr v3 M → zJ p l e (zRoom 1 21 0 0) s m args below meth c G 6 0 0 (MQ below (zQv G (Qr)) args s 0 0 (zA G)) 2 [some (.inr 639), none, some (.inl v2), some (.inl v3), none, none] [] M := by
    intro M v2 v3 h
    unfold T_X10_emitsSingle_2 at h
    refine zl1_use h (fun v3 M => zJ p l e (zRoom 1 21 0 0) s m args below meth c G 6 0 0 (MQ below (zQv G (Qr)) args s 0 0 (zA G)) 2 [some (.inr 639), none, some (.inl v2), some (.inl v3), none, none] [] M) (fun X2 hX2 v3 M h => ?_)
    refine zj_iload_n (pc := 2) hc dX10_emitsSingle_2 rfl ?_
    refine zj_iload_n (pc := 3) hc dX10_emitsSingle_3 rfl ?_
    refine zj_icmp_ge (pc := 4) (tgt := 72) hc dX10_emitsSingle_4 (by decide) (fun hx4 => ?_) (fun hx4 => ?_)
    · have h := h.1 hx4
      exact zj_vret (pc := 72) hc hr hlk dX10_emitsSingle_72 (by decide) (by decide) h
    · have h := h.2 hx4
      refine zj_iload_n (pc := 7) hc dX10_emitsSingle_7 rfl ?_
      refine zj_iload_n (pc := 8) hc dX10_emitsSingle_8 rfl ?_
      refine zj_isub (pc := 9) hc dX10_emitsSingle_9 h.1 ?_
      have h := h.2
      refine zj_sipush (pc := 10) hc dX10_emitsSingle_10 (by decide) (zin _ rfl) ?_
      refine zj_icmp_ge (pc := 13) (tgt := 22) hc dX10_emitsSingle_13 (by decide) (fun hx5 => ?_) (fun hx5 => ?_)
      · have h := h.1 hx5
        refine zj_sipush (pc := 22) hc dX10_emitsSingle_22 (by decide) (zin _ rfl) ?_
        exact k25 M v2 v3 128 X2 hX2 h
      · have h := h.2 hx5
        refine zj_iload_n (pc := 16) hc dX10_emitsSingle_16 rfl ?_
        refine zj_iload_n (pc := 17) hc dX10_emitsSingle_17 rfl ?_
        refine zj_isub (pc := 18) hc dX10_emitsSingle_18 h.1 ?_
        have h := h.2
        refine zj_goto (pc := 19) (tgt := 25) hc dX10_emitsSingle_19 (by decide) ?_
        exact k25 M v2 v3 (v2 - v3) X2 hX2 h
  unfold T_X10_emitsSingle at h
  refine zj_iload_n (pc := 0) hc dX10_emitsSingle_0 rfl ?_
  refine zj_istore_n (pc := 1) hc dX10_emitsSingle_1 (by decide) ?_
  refine zj_mask (bs := [true, false, true, true, true, true]) ?_
  exact k2 M v2 v1 h
set_option maxHeartbeats 4000000 in
set_option maxRecDepth 100000 in
theorem S_X10_packs (l : Launch) (G : zG) (v1 : Int) (M : zMem) (Qr : Int → zMem → Prop) (h : T_X10_packs v1 Qr M) : zMetI l yX10_packs cX10_packs 8 (some .int) 2 46 0 0 G [.inr 639, .inl v1] M Qr := by
  refine zmetI (by decide) (Nat.le_of_ble_eq_true rfl) [some (.inr 639), some (.inl v1), none, none, none, none, none, none] rfl ?_
  intro p e s m args below meth c hc hr hlk
  have k100 : ∀ (M : zMem) (v2 : Int) (v3 : Int) (v4 : Int) (v5 : Int) (X37 : Int → Int → zMem → Prop) (hX37 : ∀ (v2 : Int) (v3 : Int) (M : zMem), X37 v2 v3 M → zJ p l e (zRoom 2 46 0 0) s m args below meth c G 8 0 0 (MQ below (zQi G (Qr)) args s 0 0 (zA G)) 37 [some (.inr 639), none, some (.inl v2), some (.inl v3), none, none, none, none] [] M), T_X10_packs_100 v2 v3 v4 v5 X37 Qr M → zJ p l e (zRoom 2 46 0 0) s m args below meth c G 8 0 0 (MQ below (zQi G (Qr)) args s 0 0 (zA G)) 100 [some (.inr 639), none, some (.inl v2), some (.inl v3), some (.inl v4), some (.inl v5), none, none] [] M := by
    intro M v2 v3 v4 v5 X37 hX37 h
    unfold T_X10_packs_100 at h
    refine zj_iload (pc := 100) hc dX10_packs_100 rfl ?_
    refine zj_if_ne (pc := 102) (tgt := 111) hc dX10_packs_102 (by decide) (fun hx1 => ?_) (fun hx1 => ?_)
    · have h := h.1 hx1
      refine zj_aload_n (pc := 111) hc dX10_packs_111 rfl ?_
      refine zj_iload_n (pc := 112) hc dX10_packs_112 rfl ?_
      refine zj_iload_n (pc := 113) hc dX10_packs_113 rfl ?_
      refine zj_vtv (pc := 114) (st := []) hc ks_X10_emitsSingle iv_X10_emitsSingle lk_X10_123 (zrv_9 G M) (S_X10_emitsSingle l G v2 v3 M _ h) rfl ⟨Nat.le_of_ble_eq_true rfl, Nat.le_of_ble_eq_true rfl⟩ (Nat.le_of_ble_eq_true rfl) ⟨Nat.le_of_ble_eq_true rfl, Nat.le_of_ble_eq_true rfl⟩ dX10_packs_114 rfl (fun M2 h => ?_)
      refine zj_aload_n (pc := 117) hc dX10_packs_117 rfl ?_
      refine zj_bipush (pc := 118) hc dX10_packs_118 (by decide) (zin _ rfl) ?_
      refine zj_iload (pc := 120) hc dX10_packs_120 rfl ?_
      refine zj_iadd (pc := 122) hc dX10_packs_122 h.1 ?_
      have h := h.2
      refine zj_vtv (pc := 123) (st := []) hc ks_X10_emits iv_X10_emits lk_X10_113 (zrv_9 G M2) (S_X10_emits l G (125 + v4) M2 _ h) rfl ⟨Nat.le_of_ble_eq_true rfl, Nat.le_of_ble_eq_true rfl⟩ (Nat.le_of_ble_eq_true rfl) ⟨Nat.le_of_ble_eq_true rfl, Nat.le_of_ble_eq_true rfl⟩ dX10_packs_123 rfl (fun M3 h => ?_)
      refine zj_aload_n (pc := 126) hc dX10_packs_126 rfl ?_
      refine zj_iload (pc := 127) hc dX10_packs_127 rfl ?_
      refine zj_vtv (pc := 129) (st := []) hc ks_X10_emits iv_X10_emits lk_X10_113 (zrv_9 G M3) (S_X10_emits l G v5 M3 _ h) rfl ⟨Nat.le_of_ble_eq_true rfl, Nat.le_of_ble_eq_true rfl⟩ (Nat.le_of_ble_eq_true rfl) ⟨Nat.le_of_ble_eq_true rfl, Nat.le_of_ble_eq_true rfl⟩ dX10_packs_129 rfl (fun M4 h => ?_)
      refine zj_iload_n (pc := 132) hc dX10_packs_132 rfl ?_
      refine zj_iload (pc := 133) hc dX10_packs_133 rfl ?_
      refine zj_iadd (pc := 135) hc dX10_packs_135 h.1 ?_
      have h := h.2
      refine zj_istore_n (pc := 136) hc dX10_packs_136 (by decide) ?_
      refine zj_iload_n (pc := 137) hc dX10_packs_137 rfl ?_
      refine zj_istore_n (pc := 138) hc dX10_packs_138 (by decide) ?_
      refine zj_goto (pc := 139) (tgt := 37) hc dX10_packs_139 (by decide) ?_
      refine zj_mask (bs := [true, true, true, true, false, false, true, true]) ?_
      exact hX37 (v3 + v4) (v3 + v4) M4 h
    · have h := h.2 hx1
      refine zj_iinc (pc := 105) hc dX10_packs_105 rfl (by decide) h.1 ?_
      have h := h.2
      refine zj_goto (pc := 108) (tgt := 37) hc dX10_packs_108 (by decide) ?_
      refine zj_mask (bs := [true, true, true, true, false, false, true, true]) ?_
      exact hX37 v2 (v3 + 1) M h
  have k94 : ∀ (M : zMem) (v2 : Int) (v3 : Int) (v4 : Int) (v5 : Int) (v6 : Int) (X37 : Int → Int → zMem → Prop) (hX37 : ∀ (v2 : Int) (v3 : Int) (M : zMem), X37 v2 v3 M → zJ p l e (zRoom 2 46 0 0) s m args below meth c G 8 0 0 (MQ below (zQi G (Qr)) args s 0 0 (zA G)) 37 [some (.inr 639), none, some (.inl v2), some (.inl v3), none, none, none, none] [] M) (X54 : Int → Int → Int → Prop) (hX54 : ∀ (v4 : Int) (v5 : Int) (v6 : Int), X54 v4 v5 v6 → zJ p l e (zRoom 2 46 0 0) s m args below meth c G 8 0 0 (MQ below (zQi G (Qr)) args s 0 0 (zA G)) 54 [some (.inr 639), none, some (.inl v2), some (.inl v3), some (.inl v4), some (.inl v5), some (.inl v6), none] [] M), T_X10_packs_94 v2 v3 v4 v5 v6 X37 X54 Qr M → zJ p l e (zRoom 2 46 0 0) s m args below meth c G 8 0 0 (MQ below (zQi G (Qr)) args s 0 0 (zA G)) 94 [some (.inr 639), none, some (.inl v2), some (.inl v3), some (.inl v4), some (.inl v5), some (.inl v6), none] [] M := by
    intro M v2 v3 v4 v5 v6 X37 hX37 X54 hX54 h
    unfold T_X10_packs_94 at h
    refine zj_iinc (pc := 94) hc dX10_packs_94 rfl (by decide) h.1 ?_
    have h := h.2
    refine zj_goto (pc := 97) (tgt := 54) hc dX10_packs_97 (by decide) ?_
    exact hX54 v4 v5 (v6 + 1) h
  have k54 : ∀ (M : zMem) (v2 : Int) (v3 : Int) (X37 : Int → Int → zMem → Prop) (hX37 : ∀ (v2 : Int) (v3 : Int) (M : zMem), X37 v2 v3 M → zJ p l e (zRoom 2 46 0 0) s m args below meth c G 8 0 0 (MQ below (zQi G (Qr)) args s 0 0 (zA G)) 37 [some (.inr 639), none, some (.inl v2), some (.inl v3), none, none, none, none] [] M) (v4 : Int) (v5 : Int) (v6 : Int), T_X10_packs_54 v2 v3 X37 Qr v4 v5 v6 M → zJ p l e (zRoom 2 46 0 0) s m args below meth c G 8 0 0 (MQ below (zQi G (Qr)) args s 0 0 (zA G)) 54 [some (.inr 639), none, some (.inl v2), some (.inl v3), some (.inl v4), some (.inl v5), some (.inl v6), none] [] M := by
    intro M v2 v3 X37 hX37 v4 v5 v6 h
    unfold T_X10_packs_54 at h
    refine zp3_use h (fun v4 v5 v6 => zJ p l e (zRoom 2 46 0 0) s m args below meth c G 8 0 0 (MQ below (zQi G (Qr)) args s 0 0 (zA G)) 54 [some (.inr 639), none, some (.inl v2), some (.inl v3), some (.inl v4), some (.inl v5), some (.inl v6), none] [] M) (fun X54 hX54 v4 v5 v6 h => ?_)
    refine zj_iload (pc := 54) hc dX10_packs_54 rfl ?_
    refine zj_bipush (pc := 56) hc dX10_packs_56 (by decide) (zin _ rfl) ?_
    refine zj_icmp_gt (pc := 58) (tgt := 100) hc dX10_packs_58 (by decide) (fun hx5 => ?_) (fun hx5 => ?_)
    · have h := h.1 hx5
      refine zj_mask (bs := [true, true, true, true, true, true, false, true]) ?_
      exact k100 M v2 v3 v4 v5 X37 hX37 h
    · have h := h.2 hx5
      refine zj_iload (pc := 61) hc dX10_packs_61 rfl ?_
      refine zj_iload_n (pc := 63) hc dX10_packs_63 rfl ?_
      refine zj_icmp_gt (pc := 64) (tgt := 100) hc dX10_packs_64 (by decide) (fun hx6 => ?_) (fun hx6 => ?_)
      · have h := h.1 hx6
        refine zj_mask (bs := [true, true, true, true, true, true, false, true]) ?_
        exact k100 M v2 v3 v4 v5 X37 hX37 h
      · have h := h.2 hx6
        refine zj_aload_n (pc := 67) hc dX10_packs_67 rfl ?_
        refine zj_iload_n (pc := 68) hc dX10_packs_68 rfl ?_
        refine zj_iload (pc := 69) hc dX10_packs_69 rfl ?_
        refine zj_vti (pc := 71) (st := []) hc ks_X10_likeFrom iv_X10_likeFrom lk_X10_120 (zrv_9 G M) (S_X10_likeFrom l G v3 v6 M _ h) rfl ⟨Nat.le_of_ble_eq_true rfl, Nat.le_of_ble_eq_true rfl⟩ (Nat.le_of_ble_eq_true rfl) ⟨Nat.le_of_ble_eq_true rfl, Nat.le_of_ble_eq_true rfl⟩ dX10_packs_71 rfl (fun y7 M9 h => ?_)
        obtain ⟨hM9, h⟩ := h
        subst hM9
        refine zj_istore (pc := 74) hc dX10_packs_74 (by decide) ?_
        refine zj_iload (pc := 76) hc dX10_packs_76 rfl ?_
        refine zj_iload (pc := 78) hc dX10_packs_78 rfl ?_
        refine zj_icmp_gt (pc := 80) (tgt := 86) hc dX10_packs_80 (by decide) (fun hx8 => ?_) (fun hx8 => ?_)
        · have h := h.1 hx8
          refine zj_iload (pc := 86) hc dX10_packs_86 rfl ?_
          refine zj_istore (pc := 88) hc dX10_packs_88 (by decide) ?_
          refine zj_iload (pc := 90) hc dX10_packs_90 rfl ?_
          refine zj_istore (pc := 92) hc dX10_packs_92 (by decide) ?_
          refine zj_mask (bs := [true, true, true, true, true, true, true, false]) ?_
          exact k94 M v2 v3 y7 v6 v6 X37 hX37 X54 hX54 h
        · have h := h.2 hx8
          refine zj_goto (pc := 83) (tgt := 94) hc dX10_packs_83 (by decide) ?_
          refine zj_mask (bs := [true, true, true, true, true, true, true, false]) ?_
          exact k94 M v2 v3 v4 v5 v6 X37 hX37 X54 hX54 h
  have k37 : ∀ (M : zMem) (v2 : Int) (v3 : Int), T_X10_packs_37 Qr v2 v3 M → zJ p l e (zRoom 2 46 0 0) s m args below meth c G 8 0 0 (MQ below (zQi G (Qr)) args s 0 0 (zA G)) 37 [some (.inr 639), none, some (.inl v2), some (.inl v3), none, none, none, none] [] M := by
    intro M v2 v3 h
    unfold T_X10_packs_37 at h
    refine zl2_use h (fun v2 v3 M => zJ p l e (zRoom 2 46 0 0) s m args below meth c G 8 0 0 (MQ below (zQi G (Qr)) args s 0 0 (zA G)) 37 [some (.inr 639), none, some (.inl v2), some (.inl v3), none, none, none, none] [] M) (fun X37 hX37 v2 v3 M h => ?_)
    refine zj_iload_n (pc := 37) hc dX10_packs_37 rfl ?_
    refine zj_aload_n (pc := 38) hc dX10_packs_38 rfl ?_
    refine zg_9_15 (pc := 39) hc lk_X10_107 dX10_packs_39 ?_
    refine zj_icmp_ge (pc := 42) (tgt := 142) hc dX10_packs_42 (by decide) (fun hx9 => ?_) (fun hx9 => ?_)
    · have h := h.1 hx9
      refine zj_aload_n (pc := 142) hc dX10_packs_142 rfl ?_
      refine zj_iload_n (pc := 143) hc dX10_packs_143 rfl ?_
      refine zj_aload_n (pc := 144) hc dX10_packs_144 rfl ?_
      refine zg_9_15 (pc := 145) hc lk_X10_107 dX10_packs_145 ?_
      refine zj_vtv (pc := 148) (st := []) hc ks_X10_emitsSingle iv_X10_emitsSingle lk_X10_123 (zrv_9 G M) (S_X10_emitsSingle l G v2 (M.1 591) M _ h) rfl ⟨Nat.le_of_ble_eq_true rfl, Nat.le_of_ble_eq_true rfl⟩ (Nat.le_of_ble_eq_true rfl) ⟨Nat.le_of_ble_eq_true rfl, Nat.le_of_ble_eq_true rfl⟩ dX10_packs_148 rfl (fun M10 h => ?_)
      refine zj_aload_n (pc := 151) hc dX10_packs_151 rfl ?_
      refine zg_9_18 (pc := 152) hc lk_X10_110 dX10_packs_152 ?_
      exact zj_iret (pc := 155) hc hr hlk dX10_packs_155 (by decide) (by decide) h
    · have h := h.2 hx9
      refine zj_iconst (pc := 45) hc dX10_packs_45 (zin _ rfl) ?_
      refine zj_istore (pc := 46) hc dX10_packs_46 (by decide) ?_
      refine zj_iconst (pc := 48) hc dX10_packs_48 (zin _ rfl) ?_
      refine zj_istore (pc := 49) hc dX10_packs_49 (by decide) ?_
      refine zj_iconst (pc := 51) hc dX10_packs_51 (zin _ rfl) ?_
      refine zj_istore (pc := 52) hc dX10_packs_52 (by decide) ?_
      exact k54 M v2 v3 X37 hX37 2 0 1 h
  have k2 : ∀ (M : zMem) (v1 : Int) (v2 : Int), T_X10_packs_2 v1 Qr v2 M → zJ p l e (zRoom 2 46 0 0) s m args below meth c G 8 0 0 (MQ below (zQi G (Qr)) args s 0 0 (zA G)) 2 [some (.inr 639), some (.inl v1), some (.inl v2), none, none, none, none, none] [] M := by
    intro M v1 v2 h
    unfold T_X10_packs_2 at h
    refine zl1_use h (fun v2 M => zJ p l e (zRoom 2 46 0 0) s m args below meth c G 8 0 0 (MQ below (zQi G (Qr)) args s 0 0 (zA G)) 2 [some (.inr 639), some (.inl v1), some (.inl v2), none, none, none, none, none] [] M) (fun X2 hX2 v2 M h => ?_)
    refine zj_iload_n (pc := 2) hc dX10_packs_2 rfl ?_
    refine zj_aload_n (pc := 3) hc dX10_packs_3 rfl ?_
    refine zg_9_15 (pc := 4) hc lk_X10_107 dX10_packs_4 ?_
    refine zj_icmp_ge (pc := 7) (tgt := 28) hc dX10_packs_7 (by decide) (fun hx11 => ?_) (fun hx11 => ?_)
    · have h := h.1 hx11
      refine zj_aload_n (pc := 28) hc dX10_packs_28 rfl ?_
      refine zj_iconst (pc := 29) hc dX10_packs_29 (zin _ rfl) ?_
      refine zs_9_18 (pc := 30) hc lk_X10_110 dX10_packs_30 (fun M12 hM12 => ?_)
      have h := h M12 hM12
      refine zj_iconst (pc := 33) hc dX10_packs_33 (zin _ rfl) ?_
      refine zj_istore_n (pc := 34) hc dX10_packs_34 (by decide) ?_
      refine zj_iconst (pc := 35) hc dX10_packs_35 (zin _ rfl) ?_
      refine zj_istore_n (pc := 36) hc dX10_packs_36 (by decide) ?_
      refine zj_mask (bs := [true, false, true, true, true, true, true, true]) ?_
      exact k37 M12 0 0 h
    · have h := h.2 hx11
      refine zj_aload_n (pc := 10) hc dX10_packs_10 rfl ?_
      refine zg_9_16 (pc := 11) hc lk_X10_41 dX10_packs_11 ?_
      refine zj_iload_n (pc := 14) hc dX10_packs_14 rfl ?_
      refine zj_aload_n (pc := 15) hc dX10_packs_15 rfl ?_
      refine zj_iload_n (pc := 16) hc dX10_packs_16 rfl ?_
      refine zj_iload_n (pc := 17) hc dX10_packs_17 rfl ?_
      refine zj_vti (pc := 18) (st := [.inl v2, .inr 592]) hc ks_X10_filteredAt iv_X10_filteredAt lk_X10_116 (zrv_9 G M) (S_X10_filteredAt l G v2 v1 M _ h) rfl ⟨Nat.le_of_ble_eq_true rfl, Nat.le_of_ble_eq_true rfl⟩ (Nat.le_of_ble_eq_true rfl) ⟨Nat.le_of_ble_eq_true rfl, Nat.le_of_ble_eq_true rfl⟩ dX10_packs_18 rfl (fun y13 M9 h => ?_)
      obtain ⟨hM9, h⟩ := h
      subst hM9
      refine zj_iast (pc := 21) hc dX10_packs_21 alen_592 h.1 (fun M14 hM14 => ?_)
      have h := h.2 M14 hM14
      refine zj_iinc (pc := 22) hc dX10_packs_22 rfl (by decide) h.1 ?_
      have h := h.2
      refine zj_goto (pc := 25) (tgt := 2) hc dX10_packs_25 (by decide) ?_
      exact hX2 (v2 + 1) M14 h
  unfold T_X10_packs at h
  refine zj_iconst (pc := 0) hc dX10_packs_0 (zin _ rfl) ?_
  refine zj_istore_n (pc := 1) hc dX10_packs_1 (by decide) ?_
  exact k2 M v1 0 h
set_option maxHeartbeats 4000000 in
set_option maxRecDepth 100000 in
theorem S_X10_shapeOf (l : Launch) (G : zG) (M : zMem) (Qr : Int → zMem → Prop) (h : T_X10_shapeOf Qr M) : zMetI l yX10_shapeOf cX10_shapeOf 5 (some .int) 3 73 0 0 G [.inr 639] M Qr := by
  refine zmetI (by decide) (Nat.le_of_ble_eq_true rfl) [some (.inr 639), none, none, none, none] rfl ?_
  intro p e s m args below meth c hc hr hlk
  have k36 : ∀ (M : zMem) (v1 : Int) (v2 : Int) (v3 : Int) (X10 : Int → Int → Int → zMem → Prop) (hX10 : ∀ (v1 : Int) (v2 : Int) (v3 : Int) (M : zMem), X10 v1 v2 v3 M → zJ p l e (zRoom 3 73 0 0) s m args below meth c G 5 0 0 (MQ below (zQi G (Qr)) args s 0 0 (zA G)) 10 [some (.inr 639), some (.inl v1), some (.inl v2), some (.inl v3), none] [] M), T_X10_shapeOf_36 v1 v2 v3 X10 Qr M → zJ p l e (zRoom 3 73 0 0) s m args below meth c G 5 0 0 (MQ below (zQi G (Qr)) args s 0 0 (zA G)) 36 [some (.inr 639), some (.inl v1), some (.inl v2), some (.inl v3), none] [] M := by
    intro M v1 v2 v3 X10 hX10 h
    unfold T_X10_shapeOf_36 at h
    refine zj_iinc (pc := 36) hc dX10_shapeOf_36 rfl (by decide) h.1 ?_
    have h := h.2
    refine zj_goto (pc := 39) (tgt := 10) hc dX10_shapeOf_39 (by decide) ?_
    exact hX10 v1 v2 (v3 + 1) M h
  have k10 : ∀ (M : zMem) (v1 : Int) (v2 : Int) (v3 : Int), T_X10_shapeOf_10 Qr v1 v2 v3 M → zJ p l e (zRoom 3 73 0 0) s m args below meth c G 5 0 0 (MQ below (zQi G (Qr)) args s 0 0 (zA G)) 10 [some (.inr 639), some (.inl v1), some (.inl v2), some (.inl v3), none] [] M := by
    intro M v1 v2 v3 h
    unfold T_X10_shapeOf_10 at h
    refine zl3_use h (fun v1 v2 v3 M => zJ p l e (zRoom 3 73 0 0) s m args below meth c G 5 0 0 (MQ below (zQi G (Qr)) args s 0 0 (zA G)) 10 [some (.inr 639), some (.inl v1), some (.inl v2), some (.inl v3), none] [] M) (fun X10 hX10 v1 v2 v3 M h => ?_)
    refine zj_iload_n (pc := 10) hc dX10_shapeOf_10 rfl ?_
    refine zj_iconst (pc := 11) hc dX10_shapeOf_11 (zin _ rfl) ?_
    refine zj_icmp_ge (pc := 12) (tgt := 42) hc dX10_shapeOf_12 (by decide) (fun hx1 => ?_) (fun hx1 => ?_)
    · have h := h.1 hx1
      refine zj_aload_n (pc := 42) hc dX10_shapeOf_42 rfl ?_
      refine zj_iload_n (pc := 43) hc dX10_shapeOf_43 rfl ?_
      refine zj_vti (pc := 44) (st := []) hc ks_X10_packs iv_X10_packs lk_X10_127 (zrv_9 G M) (S_X10_packs l G v1 M _ h) rfl ⟨Nat.le_of_ble_eq_true rfl, Nat.le_of_ble_eq_true rfl⟩ (Nat.le_of_ble_eq_true rfl) ⟨Nat.le_of_ble_eq_true rfl, Nat.le_of_ble_eq_true rfl⟩ dX10_shapeOf_44 rfl (fun y2 M3 h => ?_)
      refine zj_pop (pc := 47) hc dX10_shapeOf_47 ?_
      refine zj_iload_n (pc := 48) hc dX10_shapeOf_48 rfl ?_
      exact zj_iret (pc := 49) hc hr hlk dX10_shapeOf_49 (by decide) (by decide) h
    · have h := h.2 hx1
      refine zj_aload_n (pc := 15) hc dX10_shapeOf_15 rfl ?_
      refine zj_iload_n (pc := 16) hc dX10_shapeOf_16 rfl ?_
      refine zj_vti (pc := 17) (st := []) hc ks_X10_packs iv_X10_packs lk_X10_127 (zrv_9 G M) (S_X10_packs l G v3 M _ h) rfl ⟨Nat.le_of_ble_eq_true rfl, Nat.le_of_ble_eq_true rfl⟩ (Nat.le_of_ble_eq_true rfl) ⟨Nat.le_of_ble_eq_true rfl, Nat.le_of_ble_eq_true rfl⟩ dX10_shapeOf_17 rfl (fun y4 M5 h => ?_)
      refine zj_istore (pc := 20) hc dX10_shapeOf_20 (by decide) ?_
      refine zj_iload (pc := 22) hc dX10_shapeOf_22 rfl ?_
      refine zj_iload_n (pc := 24) hc dX10_shapeOf_24 rfl ?_
      refine zj_icmp_lt (pc := 25) (tgt := 31) hc dX10_shapeOf_25 (by decide) (fun hx6 => ?_) (fun hx6 => ?_)
      · have h := h.1 hx6
        refine zj_iload (pc := 31) hc dX10_shapeOf_31 rfl ?_
        refine zj_istore_n (pc := 33) hc dX10_shapeOf_33 (by decide) ?_
        refine zj_iload_n (pc := 34) hc dX10_shapeOf_34 rfl ?_
        refine zj_istore_n (pc := 35) hc dX10_shapeOf_35 (by decide) ?_
        refine zj_mask (bs := [true, true, true, true, false]) ?_
        exact k36 M5 v3 y4 v3 X10 hX10 h
      · have h := h.2 hx6
        refine zj_goto (pc := 28) (tgt := 36) hc dX10_shapeOf_28 (by decide) ?_
        refine zj_mask (bs := [true, true, true, true, false]) ?_
        exact k36 M5 v1 v2 v3 X10 hX10 h
  unfold T_X10_shapeOf at h
  refine zj_iconst (pc := 0) hc dX10_shapeOf_0 (zin _ rfl) ?_
  refine zj_istore_n (pc := 1) hc dX10_shapeOf_1 (by decide) ?_
  refine zj_aload_n (pc := 2) hc dX10_shapeOf_2 rfl ?_
  refine zj_iconst (pc := 3) hc dX10_shapeOf_3 (zin _ rfl) ?_
  refine zj_vti (pc := 4) (st := []) hc ks_X10_packs iv_X10_packs lk_X10_127 (zrv_9 G M) (S_X10_packs l G 0 M _ h) rfl ⟨Nat.le_of_ble_eq_true rfl, Nat.le_of_ble_eq_true rfl⟩ (Nat.le_of_ble_eq_true rfl) ⟨Nat.le_of_ble_eq_true rfl, Nat.le_of_ble_eq_true rfl⟩ dX10_shapeOf_4 rfl (fun y7 M8 h => ?_)
  refine zj_istore_n (pc := 7) hc dX10_shapeOf_7 (by decide) ?_
  refine zj_iconst (pc := 8) hc dX10_shapeOf_8 (zin _ rfl) ?_
  refine zj_istore_n (pc := 9) hc dX10_shapeOf_9 (by decide) ?_
  exact k10 M8 0 y7 1 h
set_option maxHeartbeats 4000000 in
set_option maxRecDepth 100000 in
theorem S_X10_comesOut (l : Launch) (G : zG) (v1 : Int) (M : zMem) (Qr : zMem → Prop) (h : T_X10_comesOut v1 Qr M) : zMetV l yX10_comesOut cX10_comesOut 2 none 0 0 0 0 G [.inr 639, .inl v1] M Qr := by
  refine zmetV (by decide) (Nat.le_of_ble_eq_true rfl) [some (.inr 639), some (.inl v1)] rfl ?_
  intro p e s m args below meth c hc hr hlk
  unfold T_X10_comesOut at h
  refine zj_aload_n (pc := 0) hc dX10_comesOut_0 rfl ?_
  refine zg_9_14 (pc := 1) hc lk_X10_38 dX10_comesOut_1 ?_
  refine zj_aload_n (pc := 4) hc dX10_comesOut_4 rfl ?_
  refine zg_9_15 (pc := 5) hc lk_X10_107 dX10_comesOut_5 ?_
  refine zj_iload_n (pc := 8) hc dX10_comesOut_8 rfl ?_
  refine zj_iast (pc := 9) hc dX10_comesOut_9 alen_590 h.1 (fun M1 hM1 => ?_)
  have h := h.2 M1 hM1
  refine zj_aload_n (pc := 10) hc dX10_comesOut_10 rfl ?_
  refine zj_dup (pc := 11) hc dX10_comesOut_11 ?_
  refine zg_9_15 (pc := 12) hc lk_X10_107 dX10_comesOut_12 ?_
  refine zj_iconst (pc := 15) hc dX10_comesOut_15 (zin _ rfl) ?_
  refine zj_iadd (pc := 16) hc dX10_comesOut_16 h.1 ?_
  have h := h.2
  refine zs_9_15 (pc := 17) hc lk_X10_107 dX10_comesOut_17 (fun M2 hM2 => ?_)
  have h := h M2 hM2
  exact zj_vret (pc := 20) hc hr hlk dX10_comesOut_20 (by decide) (by decide) h
set_option maxHeartbeats 4000000 in
set_option maxRecDepth 100000 in
theorem S_X10_flawed (l : Launch) (G : zG) (v1 : Int) (M : zMem) (Qr : Int → zMem → Prop) (h : T_X10_flawed v1 Qr M) : zMetI l yX10_flawed cX10_flawed 2 (some .boolean) 0 0 0 0 G [.inr 639, .inl v1] M Qr := by
  refine zmetI (by decide) (Nat.le_of_ble_eq_true rfl) [some (.inr 639), some (.inl v1)] rfl ?_
  intro p e s m args below meth c hc hr hlk
  unfold T_X10_flawed at h
  refine zj_aload_n (pc := 0) hc dX10_flawed_0 rfl ?_
  refine zj_iload_n (pc := 1) hc dX10_flawed_1 rfl ?_
  refine zs_9_19 (pc := 2) hc lk_X10_137 dX10_flawed_2 (fun M1 hM1 => ?_)
  have h := h M1 hM1
  refine zj_iconst (pc := 5) hc dX10_flawed_5 (zin _ rfl) ?_
  exact zj_zret (pc := 6) hc hr hlk dX10_flawed_6 (by decide) (by decide) (Or.inl rfl) h
set_option maxHeartbeats 4000000 in
set_option maxRecDepth 100000 in
theorem S_X10_unpacks (l : Launch) (G : zG) (r1 : Nat) (v2 : Int) (v3 : Int) (v4 : Int) (M : zMem) (Qr : Int → zMem → Prop) (h : T_X10_unpacks r1 v2 v3 v4 Qr M) : zMetI l yX10_unpacks cX10_unpacks 10 (some .boolean) 1 21 0 0 G [.inr 639, .inr r1, .inl v2, .inl v3, .inl v4] M Qr := by
  refine zmetI (by decide) (Nat.le_of_ble_eq_true rfl) [some (.inr 639), some (.inr r1), some (.inl v2), some (.inl v3), some (.inl v4), none, none, none, none, none] rfl ?_
  intro p e s m args below meth c hc hr hlk
  have k345 : ∀ (M : zMem) (v4 : Int) (v6 : Int) (X218 : Int → zMem → Prop) (hX218 : ∀ (v6 : Int) (M : zMem), X218 v6 M → zJ p l e (zRoom 1 21 0 0) s m args below meth c G 10 0 0 (MQ below (zQi G (Qr)) args s 0 0 (zA G)) 218 [some (.inr 639), none, none, none, some (.inl v4), none, some (.inl v6), none, none, none] [] M), T_X10_unpacks_345 v4 v6 X218 Qr M → zJ p l e (zRoom 1 21 0 0) s m args below meth c G 10 0 0 (MQ below (zQi G (Qr)) args s 0 0 (zA G)) 345 [some (.inr 639), none, none, none, some (.inl v4), none, some (.inl v6), none, none, none] [] M := by
    intro M v4 v6 X218 hX218 h
    unfold T_X10_unpacks_345 at h
    refine zj_iinc (pc := 345) hc dX10_unpacks_345 rfl (by decide) h.1 ?_
    have h := h.2
    refine zj_goto (pc := 348) (tgt := 218) hc dX10_unpacks_348 (by decide) ?_
    exact hX218 (v6 + 1) M h
  have k318 : ∀ (M : zMem) (v4 : Int) (v6 : Int) (v8 : Int) (X218 : Int → zMem → Prop) (hX218 : ∀ (v6 : Int) (M : zMem), X218 v6 M → zJ p l e (zRoom 1 21 0 0) s m args below meth c G 10 0 0 (MQ below (zQi G (Qr)) args s 0 0 (zA G)) 218 [some (.inr 639), none, none, none, some (.inl v4), none, some (.inl v6), none, none, none] [] M), T_X10_unpacks_318 v4 v6 v8 X218 Qr M → zJ p l e (zRoom 1 21 0 0) s m args below meth c G 10 0 0 (MQ below (zQi G (Qr)) args s 0 0 (zA G)) 318 [some (.inr 639), none, none, none, some (.inl v4), none, some (.inl v6), none, some (.inl v8), none] [] M := by
    intro M v4 v6 v8 X218 hX218 h
    unfold T_X10_unpacks_318 at h
    refine zj_iload (pc := 318) hc dX10_unpacks_318 rfl ?_
    refine zj_iconst (pc := 320) hc dX10_unpacks_320 (zin _ rfl) ?_
    refine zj_icmp_ne (pc := 321) (tgt := 345) hc dX10_unpacks_321 (by decide) (fun hx1 => ?_) (fun hx1 => ?_)
    · have h := h.1 hx1
      refine zj_mask (bs := [true, true, true, true, true, true, true, true, false, true]) ?_
      exact k345 M v4 v6 X218 hX218 h
    · have h := h.2 hx1
      refine zj_aload_n (pc := 324) hc dX10_unpacks_324 rfl ?_
      refine zg_9_14 (pc := 325) hc lk_X10_38 dX10_unpacks_325 ?_
      refine zj_iload (pc := 328) hc dX10_unpacks_328 rfl ?_
      refine zj_aload_n (pc := 330) hc dX10_unpacks_330 rfl ?_
      refine zg_9_14 (pc := 331) hc lk_X10_38 dX10_unpacks_331 ?_
      refine zj_iload (pc := 334) hc dX10_unpacks_334 rfl ?_
      refine zj_iald (pc := 336) hc dX10_unpacks_336 alen_590 h.1 ?_
      have h := h.2
      refine zj_iload (pc := 337) hc dX10_unpacks_337 rfl ?_
      refine zj_iadd (pc := 339) hc dX10_unpacks_339 h.1 ?_
      have h := h.2
      refine zj_sipush (pc := 340) hc dX10_unpacks_340 (by decide) (zin _ rfl) ?_
      refine zj_iand (pc := 343) hc dX10_unpacks_343 ?_
      refine zj_iast (pc := 344) hc dX10_unpacks_344 alen_590 h.1 (fun M2 hM2 => ?_)
      have h := h.2 M2 hM2
      refine zj_mask (bs := [true, true, true, true, true, true, true, true, false, true]) ?_
      exact k345 M2 v4 v6 X218 hX218 h
  have k295 : ∀ (M : zMem) (v4 : Int) (v6 : Int) (v7 : Int) (v8 : Int) (X218 : Int → zMem → Prop) (hX218 : ∀ (v6 : Int) (M : zMem), X218 v6 M → zJ p l e (zRoom 1 21 0 0) s m args below meth c G 10 0 0 (MQ below (zQi G (Qr)) args s 0 0 (zA G)) 218 [some (.inr 639), none, none, none, some (.inl v4), none, some (.inl v6), none, none, none] [] M), T_X10_unpacks_295 v4 v6 v7 v8 X218 Qr M → zJ p l e (zRoom 1 21 0 0) s m args below meth c G 10 0 0 (MQ below (zQi G (Qr)) args s 0 0 (zA G)) 295 [some (.inr 639), none, none, none, some (.inl v4), none, some (.inl v6), some (.inl v7), some (.inl v8), none] [] M := by
    intro M v4 v6 v7 v8 X218 hX218 h
    unfold T_X10_unpacks_295 at h
    refine zj_iload (pc := 295) hc dX10_unpacks_295 rfl ?_
    refine zj_iconst (pc := 297) hc dX10_unpacks_297 (zin _ rfl) ?_
    refine zj_icmp_ne (pc := 298) (tgt := 318) hc dX10_unpacks_298 (by decide) (fun hx3 => ?_) (fun hx3 => ?_)
    · have h := h.1 hx3
      refine zj_mask (bs := [true, true, true, true, true, true, true, false, true, true]) ?_
      exact k318 M v4 v6 v8 X218 hX218 h
    · have h := h.2 hx3
      refine zj_aload_n (pc := 301) hc dX10_unpacks_301 rfl ?_
      refine zg_9_14 (pc := 302) hc lk_X10_38 dX10_unpacks_302 ?_
      refine zj_iload (pc := 305) hc dX10_unpacks_305 rfl ?_
      refine zj_aload_n (pc := 307) hc dX10_unpacks_307 rfl ?_
      refine zg_9_14 (pc := 308) hc lk_X10_38 dX10_unpacks_308 ?_
      refine zj_iload (pc := 311) hc dX10_unpacks_311 rfl ?_
      refine zj_iald (pc := 313) hc dX10_unpacks_313 alen_590 h.1 ?_
      have h := h.2
      refine zj_iload (pc := 314) hc dX10_unpacks_314 rfl ?_
      refine zj_ixor (pc := 316) hc dX10_unpacks_316 ?_
      refine zj_iast (pc := 317) hc dX10_unpacks_317 alen_590 h.1 (fun M4 hM4 => ?_)
      have h := h.2 M4 hM4
      refine zj_mask (bs := [true, true, true, true, true, true, true, false, true, true]) ?_
      exact k318 M4 v4 v6 v8 X218 hX218 h
  have k266 : ∀ (M : zMem) (v4 : Int) (v6 : Int) (v7 : Int) (s0 : Int) (X218 : Int → zMem → Prop) (hX218 : ∀ (v6 : Int) (M : zMem), X218 v6 M → zJ p l e (zRoom 1 21 0 0) s m args below meth c G 10 0 0 (MQ below (zQi G (Qr)) args s 0 0 (zA G)) 218 [some (.inr 639), none, none, none, some (.inl v4), none, some (.inl v6), none, none, none] [] M), T_X10_unpacks_266 v4 v6 v7 s0 X218 Qr M → zJ p l e (zRoom 1 21 0 0) s m args below meth c G 10 0 0 (MQ below (zQi G (Qr)) args s 0 0 (zA G)) 266 [some (.inr 639), none, none, none, some (.inl v4), none, some (.inl v6), some (.inl v7), none, none] [.inl s0] M := by
    intro M v4 v6 v7 s0 X218 hX218 h
    unfold T_X10_unpacks_266 at h
    refine zj_istore (pc := 266) hc dX10_unpacks_266 (by decide) ?_
    refine zj_iload (pc := 268) hc dX10_unpacks_268 rfl ?_
    refine zj_iconst (pc := 270) hc dX10_unpacks_270 (zin _ rfl) ?_
    refine zj_icmp_ne (pc := 271) (tgt := 295) hc dX10_unpacks_271 (by decide) (fun hx5 => ?_) (fun hx5 => ?_)
    · have h := h.1 hx5
      exact k295 M v4 v6 v7 s0 X218 hX218 h
    · have h := h.2 hx5
      refine zj_aload_n (pc := 274) hc dX10_unpacks_274 rfl ?_
      refine zg_9_14 (pc := 275) hc lk_X10_38 dX10_unpacks_275 ?_
      refine zj_iload (pc := 278) hc dX10_unpacks_278 rfl ?_
      refine zj_aload_n (pc := 280) hc dX10_unpacks_280 rfl ?_
      refine zg_9_14 (pc := 281) hc lk_X10_38 dX10_unpacks_281 ?_
      refine zj_iload (pc := 284) hc dX10_unpacks_284 rfl ?_
      refine zj_iald (pc := 286) hc dX10_unpacks_286 alen_590 h.1 ?_
      have h := h.2
      refine zj_iload (pc := 287) hc dX10_unpacks_287 rfl ?_
      refine zj_iadd (pc := 289) hc dX10_unpacks_289 h.1 ?_
      have h := h.2
      refine zj_sipush (pc := 290) hc dX10_unpacks_290 (by decide) (zin _ rfl) ?_
      refine zj_iand (pc := 293) hc dX10_unpacks_293 ?_
      refine zj_iast (pc := 294) hc dX10_unpacks_294 alen_590 h.1 (fun M6 hM6 => ?_)
      have h := h.2 M6 hM6
      exact k295 M6 v4 v6 v7 s0 X218 hX218 h
  have k245 : ∀ (M : zMem) (v4 : Int) (v6 : Int) (s0 : Int) (X218 : Int → zMem → Prop) (hX218 : ∀ (v6 : Int) (M : zMem), X218 v6 M → zJ p l e (zRoom 1 21 0 0) s m args below meth c G 10 0 0 (MQ below (zQi G (Qr)) args s 0 0 (zA G)) 218 [some (.inr 639), none, none, none, some (.inl v4), none, some (.inl v6), none, none, none] [] M), T_X10_unpacks_245 v4 v6 s0 X218 Qr M → zJ p l e (zRoom 1 21 0 0) s m args below meth c G 10 0 0 (MQ below (zQi G (Qr)) args s 0 0 (zA G)) 245 [some (.inr 639), none, none, none, some (.inl v4), none, some (.inl v6), none, none, none] [.inl s0] M := by
    intro M v4 v6 s0 X218 hX218 h
    unfold T_X10_unpacks_245 at h
    refine zj_istore (pc := 245) hc dX10_unpacks_245 (by decide) ?_
    refine zj_iload (pc := 247) hc dX10_unpacks_247 rfl ?_
    refine zj_iconst (pc := 249) hc dX10_unpacks_249 (zin _ rfl) ?_
    refine zj_icmp_le (pc := 250) (tgt := 265) hc dX10_unpacks_250 (by decide) (fun hx7 => ?_) (fun hx7 => ?_)
    · have h := h.1 hx7
      refine zj_iconst (pc := 265) hc dX10_unpacks_265 (zin _ rfl) ?_
      exact k266 M v4 v6 s0 0 X218 hX218 h
    · have h := h.2 hx7
      refine zj_aload_n (pc := 253) hc dX10_unpacks_253 rfl ?_
      refine zg_9_14 (pc := 254) hc lk_X10_38 dX10_unpacks_254 ?_
      refine zj_iload (pc := 257) hc dX10_unpacks_257 rfl ?_
      refine zj_iconst (pc := 259) hc dX10_unpacks_259 (zin _ rfl) ?_
      refine zj_isub (pc := 260) hc dX10_unpacks_260 h.1 ?_
      have h := h.2
      refine zj_iald (pc := 261) hc dX10_unpacks_261 alen_590 h.1 ?_
      have h := h.2
      refine zj_goto (pc := 262) (tgt := 266) hc dX10_unpacks_262 (by decide) ?_
      exact k266 M v4 v6 s0 (M.2 590 (v6 - 2)) X218 hX218 h
  have k218 : ∀ (M : zMem) (v4 : Int) (v6 : Int), T_X10_unpacks_218 v4 Qr v6 M → zJ p l e (zRoom 1 21 0 0) s m args below meth c G 10 0 0 (MQ below (zQi G (Qr)) args s 0 0 (zA G)) 218 [some (.inr 639), none, none, none, some (.inl v4), none, some (.inl v6), none, none, none] [] M := by
    intro M v4 v6 h
    unfold T_X10_unpacks_218 at h
    refine zl1_use h (fun v6 M => zJ p l e (zRoom 1 21 0 0) s m args below meth c G 10 0 0 (MQ below (zQi G (Qr)) args s 0 0 (zA G)) 218 [some (.inr 639), none, none, none, some (.inl v4), none, some (.inl v6), none, none, none] [] M) (fun X218 hX218 v6 M h => ?_)
    refine zj_iload (pc := 218) hc dX10_unpacks_218 rfl ?_
    refine zj_aload_n (pc := 220) hc dX10_unpacks_220 rfl ?_
    refine zg_9_15 (pc := 221) hc lk_X10_107 dX10_unpacks_221 ?_
    refine zj_icmp_ge (pc := 224) (tgt := 351) hc dX10_unpacks_224 (by decide) (fun hx8 => ?_) (fun hx8 => ?_)
    · have h := h.1 hx8
      refine zj_aload_n (pc := 351) hc dX10_unpacks_351 rfl ?_
      refine zj_iconst (pc := 352) hc dX10_unpacks_352 (zin _ rfl) ?_
      refine zs_9_19 (pc := 353) hc lk_X10_137 dX10_unpacks_353 (fun M9 hM9 => ?_)
      have h := h M9 hM9
      refine zj_iconst (pc := 356) hc dX10_unpacks_356 (zin _ rfl) ?_
      exact zj_zret (pc := 357) hc hr hlk dX10_unpacks_357 (by decide) (by decide) (Or.inr rfl) h
    · have h := h.2 hx8
      refine zj_iload (pc := 227) hc dX10_unpacks_227 rfl ?_
      refine zj_if_le (pc := 229) (tgt := 244) hc dX10_unpacks_229 (by decide) (fun hx10 => ?_) (fun hx10 => ?_)
      · have h := h.1 hx10
        refine zj_iconst (pc := 244) hc dX10_unpacks_244 (zin _ rfl) ?_
        exact k245 M v4 v6 0 X218 hX218 h
      · have h := h.2 hx10
        refine zj_aload_n (pc := 232) hc dX10_unpacks_232 rfl ?_
        refine zg_9_14 (pc := 233) hc lk_X10_38 dX10_unpacks_233 ?_
        refine zj_iload (pc := 236) hc dX10_unpacks_236 rfl ?_
        refine zj_iconst (pc := 238) hc dX10_unpacks_238 (zin _ rfl) ?_
        refine zj_isub (pc := 239) hc dX10_unpacks_239 h.1 ?_
        have h := h.2
        refine zj_iald (pc := 240) hc dX10_unpacks_240 alen_590 h.1 ?_
        have h := h.2
        refine zj_goto (pc := 241) (tgt := 245) hc dX10_unpacks_241 (by decide) ?_
        exact k245 M v4 v6 (M.2 590 (v6 - 1)) X218 hX218 h
  have k212 : ∀ (M : zMem) (r1 : Nat) (v2 : Int) (v3 : Int) (v4 : Int) (v5 : Int) (X8 : Int → zMem → Prop) (hX8 : ∀ (v5 : Int) (M : zMem), X8 v5 M → zJ p l e (zRoom 1 21 0 0) s m args below meth c G 10 0 0 (MQ below (zQi G (Qr)) args s 0 0 (zA G)) 8 [some (.inr 639), some (.inr r1), some (.inl v2), some (.inl v3), some (.inl v4), some (.inl v5), none, none, none, none] [] M), T_X10_unpacks_212 r1 v2 v3 v4 v5 X8 Qr M → zJ p l e (zRoom 1 21 0 0) s m args below meth c G 10 0 0 (MQ below (zQi G (Qr)) args s 0 0 (zA G)) 212 [some (.inr 639), some (.inr r1), some (.inl v2), some (.inl v3), some (.inl v4), some (.inl v5), none, none, none, none] [] M := by
    intro M r1 v2 v3 v4 v5 X8 hX8 h
    unfold T_X10_unpacks_212 at h
    refine zj_goto (pc := 212) (tgt := 8) hc dX10_unpacks_212 (by decide) ?_
    exact hX8 v5 M h
  have k180 : ∀ (M : zMem) (r1 : Nat) (v2 : Int) (v3 : Int) (v4 : Int) (v5 : Int) (v7 : Int) (v8 : Int) (X8 : Int → zMem → Prop) (hX8 : ∀ (v5 : Int) (M : zMem), X8 v5 M → zJ p l e (zRoom 1 21 0 0) s m args below meth c G 10 0 0 (MQ below (zQi G (Qr)) args s 0 0 (zA G)) 8 [some (.inr 639), some (.inr r1), some (.inl v2), some (.inl v3), some (.inl v4), some (.inl v5), none, none, none, none] [] M) (v9 : Int), T_X10_unpacks_180 r1 v2 v3 v4 v5 v7 v8 X8 Qr v9 M → zJ p l e (zRoom 1 21 0 0) s m args below meth c G 10 0 0 (MQ below (zQi G (Qr)) args s 0 0 (zA G)) 180 [some (.inr 639), some (.inr r1), some (.inl v2), some (.inl v3), some (.inl v4), some (.inl v5), none, some (.inl v7), some (.inl v8), some (.inl v9)] [] M := by
    intro M r1 v2 v3 v4 v5 v7 v8 X8 hX8 v9 h
    unfold T_X10_unpacks_180 at h
    refine zl1_use h (fun v9 M => zJ p l e (zRoom 1 21 0 0) s m args below meth c G 10 0 0 (MQ below (zQi G (Qr)) args s 0 0 (zA G)) 180 [some (.inr 639), some (.inr r1), some (.inl v2), some (.inl v3), some (.inl v4), some (.inl v5), none, some (.inl v7), some (.inl v8), some (.inl v9)] [] M) (fun X180 hX180 v9 M h => ?_)
    refine zj_iload (pc := 180) hc dX10_unpacks_180 rfl ?_
    refine zj_iload (pc := 182) hc dX10_unpacks_182 rfl ?_
    refine zj_icmp_ge (pc := 184) (tgt := 209) hc dX10_unpacks_184 (by decide) (fun hx11 => ?_) (fun hx11 => ?_)
    · have h := h.1 hx11
      refine zj_iinc (pc := 209) hc dX10_unpacks_209 rfl (by decide) h.1 ?_
      have h := h.2
      refine zj_mask (bs := [true, true, true, true, true, true, true, false, false, false]) ?_
      exact k212 M r1 v2 v3 v4 (v5 + 1) X8 hX8 h
    · have h := h.2 hx11
      refine zj_aload_n (pc := 187) hc dX10_unpacks_187 rfl ?_
      refine zj_aload_n (pc := 188) hc dX10_unpacks_188 rfl ?_
      refine zg_9_14 (pc := 189) hc lk_X10_38 dX10_unpacks_189 ?_
      refine zj_aload_n (pc := 192) hc dX10_unpacks_192 rfl ?_
      refine zg_9_15 (pc := 193) hc lk_X10_107 dX10_unpacks_193 ?_
      refine zj_iload (pc := 196) hc dX10_unpacks_196 rfl ?_
      refine zj_isub (pc := 198) hc dX10_unpacks_198 h.1 ?_
      have h := h.2
      refine zj_iald (pc := 199) hc dX10_unpacks_199 alen_590 h.1 ?_
      have h := h.2
      refine zj_vtv (pc := 200) (st := []) hc ks_X10_comesOut iv_X10_comesOut lk_X10_134 (zrv_9 G M) (S_X10_comesOut l G (M.2 590 ((M.1 591) - v8)) M _ h) rfl ⟨Nat.le_of_ble_eq_true rfl, Nat.le_of_ble_eq_true rfl⟩ (Nat.le_of_ble_eq_true rfl) ⟨Nat.le_of_ble_eq_true rfl, Nat.le_of_ble_eq_true rfl⟩ dX10_unpacks_200 rfl (fun M12 h => ?_)
      refine zj_iinc (pc := 203) hc dX10_unpacks_203 rfl (by decide) h.1 ?_
      have h := h.2
      refine zj_goto (pc := 206) (tgt := 180) hc dX10_unpacks_206 (by decide) ?_
      exact hX180 (v9 + 1) M12 h
  have k93 : ∀ (M : zMem) (r1 : Nat) (v2 : Int) (v3 : Int) (v4 : Int) (v5 : Int) (v7 : Int) (X8 : Int → zMem → Prop) (hX8 : ∀ (v5 : Int) (M : zMem), X8 v5 M → zJ p l e (zRoom 1 21 0 0) s m args below meth c G 10 0 0 (MQ below (zQi G (Qr)) args s 0 0 (zA G)) 8 [some (.inr 639), some (.inr r1), some (.inl v2), some (.inl v3), some (.inl v4), some (.inl v5), none, none, none, none] [] M) (v8 : Int), T_X10_unpacks_93 r1 v2 v3 v4 v5 v7 X8 Qr v8 M → zJ p l e (zRoom 1 21 0 0) s m args below meth c G 10 0 0 (MQ below (zQi G (Qr)) args s 0 0 (zA G)) 93 [some (.inr 639), some (.inr r1), some (.inl v2), some (.inl v3), some (.inl v4), some (.inl v5), none, some (.inl v7), some (.inl v8), none] [] M := by
    intro M r1 v2 v3 v4 v5 v7 X8 hX8 v8 h
    unfold T_X10_unpacks_93 at h
    refine zl1_use h (fun v8 M => zJ p l e (zRoom 1 21 0 0) s m args below meth c G 10 0 0 (MQ below (zQi G (Qr)) args s 0 0 (zA G)) 93 [some (.inr 639), some (.inr r1), some (.inl v2), some (.inl v3), some (.inl v4), some (.inl v5), none, some (.inl v7), some (.inl v8), none] [] M) (fun X93 hX93 v8 M h => ?_)
    refine zj_iload (pc := 93) hc dX10_unpacks_93 rfl ?_
    refine zj_iload (pc := 95) hc dX10_unpacks_95 rfl ?_
    refine zj_icmp_ge (pc := 97) (tgt := 119) hc dX10_unpacks_97 (by decide) (fun hx13 => ?_) (fun hx13 => ?_)
    · have h := h.1 hx13
      refine zj_iload (pc := 119) hc dX10_unpacks_119 rfl ?_
      refine zj_iload (pc := 121) hc dX10_unpacks_121 rfl ?_
      refine zj_iadd (pc := 123) hc dX10_unpacks_123 h.1 ?_
      have h := h.2
      refine zj_istore (pc := 124) hc dX10_unpacks_124 (by decide) ?_
      refine zj_goto (pc := 126) (tgt := 212) hc dX10_unpacks_126 (by decide) ?_
      refine zj_mask (bs := [true, true, true, true, true, true, true, false, false, true]) ?_
      exact k212 M r1 v2 v3 v4 (v5 + v7) X8 hX8 h
    · have h := h.2 hx13
      refine zj_aload_n (pc := 100) hc dX10_unpacks_100 rfl ?_
      refine zj_aload_n (pc := 101) hc dX10_unpacks_101 rfl ?_
      refine zj_iload_n (pc := 102) hc dX10_unpacks_102 rfl ?_
      refine zj_iload (pc := 103) hc dX10_unpacks_103 rfl ?_
      refine zj_iadd (pc := 105) hc dX10_unpacks_105 h.1 ?_
      have h := h.2
      refine zj_iload (pc := 106) hc dX10_unpacks_106 rfl ?_
      refine zj_iadd (pc := 108) hc dX10_unpacks_108 h.1 ?_
      have h := h.2
      refine zj_iald (pc := 109) hc dX10_unpacks_109 rfl h.1 ?_
      have h := h.2
      refine zj_vtv (pc := 110) (st := []) hc ks_X10_comesOut iv_X10_comesOut lk_X10_134 (zrv_9 G M) (S_X10_comesOut l G (M.2 r1 ((v2 + v5) + v8)) M _ h) rfl ⟨Nat.le_of_ble_eq_true rfl, Nat.le_of_ble_eq_true rfl⟩ (Nat.le_of_ble_eq_true rfl) ⟨Nat.le_of_ble_eq_true rfl, Nat.le_of_ble_eq_true rfl⟩ dX10_unpacks_110 rfl (fun M14 h => ?_)
      refine zj_iinc (pc := 113) hc dX10_unpacks_113 rfl (by decide) h.1 ?_
      have h := h.2
      refine zj_goto (pc := 116) (tgt := 93) hc dX10_unpacks_116 (by decide) ?_
      exact hX93 (v8 + 1) M14 h
  have k42 : ∀ (M : zMem) (r1 : Nat) (v2 : Int) (v3 : Int) (v4 : Int) (v5 : Int) (v6 : Int) (s0 : Int) (X8 : Int → zMem → Prop) (hX8 : ∀ (v5 : Int) (M : zMem), X8 v5 M → zJ p l e (zRoom 1 21 0 0) s m args below meth c G 10 0 0 (MQ below (zQi G (Qr)) args s 0 0 (zA G)) 8 [some (.inr 639), some (.inr r1), some (.inl v2), some (.inl v3), some (.inl v4), some (.inl v5), none, none, none, none] [] M), T_X10_unpacks_42 r1 v2 v3 v4 v5 v6 s0 X8 Qr M → zJ p l e (zRoom 1 21 0 0) s m args below meth c G 10 0 0 (MQ below (zQi G (Qr)) args s 0 0 (zA G)) 42 [some (.inr 639), some (.inr r1), some (.inl v2), some (.inl v3), some (.inl v4), some (.inl v5), some (.inl v6), none, none, none] [.inl s0] M := by
    intro M r1 v2 v3 v4 v5 v6 s0 X8 hX8 h
    unfold T_X10_unpacks_42 at h
    refine zj_istore (pc := 42) hc dX10_unpacks_42 (by decide) ?_
    refine zj_aload_n (pc := 44) hc dX10_unpacks_44 rfl ?_
    refine zg_9_15 (pc := 45) hc lk_X10_107 dX10_unpacks_45 ?_
    refine zj_iload (pc := 48) hc dX10_unpacks_48 rfl ?_
    refine zj_iadd (pc := 50) hc dX10_unpacks_50 h.1 ?_
    have h := h.2
    refine zj_sipush (pc := 51) hc dX10_unpacks_51 (by decide) (zin _ rfl) ?_
    refine zj_icmp_le (pc := 54) (tgt := 64) hc dX10_unpacks_54 (by decide) (fun hx15 => ?_) (fun hx15 => ?_)
    · have h := h.1 hx15
      refine zj_iinc (pc := 64) hc dX10_unpacks_64 rfl (by decide) h.1 ?_
      have h := h.2
      refine zj_iload (pc := 67) hc dX10_unpacks_67 rfl ?_
      refine zj_sipush (pc := 69) hc dX10_unpacks_69 (by decide) (zin _ rfl) ?_
      refine zj_icmp_ge (pc := 72) (tgt := 129) hc dX10_unpacks_72 (by decide) (fun hx16 => ?_) (fun hx16 => ?_)
      · have h := h.1 hx16
        refine zj_iload (pc := 129) hc dX10_unpacks_129 rfl ?_
        refine zj_iload_n (pc := 131) hc dX10_unpacks_131 rfl ?_
        refine zj_icmp_ne (pc := 132) (tgt := 141) hc dX10_unpacks_132 (by decide) (fun hx17 => ?_) (fun hx17 => ?_)
        · have h := h.1 hx17
          refine zj_aload_n (pc := 141) hc dX10_unpacks_141 rfl ?_
          refine zj_iload_n (pc := 142) hc dX10_unpacks_142 rfl ?_
          refine zj_iload (pc := 143) hc dX10_unpacks_143 rfl ?_
          refine zj_iadd (pc := 145) hc dX10_unpacks_145 h.1 ?_
          have h := h.2
          refine zj_iald (pc := 146) hc dX10_unpacks_146 rfl h.1 ?_
          have h := h.2
          refine zj_istore (pc := 147) hc dX10_unpacks_147 (by decide) ?_
          refine zj_iload (pc := 149) hc dX10_unpacks_149 rfl ?_
          refine zj_if_eq (pc := 151) (tgt := 170) hc dX10_unpacks_151 (by decide) (fun hx18 => ?_) (fun hx18 => ?_)
          · have h := h.1 hx18
            refine zj_aload_n (pc := 170) hc dX10_unpacks_170 rfl ?_
            refine zj_iload (pc := 171) hc dX10_unpacks_171 rfl ?_
            refine zj_vti (pc := 173) (st := []) hc ks_X10_flawed iv_X10_flawed lk_X10_130 (zrv_9 G M) (S_X10_flawed l G (v5 + 1) M _ h) rfl ⟨Nat.le_of_ble_eq_true rfl, Nat.le_of_ble_eq_true rfl⟩ (Nat.le_of_ble_eq_true rfl) ⟨Nat.le_of_ble_eq_true rfl, Nat.le_of_ble_eq_true rfl⟩ dX10_unpacks_173 rfl (fun y19 M20 h => ?_)
            exact zj_zret (pc := 176) hc hr hlk dX10_unpacks_176 (by decide) (by decide) h.1 h.2
          · have h := h.2 hx18
            refine zj_iload (pc := 154) hc dX10_unpacks_154 rfl ?_
            refine zj_bipush (pc := 156) hc dX10_unpacks_156 (by decide) (zin _ rfl) ?_
            refine zj_icmp_gt (pc := 158) (tgt := 170) hc dX10_unpacks_158 (by decide) (fun hx21 => ?_) (fun hx21 => ?_)
            · have h := h.1 hx21
              refine zj_aload_n (pc := 170) hc dX10_unpacks_170 rfl ?_
              refine zj_iload (pc := 171) hc dX10_unpacks_171 rfl ?_
              refine zj_vti (pc := 173) (st := []) hc ks_X10_flawed iv_X10_flawed lk_X10_130 (zrv_9 G M) (S_X10_flawed l G (v5 + 1) M _ h) rfl ⟨Nat.le_of_ble_eq_true rfl, Nat.le_of_ble_eq_true rfl⟩ (Nat.le_of_ble_eq_true rfl) ⟨Nat.le_of_ble_eq_true rfl, Nat.le_of_ble_eq_true rfl⟩ dX10_unpacks_173 rfl (fun y22 M23 h => ?_)
              exact zj_zret (pc := 176) hc hr hlk dX10_unpacks_176 (by decide) (by decide) h.1 h.2
            · have h := h.2 hx21
              refine zj_iload (pc := 161) hc dX10_unpacks_161 rfl ?_
              refine zj_aload_n (pc := 163) hc dX10_unpacks_163 rfl ?_
              refine zg_9_15 (pc := 164) hc lk_X10_107 dX10_unpacks_164 ?_
              refine zj_icmp_le (pc := 167) (tgt := 177) hc dX10_unpacks_167 (by decide) (fun hx24 => ?_) (fun hx24 => ?_)
              · have h := h.1 hx24
                refine zj_iconst (pc := 177) hc dX10_unpacks_177 (zin _ rfl) ?_
                refine zj_istore (pc := 178) hc dX10_unpacks_178 (by decide) ?_
                refine zj_mask (bs := [true, true, true, true, true, true, false, true, true, true]) ?_
                exact k180 M r1 v2 v3 v4 (v5 + 1) s0 (M.2 r1 (v2 + (v5 + 1))) X8 hX8 0 h
              · have h := h.2 hx24
                refine zj_aload_n (pc := 170) hc dX10_unpacks_170 rfl ?_
                refine zj_iload (pc := 171) hc dX10_unpacks_171 rfl ?_
                refine zj_vti (pc := 173) (st := []) hc ks_X10_flawed iv_X10_flawed lk_X10_130 (zrv_9 G M) (S_X10_flawed l G (v5 + 1) M _ h) rfl ⟨Nat.le_of_ble_eq_true rfl, Nat.le_of_ble_eq_true rfl⟩ (Nat.le_of_ble_eq_true rfl) ⟨Nat.le_of_ble_eq_true rfl, Nat.le_of_ble_eq_true rfl⟩ dX10_unpacks_173 rfl (fun y25 M26 h => ?_)
                exact zj_zret (pc := 176) hc hr hlk dX10_unpacks_176 (by decide) (by decide) h.1 h.2
        · have h := h.2 hx17
          refine zj_aload_n (pc := 135) hc dX10_unpacks_135 rfl ?_
          refine zj_iload_n (pc := 136) hc dX10_unpacks_136 rfl ?_
          refine zj_vti (pc := 137) (st := []) hc ks_X10_flawed iv_X10_flawed lk_X10_130 (zrv_9 G M) (S_X10_flawed l G v3 M _ h) rfl ⟨Nat.le_of_ble_eq_true rfl, Nat.le_of_ble_eq_true rfl⟩ (Nat.le_of_ble_eq_true rfl) ⟨Nat.le_of_ble_eq_true rfl, Nat.le_of_ble_eq_true rfl⟩ dX10_unpacks_137 rfl (fun y27 M28 h => ?_)
          exact zj_zret (pc := 140) hc hr hlk dX10_unpacks_140 (by decide) (by decide) h.1 h.2
      · have h := h.2 hx16
        refine zj_iload (pc := 75) hc dX10_unpacks_75 rfl ?_
        refine zj_iload (pc := 77) hc dX10_unpacks_77 rfl ?_
        refine zj_iadd (pc := 79) hc dX10_unpacks_79 h.1 ?_
        have h := h.2
        refine zj_iload_n (pc := 80) hc dX10_unpacks_80 rfl ?_
        refine zj_icmp_le (pc := 81) (tgt := 90) hc dX10_unpacks_81 (by decide) (fun hx29 => ?_) (fun hx29 => ?_)
        · have h := h.1 hx29
          refine zj_iconst (pc := 90) hc dX10_unpacks_90 (zin _ rfl) ?_
          refine zj_istore (pc := 91) hc dX10_unpacks_91 (by decide) ?_
          refine zj_mask (bs := [true, true, true, true, true, true, false, true, true, true]) ?_
          exact k93 M r1 v2 v3 v4 (v5 + 1) s0 X8 hX8 0 h
        · have h := h.2 hx29
          refine zj_aload_n (pc := 84) hc dX10_unpacks_84 rfl ?_
          refine zj_iload_n (pc := 85) hc dX10_unpacks_85 rfl ?_
          refine zj_vti (pc := 86) (st := []) hc ks_X10_flawed iv_X10_flawed lk_X10_130 (zrv_9 G M) (S_X10_flawed l G v3 M _ h) rfl ⟨Nat.le_of_ble_eq_true rfl, Nat.le_of_ble_eq_true rfl⟩ (Nat.le_of_ble_eq_true rfl) ⟨Nat.le_of_ble_eq_true rfl, Nat.le_of_ble_eq_true rfl⟩ dX10_unpacks_86 rfl (fun y30 M31 h => ?_)
          exact zj_zret (pc := 89) hc hr hlk dX10_unpacks_89 (by decide) (by decide) h.1 h.2
    · have h := h.2 hx15
      refine zj_aload_n (pc := 57) hc dX10_unpacks_57 rfl ?_
      refine zj_iload (pc := 58) hc dX10_unpacks_58 rfl ?_
      refine zj_vti (pc := 60) (st := []) hc ks_X10_flawed iv_X10_flawed lk_X10_130 (zrv_9 G M) (S_X10_flawed l G v5 M _ h) rfl ⟨Nat.le_of_ble_eq_true rfl, Nat.le_of_ble_eq_true rfl⟩ (Nat.le_of_ble_eq_true rfl) ⟨Nat.le_of_ble_eq_true rfl, Nat.le_of_ble_eq_true rfl⟩ dX10_unpacks_60 rfl (fun y32 M33 h => ?_)
      exact zj_zret (pc := 63) hc hr hlk dX10_unpacks_63 (by decide) (by decide) h.1 h.2
  have k8 : ∀ (M : zMem) (r1 : Nat) (v2 : Int) (v3 : Int) (v4 : Int) (v5 : Int), T_X10_unpacks_8 r1 v2 v3 v4 Qr v5 M → zJ p l e (zRoom 1 21 0 0) s m args below meth c G 10 0 0 (MQ below (zQi G (Qr)) args s 0 0 (zA G)) 8 [some (.inr 639), some (.inr r1), some (.inl v2), some (.inl v3), some (.inl v4), some (.inl v5), none, none, none, none] [] M := by
    intro M r1 v2 v3 v4 v5 h
    unfold T_X10_unpacks_8 at h
    refine zl1_use h (fun v5 M => zJ p l e (zRoom 1 21 0 0) s m args below meth c G 10 0 0 (MQ below (zQi G (Qr)) args s 0 0 (zA G)) 8 [some (.inr 639), some (.inr r1), some (.inl v2), some (.inl v3), some (.inl v4), some (.inl v5), none, none, none, none] [] M) (fun X8 hX8 v5 M h => ?_)
    refine zj_iload (pc := 8) hc dX10_unpacks_8 rfl ?_
    refine zj_iload_n (pc := 10) hc dX10_unpacks_10 rfl ?_
    refine zj_icmp_ge (pc := 11) (tgt := 215) hc dX10_unpacks_11 (by decide) (fun hx34 => ?_) (fun hx34 => ?_)
    · have h := h.1 hx34
      refine zj_iconst (pc := 215) hc dX10_unpacks_215 (zin _ rfl) ?_
      refine zj_istore (pc := 216) hc dX10_unpacks_216 (by decide) ?_
      refine zj_mask (bs := [true, false, false, false, true, false, true, true, true, true]) ?_
      exact k218 M v4 0 h
    · have h := h.2 hx34
      refine zj_aload_n (pc := 14) hc dX10_unpacks_14 rfl ?_
      refine zj_iload_n (pc := 15) hc dX10_unpacks_15 rfl ?_
      refine zj_iload (pc := 16) hc dX10_unpacks_16 rfl ?_
      refine zj_iadd (pc := 18) hc dX10_unpacks_18 h.1 ?_
      have h := h.2
      refine zj_iald (pc := 19) hc dX10_unpacks_19 rfl h.1 ?_
      have h := h.2
      refine zj_istore (pc := 20) hc dX10_unpacks_20 (by decide) ?_
      refine zj_iload (pc := 22) hc dX10_unpacks_22 rfl ?_
      refine zj_sipush (pc := 24) hc dX10_unpacks_24 (by decide) (zin _ rfl) ?_
      refine zj_icmp_ge (pc := 27) (tgt := 37) hc dX10_unpacks_27 (by decide) (fun hx35 => ?_) (fun hx35 => ?_)
      · have h := h.1 hx35
        refine zj_iload (pc := 37) hc dX10_unpacks_37 rfl ?_
        refine zj_bipush (pc := 39) hc dX10_unpacks_39 (by decide) (zin _ rfl) ?_
        refine zj_isub (pc := 41) hc dX10_unpacks_41 h.1 ?_
        have h := h.2
        exact k42 M r1 v2 v3 v4 v5 (M.2 r1 (v2 + v5)) ((M.2 r1 (v2 + v5)) - 125) X8 hX8 h
      · have h := h.2 hx35
        refine zj_iload (pc := 30) hc dX10_unpacks_30 rfl ?_
        refine zj_iconst (pc := 32) hc dX10_unpacks_32 (zin _ rfl) ?_
        refine zj_iadd (pc := 33) hc dX10_unpacks_33 h.1 ?_
        have h := h.2
        refine zj_goto (pc := 34) (tgt := 42) hc dX10_unpacks_34 (by decide) ?_
        exact k42 M r1 v2 v3 v4 v5 (M.2 r1 (v2 + v5)) ((M.2 r1 (v2 + v5)) + 1) X8 hX8 h
  unfold T_X10_unpacks at h
  refine zj_aload_n (pc := 0) hc dX10_unpacks_0 rfl ?_
  refine zj_iconst (pc := 1) hc dX10_unpacks_1 (zin _ rfl) ?_
  refine zs_9_15 (pc := 2) hc lk_X10_107 dX10_unpacks_2 (fun M36 hM36 => ?_)
  have h := h M36 hM36
  refine zj_iconst (pc := 5) hc dX10_unpacks_5 (zin _ rfl) ?_
  refine zj_istore (pc := 6) hc dX10_unpacks_6 (by decide) ?_
  exact k8 M36 r1 v2 v3 v4 0 h
