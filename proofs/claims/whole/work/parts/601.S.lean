set_option maxHeartbeats 4000000 in
set_option maxRecDepth 100000 in
theorem S_X6_packBest (l : Launch) (G : zG) {o : Nat} (ho : o = 4 ∨ o = 6) (r1 : Nat) (v2 : Int) (M : zMem) (Qr : Int → zMem → Prop) (h : T_X6_packBest o r1 v2 Qr M) : zMetI l yX6_packBest cX6_packBest 6 (some .int) 2 56 0 0 G [.inr (64 * o + 63), .inr r1, .inl v2] M Qr := by
  refine zmetI (by decide) (Nat.le_of_ble_eq_true rfl) [some (.inr (64 * o + 63)), some (.inr r1), some (.inl v2), none, none, none] rfl ?_
  intro p e s m args below meth c hc hr hlk
  have k47 : ∀ (M : zMem) (r1 : Nat) (v2 : Int) (v3 : Int) (v4 : Int) (X16 : Int → Int → zMem → Prop) (hX16 : ∀ (v3 : Int) (v4 : Int) (M : zMem), X16 v3 v4 M → zJ p l e (zRoom 2 56 0 0) s m args below meth c G 6 0 0 (MQ below (zQi G (Qr)) args s 0 0 (zA G)) 16 [some (.inr (64 * o + 63)), some (.inr r1), some (.inl v2), some (.inl v3), some (.inl v4), none] [] M), T_X6_packBest_47 o r1 v2 v3 v4 X16 Qr M → zJ p l e (zRoom 2 56 0 0) s m args below meth c G 6 0 0 (MQ below (zQi G (Qr)) args s 0 0 (zA G)) 47 [some (.inr (64 * o + 63)), some (.inr r1), some (.inl v2), some (.inl v3), some (.inl v4), none] [] M := by
    intro M r1 v2 v3 v4 X16 hX16 h
    unfold T_X6_packBest_47 at h
    refine zj_iinc (pc := 47) hc dX6_packBest_47 rfl (by decide) h.1 ?_
    have h := h.2
    refine zj_goto (pc := 50) (tgt := 16) hc dX6_packBest_50 (by decide) ?_
    exact hX16 v3 (v4 + 1) M h
  have k16 : ∀ (M : zMem) (r1 : Nat) (v2 : Int) (v3 : Int) (v4 : Int), T_X6_packBest_16 o r1 v2 Qr v3 v4 M → zJ p l e (zRoom 2 56 0 0) s m args below meth c G 6 0 0 (MQ below (zQi G (Qr)) args s 0 0 (zA G)) 16 [some (.inr (64 * o + 63)), some (.inr r1), some (.inl v2), some (.inl v3), some (.inl v4), none] [] M := by
    intro M r1 v2 v3 v4 h
    unfold T_X6_packBest_16 at h
    refine zl2_use h (fun v3 v4 M => zJ p l e (zRoom 2 56 0 0) s m args below meth c G 6 0 0 (MQ below (zQi G (Qr)) args s 0 0 (zA G)) 16 [some (.inr (64 * o + 63)), some (.inr r1), some (.inl v2), some (.inl v3), some (.inl v4), none] [] M) (fun X16 hX16 v3 v4 M h => ?_)
    refine zj_iload (pc := 16) hc dX6_packBest_16 rfl ?_
    refine zj_iconst (pc := 18) hc dX6_packBest_18 (zin _ rfl) ?_
    refine zj_icmp_ge (pc := 19) (tgt := 53) hc dX6_packBest_19 (by decide) (fun hx1 => ?_) (fun hx1 => ?_)
    · have h := h.1 hx1
      refine zj_aload_n (pc := 53) hc dX6_packBest_53 rfl ?_
      refine zj_aload_n (pc := 54) hc dX6_packBest_54 rfl ?_
      refine zj_iload_n (pc := 55) hc dX6_packBest_55 rfl ?_
      refine zj_aload_n (pc := 56) hc dX6_packBest_56 rfl ?_
      refine zgv_X6_3 (pc := 57) ho hc lk_X6_22 dX6_packBest_57 ?_
      refine zj_vti (pc := 60) (st := []) hc ks_X6_packRow iv_X6_packRow lk_X6_37 (zrvv_X6 G M ho) (S_X6_packRow l G ho r1 v2 (M.1 (64 * o + 3)) M _ h) rfl ⟨Nat.le_of_ble_eq_true rfl, Nat.le_of_ble_eq_true rfl⟩ (Nat.le_of_ble_eq_true rfl) ⟨Nat.le_of_ble_eq_true rfl, Nat.le_of_ble_eq_true rfl⟩ dX6_packBest_60 rfl (fun y2 M3 h => ?_)
      exact zj_iret (pc := 63) hc hr hlk dX6_packBest_63 (by decide) (by decide) h
    · have h := h.2 hx1
      refine zj_aload_n (pc := 22) hc dX6_packBest_22 rfl ?_
      refine zj_aload_n (pc := 23) hc dX6_packBest_23 rfl ?_
      refine zj_iload_n (pc := 24) hc dX6_packBest_24 rfl ?_
      refine zj_iload (pc := 25) hc dX6_packBest_25 rfl ?_
      refine zj_vti (pc := 27) (st := []) hc ks_X6_packRow iv_X6_packRow lk_X6_37 (zrvv_X6 G M ho) (S_X6_packRow l G ho r1 v2 v4 M _ h) rfl ⟨Nat.le_of_ble_eq_true rfl, Nat.le_of_ble_eq_true rfl⟩ (Nat.le_of_ble_eq_true rfl) ⟨Nat.le_of_ble_eq_true rfl, Nat.le_of_ble_eq_true rfl⟩ dX6_packBest_27 rfl (fun y4 M5 h => ?_)
      refine zj_istore (pc := 30) hc dX6_packBest_30 (by decide) ?_
      refine zj_iload (pc := 32) hc dX6_packBest_32 rfl ?_
      refine zj_iload_n (pc := 34) hc dX6_packBest_34 rfl ?_
      refine zj_icmp_ge (pc := 35) (tgt := 47) hc dX6_packBest_35 (by decide) (fun hx6 => ?_) (fun hx6 => ?_)
      · have h := h.1 hx6
        refine zj_mask (bs := [true, true, true, true, true, false]) ?_
        exact k47 M5 r1 v2 v3 v4 X16 hX16 h
      · have h := h.2 hx6
        refine zj_iload (pc := 38) hc dX6_packBest_38 rfl ?_
        refine zj_istore_n (pc := 40) hc dX6_packBest_40 (by decide) ?_
        refine zj_aload_n (pc := 41) hc dX6_packBest_41 rfl ?_
        refine zj_iload (pc := 42) hc dX6_packBest_42 rfl ?_
        refine zsv_X6_3 (pc := 44) ho hc lk_X6_22 dX6_packBest_44 (fun M7 hM7 => ?_)
        have h := h M7 hM7
        refine zj_mask (bs := [true, true, true, true, true, false]) ?_
        exact k47 M7 r1 v2 y4 v4 X16 hX16 h
  unfold T_X6_packBest at h
  refine zj_aload_n (pc := 0) hc dX6_packBest_0 rfl ?_
  refine zj_aload_n (pc := 1) hc dX6_packBest_1 rfl ?_
  refine zj_iload_n (pc := 2) hc dX6_packBest_2 rfl ?_
  refine zj_iconst (pc := 3) hc dX6_packBest_3 (zin _ rfl) ?_
  refine zj_vti (pc := 4) (st := []) hc ks_X6_packRow iv_X6_packRow lk_X6_37 (zrvv_X6 G M ho) (S_X6_packRow l G ho r1 v2 0 M _ h) rfl ⟨Nat.le_of_ble_eq_true rfl, Nat.le_of_ble_eq_true rfl⟩ (Nat.le_of_ble_eq_true rfl) ⟨Nat.le_of_ble_eq_true rfl, Nat.le_of_ble_eq_true rfl⟩ dX6_packBest_4 rfl (fun y8 M9 h => ?_)
  refine zj_istore_n (pc := 7) hc dX6_packBest_7 (by decide) ?_
  refine zj_aload_n (pc := 8) hc dX6_packBest_8 rfl ?_
  refine zj_iconst (pc := 9) hc dX6_packBest_9 (zin _ rfl) ?_
  refine zsv_X6_3 (pc := 10) ho hc lk_X6_22 dX6_packBest_10 (fun M10 hM10 => ?_)
  have h := h M10 hM10
  refine zj_iconst (pc := 13) hc dX6_packBest_13 (zin _ rfl) ?_
  refine zj_istore (pc := 14) hc dX6_packBest_14 (by decide) ?_
  exact k16 M10 r1 v2 y8 1 h
set_option maxHeartbeats 4000000 in
set_option maxRecDepth 100000 in
theorem S_X6_turnBack (l : Launch) (G : zG) {o : Nat} (ho : o = 4 ∨ o = 6) (v1 : Int) (v2 : Int) (M : zMem) (Qr : zMem → Prop) (h : T_X6_turnBack o v1 v2 Qr M) : zMetV l yX6_turnBack cX6_turnBack 7 none 0 0 0 0 G [.inr (64 * o + 63), .inl v1, .inl v2] M Qr := by
  refine zmetV (by decide) (Nat.le_of_ble_eq_true rfl) [some (.inr (64 * o + 63)), some (.inl v1), some (.inl v2), none, none, none, none] rfl ?_
  intro p e s m args below meth c hc hr hlk
  have k95 : ∀ (M : zMem) (v1 : Int) (v2 : Int) (v3 : Int) (v6 : Int) (X2 : Int → zMem → Prop) (hX2 : ∀ (v3 : Int) (M : zMem), X2 v3 M → zJ p l e (zRoom 0 0 0 0) s m args below meth c G 7 0 0 (MQ below (zQv G (Qr)) args s 0 0 (zA G)) 2 [some (.inr (64 * o + 63)), some (.inl v1), some (.inl v2), some (.inl v3), none, none, none] [] M), T_X6_turnBack_95 o v1 v2 v3 v6 X2 Qr M → zJ p l e (zRoom 0 0 0 0) s m args below meth c G 7 0 0 (MQ below (zQv G (Qr)) args s 0 0 (zA G)) 95 [some (.inr (64 * o + 63)), some (.inl v1), some (.inl v2), some (.inl v3), none, none, some (.inl v6)] [] M := by
    intro M v1 v2 v3 v6 X2 hX2 h
    unfold T_X6_turnBack_95 at h
    refine zj_aload_n (pc := 95) hc dX6_turnBack_95 rfl ?_
    refine zgv_X6_1 (pc := 96) ho hc lk_X6_15 dX6_turnBack_96 ?_
    refine zj_iload_n (pc := 99) hc dX6_turnBack_99 rfl ?_
    refine zj_iload (pc := 100) hc dX6_turnBack_100 rfl ?_
    refine zj_sipush (pc := 102) hc dX6_turnBack_102 (by decide) (zin _ rfl) ?_
    refine zj_iand (pc := 105) hc dX6_turnBack_105 ?_
    refine zj_iast (pc := 106) hc dX6_turnBack_106 (alenv_X6_1 ho) h.1 (fun M1 hM1 => ?_)
    have h := h.2 M1 hM1
    refine zj_iinc (pc := 107) hc dX6_turnBack_107 rfl (by decide) h.1 ?_
    have h := h.2
    refine zj_goto (pc := 110) (tgt := 2) hc dX6_turnBack_110 (by decide) ?_
    refine zj_mask (bs := [true, true, true, true, true, true, false]) ?_
    exact hX2 (v3 + 1) M1 h
  have k43 : ∀ (M : zMem) (v1 : Int) (v2 : Int) (v3 : Int) (v4 : Int) (s0 : Int) (X2 : Int → zMem → Prop) (hX2 : ∀ (v3 : Int) (M : zMem), X2 v3 M → zJ p l e (zRoom 0 0 0 0) s m args below meth c G 7 0 0 (MQ below (zQv G (Qr)) args s 0 0 (zA G)) 2 [some (.inr (64 * o + 63)), some (.inl v1), some (.inl v2), some (.inl v3), none, none, none] [] M), T_X6_turnBack_43 o v1 v2 v3 v4 s0 X2 Qr M → zJ p l e (zRoom 0 0 0 0) s m args below meth c G 7 0 0 (MQ below (zQv G (Qr)) args s 0 0 (zA G)) 43 [some (.inr (64 * o + 63)), some (.inl v1), some (.inl v2), some (.inl v3), some (.inl v4), none, none] [.inl s0] M := by
    intro M v1 v2 v3 v4 s0 X2 hX2 h
    unfold T_X6_turnBack_43 at h
    refine zj_istore (pc := 43) hc dX6_turnBack_43 (by decide) ?_
    refine zj_aload_n (pc := 45) hc dX6_turnBack_45 rfl ?_
    refine zgv_X6_1 (pc := 46) ho hc lk_X6_15 dX6_turnBack_46 ?_
    refine zj_iload_n (pc := 49) hc dX6_turnBack_49 rfl ?_
    refine zj_iald (pc := 50) hc dX6_turnBack_50 (alenv_X6_1 ho) h.1 ?_
    have h := h.2
    refine zj_istore (pc := 51) hc dX6_turnBack_51 (by decide) ?_
    refine zj_iload_n (pc := 53) hc dX6_turnBack_53 rfl ?_
    refine zj_iconst (pc := 54) hc dX6_turnBack_54 (zin _ rfl) ?_
    refine zj_icmp_ne (pc := 55) (tgt := 68) hc dX6_turnBack_55 (by decide) (fun hx2 => ?_) (fun hx2 => ?_)
    · have h := h.1 hx2
      refine zj_iload_n (pc := 68) hc dX6_turnBack_68 rfl ?_
      refine zj_iconst (pc := 69) hc dX6_turnBack_69 (zin _ rfl) ?_
      refine zj_icmp_ne (pc := 70) (tgt := 83) hc dX6_turnBack_70 (by decide) (fun hx3 => ?_) (fun hx3 => ?_)
      · have h := h.1 hx3
        refine zj_iload_n (pc := 83) hc dX6_turnBack_83 rfl ?_
        refine zj_iconst (pc := 84) hc dX6_turnBack_84 (zin _ rfl) ?_
        refine zj_icmp_ne (pc := 85) (tgt := 95) hc dX6_turnBack_85 (by decide) (fun hx4 => ?_) (fun hx4 => ?_)
        · have h := h.1 hx4
          refine zj_mask (bs := [true, true, true, true, false, false, true]) ?_
          exact k95 M v1 v2 v3 (M.2 (64 * o + 1) v3) X2 hX2 h
        · have h := h.2 hx4
          refine zj_iload (pc := 88) hc dX6_turnBack_88 rfl ?_
          refine zj_iload (pc := 90) hc dX6_turnBack_90 rfl ?_
          refine zj_iadd (pc := 92) hc dX6_turnBack_92 h.1 ?_
          have h := h.2
          refine zj_istore (pc := 93) hc dX6_turnBack_93 (by decide) ?_
          refine zj_mask (bs := [true, true, true, true, false, false, true]) ?_
          exact k95 M v1 v2 v3 ((M.2 (64 * o + 1) v3) + s0) X2 hX2 h
      · have h := h.2 hx3
        refine zj_iload (pc := 73) hc dX6_turnBack_73 rfl ?_
        refine zj_iload (pc := 75) hc dX6_turnBack_75 rfl ?_
        refine zj_ixor (pc := 77) hc dX6_turnBack_77 ?_
        refine zj_istore (pc := 78) hc dX6_turnBack_78 (by decide) ?_
        refine zj_goto (pc := 80) (tgt := 95) hc dX6_turnBack_80 (by decide) ?_
        refine zj_mask (bs := [true, true, true, true, false, false, true]) ?_
        exact k95 M v1 v2 v3 (zxor (M.2 (64 * o + 1) v3) v4) X2 hX2 h
    · have h := h.2 hx2
      refine zj_iload (pc := 58) hc dX6_turnBack_58 rfl ?_
      refine zj_iload (pc := 60) hc dX6_turnBack_60 rfl ?_
      refine zj_iadd (pc := 62) hc dX6_turnBack_62 h.1 ?_
      have h := h.2
      refine zj_istore (pc := 63) hc dX6_turnBack_63 (by decide) ?_
      refine zj_goto (pc := 65) (tgt := 95) hc dX6_turnBack_65 (by decide) ?_
      refine zj_mask (bs := [true, true, true, true, false, false, true]) ?_
      exact k95 M v1 v2 v3 ((M.2 (64 * o + 1) v3) + v4) X2 hX2 h
  have k24 : ∀ (M : zMem) (v1 : Int) (v2 : Int) (v3 : Int) (s0 : Int) (X2 : Int → zMem → Prop) (hX2 : ∀ (v3 : Int) (M : zMem), X2 v3 M → zJ p l e (zRoom 0 0 0 0) s m args below meth c G 7 0 0 (MQ below (zQv G (Qr)) args s 0 0 (zA G)) 2 [some (.inr (64 * o + 63)), some (.inl v1), some (.inl v2), some (.inl v3), none, none, none] [] M), T_X6_turnBack_24 o v1 v2 v3 s0 X2 Qr M → zJ p l e (zRoom 0 0 0 0) s m args below meth c G 7 0 0 (MQ below (zQv G (Qr)) args s 0 0 (zA G)) 24 [some (.inr (64 * o + 63)), some (.inl v1), some (.inl v2), some (.inl v3), none, none, none] [.inl s0] M := by
    intro M v1 v2 v3 s0 X2 hX2 h
    unfold T_X6_turnBack_24 at h
    refine zj_istore (pc := 24) hc dX6_turnBack_24 (by decide) ?_
    refine zj_iload_n (pc := 26) hc dX6_turnBack_26 rfl ?_
    refine zj_iconst (pc := 27) hc dX6_turnBack_27 (zin _ rfl) ?_
    refine zj_icmp_lt (pc := 28) (tgt := 42) hc dX6_turnBack_28 (by decide) (fun hx5 => ?_) (fun hx5 => ?_)
    · have h := h.1 hx5
      refine zj_iconst (pc := 42) hc dX6_turnBack_42 (zin _ rfl) ?_
      exact k43 M v1 v2 v3 s0 0 X2 hX2 h
    · have h := h.2 hx5
      refine zj_aload_n (pc := 31) hc dX6_turnBack_31 rfl ?_
      refine zgv_X6_1 (pc := 32) ho hc lk_X6_15 dX6_turnBack_32 ?_
      refine zj_iload_n (pc := 35) hc dX6_turnBack_35 rfl ?_
      refine zj_iconst (pc := 36) hc dX6_turnBack_36 (zin _ rfl) ?_
      refine zj_isub (pc := 37) hc dX6_turnBack_37 h.1 ?_
      have h := h.2
      refine zj_iald (pc := 38) hc dX6_turnBack_38 (alenv_X6_1 ho) h.1 ?_
      have h := h.2
      refine zj_goto (pc := 39) (tgt := 43) hc dX6_turnBack_39 (by decide) ?_
      exact k43 M v1 v2 v3 s0 (M.2 (64 * o + 1) (v3 - 2)) X2 hX2 h
  have k2 : ∀ (M : zMem) (v1 : Int) (v2 : Int) (v3 : Int), T_X6_turnBack_2 o v1 v2 Qr v3 M → zJ p l e (zRoom 0 0 0 0) s m args below meth c G 7 0 0 (MQ below (zQv G (Qr)) args s 0 0 (zA G)) 2 [some (.inr (64 * o + 63)), some (.inl v1), some (.inl v2), some (.inl v3), none, none, none] [] M := by
    intro M v1 v2 v3 h
    unfold T_X6_turnBack_2 at h
    refine zl1_use h (fun v3 M => zJ p l e (zRoom 0 0 0 0) s m args below meth c G 7 0 0 (MQ below (zQv G (Qr)) args s 0 0 (zA G)) 2 [some (.inr (64 * o + 63)), some (.inl v1), some (.inl v2), some (.inl v3), none, none, none] [] M) (fun X2 hX2 v3 M h => ?_)
    refine zj_iload_n (pc := 2) hc dX6_turnBack_2 rfl ?_
    refine zj_iload_n (pc := 3) hc dX6_turnBack_3 rfl ?_
    refine zj_icmp_ge (pc := 4) (tgt := 113) hc dX6_turnBack_4 (by decide) (fun hx6 => ?_) (fun hx6 => ?_)
    · have h := h.1 hx6
      exact zj_vret (pc := 113) hc hr hlk dX6_turnBack_113 (by decide) (by decide) h
    · have h := h.2 hx6
      refine zj_iload_n (pc := 7) hc dX6_turnBack_7 rfl ?_
      refine zj_iconst (pc := 8) hc dX6_turnBack_8 (zin _ rfl) ?_
      refine zj_icmp_lt (pc := 9) (tgt := 23) hc dX6_turnBack_9 (by decide) (fun hx7 => ?_) (fun hx7 => ?_)
      · have h := h.1 hx7
        refine zj_iconst (pc := 23) hc dX6_turnBack_23 (zin _ rfl) ?_
        exact k24 M v1 v2 v3 0 X2 hX2 h
      · have h := h.2 hx7
        refine zj_aload_n (pc := 12) hc dX6_turnBack_12 rfl ?_
        refine zgv_X6_1 (pc := 13) ho hc lk_X6_15 dX6_turnBack_13 ?_
        refine zj_iload_n (pc := 16) hc dX6_turnBack_16 rfl ?_
        refine zj_iconst (pc := 17) hc dX6_turnBack_17 (zin _ rfl) ?_
        refine zj_isub (pc := 18) hc dX6_turnBack_18 h.1 ?_
        have h := h.2
        refine zj_iald (pc := 19) hc dX6_turnBack_19 (alenv_X6_1 ho) h.1 ?_
        have h := h.2
        refine zj_goto (pc := 20) (tgt := 24) hc dX6_turnBack_20 (by decide) ?_
        exact k24 M v1 v2 v3 (M.2 (64 * o + 1) (v3 - 1)) X2 hX2 h
  unfold T_X6_turnBack at h
  refine zj_iconst (pc := 0) hc dX6_turnBack_0 (zin _ rfl) ?_
  refine zj_istore_n (pc := 1) hc dX6_turnBack_1 (by decide) ?_
  exact k2 M v1 v2 0 h
set_option maxHeartbeats 4000000 in
set_option maxRecDepth 100000 in
theorem S_X6_unpackLike (l : Launch) (G : zG) {o : Nat} (ho : o = 4 ∨ o = 6) (r1 : Nat) (v2 : Int) (v3 : Int) (v4 : Int) (M : zMem) (Qr : Int → zMem → Prop) (h : T_X6_unpackLike o r1 v2 v3 v4 Qr M) : zMetI l yX6_unpackLike cX6_unpackLike 8 (some .int) 0 0 0 0 G [.inr (64 * o + 63), .inr r1, .inl v2, .inl v3, .inl v4] M Qr := by
  refine zmetI (by decide) (Nat.le_of_ble_eq_true rfl) [some (.inr (64 * o + 63)), some (.inr r1), some (.inl v2), some (.inl v3), some (.inl v4), none, none, none] rfl ?_
  intro p e s m args below meth c hc hr hlk
  have k79 : ∀ (M : zMem) (v4 : Int) (v5 : Int) (v6 : Int) (v7 : Int), T_X6_unpackLike_79 o v4 v5 v6 Qr v7 M → zJ p l e (zRoom 0 0 0 0) s m args below meth c G 8 0 0 (MQ below (zQi G (Qr)) args s 0 0 (zA G)) 79 [some (.inr (64 * o + 63)), none, none, none, some (.inl v4), some (.inl v5), some (.inl v6), some (.inl v7)] [] M := by
    intro M v4 v5 v6 v7 h
    unfold T_X6_unpackLike_79 at h
    refine zl1_use h (fun v7 M => zJ p l e (zRoom 0 0 0 0) s m args below meth c G 8 0 0 (MQ below (zQi G (Qr)) args s 0 0 (zA G)) 79 [some (.inr (64 * o + 63)), none, none, none, some (.inl v4), some (.inl v5), some (.inl v6), some (.inl v7)] [] M) (fun X79 hX79 v7 M h => ?_)
    refine zj_iload (pc := 79) hc dX6_unpackLike_79 rfl ?_
    refine zj_iload (pc := 81) hc dX6_unpackLike_81 rfl ?_
    refine zj_iload (pc := 83) hc dX6_unpackLike_83 rfl ?_
    refine zj_iadd (pc := 85) hc dX6_unpackLike_85 h.1 ?_
    have h := h.2
    refine zj_icmp_ge (pc := 86) (tgt := 112) hc dX6_unpackLike_86 (by decide) (fun hx1 => ?_) (fun hx1 => ?_)
    · have h := h.1 hx1
      refine zj_iload (pc := 112) hc dX6_unpackLike_112 rfl ?_
      refine zj_iload (pc := 114) hc dX6_unpackLike_114 rfl ?_
      refine zj_iadd (pc := 116) hc dX6_unpackLike_116 h.1 ?_
      have h := h.2
      exact zj_iret (pc := 117) hc hr hlk dX6_unpackLike_117 (by decide) (by decide) h
    · have h := h.2 hx1
      refine zj_aload_n (pc := 89) hc dX6_unpackLike_89 rfl ?_
      refine zgv_X6_1 (pc := 90) ho hc lk_X6_15 dX6_unpackLike_90 ?_
      refine zj_iload (pc := 93) hc dX6_unpackLike_93 rfl ?_
      refine zj_aload_n (pc := 95) hc dX6_unpackLike_95 rfl ?_
      refine zgv_X6_1 (pc := 96) ho hc lk_X6_15 dX6_unpackLike_96 ?_
      refine zj_iload (pc := 99) hc dX6_unpackLike_99 rfl ?_
      refine zj_iload (pc := 101) hc dX6_unpackLike_101 rfl ?_
      refine zj_isub (pc := 103) hc dX6_unpackLike_103 h.1 ?_
      have h := h.2
      refine zj_iald (pc := 104) hc dX6_unpackLike_104 (alenv_X6_1 ho) h.1 ?_
      have h := h.2
      refine zj_iast (pc := 105) hc dX6_unpackLike_105 (alenv_X6_1 ho) h.1 (fun M2 hM2 => ?_)
      have h := h.2 M2 hM2
      refine zj_iinc (pc := 106) hc dX6_unpackLike_106 rfl (by decide) h.1 ?_
      have h := h.2
      refine zj_goto (pc := 109) (tgt := 79) hc dX6_unpackLike_109 (by decide) ?_
      exact hX79 (v7 + 1) M2 h
  have k43 : ∀ (M : zMem) (v2 : Int) (v4 : Int) (v5 : Int) (s0 : Int), T_X6_unpackLike_43 o v2 v4 v5 s0 Qr M → zJ p l e (zRoom 0 0 0 0) s m args below meth c G 8 0 0 (MQ below (zQi G (Qr)) args s 0 0 (zA G)) 43 [some (.inr (64 * o + 63)), none, some (.inl v2), none, some (.inl v4), some (.inl v5), none, none] [.inl s0] M := by
    intro M v2 v4 v5 s0 h
    unfold T_X6_unpackLike_43 at h
    refine zj_istore (pc := 43) hc dX6_unpackLike_43 (by decide) ?_
    refine zj_iload (pc := 45) hc dX6_unpackLike_45 rfl ?_
    refine zj_iconst (pc := 47) hc dX6_unpackLike_47 (zin _ rfl) ?_
    refine zj_icmp_lt (pc := 48) (tgt := 65) hc dX6_unpackLike_48 (by decide) (fun hx3 => ?_) (fun hx3 => ?_)
    · have h := h.1 hx3
      refine zj_aload_n (pc := 65) hc dX6_unpackLike_65 rfl ?_
      refine zj_iload_n (pc := 66) hc dX6_unpackLike_66 rfl ?_
      refine zj_iconst (pc := 67) hc dX6_unpackLike_67 (zin _ rfl) ?_
      refine zj_iadd (pc := 68) hc dX6_unpackLike_68 h.1 ?_
      have h := h.2
      refine zsv_X6_2 (pc := 69) ho hc lk_X6_18 dX6_unpackLike_69 (fun M4 hM4 => ?_)
      have h := h M4 hM4
      refine zj_iload (pc := 72) hc dX6_unpackLike_72 rfl ?_
      exact zj_iret (pc := 74) hc hr hlk dX6_unpackLike_74 (by decide) (by decide) h
    · have h := h.2 hx3
      refine zj_iload (pc := 51) hc dX6_unpackLike_51 rfl ?_
      refine zj_bipush (pc := 53) hc dX6_unpackLike_53 (by decide) (zin _ rfl) ?_
      refine zj_icmp_gt (pc := 55) (tgt := 65) hc dX6_unpackLike_55 (by decide) (fun hx5 => ?_) (fun hx5 => ?_)
      · have h := h.1 hx5
        refine zj_aload_n (pc := 65) hc dX6_unpackLike_65 rfl ?_
        refine zj_iload_n (pc := 66) hc dX6_unpackLike_66 rfl ?_
        refine zj_iconst (pc := 67) hc dX6_unpackLike_67 (zin _ rfl) ?_
        refine zj_iadd (pc := 68) hc dX6_unpackLike_68 h.1 ?_
        have h := h.2
        refine zsv_X6_2 (pc := 69) ho hc lk_X6_18 dX6_unpackLike_69 (fun M6 hM6 => ?_)
        have h := h M6 hM6
        refine zj_iload (pc := 72) hc dX6_unpackLike_72 rfl ?_
        exact zj_iret (pc := 74) hc hr hlk dX6_unpackLike_74 (by decide) (by decide) h
      · have h := h.2 hx5
        refine zj_iload (pc := 58) hc dX6_unpackLike_58 rfl ?_
        refine zj_iload (pc := 60) hc dX6_unpackLike_60 rfl ?_
        refine zj_icmp_le (pc := 62) (tgt := 75) hc dX6_unpackLike_62 (by decide) (fun hx7 => ?_) (fun hx7 => ?_)
        · have h := h.1 hx7
          refine zj_iload (pc := 75) hc dX6_unpackLike_75 rfl ?_
          refine zj_istore (pc := 77) hc dX6_unpackLike_77 (by decide) ?_
          refine zj_mask (bs := [true, true, false, true, true, true, true, true]) ?_
          exact k79 M v4 v5 s0 v4 h
        · have h := h.2 hx7
          refine zj_aload_n (pc := 65) hc dX6_unpackLike_65 rfl ?_
          refine zj_iload_n (pc := 66) hc dX6_unpackLike_66 rfl ?_
          refine zj_iconst (pc := 67) hc dX6_unpackLike_67 (zin _ rfl) ?_
          refine zj_iadd (pc := 68) hc dX6_unpackLike_68 h.1 ?_
          have h := h.2
          refine zsv_X6_2 (pc := 69) ho hc lk_X6_18 dX6_unpackLike_69 (fun M8 hM8 => ?_)
          have h := h M8 hM8
          refine zj_iload (pc := 72) hc dX6_unpackLike_72 rfl ?_
          exact zj_iret (pc := 74) hc hr hlk dX6_unpackLike_74 (by decide) (by decide) h
  unfold T_X6_unpackLike at h
  refine zj_aload_n (pc := 0) hc dX6_unpackLike_0 rfl ?_
  refine zj_iload_n (pc := 1) hc dX6_unpackLike_1 rfl ?_
  refine zj_iald (pc := 2) hc dX6_unpackLike_2 rfl h.1 ?_
  have h := h.2
  refine zj_bipush (pc := 3) hc dX6_unpackLike_3 (by decide) (zin _ rfl) ?_
  refine zj_isub (pc := 5) hc dX6_unpackLike_5 h.1 ?_
  have h := h.2
  refine zj_istore (pc := 6) hc dX6_unpackLike_6 (by decide) ?_
  refine zj_iload (pc := 8) hc dX6_unpackLike_8 rfl ?_
  refine zj_iload (pc := 10) hc dX6_unpackLike_10 rfl ?_
  refine zj_iadd (pc := 12) hc dX6_unpackLike_12 h.1 ?_
  have h := h.2
  refine zj_sipush (pc := 13) hc dX6_unpackLike_13 (by decide) (zin _ rfl) ?_
  refine zj_icmp_le (pc := 16) (tgt := 27) hc dX6_unpackLike_16 (by decide) (fun hx9 => ?_) (fun hx9 => ?_)
  · have h := h.1 hx9
    refine zj_iload_n (pc := 27) hc dX6_unpackLike_27 rfl ?_
    refine zj_iconst (pc := 28) hc dX6_unpackLike_28 (zin _ rfl) ?_
    refine zj_iadd (pc := 29) hc dX6_unpackLike_29 h.1 ?_
    have h := h.2
    refine zj_iload_n (pc := 30) hc dX6_unpackLike_30 rfl ?_
    refine zj_icmp_ge (pc := 31) (tgt := 42) hc dX6_unpackLike_31 (by decide) (fun hx10 => ?_) (fun hx10 => ?_)
    · have h := h.1 hx10
      refine zj_iconst (pc := 42) hc dX6_unpackLike_42 (zin _ rfl) ?_
      refine zj_mask (bs := [true, false, true, false, true, true, true, true]) ?_
      exact k43 M v2 v4 ((M.2 r1 v2) - 125) 0 h
    · have h := h.2 hx10
      refine zj_aload_n (pc := 34) hc dX6_unpackLike_34 rfl ?_
      refine zj_iload_n (pc := 35) hc dX6_unpackLike_35 rfl ?_
      refine zj_iconst (pc := 36) hc dX6_unpackLike_36 (zin _ rfl) ?_
      refine zj_iadd (pc := 37) hc dX6_unpackLike_37 h.1 ?_
      have h := h.2
      refine zj_iald (pc := 38) hc dX6_unpackLike_38 rfl h.1 ?_
      have h := h.2
      refine zj_goto (pc := 39) (tgt := 43) hc dX6_unpackLike_39 (by decide) ?_
      refine zj_mask (bs := [true, false, true, false, true, true, true, true]) ?_
      exact k43 M v2 v4 ((M.2 r1 v2) - 125) (M.2 r1 (v2 + 1)) h
  · have h := h.2 hx9
    refine zj_aload_n (pc := 19) hc dX6_unpackLike_19 rfl ?_
    refine zj_iload_n (pc := 20) hc dX6_unpackLike_20 rfl ?_
    refine zsv_X6_2 (pc := 21) ho hc lk_X6_18 dX6_unpackLike_21 (fun M11 hM11 => ?_)
    have h := h M11 hM11
    refine zj_iload (pc := 24) hc dX6_unpackLike_24 rfl ?_
    exact zj_iret (pc := 26) hc hr hlk dX6_unpackLike_26 (by decide) (by decide) h
set_option maxHeartbeats 4000000 in
set_option maxRecDepth 100000 in
theorem S_X6_unpackSingles (l : Launch) (G : zG) {o : Nat} (ho : o = 4 ∨ o = 6) (r1 : Nat) (v2 : Int) (v3 : Int) (v4 : Int) (M : zMem) (Qr : Int → zMem → Prop) (h : T_X6_unpackSingles o r1 v2 v3 v4 Qr M) : zMetI l yX6_unpackSingles cX6_unpackSingles 6 (some .int) 1 26 0 0 G [.inr (64 * o + 63), .inr r1, .inl v2, .inl v3, .inl v4] M Qr := by
  refine zmetI (by decide) (Nat.le_of_ble_eq_true rfl) [some (.inr (64 * o + 63)), some (.inr r1), some (.inl v2), some (.inl v3), some (.inl v4), none] rfl ?_
  intro p e s m args below meth c hc hr hlk
  unfold T_X6_unpackSingles at h
  refine zj_aload_n (pc := 0) hc dX6_unpackSingles_0 rfl ?_
  refine zj_iload_n (pc := 1) hc dX6_unpackSingles_1 rfl ?_
  refine zj_iald (pc := 2) hc dX6_unpackSingles_2 rfl h.1 ?_
  have h := h.2
  refine zj_iconst (pc := 3) hc dX6_unpackSingles_3 (zin _ rfl) ?_
  refine zj_iadd (pc := 4) hc dX6_unpackSingles_4 h.1 ?_
  have h := h.2
  refine zj_istore (pc := 5) hc dX6_unpackSingles_5 (by decide) ?_
  refine zj_iload (pc := 7) hc dX6_unpackSingles_7 rfl ?_
  refine zj_iconst (pc := 9) hc dX6_unpackSingles_9 (zin _ rfl) ?_
  refine zj_icmp_lt (pc := 10) (tgt := 24) hc dX6_unpackSingles_10 (by decide) (fun hx1 => ?_) (fun hx1 => ?_)
  · have h := h.1 hx1
    refine zj_aload_n (pc := 24) hc dX6_unpackSingles_24 rfl ?_
    refine zj_iload_n (pc := 25) hc dX6_unpackSingles_25 rfl ?_
    refine zsv_X6_2 (pc := 26) ho hc lk_X6_18 dX6_unpackSingles_26 (fun M2 hM2 => ?_)
    have h := h M2 hM2
    refine zj_iload (pc := 29) hc dX6_unpackSingles_29 rfl ?_
    exact zj_iret (pc := 31) hc hr hlk dX6_unpackSingles_31 (by decide) (by decide) h
  · have h := h.2 hx1
    refine zj_iload (pc := 13) hc dX6_unpackSingles_13 rfl ?_
    refine zj_iload (pc := 15) hc dX6_unpackSingles_15 rfl ?_
    refine zj_iadd (pc := 17) hc dX6_unpackSingles_17 h.1 ?_
    have h := h.2
    refine zj_sipush (pc := 18) hc dX6_unpackSingles_18 (by decide) (zin _ rfl) ?_
    refine zj_icmp_le (pc := 21) (tgt := 32) hc dX6_unpackSingles_21 (by decide) (fun hx3 => ?_) (fun hx3 => ?_)
    · have h := h.1 hx3
      refine zj_iload_n (pc := 32) hc dX6_unpackSingles_32 rfl ?_
      refine zj_iconst (pc := 33) hc dX6_unpackSingles_33 (zin _ rfl) ?_
      refine zj_iadd (pc := 34) hc dX6_unpackSingles_34 h.1 ?_
      have h := h.2
      refine zj_iload (pc := 35) hc dX6_unpackSingles_35 rfl ?_
      refine zj_iadd (pc := 37) hc dX6_unpackSingles_37 h.1 ?_
      have h := h.2
      refine zj_iload_n (pc := 38) hc dX6_unpackSingles_38 rfl ?_
      refine zj_icmp_le (pc := 39) (tgt := 50) hc dX6_unpackSingles_39 (by decide) (fun hx4 => ?_) (fun hx4 => ?_)
      · have h := h.1 hx4
        refine zj_aload_n (pc := 50) hc dX6_unpackSingles_50 rfl ?_
        refine zj_iload_n (pc := 51) hc dX6_unpackSingles_51 rfl ?_
        refine zj_iconst (pc := 52) hc dX6_unpackSingles_52 (zin _ rfl) ?_
        refine zj_iadd (pc := 53) hc dX6_unpackSingles_53 h.1 ?_
        have h := h.2
        refine zj_aload_n (pc := 54) hc dX6_unpackSingles_54 rfl ?_
        refine zgv_X6_1 (pc := 55) ho hc lk_X6_15 dX6_unpackSingles_55 ?_
        refine zj_iload (pc := 58) hc dX6_unpackSingles_58 rfl ?_
        refine zj_iload (pc := 60) hc dX6_unpackSingles_60 rfl ?_
        refine zj_copy (pc := 62) hc dX6_unpackSingles_62 lk_X6_79 na_copy st_copy in_System rfl (alenv_X6_1 ho) h.1 (Nat.le_of_ble_eq_true rfl) (Nat.le_of_ble_eq_true rfl) (fun M5 hM5 => ?_)
        have h := h.2 M5 hM5
        refine zj_iload (pc := 65) hc dX6_unpackSingles_65 rfl ?_
        refine zj_iload (pc := 67) hc dX6_unpackSingles_67 rfl ?_
        refine zj_iadd (pc := 69) hc dX6_unpackSingles_69 h.1 ?_
        have h := h.2
        exact zj_iret (pc := 70) hc hr hlk dX6_unpackSingles_70 (by decide) (by decide) h
      · have h := h.2 hx4
        refine zj_aload_n (pc := 42) hc dX6_unpackSingles_42 rfl ?_
        refine zj_iload_n (pc := 43) hc dX6_unpackSingles_43 rfl ?_
        refine zsv_X6_2 (pc := 44) ho hc lk_X6_18 dX6_unpackSingles_44 (fun M6 hM6 => ?_)
        have h := h M6 hM6
        refine zj_iload (pc := 47) hc dX6_unpackSingles_47 rfl ?_
        exact zj_iret (pc := 49) hc hr hlk dX6_unpackSingles_49 (by decide) (by decide) h
    · have h := h.2 hx3
      refine zj_aload_n (pc := 24) hc dX6_unpackSingles_24 rfl ?_
      refine zj_iload_n (pc := 25) hc dX6_unpackSingles_25 rfl ?_
      refine zsv_X6_2 (pc := 26) ho hc lk_X6_18 dX6_unpackSingles_26 (fun M7 hM7 => ?_)
      have h := h M7 hM7
      refine zj_iload (pc := 29) hc dX6_unpackSingles_29 rfl ?_
      exact zj_iret (pc := 31) hc hr hlk dX6_unpackSingles_31 (by decide) (by decide) h
set_option maxHeartbeats 4000000 in
set_option maxRecDepth 100000 in
theorem S_X6_unpackRow (l : Launch) (G : zG) {o : Nat} (ho : o = 4 ∨ o = 6) (r1 : Nat) (v2 : Int) (v3 : Int) (v4 : Int) (M : zMem) (Qr : Int → zMem → Prop) (h : T_X6_unpackRow o r1 v2 v3 v4 Qr M) : zMetI l yX6_unpackRow cX6_unpackRow 10 (some .int) 2 51 0 0 G [.inr (64 * o + 63), .inr r1, .inl v2, .inl v3, .inl v4] M Qr := by
  refine zmetI (by decide) (Nat.le_of_ble_eq_true rfl) [some (.inr (64 * o + 63)), some (.inr r1), some (.inl v2), some (.inl v3), some (.inl v4), none, none, none, none, none] rfl ?_
  intro p e s m args below meth c hc hr hlk
  have k113 : ∀ (M : zMem) (v2 : Int) (v4 : Int) (v7 : Int), T_X6_unpackRow_113 o v2 v4 v7 Qr M → zJ p l e (zRoom 2 51 0 0) s m args below meth c G 10 0 0 (MQ below (zQi G (Qr)) args s 0 0 (zA G)) 113 [some (.inr (64 * o + 63)), none, some (.inl v2), none, some (.inl v4), none, none, some (.inl v7), none, none] [] M := by
    intro M v2 v4 v7 h
    unfold T_X6_unpackRow_113 at h
    refine zj_aload_n (pc := 113) hc dX6_unpackRow_113 rfl ?_
    refine zgv_X6_2 (pc := 114) ho hc lk_X6_18 dX6_unpackRow_114 ?_
    refine zj_iconst (pc := 117) hc dX6_unpackRow_117 (zin _ rfl) ?_
    refine zj_icmp_eq (pc := 118) (tgt := 133) hc dX6_unpackRow_118 (by decide) (fun hx1 => ?_) (fun hx1 => ?_)
    · have h := h.1 hx1
      refine zj_aload_n (pc := 133) hc dX6_unpackRow_133 rfl ?_
      refine zj_iload (pc := 134) hc dX6_unpackRow_134 rfl ?_
      refine zj_iload (pc := 136) hc dX6_unpackRow_136 rfl ?_
      refine zj_vtv (pc := 138) (st := []) hc ks_X6_turnBack iv_X6_turnBack lk_X6_75 (zrvv_X6 G M ho) (S_X6_turnBack l G ho v7 v4 M _ h) rfl ⟨Nat.le_of_ble_eq_true rfl, Nat.le_of_ble_eq_true rfl⟩ (Nat.le_of_ble_eq_true rfl) ⟨Nat.le_of_ble_eq_true rfl, Nat.le_of_ble_eq_true rfl⟩ dX6_unpackRow_138 rfl (fun M2 h => ?_)
      refine zj_iload (pc := 141) hc dX6_unpackRow_141 rfl ?_
      exact zj_iret (pc := 143) hc hr hlk dX6_unpackRow_143 (by decide) (by decide) h
    · have h := h.2 hx1
      refine zj_aload_n (pc := 121) hc dX6_unpackRow_121 rfl ?_
      refine zj_dup (pc := 122) hc dX6_unpackRow_122 ?_
      refine zgv_X6_2 (pc := 123) ho hc lk_X6_18 dX6_unpackRow_123 ?_
      refine zj_iload_n (pc := 126) hc dX6_unpackRow_126 rfl ?_
      refine zj_isub (pc := 127) hc dX6_unpackRow_127 h.1 ?_
      have h := h.2
      refine zsv_X6_2 (pc := 128) ho hc lk_X6_18 dX6_unpackRow_128 (fun M3 hM3 => ?_)
      have h := h M3 hM3
      refine zj_iconst (pc := 131) hc dX6_unpackRow_131 (zin _ rfl) ?_
      exact zj_iret (pc := 132) hc hr hlk dX6_unpackRow_132 (by decide) (by decide) h
  have k107 : ∀ (M : zMem) (r1 : Nat) (v2 : Int) (v4 : Int) (v5 : Int) (v6 : Int) (v7 : Int) (v8 : Int) (X24 : Int → Int → Int → zMem → Prop) (hX24 : ∀ (v6 : Int) (v7 : Int) (v8 : Int) (M : zMem), X24 v6 v7 v8 M → zJ p l e (zRoom 2 51 0 0) s m args below meth c G 10 0 0 (MQ below (zQi G (Qr)) args s 0 0 (zA G)) 24 [some (.inr (64 * o + 63)), some (.inr r1), some (.inl v2), none, some (.inl v4), some (.inl v5), some (.inl v6), some (.inl v7), some (.inl v8), none] [] M), T_X6_unpackRow_107 o r1 v2 v4 v5 v6 v7 v8 X24 Qr M → zJ p l e (zRoom 2 51 0 0) s m args below meth c G 10 0 0 (MQ below (zQi G (Qr)) args s 0 0 (zA G)) 107 [some (.inr (64 * o + 63)), some (.inr r1), some (.inl v2), none, some (.inl v4), some (.inl v5), some (.inl v6), some (.inl v7), some (.inl v8), none] [] M := by
    intro M r1 v2 v4 v5 v6 v7 v8 X24 hX24 h
    unfold T_X6_unpackRow_107 at h
    refine zj_iinc (pc := 107) hc dX6_unpackRow_107 rfl (by decide) h.1 ?_
    have h := h.2
    refine zj_goto (pc := 110) (tgt := 24) hc dX6_unpackRow_110 (by decide) ?_
    exact hX24 v6 v7 (v8 + 1) M h
  have k24 : ∀ (M : zMem) (r1 : Nat) (v2 : Int) (v4 : Int) (v5 : Int) (v6 : Int) (v7 : Int) (v8 : Int), T_X6_unpackRow_24 o r1 v2 v4 v5 Qr v6 v7 v8 M → zJ p l e (zRoom 2 51 0 0) s m args below meth c G 10 0 0 (MQ below (zQi G (Qr)) args s 0 0 (zA G)) 24 [some (.inr (64 * o + 63)), some (.inr r1), some (.inl v2), none, some (.inl v4), some (.inl v5), some (.inl v6), some (.inl v7), some (.inl v8), none] [] M := by
    intro M r1 v2 v4 v5 v6 v7 v8 h
    unfold T_X6_unpackRow_24 at h
    refine zl3_use h (fun v6 v7 v8 M => zJ p l e (zRoom 2 51 0 0) s m args below meth c G 10 0 0 (MQ below (zQi G (Qr)) args s 0 0 (zA G)) 24 [some (.inr (64 * o + 63)), some (.inr r1), some (.inl v2), none, some (.inl v4), some (.inl v5), some (.inl v6), some (.inl v7), some (.inl v8), none] [] M) (fun X24 hX24 v6 v7 v8 M h => ?_)
    refine zj_iload (pc := 24) hc dX6_unpackRow_24 rfl ?_
    refine zj_sipush (pc := 26) hc dX6_unpackRow_26 (by decide) (zin _ rfl) ?_
    refine zj_icmp_ge (pc := 29) (tgt := 113) hc dX6_unpackRow_29 (by decide) (fun hx4 => ?_) (fun hx4 => ?_)
    · have h := h.1 hx4
      refine zj_mask (bs := [true, false, true, true, true, false, false, true, false, true]) ?_
      exact k113 M v2 v4 v7 h
    · have h := h.2 hx4
      refine zj_iload (pc := 32) hc dX6_unpackRow_32 rfl ?_
      refine zj_if_lt (pc := 34) (tgt := 113) hc dX6_unpackRow_34 (by decide) (fun hx5 => ?_) (fun hx5 => ?_)
      · have h := h.1 hx5
        refine zj_mask (bs := [true, false, true, true, true, false, false, true, false, true]) ?_
        exact k113 M v2 v4 v7 h
      · have h := h.2 hx5
        refine zj_iload (pc := 37) hc dX6_unpackRow_37 rfl ?_
        refine zj_iload (pc := 39) hc dX6_unpackRow_39 rfl ?_
        refine zj_icmp_ge (pc := 41) (tgt := 113) hc dX6_unpackRow_41 (by decide) (fun hx6 => ?_) (fun hx6 => ?_)
        · have h := h.1 hx6
          refine zj_mask (bs := [true, false, true, true, true, false, false, true, false, true]) ?_
          exact k113 M v2 v4 v7 h
        · have h := h.2 hx6
          refine zj_aload_n (pc := 44) hc dX6_unpackRow_44 rfl ?_
          refine zgv_X6_2 (pc := 45) ho hc lk_X6_18 dX6_unpackRow_45 ?_
          refine zj_iconst (pc := 48) hc dX6_unpackRow_48 (zin _ rfl) ?_
          refine zj_icmp_ne (pc := 49) (tgt := 113) hc dX6_unpackRow_49 (by decide) (fun hx7 => ?_) (fun hx7 => ?_)
          · have h := h.1 hx7
            refine zj_mask (bs := [true, false, true, true, true, false, false, true, false, true]) ?_
            exact k113 M v2 v4 v7 h
          · have h := h.2 hx7
            refine zj_aload_n (pc := 52) hc dX6_unpackRow_52 rfl ?_
            refine zj_iload (pc := 53) hc dX6_unpackRow_53 rfl ?_
            refine zj_iald (pc := 55) hc dX6_unpackRow_55 rfl h.1 ?_
            have h := h.2
            refine zj_istore (pc := 56) hc dX6_unpackRow_56 (by decide) ?_
            refine zj_iload (pc := 58) hc dX6_unpackRow_58 rfl ?_
            refine zj_sipush (pc := 60) hc dX6_unpackRow_60 (by decide) (zin _ rfl) ?_
            refine zj_icmp_ge (pc := 63) (tgt := 91) hc dX6_unpackRow_63 (by decide) (fun hx8 => ?_) (fun hx8 => ?_)
            · have h := h.1 hx8
              refine zj_aload_n (pc := 91) hc dX6_unpackRow_91 rfl ?_
              refine zj_aload_n (pc := 92) hc dX6_unpackRow_92 rfl ?_
              refine zj_iload (pc := 93) hc dX6_unpackRow_93 rfl ?_
              refine zj_iload (pc := 95) hc dX6_unpackRow_95 rfl ?_
              refine zj_iload (pc := 97) hc dX6_unpackRow_97 rfl ?_
              refine zj_vti (pc := 99) (st := []) hc ks_X6_unpackLike iv_X6_unpackLike lk_X6_72 (zrvv_X6 G M ho) (S_X6_unpackLike l G ho r1 v6 v5 v7 M _ h) rfl ⟨Nat.le_of_ble_eq_true rfl, Nat.le_of_ble_eq_true rfl⟩ (Nat.le_of_ble_eq_true rfl) ⟨Nat.le_of_ble_eq_true rfl, Nat.le_of_ble_eq_true rfl⟩ dX6_unpackRow_99 rfl (fun y9 M10 h => ?_)
              refine zj_istore (pc := 102) hc dX6_unpackRow_102 (by decide) ?_
              refine zj_iinc (pc := 104) hc dX6_unpackRow_104 rfl (by decide) h.1 ?_
              have h := h.2
              refine zj_mask (bs := [true, true, true, true, true, true, true, true, true, false]) ?_
              exact k107 M10 r1 v2 v4 v5 (v6 + 2) y9 v8 X24 hX24 h
            · have h := h.2 hx8
              refine zj_aload_n (pc := 66) hc dX6_unpackRow_66 rfl ?_
              refine zj_aload_n (pc := 67) hc dX6_unpackRow_67 rfl ?_
              refine zj_iload (pc := 68) hc dX6_unpackRow_68 rfl ?_
              refine zj_iload (pc := 70) hc dX6_unpackRow_70 rfl ?_
              refine zj_iload (pc := 72) hc dX6_unpackRow_72 rfl ?_
              refine zj_vti (pc := 74) (st := []) hc ks_X6_unpackSingles iv_X6_unpackSingles lk_X6_68 (zrvv_X6 G M ho) (S_X6_unpackSingles l G ho r1 v6 v5 v7 M _ h) rfl ⟨Nat.le_of_ble_eq_true rfl, Nat.le_of_ble_eq_true rfl⟩ (Nat.le_of_ble_eq_true rfl) ⟨Nat.le_of_ble_eq_true rfl, Nat.le_of_ble_eq_true rfl⟩ dX6_unpackRow_74 rfl (fun y11 M12 h => ?_)
              refine zj_istore (pc := 77) hc dX6_unpackRow_77 (by decide) ?_
              refine zj_iload (pc := 79) hc dX6_unpackRow_79 rfl ?_
              refine zj_iconst (pc := 81) hc dX6_unpackRow_81 (zin _ rfl) ?_
              refine zj_iload (pc := 82) hc dX6_unpackRow_82 rfl ?_
              refine zj_iadd (pc := 84) hc dX6_unpackRow_84 h.1 ?_
              have h := h.2
              refine zj_iadd (pc := 85) hc dX6_unpackRow_85 h.1 ?_
              have h := h.2
              refine zj_istore (pc := 86) hc dX6_unpackRow_86 (by decide) ?_
              refine zj_goto (pc := 88) (tgt := 107) hc dX6_unpackRow_88 (by decide) ?_
              refine zj_mask (bs := [true, true, true, true, true, true, true, true, true, false]) ?_
              exact k107 M12 r1 v2 v4 v5 (v6 + (2 + (M.2 r1 v6))) y11 v8 X24 hX24 h
  unfold T_X6_unpackRow at h
  refine zj_aload_n (pc := 0) hc dX6_unpackRow_0 rfl ?_
  refine zj_iconst (pc := 1) hc dX6_unpackRow_1 (zin _ rfl) ?_
  refine zsv_X6_2 (pc := 2) ho hc lk_X6_18 dX6_unpackRow_2 (fun M13 hM13 => ?_)
  have h := h M13 hM13
  refine zj_aload_n (pc := 5) hc dX6_unpackRow_5 rfl ?_
  refine zj_alen (pc := 6) hc dX6_unpackRow_6 rfl h.1 ?_
  have h := h.2
  refine zj_iload_n (pc := 7) hc dX6_unpackRow_7 rfl ?_
  refine zj_iload_n (pc := 8) hc dX6_unpackRow_8 rfl ?_
  refine zj_iadd (pc := 9) hc dX6_unpackRow_9 h.1 ?_
  have h := h.2
  refine zj_min (pc := 10) hc dX6_unpackRow_10 lk_X6_41 st_min in_Math co_min (Nat.le_of_ble_eq_true rfl) (Nat.le_of_ble_eq_true rfl) ⟨Nat.le_of_ble_eq_true rfl, Nat.le_of_ble_eq_true rfl⟩ ?_
  refine zj_istore (pc := 13) hc dX6_unpackRow_13 (by decide) ?_
  refine zj_iload_n (pc := 15) hc dX6_unpackRow_15 rfl ?_
  refine zj_istore (pc := 16) hc dX6_unpackRow_16 (by decide) ?_
  refine zj_iconst (pc := 18) hc dX6_unpackRow_18 (zin _ rfl) ?_
  refine zj_istore (pc := 19) hc dX6_unpackRow_19 (by decide) ?_
  refine zj_iconst (pc := 21) hc dX6_unpackRow_21 (zin _ rfl) ?_
  refine zj_istore (pc := 22) hc dX6_unpackRow_22 (by decide) ?_
  refine zj_mask (bs := [true, true, true, false, true, true, true, true, true, true]) ?_
  exact k24 M13 r1 v2 v4 (min (alen r1) (v2 + v3)) v2 0 0 h
set_option maxHeartbeats 4000000 in
set_option maxRecDepth 100000 in
theorem S_X8_apply (l : Launch) (G : zG) {o : Nat} (ho : o = 3 ∨ o = 5) (r1 : Nat) (v2 : Int) (M : zMem) (Qr : zMem → Prop) (h : T_X8_apply o r1 v2 Qr M) : zMetV l yX8_apply cX8_apply 7 none 1 26 0 0 G [.inr (64 * o + 63), .inr r1, .inl v2] M Qr := by
  refine zmetV (by decide) (Nat.le_of_ble_eq_true rfl) [some (.inr (64 * o + 63)), some (.inr r1), some (.inl v2), none, none, none, none] rfl ?_
  intro p e s m args below meth c hc hr hlk
  have k116 : ∀ (M : zMem) (r1 : Nat) (v2 : Int) (v3 : Int) (v4 : Int) (v5 : Int) (v6 : Int), T_X8_apply_116 o r1 v2 v3 v4 v5 v6 Qr M → zJ p l e (zRoom 1 26 0 0) s m args below meth c G 7 0 0 (MQ below (zQv G (Qr)) args s 0 0 (zA G)) 116 [some (.inr (64 * o + 63)), some (.inr r1), some (.inl v2), some (.inl v3), some (.inl v4), some (.inl v5), some (.inl v6)] [] M := by
    intro M r1 v2 v3 v4 v5 v6 h
    unfold T_X8_apply_116 at h
    refine zj_iload_n (pc := 116) hc dX8_apply_116 rfl ?_
    refine zj_iconst (pc := 117) hc dX8_apply_117 (zin _ rfl) ?_
    refine zj_icmp_ne (pc := 118) (tgt := 182) hc dX8_apply_118 (by decide) (fun hx1 => ?_) (fun hx1 => ?_)
    · have h := h.1 hx1
      exact zj_vret (pc := 182) hc hr hlk dX8_apply_182 (by decide) (by decide) h
    · have h := h.2 hx1
      refine zj_aload_n (pc := 121) hc dX8_apply_121 rfl ?_
      refine zgv_X8_2 (pc := 122) ho hc lk_X8_22 dX8_apply_122 ?_
      refine zj_iload (pc := 125) hc dX8_apply_125 rfl ?_
      refine zj_iald (pc := 127) hc dX8_apply_127 (alenv_X8_2 ho) h.1 ?_
      have h := h.2
      refine zj_iconst (pc := 128) hc dX8_apply_128 (zin _ rfl) ?_
      refine zj_icmp_eq (pc := 129) (tgt := 182) hc dX8_apply_129 (by decide) (fun hx2 => ?_) (fun hx2 => ?_)
      · have h := h.1 hx2
        exact zj_vret (pc := 182) hc hr hlk dX8_apply_182 (by decide) (by decide) h
      · have h := h.2 hx2
        refine zj_aload_n (pc := 132) hc dX8_apply_132 rfl ?_
        refine zgv_X8_2 (pc := 133) ho hc lk_X8_22 dX8_apply_133 ?_
        refine zj_iload (pc := 136) hc dX8_apply_136 rfl ?_
        refine zj_iald (pc := 138) hc dX8_apply_138 (alenv_X8_2 ho) h.1 ?_
        have h := h.2
        refine zj_iload (pc := 139) hc dX8_apply_139 rfl ?_
        refine zj_iadd (pc := 141) hc dX8_apply_141 h.1 ?_
        have h := h.2
        refine zj_bipush (pc := 142) hc dX8_apply_142 (by decide) (zin _ rfl) ?_
        refine zj_icmp_gt (pc := 144) (tgt := 182) hc dX8_apply_144 (by decide) (fun hx3 => ?_) (fun hx3 => ?_)
        · have h := h.1 hx3
          exact zj_vret (pc := 182) hc hr hlk dX8_apply_182 (by decide) (by decide) h
        · have h := h.2 hx3
          refine zj_aload_n (pc := 147) hc dX8_apply_147 rfl ?_
          refine zj_iload_n (pc := 148) hc dX8_apply_148 rfl ?_
          refine zj_iconst (pc := 149) hc dX8_apply_149 (zin _ rfl) ?_
          refine zj_iadd (pc := 150) hc dX8_apply_150 h.1 ?_
          have h := h.2
          refine zj_aload_n (pc := 151) hc dX8_apply_151 rfl ?_
          refine zgv_X8_3 (pc := 152) ho hc lk_X8_25 dX8_apply_152 ?_
          refine zj_iload (pc := 155) hc dX8_apply_155 rfl ?_
          refine zj_aload_n (pc := 157) hc dX8_apply_157 rfl ?_
          refine zgv_X8_2 (pc := 158) ho hc lk_X8_22 dX8_apply_158 ?_
          refine zj_iload (pc := 161) hc dX8_apply_161 rfl ?_
          refine zj_iald (pc := 163) hc dX8_apply_163 (alenv_X8_2 ho) h.1 ?_
          have h := h.2
          refine zj_iadd (pc := 164) hc dX8_apply_164 h.1 ?_
          have h := h.2
          refine zj_iload (pc := 165) hc dX8_apply_165 rfl ?_
          refine zj_copy (pc := 167) hc dX8_apply_167 lk_X8_78 na_copy st_copy in_System rfl (alenv_X8_3 ho) h.1 (Nat.le_of_ble_eq_true rfl) (Nat.le_of_ble_eq_true rfl) (fun M4 hM4 => ?_)
          have h := h.2 M4 hM4
          refine zj_aload_n (pc := 170) hc dX8_apply_170 rfl ?_
          refine zgv_X8_2 (pc := 171) ho hc lk_X8_22 dX8_apply_171 ?_
          refine zj_iload (pc := 174) hc dX8_apply_174 rfl ?_
          refine zj_dup2 (pc := 176) hc dX8_apply_176 ?_
          refine zj_iald (pc := 177) hc dX8_apply_177 (alenv_X8_2 ho) h.1 ?_
          have h := h.2
          refine zj_iload (pc := 178) hc dX8_apply_178 rfl ?_
          refine zj_iadd (pc := 180) hc dX8_apply_180 h.1 ?_
          have h := h.2
          refine zj_iast (pc := 181) hc dX8_apply_181 (alenv_X8_2 ho) h.1 (fun M5 hM5 => ?_)
          have h := h.2 M5 hM5
          exact zj_vret (pc := 182) hc hr hlk dX8_apply_182 (by decide) (by decide) h
  unfold T_X8_apply at h
  refine zj_aload_n (pc := 0) hc dX8_apply_0 rfl ?_
  refine zj_iload_n (pc := 1) hc dX8_apply_1 rfl ?_
  refine zj_iald (pc := 2) hc dX8_apply_2 rfl h.1 ?_
  have h := h.2
  refine zj_sti (pc := 3) (st := []) hc ks_X2_kindOf st_X2_kindOf lk_X8_84 (S_X2_kindOf l G (M.2 r1 v2) M _ h) rfl ⟨Nat.le_of_ble_eq_true rfl, Nat.le_of_ble_eq_true rfl⟩ (Nat.le_of_ble_eq_true rfl) ⟨Nat.le_of_ble_eq_true rfl, Nat.le_of_ble_eq_true rfl⟩ dX8_apply_3 rfl (fun y6 M9 h => ?_)
  obtain ⟨hM9, h⟩ := h
  subst hM9
  refine zj_istore_n (pc := 6) hc dX8_apply_6 (by decide) ?_
  refine zj_aload_n (pc := 7) hc dX8_apply_7 rfl ?_
  refine zj_iload_n (pc := 8) hc dX8_apply_8 rfl ?_
  refine zj_iald (pc := 9) hc dX8_apply_9 rfl h.1 ?_
  have h := h.2
  refine zj_sti (pc := 10) (st := []) hc ks_X2_numberOf st_X2_numberOf lk_X8_88 (S_X2_numberOf l G (M.2 r1 v2) M _ h) rfl ⟨Nat.le_of_ble_eq_true rfl, Nat.le_of_ble_eq_true rfl⟩ (Nat.le_of_ble_eq_true rfl) ⟨Nat.le_of_ble_eq_true rfl, Nat.le_of_ble_eq_true rfl⟩ dX8_apply_10 rfl (fun y7 M9 h => ?_)
  obtain ⟨hM9, h⟩ := h
  subst hM9
  refine zj_istore (pc := 13) hc dX8_apply_13 (by decide) ?_
  refine zj_aload_n (pc := 15) hc dX8_apply_15 rfl ?_
  refine zj_iload_n (pc := 16) hc dX8_apply_16 rfl ?_
  refine zj_iconst (pc := 17) hc dX8_apply_17 (zin _ rfl) ?_
  refine zj_iadd (pc := 18) hc dX8_apply_18 h.1 ?_
  have h := h.2
  refine zj_iald (pc := 19) hc dX8_apply_19 rfl h.1 ?_
  have h := h.2
  refine zj_sipush (pc := 20) hc dX8_apply_20 (by decide) (zin _ rfl) ?_
  refine zj_iand (pc := 23) hc dX8_apply_23 ?_
  refine zj_istore (pc := 24) hc dX8_apply_24 (by decide) ?_
  refine zj_iload (pc := 26) hc dX8_apply_26 rfl ?_
  refine zj_bipush (pc := 28) hc dX8_apply_28 (by decide) (zin _ rfl) ?_
  refine zj_imul (pc := 30) hc dX8_apply_30 h.1 ?_
  have h := h.2
  refine zj_istore (pc := 31) hc dX8_apply_31 (by decide) ?_
  refine zj_iload_n (pc := 33) hc dX8_apply_33 rfl ?_
  refine zj_iconst (pc := 34) hc dX8_apply_34 (zin _ rfl) ?_
  refine zj_icmp_ne (pc := 35) (tgt := 65) hc dX8_apply_35 (by decide) (fun hx8 => ?_) (fun hx8 => ?_)
  · have h := h.1 hx8
    refine zj_iload_n (pc := 65) hc dX8_apply_65 rfl ?_
    refine zj_iconst (pc := 66) hc dX8_apply_66 (zin _ rfl) ?_
    refine zj_icmp_ne (pc := 67) (tgt := 81) hc dX8_apply_67 (by decide) (fun hx9 => ?_) (fun hx9 => ?_)
    · have h := h.1 hx9
      refine zj_iload_n (pc := 81) hc dX8_apply_81 rfl ?_
      refine zj_iconst (pc := 82) hc dX8_apply_82 (zin _ rfl) ?_
      refine zj_icmp_ne (pc := 83) (tgt := 116) hc dX8_apply_83 (by decide) (fun hx10 => ?_) (fun hx10 => ?_)
      · have h := h.1 hx10
        exact k116 M r1 v2 y6 y7 (zand (M.2 r1 (v2 + 1)) 255) ((zand (M.2 r1 (v2 + 1)) 255) * 8) h
      · have h := h.2 hx10
        refine zj_iload (pc := 86) hc dX8_apply_86 rfl ?_
        refine zj_aload_n (pc := 88) hc dX8_apply_88 rfl ?_
        refine zgv_X8_2 (pc := 89) ho hc lk_X8_22 dX8_apply_89 ?_
        refine zj_iload (pc := 92) hc dX8_apply_92 rfl ?_
        refine zj_iald (pc := 94) hc dX8_apply_94 (alenv_X8_2 ho) h.1 ?_
        have h := h.2
        refine zj_icmp_ge (pc := 95) (tgt := 116) hc dX8_apply_95 (by decide) (fun hx11 => ?_) (fun hx11 => ?_)
        · have h := h.1 hx11
          exact k116 M r1 v2 y6 y7 (zand (M.2 r1 (v2 + 1)) 255) ((zand (M.2 r1 (v2 + 1)) 255) * 8) h
        · have h := h.2 hx11
          refine zj_aload_n (pc := 98) hc dX8_apply_98 rfl ?_
          refine zgv_X8_3 (pc := 99) ho hc lk_X8_25 dX8_apply_99 ?_
          refine zj_iload (pc := 102) hc dX8_apply_102 rfl ?_
          refine zj_iload (pc := 104) hc dX8_apply_104 rfl ?_
          refine zj_iadd (pc := 106) hc dX8_apply_106 h.1 ?_
          have h := h.2
          refine zj_aload_n (pc := 107) hc dX8_apply_107 rfl ?_
          refine zj_iload_n (pc := 108) hc dX8_apply_108 rfl ?_
          refine zj_iconst (pc := 109) hc dX8_apply_109 (zin _ rfl) ?_
          refine zj_iadd (pc := 110) hc dX8_apply_110 h.1 ?_
          have h := h.2
          refine zj_iald (pc := 111) hc dX8_apply_111 rfl h.1 ?_
          have h := h.2
          refine zj_iast (pc := 112) hc dX8_apply_112 (alenv_X8_3 ho) h.1 (fun M12 hM12 => ?_)
          have h := h.2 M12 hM12
          refine zj_goto (pc := 113) (tgt := 182) hc dX8_apply_113 (by decide) ?_
          exact zj_vret (pc := 182) hc hr hlk dX8_apply_182 (by decide) (by decide) h
    · have h := h.2 hx9
      refine zj_aload_n (pc := 70) hc dX8_apply_70 rfl ?_
      refine zgv_X8_2 (pc := 71) ho hc lk_X8_22 dX8_apply_71 ?_
      refine zj_iload (pc := 74) hc dX8_apply_74 rfl ?_
      refine zj_iconst (pc := 76) hc dX8_apply_76 (zin _ rfl) ?_
      refine zj_iast (pc := 77) hc dX8_apply_77 (alenv_X8_2 ho) h.1 (fun M13 hM13 => ?_)
      have h := h.2 M13 hM13
      refine zj_goto (pc := 78) (tgt := 182) hc dX8_apply_78 (by decide) ?_
      exact zj_vret (pc := 182) hc hr hlk dX8_apply_182 (by decide) (by decide) h
  · have h := h.2 hx8
    refine zj_aload_n (pc := 38) hc dX8_apply_38 rfl ?_
    refine zj_iload_n (pc := 39) hc dX8_apply_39 rfl ?_
    refine zj_iconst (pc := 40) hc dX8_apply_40 (zin _ rfl) ?_
    refine zj_iadd (pc := 41) hc dX8_apply_41 h.1 ?_
    have h := h.2
    refine zj_aload_n (pc := 42) hc dX8_apply_42 rfl ?_
    refine zgv_X8_3 (pc := 43) ho hc lk_X8_25 dX8_apply_43 ?_
    refine zj_iload (pc := 46) hc dX8_apply_46 rfl ?_
    refine zj_iload (pc := 48) hc dX8_apply_48 rfl ?_
    refine zj_copy (pc := 50) hc dX8_apply_50 lk_X8_78 na_copy st_copy in_System rfl (alenv_X8_3 ho) h.1 (Nat.le_of_ble_eq_true rfl) (Nat.le_of_ble_eq_true rfl) (fun M14 hM14 => ?_)
    have h := h.2 M14 hM14
    refine zj_aload_n (pc := 53) hc dX8_apply_53 rfl ?_
    refine zgv_X8_2 (pc := 54) ho hc lk_X8_22 dX8_apply_54 ?_
    refine zj_iload (pc := 57) hc dX8_apply_57 rfl ?_
    refine zj_iload (pc := 59) hc dX8_apply_59 rfl ?_
    refine zj_iast (pc := 61) hc dX8_apply_61 (alenv_X8_2 ho) h.1 (fun M15 hM15 => ?_)
    have h := h.2 M15 hM15
    refine zj_goto (pc := 62) (tgt := 182) hc dX8_apply_62 (by decide) ?_
    exact zj_vret (pc := 182) hc hr hlk dX8_apply_182 (by decide) (by decide) h
set_option maxHeartbeats 4000000 in
set_option maxRecDepth 100000 in
theorem S_X9_isByte (l : Launch) (G : zG) (v0 : Int) (M : zMem) (Qr : Int → Prop) (h : T_X9_isByte v0 Qr M) : zMetI l yX9_isByte cX9_isByte 1 (some .boolean) 0 0 0 0 G [.inl v0] M (fun r9 M9 => M = M9 ∧ Qr r9) := by
  refine zmetI (by decide) (Nat.le_of_ble_eq_true rfl) [some (.inl v0)] rfl ?_
  intro p e s m args below meth c hc hr hlk
  unfold T_X9_isByte at h
  refine zj_iload_n (pc := 0) hc dX9_isByte_0 rfl ?_
  refine zj_if_lt (pc := 1) (tgt := 15) hc dX9_isByte_1 (by decide) (fun hx1 => ?_) (fun hx1 => ?_)
  · have h := h.1 hx1
    refine zj_iconst (pc := 15) hc dX9_isByte_15 (zin _ rfl) ?_
    exact zj_zret (pc := 16) hc hr hlk dX9_isByte_16 (by decide) (by decide) (Or.inl rfl) ⟨rfl, h⟩
  · have h := h.2 hx1
    refine zj_iload_n (pc := 4) hc dX9_isByte_4 rfl ?_
    refine zj_sipush (pc := 5) hc dX9_isByte_5 (by decide) (zin _ rfl) ?_
    refine zj_icmp_gt (pc := 8) (tgt := 15) hc dX9_isByte_8 (by decide) (fun hx2 => ?_) (fun hx2 => ?_)
    · have h := h.1 hx2
      refine zj_iconst (pc := 15) hc dX9_isByte_15 (zin _ rfl) ?_
      exact zj_zret (pc := 16) hc hr hlk dX9_isByte_16 (by decide) (by decide) (Or.inl rfl) ⟨rfl, h⟩
    · have h := h.2 hx2
      refine zj_iconst (pc := 11) hc dX9_isByte_11 (zin _ rfl) ?_
      refine zj_goto (pc := 12) (tgt := 16) hc dX9_isByte_12 (by decide) ?_
      exact zj_zret (pc := 16) hc hr hlk dX9_isByte_16 (by decide) (by decide) (Or.inr rfl) ⟨rfl, h⟩
set_option maxHeartbeats 4000000 in
set_option maxRecDepth 100000 in
theorem S_X8_takePlain (l : Launch) (G : zG) {o : Nat} (ho : o = 3 ∨ o = 5) (v1 : Int) (M : zMem) (Qr : zMem → Prop) (h : T_X8_takePlain o v1 Qr M) : zMetV l yX8_takePlain cX8_takePlain 7 none 1 26 0 0 G [.inr (64 * o + 63), .inl v1] M Qr := by
  refine zmetV (by decide) (Nat.le_of_ble_eq_true rfl) [some (.inr (64 * o + 63)), some (.inl v1), none, none, none, none, none] rfl ?_
  intro p e s m args below meth c hc hr hlk
  have k13 : ∀ (M : zMem) (v1 : Int) (v3 : Int) (v4 : Int), T_X8_takePlain_13 o v1 Qr v3 v4 M → zJ p l e (zRoom 1 26 0 0) s m args below meth c G 7 0 0 (MQ below (zQv G (Qr)) args s 0 0 (zA G)) 13 [some (.inr (64 * o + 63)), some (.inl v1), some (.inr (64 * (o + 1) + 1)), some (.inl v3), some (.inl v4), none, none] [] M := by
    intro M v1 v3 v4 h
    unfold T_X8_takePlain_13 at h
    refine zl2_use h (fun v3 v4 M => zJ p l e (zRoom 1 26 0 0) s m args below meth c G 7 0 0 (MQ below (zQv G (Qr)) args s 0 0 (zA G)) 13 [some (.inr (64 * o + 63)), some (.inl v1), some (.inr (64 * (o + 1) + 1)), some (.inl v3), some (.inl v4), none, none] [] M) (fun X13 hX13 v3 v4 M h => ?_)
    refine zj_iload (pc := 13) hc dX8_takePlain_13 rfl ?_
    refine zj_sipush (pc := 15) hc dX8_takePlain_15 (by decide) (zin _ rfl) ?_
    refine zj_icmp_ge (pc := 18) (tgt := 113) hc dX8_takePlain_18 (by decide) (fun hx1 => ?_) (fun hx1 => ?_)
    · have h := h.1 hx1
      exact zj_vret (pc := 113) hc hr hlk dX8_takePlain_113 (by decide) (by decide) h
    · have h := h.2 hx1
      refine zj_iload_n (pc := 21) hc dX8_takePlain_21 rfl ?_
      refine zj_iconst (pc := 22) hc dX8_takePlain_22 (zin _ rfl) ?_
      refine zj_iadd (pc := 23) hc dX8_takePlain_23 h.1 ?_
      have h := h.2
      refine zj_iload_n (pc := 24) hc dX8_takePlain_24 rfl ?_
      refine zj_icmp_ge (pc := 25) (tgt := 113) hc dX8_takePlain_25 (by decide) (fun hx2 => ?_) (fun hx2 => ?_)
      · have h := h.1 hx2
        exact zj_vret (pc := 113) hc hr hlk dX8_takePlain_113 (by decide) (by decide) h
      · have h := h.2 hx2
        refine zj_aload_n (pc := 28) hc dX8_takePlain_28 rfl ?_
        refine zj_iload_n (pc := 29) hc dX8_takePlain_29 rfl ?_
        refine zj_iald (pc := 30) hc dX8_takePlain_30 (alenv_X6_1 (by omega)) h.1 ?_
        have h := h.2
        refine zj_istore (pc := 31) hc dX8_takePlain_31 (by decide) ?_
        refine zj_aload_n (pc := 33) hc dX8_takePlain_33 rfl ?_
        refine zj_iload_n (pc := 34) hc dX8_takePlain_34 rfl ?_
        refine zj_iconst (pc := 35) hc dX8_takePlain_35 (zin _ rfl) ?_
        refine zj_iadd (pc := 36) hc dX8_takePlain_36 h.1 ?_
        have h := h.2
        refine zj_iald (pc := 37) hc dX8_takePlain_37 (alenv_X6_1 (by omega)) h.1 ?_
        have h := h.2
        refine zj_istore (pc := 38) hc dX8_takePlain_38 (by decide) ?_
        refine zj_iload (pc := 40) hc dX8_takePlain_40 rfl ?_
        refine zj_sni (pc := 42) (st := []) hc ks_X9_isByte st_X9_isByte (nw_X8_74) (S_X9_isByte l G (M.2 (64 * (o + 1) + 1) v3) M _ h) rfl ⟨Nat.le_of_ble_eq_true rfl, Nat.le_of_ble_eq_true rfl⟩ (Nat.le_of_ble_eq_true rfl) ⟨Nat.le_of_ble_eq_true rfl, Nat.le_of_ble_eq_true rfl⟩ dX8_takePlain_42 rfl (fun y3 M9 h => ?_)
        obtain ⟨hM9, h⟩ := h
        subst hM9
        refine zj_if_eq (pc := 45) (tgt := 113) hc dX8_takePlain_45 (by decide) (fun hx4 => ?_) (fun hx4 => ?_)
        · have h := h.1 hx4
          exact zj_vret (pc := 113) hc hr hlk dX8_takePlain_113 (by decide) (by decide) h
        · have h := h.2 hx4
          refine zj_iload (pc := 48) hc dX8_takePlain_48 rfl ?_
          refine zj_if_lt (pc := 50) (tgt := 113) hc dX8_takePlain_50 (by decide) (fun hx5 => ?_) (fun hx5 => ?_)
          · have h := h.1 hx5
            exact zj_vret (pc := 113) hc hr hlk dX8_takePlain_113 (by decide) (by decide) h
          · have h := h.2 hx5
            refine zj_iload (pc := 53) hc dX8_takePlain_53 rfl ?_
            refine zj_bipush (pc := 55) hc dX8_takePlain_55 (by decide) (zin _ rfl) ?_
            refine zj_icmp_gt (pc := 57) (tgt := 113) hc dX8_takePlain_57 (by decide) (fun hx6 => ?_) (fun hx6 => ?_)
            · have h := h.1 hx6
              exact zj_vret (pc := 113) hc hr hlk dX8_takePlain_113 (by decide) (by decide) h
            · have h := h.2 hx6
              refine zj_iload_n (pc := 60) hc dX8_takePlain_60 rfl ?_
              refine zj_iconst (pc := 61) hc dX8_takePlain_61 (zin _ rfl) ?_
              refine zj_iadd (pc := 62) hc dX8_takePlain_62 h.1 ?_
              have h := h.2
              refine zj_iload (pc := 63) hc dX8_takePlain_63 rfl ?_
              refine zj_iadd (pc := 65) hc dX8_takePlain_65 h.1 ?_
              have h := h.2
              refine zj_iload_n (pc := 66) hc dX8_takePlain_66 rfl ?_
              refine zj_icmp_le (pc := 67) (tgt := 73) hc dX8_takePlain_67 (by decide) (fun hx7 => ?_) (fun hx7 => ?_)
              · have h := h.1 hx7
                refine zj_aload_n (pc := 73) hc dX8_takePlain_73 rfl ?_
                refine zgv_X8_2 (pc := 74) ho hc lk_X8_22 dX8_takePlain_74 ?_
                refine zj_iload (pc := 77) hc dX8_takePlain_77 rfl ?_
                refine zj_iload (pc := 79) hc dX8_takePlain_79 rfl ?_
                refine zj_iast (pc := 81) hc dX8_takePlain_81 (alenv_X8_2 ho) h.1 (fun M8 hM8 => ?_)
                have h := h.2 M8 hM8
                refine zj_aload_n (pc := 82) hc dX8_takePlain_82 rfl ?_
                refine zj_iload_n (pc := 83) hc dX8_takePlain_83 rfl ?_
                refine zj_iconst (pc := 84) hc dX8_takePlain_84 (zin _ rfl) ?_
                refine zj_iadd (pc := 85) hc dX8_takePlain_85 h.1 ?_
                have h := h.2
                refine zj_aload_n (pc := 86) hc dX8_takePlain_86 rfl ?_
                refine zgv_X8_3 (pc := 87) ho hc lk_X8_25 dX8_takePlain_87 ?_
                refine zj_iload (pc := 90) hc dX8_takePlain_90 rfl ?_
                refine zj_bipush (pc := 92) hc dX8_takePlain_92 (by decide) (zin _ rfl) ?_
                refine zj_imul (pc := 94) hc dX8_takePlain_94 h.1 ?_
                have h := h.2
                refine zj_iload (pc := 95) hc dX8_takePlain_95 rfl ?_
                refine zj_copy (pc := 97) hc dX8_takePlain_97 lk_X8_78 na_copy st_copy in_System (alenv_X6_1 (by omega)) (alenv_X8_3 ho) h.1 (Nat.le_of_ble_eq_true rfl) (Nat.le_of_ble_eq_true rfl) (fun M9 hM9 => ?_)
                have h := h.2 M9 hM9
                refine zj_iload_n (pc := 100) hc dX8_takePlain_100 rfl ?_
                refine zj_iconst (pc := 101) hc dX8_takePlain_101 (zin _ rfl) ?_
                refine zj_iload (pc := 102) hc dX8_takePlain_102 rfl ?_
                refine zj_iadd (pc := 104) hc dX8_takePlain_104 h.1 ?_
                have h := h.2
                refine zj_iadd (pc := 105) hc dX8_takePlain_105 h.1 ?_
                have h := h.2
                refine zj_nm (fun v3_10 hv3_10 => ?_)
                have h := h v3_10 hv3_10
                refine zj_istore_n (pc := 106) hc dX8_takePlain_106 (by decide) ?_
                refine zj_iinc (pc := 107) hc dX8_takePlain_107 rfl (by decide) h.1 ?_
                have h := h.2
                refine zj_goto (pc := 110) (tgt := 13) hc dX8_takePlain_110 (by decide) ?_
                refine zj_mask (bs := [true, true, true, true, true, false, false]) ?_
                exact hX13 v3_10 (v4 + 1) M9 h
              · have h := h.2 hx7
                refine zj_goto (pc := 70) (tgt := 113) hc dX8_takePlain_70 (by decide) ?_
                exact zj_vret (pc := 113) hc hr hlk dX8_takePlain_113 (by decide) (by decide) h
  unfold T_X8_takePlain at h
  refine zj_aload_n (pc := 0) hc dX8_takePlain_0 rfl ?_
  refine zgv_X8_0 (pc := 1) ho hc lk_X8_12 dX8_takePlain_1 ?_
  refine zgv_X6_1 (pc := 4) (by omega) hc lk_X8_71 dX8_takePlain_4 ?_
  refine zj_astore_n (pc := 7) hc dX8_takePlain_7 (by decide) ?_
  refine zj_iconst (pc := 8) hc dX8_takePlain_8 (zin _ rfl) ?_
  refine zj_istore_n (pc := 9) hc dX8_takePlain_9 (by decide) ?_
  refine zj_iconst (pc := 10) hc dX8_takePlain_10 (zin _ rfl) ?_
  refine zj_istore (pc := 11) hc dX8_takePlain_11 (by decide) ?_
  exact k13 M v1 0 0 h
set_option maxHeartbeats 4000000 in
set_option maxRecDepth 100000 in
theorem S_X8_addPage (l : Launch) (G : zG) {o : Nat} (ho : o = 3 ∨ o = 5) (r1 : Nat) (v2 : Int) (v3 : Int) (M : zMem) (Qr : zMem → Prop) (h : T_X8_addPage o r1 v2 v3 Qr M) : zMetV l yX8_addPage cX8_addPage 9 none 3 80 0 0 G [.inr (64 * o + 63), .inr r1, .inl v2, .inl v3] M Qr := by
  refine zmetV (by decide) (Nat.le_of_ble_eq_true rfl) [some (.inr (64 * o + 63)), some (.inr r1), some (.inl v2), some (.inl v3), none, none, none, none, none] rfl ?_
  intro p e s m args below meth c hc hr hlk
  have k51 : ∀ (M : zMem) (r1 : Nat) (v3 : Int) (v6 : Int) (v5 : Int) (v7 : Int), T_X8_addPage_51 o r1 v3 v6 Qr v5 v7 M → zJ p l e (zRoom 3 80 0 0) s m args below meth c G 9 0 0 (MQ below (zQv G (Qr)) args s 0 0 (zA G)) 51 [some (.inr (64 * o + 63)), some (.inr r1), none, some (.inl v3), none, some (.inl v5), some (.inl v6), some (.inl v7), none] [] M := by
    intro M r1 v3 v6 v5 v7 h
    unfold T_X8_addPage_51 at h
    refine zl2_use h (fun v5 v7 M => zJ p l e (zRoom 3 80 0 0) s m args below meth c G 9 0 0 (MQ below (zQv G (Qr)) args s 0 0 (zA G)) 51 [some (.inr (64 * o + 63)), some (.inr r1), none, some (.inl v3), none, some (.inl v5), some (.inl v6), some (.inl v7), none] [] M) (fun X51 hX51 v5 v7 M h => ?_)
    refine zj_iload (pc := 51) hc dX8_addPage_51 rfl ?_
    refine zj_bipush (pc := 53) hc dX8_addPage_53 (by decide) (zin _ rfl) ?_
    refine zj_icmp_ge (pc := 55) (tgt := 102) hc dX8_addPage_55 (by decide) (fun hx1 => ?_) (fun hx1 => ?_)
    · have h := h.1 hx1
      exact zj_vret (pc := 102) hc hr hlk dX8_addPage_102 (by decide) (by decide) h
    · have h := h.2 hx1
      refine zj_iload (pc := 58) hc dX8_addPage_58 rfl ?_
      refine zj_iload_n (pc := 60) hc dX8_addPage_60 rfl ?_
      refine zj_icmp_ge (pc := 61) (tgt := 102) hc dX8_addPage_61 (by decide) (fun hx2 => ?_) (fun hx2 => ?_)
      · have h := h.1 hx2
        exact zj_vret (pc := 102) hc hr hlk dX8_addPage_102 (by decide) (by decide) h
      · have h := h.2 hx2
        refine zj_aload_n (pc := 64) hc dX8_addPage_64 rfl ?_
        refine zj_iload (pc := 65) hc dX8_addPage_65 rfl ?_
        refine zj_iload (pc := 67) hc dX8_addPage_67 rfl ?_
        refine zj_sti (pc := 69) (st := []) hc ks_X2_sizeAt st_X2_sizeAt lk_X8_62 (S_X2_sizeAt l G r1 v5 v6 M _ h) rfl ⟨Nat.le_of_ble_eq_true rfl, Nat.le_of_ble_eq_true rfl⟩ (Nat.le_of_ble_eq_true rfl) ⟨Nat.le_of_ble_eq_true rfl, Nat.le_of_ble_eq_true rfl⟩ dX8_addPage_69 rfl (fun y3 M9 h => ?_)
        obtain ⟨hM9, h⟩ := h
        subst hM9
        refine zj_istore (pc := 72) hc dX8_addPage_72 (by decide) ?_
        refine zj_iload (pc := 74) hc dX8_addPage_74 rfl ?_
        refine zj_if_ne (pc := 76) (tgt := 82) hc dX8_addPage_76 (by decide) (fun hx4 => ?_) (fun hx4 => ?_)
        · have h := h.1 hx4
          refine zj_aload_n (pc := 82) hc dX8_addPage_82 rfl ?_
          refine zj_aload_n (pc := 83) hc dX8_addPage_83 rfl ?_
          refine zj_iload (pc := 84) hc dX8_addPage_84 rfl ?_
          refine zj_vtv (pc := 86) (st := []) hc ks_X8_apply iv_X8_apply lk_X8_68 (zrvv_X8 G M ho) (S_X8_apply l G ho r1 v5 M _ h) rfl ⟨Nat.le_of_ble_eq_true rfl, Nat.le_of_ble_eq_true rfl⟩ (Nat.le_of_ble_eq_true rfl) ⟨Nat.le_of_ble_eq_true rfl, Nat.le_of_ble_eq_true rfl⟩ dX8_addPage_86 rfl (fun M5 h => ?_)
          refine zj_iload (pc := 89) hc dX8_addPage_89 rfl ?_
          refine zj_iload (pc := 91) hc dX8_addPage_91 rfl ?_
          refine zj_iadd (pc := 93) hc dX8_addPage_93 h.1 ?_
          have h := h.2
          refine zj_istore (pc := 94) hc dX8_addPage_94 (by decide) ?_
          refine zj_iinc (pc := 96) hc dX8_addPage_96 rfl (by decide) h.1 ?_
          have h := h.2
          refine zj_goto (pc := 99) (tgt := 51) hc dX8_addPage_99 (by decide) ?_
          refine zj_mask (bs := [true, true, true, true, true, true, true, true, false]) ?_
          exact hX51 (v5 + y3) (v7 + 1) M5 h
        · have h := h.2 hx4
          refine zj_goto (pc := 79) (tgt := 102) hc dX8_addPage_79 (by decide) ?_
          exact zj_vret (pc := 102) hc hr hlk dX8_addPage_102 (by decide) (by decide) h
  unfold T_X8_addPage at h
  refine zj_aload_n (pc := 0) hc dX8_addPage_0 rfl ?_
  refine zgv_X8_0 (pc := 1) ho hc lk_X8_12 dX8_addPage_1 ?_
  refine zj_aload_n (pc := 4) hc dX8_addPage_4 rfl ?_
  refine zj_iload_n (pc := 5) hc dX8_addPage_5 rfl ?_
  refine zj_bipush (pc := 6) hc dX8_addPage_6 (by decide) (zin _ rfl) ?_
  refine zj_imul (pc := 8) hc dX8_addPage_8 h.1 ?_
  have h := h.2
  refine zj_iconst (pc := 9) hc dX8_addPage_9 (zin _ rfl) ?_
  refine zj_iadd (pc := 10) hc dX8_addPage_10 h.1 ?_
  have h := h.2
  refine zj_aload_n (pc := 11) hc dX8_addPage_11 rfl ?_
  refine zj_iload_n (pc := 12) hc dX8_addPage_12 rfl ?_
  refine zj_sti (pc := 13) (st := [.inl ((v2 * 64) + 2), .inr r1, .inr (64 * (o + 1) + 63)]) hc ks_X4_packedSize st_X4_packedSize lk_X8_48 (S_X4_packedSize l G r1 v2 M _ h) rfl ⟨Nat.le_of_ble_eq_true rfl, Nat.le_of_ble_eq_true rfl⟩ (Nat.le_of_ble_eq_true rfl) ⟨Nat.le_of_ble_eq_true rfl, Nat.le_of_ble_eq_true rfl⟩ dX8_addPage_13 rfl (fun y6 M9 h => ?_)
  obtain ⟨hM9, h⟩ := h
  subst hM9
  refine zj_aload_n (pc := 16) hc dX8_addPage_16 rfl ?_
  refine zj_iload_n (pc := 17) hc dX8_addPage_17 rfl ?_
  refine zj_bipush (pc := 18) hc dX8_addPage_18 (by decide) (zin _ rfl) ?_
  refine zj_imul (pc := 20) hc dX8_addPage_20 h.1 ?_
  have h := h.2
  refine zj_iald (pc := 21) hc dX8_addPage_21 rfl h.1 ?_
  have h := h.2
  refine zj_vti (pc := 22) (st := []) hc ks_X6_unpackRow iv_X6_unpackRow lk_X8_51 (zrvv_X6 G M (by omega)) (S_X6_unpackRow l G (by omega) r1 ((v2 * 64) + 2) y6 (M.2 r1 (v2 * 64)) M _ h) rfl ⟨Nat.le_of_ble_eq_true rfl, Nat.le_of_ble_eq_true rfl⟩ (Nat.le_of_ble_eq_true rfl) ⟨Nat.le_of_ble_eq_true rfl, Nat.le_of_ble_eq_true rfl⟩ dX8_addPage_22 rfl (fun y7 M8 h => ?_)
  refine zj_istore (pc := 25) hc dX8_addPage_25 (by decide) ?_
  refine zj_aload_n (pc := 27) hc dX8_addPage_27 rfl ?_
  refine zj_iload (pc := 28) hc dX8_addPage_28 rfl ?_
  refine zj_vtv (pc := 30) (st := []) hc ks_X8_takePlain iv_X8_takePlain lk_X8_55 (zrvv_X8 G M8 ho) (S_X8_takePlain l G ho y7 M8 _ h) rfl ⟨Nat.le_of_ble_eq_true rfl, Nat.le_of_ble_eq_true rfl⟩ (Nat.le_of_ble_eq_true rfl) ⟨Nat.le_of_ble_eq_true rfl, Nat.le_of_ble_eq_true rfl⟩ dX8_addPage_30 rfl (fun M9 h => ?_)
  refine zj_aload_n (pc := 33) hc dX8_addPage_33 rfl ?_
  refine zj_iload_n (pc := 34) hc dX8_addPage_34 rfl ?_
  refine zj_sti (pc := 35) (st := []) hc ks_X4_logStart st_X4_logStart lk_X8_59 (S_X4_logStart l G r1 v2 M9 _ h) rfl ⟨Nat.le_of_ble_eq_true rfl, Nat.le_of_ble_eq_true rfl⟩ (Nat.le_of_ble_eq_true rfl) ⟨Nat.le_of_ble_eq_true rfl, Nat.le_of_ble_eq_true rfl⟩ dX8_addPage_35 rfl (fun y10 M9 h => ?_)
  obtain ⟨hM9, h⟩ := h
  subst hM9
  refine zj_istore (pc := 38) hc dX8_addPage_38 (by decide) ?_
  refine zj_iload_n (pc := 40) hc dX8_addPage_40 rfl ?_
  refine zj_iconst (pc := 41) hc dX8_addPage_41 (zin _ rfl) ?_
  refine zj_iadd (pc := 42) hc dX8_addPage_42 h.1 ?_
  have h := h.2
  refine zj_bipush (pc := 43) hc dX8_addPage_43 (by decide) (zin _ rfl) ?_
  refine zj_imul (pc := 45) hc dX8_addPage_45 h.1 ?_
  have h := h.2
  refine zj_istore (pc := 46) hc dX8_addPage_46 (by decide) ?_
  refine zj_iconst (pc := 48) hc dX8_addPage_48 (zin _ rfl) ?_
  refine zj_istore (pc := 49) hc dX8_addPage_49 (by decide) ?_
  refine zj_mask (bs := [true, true, false, true, false, true, true, true, true]) ?_
  exact k51 M9 r1 v3 ((v2 + 1) * 64) y10 0 h
set_option maxHeartbeats 4000000 in
set_option maxRecDepth 100000 in
theorem S_X8_loadOnly (l : Launch) (G : zG) {o : Nat} (ho : o = 3 ∨ o = 5) (r1 : Nat) (v2 : Int) (v3 : Int) (M : zMem) (Qr : zMem → Prop) (h : T_X8_loadOnly o r1 v2 v3 Qr M) : zMetV l yX8_loadOnly cX8_loadOnly 4 none 4 108 0 0 G [.inr (64 * o + 63), .inr r1, .inl v2, .inl v3] M Qr := by
  refine zmetV (by decide) (Nat.le_of_ble_eq_true rfl) [some (.inr (64 * o + 63)), some (.inr r1), some (.inl v2), some (.inl v3)] rfl ?_
  intro p e s m args below meth c hc hr hlk
  unfold T_X8_loadOnly at h
  refine zj_aload_n (pc := 0) hc dX8_loadOnly_0 rfl ?_
  refine zgv_X8_2 (pc := 1) ho hc lk_X8_22 dX8_loadOnly_1 ?_
  refine zj_iconst (pc := 4) hc dX8_loadOnly_4 (zin _ rfl) ?_
  refine zj_stv (pc := 5) (st := []) hc ks_J7_fill_53178 st_J7_fill_53178 lk_X8_28 (S_J7_fill_53178 l G (64 * o + 2) (-1) M _ h) rfl ⟨Nat.le_of_ble_eq_true rfl, Nat.le_of_ble_eq_true rfl⟩ (Nat.le_of_ble_eq_true rfl) ⟨Nat.le_of_ble_eq_true rfl, Nat.le_of_ble_eq_true rfl⟩ dX8_loadOnly_5 rfl (fun M1 h => ?_)
  refine zj_aload_n (pc := 8) hc dX8_loadOnly_8 rfl ?_
  refine zj_aload_n (pc := 9) hc dX8_loadOnly_9 rfl ?_
  refine zj_iload_n (pc := 10) hc dX8_loadOnly_10 rfl ?_
  refine zj_iload_n (pc := 11) hc dX8_loadOnly_11 rfl ?_
  refine zj_vtv (pc := 12) (st := []) hc ks_X8_addPage iv_X8_addPage lk_X8_34 (zrvv_X8 G M1 ho) (S_X8_addPage l G ho r1 v2 v3 M1 _ h) rfl ⟨Nat.le_of_ble_eq_true rfl, Nat.le_of_ble_eq_true rfl⟩ (Nat.le_of_ble_eq_true rfl) ⟨Nat.le_of_ble_eq_true rfl, Nat.le_of_ble_eq_true rfl⟩ dX8_loadOnly_12 rfl (fun M2 h => ?_)
  exact zj_vret (pc := 15) hc hr hlk dX8_loadOnly_15 (by decide) (by decide) h
set_option maxHeartbeats 4000000 in
set_option maxRecDepth 100000 in
theorem S_X8_loadAll (l : Launch) (G : zG) {o : Nat} (ho : o = 3 ∨ o = 5) (r1 : Nat) (M : zMem) (Qr : zMem → Prop) (h : T_X8_loadAll o r1 Qr M) : zMetV l yX8_loadAll cX8_loadAll 4 none 4 108 0 0 G [.inr (64 * o + 63), .inr r1] M Qr := by
  refine zmetV (by decide) (Nat.le_of_ble_eq_true rfl) [some (.inr (64 * o + 63)), some (.inr r1), none, none] rfl ?_
  intro p e s m args below meth c hc hr hlk
  have k15 : ∀ (M : zMem) (r1 : Nat) (v2 : Int) (v3 : Int), T_X8_loadAll_15 o r1 v2 Qr v3 M → zJ p l e (zRoom 4 108 0 0) s m args below meth c G 4 0 0 (MQ below (zQv G (Qr)) args s 0 0 (zA G)) 15 [some (.inr (64 * o + 63)), some (.inr r1), some (.inl v2), some (.inl v3)] [] M := by
    intro M r1 v2 v3 h
    unfold T_X8_loadAll_15 at h
    refine zl1_use h (fun v3 M => zJ p l e (zRoom 4 108 0 0) s m args below meth c G 4 0 0 (MQ below (zQv G (Qr)) args s 0 0 (zA G)) 15 [some (.inr (64 * o + 63)), some (.inr r1), some (.inl v2), some (.inl v3)] [] M) (fun X15 hX15 v3 M h => ?_)
    refine zj_iload_n (pc := 15) hc dX8_loadAll_15 rfl ?_
    refine zj_iload_n (pc := 16) hc dX8_loadAll_16 rfl ?_
    refine zj_icmp_ge (pc := 17) (tgt := 38) hc dX8_loadAll_17 (by decide) (fun hx1 => ?_) (fun hx1 => ?_)
    · have h := h.1 hx1
      exact zj_vret (pc := 38) hc hr hlk dX8_loadAll_38 (by decide) (by decide) h
    · have h := h.2 hx1
      refine zj_aload_n (pc := 20) hc dX8_loadAll_20 rfl ?_
      refine zj_aload_n (pc := 21) hc dX8_loadAll_21 rfl ?_
      refine zj_aload_n (pc := 22) hc dX8_loadAll_22 rfl ?_
      refine zj_iload_n (pc := 23) hc dX8_loadAll_23 rfl ?_
      refine zj_sti (pc := 24) (st := [.inr r1, .inr (64 * o + 63)]) hc ks_X4_pageAt st_X4_pageAt lk_X8_44 (S_X4_pageAt l G r1 v3 M _ h) rfl ⟨Nat.le_of_ble_eq_true rfl, Nat.le_of_ble_eq_true rfl⟩ (Nat.le_of_ble_eq_true rfl) ⟨Nat.le_of_ble_eq_true rfl, Nat.le_of_ble_eq_true rfl⟩ dX8_loadAll_24 rfl (fun y2 M9 h => ?_)
      obtain ⟨hM9, h⟩ := h
      subst hM9
      refine zj_bipush (pc := 27) hc dX8_loadAll_27 (by decide) (zin _ rfl) ?_
      refine zj_vtv (pc := 29) (st := []) hc ks_X8_addPage iv_X8_addPage lk_X8_34 (zrvv_X8 G M ho) (S_X8_addPage l G ho r1 y2 64 M _ h) rfl ⟨Nat.le_of_ble_eq_true rfl, Nat.le_of_ble_eq_true rfl⟩ (Nat.le_of_ble_eq_true rfl) ⟨Nat.le_of_ble_eq_true rfl, Nat.le_of_ble_eq_true rfl⟩ dX8_loadAll_29 rfl (fun M3 h => ?_)
      refine zj_iinc (pc := 32) hc dX8_loadAll_32 rfl (by decide) h.1 ?_
      have h := h.2
      refine zj_goto (pc := 35) (tgt := 15) hc dX8_loadAll_35 (by decide) ?_
      exact hX15 (v3 + 1) M3 h
  unfold T_X8_loadAll at h
  refine zj_aload_n (pc := 0) hc dX8_loadAll_0 rfl ?_
  refine zgv_X8_2 (pc := 1) ho hc lk_X8_22 dX8_loadAll_1 ?_
  refine zj_iconst (pc := 4) hc dX8_loadAll_4 (zin _ rfl) ?_
  refine zj_stv (pc := 5) (st := []) hc ks_J7_fill_53178 st_J7_fill_53178 lk_X8_28 (S_J7_fill_53178 l G (64 * o + 2) (-1) M _ h) rfl ⟨Nat.le_of_ble_eq_true rfl, Nat.le_of_ble_eq_true rfl⟩ (Nat.le_of_ble_eq_true rfl) ⟨Nat.le_of_ble_eq_true rfl, Nat.le_of_ble_eq_true rfl⟩ dX8_loadAll_5 rfl (fun M4 h => ?_)
  refine zj_aload_n (pc := 8) hc dX8_loadAll_8 rfl ?_
  refine zj_sti (pc := 9) (st := []) hc ks_X4_inUse st_X4_inUse lk_X8_38 (S_X4_inUse l G r1 M4 _ h) rfl ⟨Nat.le_of_ble_eq_true rfl, Nat.le_of_ble_eq_true rfl⟩ (Nat.le_of_ble_eq_true rfl) ⟨Nat.le_of_ble_eq_true rfl, Nat.le_of_ble_eq_true rfl⟩ dX8_loadAll_9 rfl (fun y5 M9 h => ?_)
  obtain ⟨hM9, h⟩ := h
  subst hM9
  refine zj_istore_n (pc := 12) hc dX8_loadAll_12 (by decide) ?_
  refine zj_iconst (pc := 13) hc dX8_loadAll_13 (zin _ rfl) ?_
  refine zj_istore_n (pc := 14) hc dX8_loadAll_14 (by decide) ?_
  exact k15 M4 r1 y5 0 h
set_option maxHeartbeats 4000000 in
set_option maxRecDepth 100000 in
theorem S_X8_holdsBytes (l : Launch) (G : zG) {o : Nat} (ho : o = 3 ∨ o = 5) (v1 : Int) (r2 : Nat) (v3 : Int) (M : zMem) (Qr : Int → Prop) (h : T_X8_holdsBytes o v1 r2 v3 Qr M) : zMetI l yX8_holdsBytes cX8_holdsBytes 5 (some .boolean) 0 0 0 0 G [.inr (64 * o + 63), .inl v1, .inr r2, .inl v3] M (fun r9 M9 => M = M9 ∧ Qr r9) := by
  refine zmetI (by decide) (Nat.le_of_ble_eq_true rfl) [some (.inr (64 * o + 63)), some (.inl v1), some (.inr r2), some (.inl v3), none] rfl ?_
  intro p e s m args below meth c hc hr hlk
  have k3 : ∀ (v1 : Int) (r2 : Nat) (v3 : Int) (v4 : Int), T_X8_holdsBytes_3 o v1 r2 v3 Qr v4 M → zJ p l e (zRoom 0 0 0 0) s m args below meth c G 5 0 0 (MQ below (zQi G (fun r9 M9 => M = M9 ∧ Qr r9)) args s 0 0 (zA G)) 3 [some (.inr (64 * o + 63)), some (.inl v1), some (.inr r2), some (.inl v3), some (.inl v4)] [] M := by
    intro v1 r2 v3 v4 h
    unfold T_X8_holdsBytes_3 at h
    refine zp1_use h (fun v4 => zJ p l e (zRoom 0 0 0 0) s m args below meth c G 5 0 0 (MQ below (zQi G (fun r9 M9 => M = M9 ∧ Qr r9)) args s 0 0 (zA G)) 3 [some (.inr (64 * o + 63)), some (.inl v1), some (.inr r2), some (.inl v3), some (.inl v4)] [] M) (fun X3 hX3 v4 h => ?_)
    refine zj_iload (pc := 3) hc dX8_holdsBytes_3 rfl ?_
    refine zj_aload_n (pc := 5) hc dX8_holdsBytes_5 rfl ?_
    refine zgv_X8_2 (pc := 6) ho hc lk_X8_22 dX8_holdsBytes_6 ?_
    refine zj_iload_n (pc := 9) hc dX8_holdsBytes_9 rfl ?_
    refine zj_iald (pc := 10) hc dX8_holdsBytes_10 (alenv_X8_2 ho) h.1 ?_
    have h := h.2
    refine zj_icmp_ge (pc := 11) (tgt := 43) hc dX8_holdsBytes_11 (by decide) (fun hx1 => ?_) (fun hx1 => ?_)
    · have h := h.1 hx1
      refine zj_iconst (pc := 43) hc dX8_holdsBytes_43 (zin _ rfl) ?_
      exact zj_zret (pc := 44) hc hr hlk dX8_holdsBytes_44 (by decide) (by decide) (Or.inr rfl) ⟨rfl, h⟩
    · have h := h.2 hx1
      refine zj_aload_n (pc := 14) hc dX8_holdsBytes_14 rfl ?_
      refine zgv_X8_3 (pc := 15) ho hc lk_X8_25 dX8_holdsBytes_15 ?_
      refine zj_iload_n (pc := 18) hc dX8_holdsBytes_18 rfl ?_
      refine zj_bipush (pc := 19) hc dX8_holdsBytes_19 (by decide) (zin _ rfl) ?_
      refine zj_imul (pc := 21) hc dX8_holdsBytes_21 h.1 ?_
      have h := h.2
      refine zj_iload (pc := 22) hc dX8_holdsBytes_22 rfl ?_
      refine zj_iadd (pc := 24) hc dX8_holdsBytes_24 h.1 ?_
      have h := h.2
      refine zj_iald (pc := 25) hc dX8_holdsBytes_25 (alenv_X8_3 ho) h.1 ?_
      have h := h.2
      refine zj_aload_n (pc := 26) hc dX8_holdsBytes_26 rfl ?_
      refine zj_iload_n (pc := 27) hc dX8_holdsBytes_27 rfl ?_
      refine zj_iload (pc := 28) hc dX8_holdsBytes_28 rfl ?_
      refine zj_iadd (pc := 30) hc dX8_holdsBytes_30 h.1 ?_
      have h := h.2
      refine zj_iald (pc := 31) hc dX8_holdsBytes_31 rfl h.1 ?_
      have h := h.2
      refine zj_icmp_eq (pc := 32) (tgt := 37) hc dX8_holdsBytes_32 (by decide) (fun hx2 => ?_) (fun hx2 => ?_)
      · have h := h.1 hx2
        refine zj_iinc (pc := 37) hc dX8_holdsBytes_37 rfl (by decide) h.1 ?_
        have h := h.2
        refine zj_goto (pc := 40) (tgt := 3) hc dX8_holdsBytes_40 (by decide) ?_
        exact hX3 (v4 + 1) h
      · have h := h.2 hx2
        refine zj_iconst (pc := 35) hc dX8_holdsBytes_35 (zin _ rfl) ?_
        exact zj_zret (pc := 36) hc hr hlk dX8_holdsBytes_36 (by decide) (by decide) (Or.inl rfl) ⟨rfl, h⟩
  unfold T_X8_holdsBytes at h
  refine zj_iconst (pc := 0) hc dX8_holdsBytes_0 (zin _ rfl) ?_
  refine zj_istore (pc := 1) hc dX8_holdsBytes_1 (by decide) ?_
  exact k3 v1 r2 v3 0 h
set_option maxHeartbeats 4000000 in
set_option maxRecDepth 100000 in
theorem S_X8_refusalOf (l : Launch) (G : zG) {o : Nat} (ho : o = 3 ∨ o = 5) (r1 : Nat) (v2 : Int) (M : zMem) (Qr : Int → Prop) (h : T_X8_refusalOf o r1 v2 Qr M) : zMetI l yX8_refusalOf cX8_refusalOf 7 (some .int) 1 24 0 0 G [.inr (64 * o + 63), .inr r1, .inl v2] M (fun r9 M9 => M = M9 ∧ Qr r9) := by
  refine zmetI (by decide) (Nat.le_of_ble_eq_true rfl) [some (.inr (64 * o + 63)), some (.inr r1), some (.inl v2), none, none, none, none] rfl ?_
  intro p e s m args below meth c hc hr hlk
  unfold T_X8_refusalOf at h
  refine zj_aload_n (pc := 0) hc dX8_refusalOf_0 rfl ?_
  refine zj_iload_n (pc := 1) hc dX8_refusalOf_1 rfl ?_
  refine zj_iald (pc := 2) hc dX8_refusalOf_2 rfl h.1 ?_
  have h := h.2
  refine zj_sti (pc := 3) (st := []) hc ks_X2_kindOf st_X2_kindOf lk_X8_84 (S_X2_kindOf l G (M.2 r1 v2) M _ h) rfl ⟨Nat.le_of_ble_eq_true rfl, Nat.le_of_ble_eq_true rfl⟩ (Nat.le_of_ble_eq_true rfl) ⟨Nat.le_of_ble_eq_true rfl, Nat.le_of_ble_eq_true rfl⟩ dX8_refusalOf_3 rfl (fun y1 M9 h => ?_)
  obtain ⟨hM9, h⟩ := h
  subst hM9
  refine zj_istore_n (pc := 6) hc dX8_refusalOf_6 (by decide) ?_
  refine zj_aload_n (pc := 7) hc dX8_refusalOf_7 rfl ?_
  refine zj_iload_n (pc := 8) hc dX8_refusalOf_8 rfl ?_
  refine zj_iald (pc := 9) hc dX8_refusalOf_9 rfl h.1 ?_
  have h := h.2
  refine zj_sti (pc := 10) (st := []) hc ks_X2_numberOf st_X2_numberOf lk_X8_88 (S_X2_numberOf l G (M.2 r1 v2) M _ h) rfl ⟨Nat.le_of_ble_eq_true rfl, Nat.le_of_ble_eq_true rfl⟩ (Nat.le_of_ble_eq_true rfl) ⟨Nat.le_of_ble_eq_true rfl, Nat.le_of_ble_eq_true rfl⟩ dX8_refusalOf_10 rfl (fun y2 M9 h => ?_)
  obtain ⟨hM9, h⟩ := h
  subst hM9
  refine zj_istore (pc := 13) hc dX8_refusalOf_13 (by decide) ?_
  refine zj_aload_n (pc := 15) hc dX8_refusalOf_15 rfl ?_
  refine zj_iload_n (pc := 16) hc dX8_refusalOf_16 rfl ?_
  refine zj_iconst (pc := 17) hc dX8_refusalOf_17 (zin _ rfl) ?_
  refine zj_iadd (pc := 18) hc dX8_refusalOf_18 h.1 ?_
  have h := h.2
  refine zj_iald (pc := 19) hc dX8_refusalOf_19 rfl h.1 ?_
  have h := h.2
  refine zj_sipush (pc := 20) hc dX8_refusalOf_20 (by decide) (zin _ rfl) ?_
  refine zj_iand (pc := 23) hc dX8_refusalOf_23 ?_
  refine zj_istore (pc := 24) hc dX8_refusalOf_24 (by decide) ?_
  refine zj_aload_n (pc := 26) hc dX8_refusalOf_26 rfl ?_
  refine zgv_X8_2 (pc := 27) ho hc lk_X8_22 dX8_refusalOf_27 ?_
  refine zj_iload (pc := 30) hc dX8_refusalOf_30 rfl ?_
  refine zj_iald (pc := 32) hc dX8_refusalOf_32 (alenv_X8_2 ho) h.1 ?_
  have h := h.2
  refine zj_nm (fun v6_3 hv6_3 => ?_)
  have h := h v6_3 hv6_3
  refine zj_istore (pc := 33) hc dX8_refusalOf_33 (by decide) ?_
  refine zj_iload_n (pc := 35) hc dX8_refusalOf_35 rfl ?_
  refine zj_iconst (pc := 36) hc dX8_refusalOf_36 (zin _ rfl) ?_
  refine zj_icmp_ne (pc := 37) (tgt := 67) hc dX8_refusalOf_37 (by decide) (fun hx4 => ?_) (fun hx4 => ?_)
  · have h := h.1 hx4
    refine zj_iload (pc := 67) hc dX8_refusalOf_67 rfl ?_
    refine zj_iconst (pc := 69) hc dX8_refusalOf_69 (zin _ rfl) ?_
    refine zj_icmp_ne (pc := 70) (tgt := 76) hc dX8_refusalOf_70 (by decide) (fun hx5 => ?_) (fun hx5 => ?_)
    · have h := h.1 hx5
      refine zj_iload_n (pc := 76) hc dX8_refusalOf_76 rfl ?_
      refine zj_iconst (pc := 77) hc dX8_refusalOf_77 (zin _ rfl) ?_
      refine zj_icmp_ne (pc := 78) (tgt := 116) hc dX8_refusalOf_78 (by decide) (fun hx6 => ?_) (fun hx6 => ?_)
      · have h := h.1 hx6
        refine zj_iload_n (pc := 116) hc dX8_refusalOf_116 rfl ?_
        refine zj_iconst (pc := 117) hc dX8_refusalOf_117 (zin _ rfl) ?_
        refine zj_icmp_ne (pc := 118) (tgt := 136) hc dX8_refusalOf_118 (by decide) (fun hx7 => ?_) (fun hx7 => ?_)
        · have h := h.1 hx7
          refine zj_iconst (pc := 136) hc dX8_refusalOf_136 (zin _ rfl) ?_
          exact zj_iret (pc := 137) hc hr hlk dX8_refusalOf_137 (by decide) (by decide) ⟨rfl, h⟩
        · have h := h.2 hx7
          refine zj_iload (pc := 121) hc dX8_refusalOf_121 rfl ?_
          refine zj_iload (pc := 123) hc dX8_refusalOf_123 rfl ?_
          refine zj_iadd (pc := 125) hc dX8_refusalOf_125 h.1 ?_
          have h := h.2
          refine zj_bipush (pc := 126) hc dX8_refusalOf_126 (by decide) (zin _ rfl) ?_
          refine zj_icmp_le (pc := 128) (tgt := 136) hc dX8_refusalOf_128 (by decide) (fun hx8 => ?_) (fun hx8 => ?_)
          · have h := h.1 hx8
            refine zj_iconst (pc := 136) hc dX8_refusalOf_136 (zin _ rfl) ?_
            exact zj_iret (pc := 137) hc hr hlk dX8_refusalOf_137 (by decide) (by decide) ⟨rfl, h⟩
          · have h := h.2 hx8
            refine zj_bipush (pc := 131) hc dX8_refusalOf_131 (by decide) (zin _ rfl) ?_
            refine zj_goto (pc := 133) (tgt := 137) hc dX8_refusalOf_133 (by decide) ?_
            exact zj_iret (pc := 137) hc hr hlk dX8_refusalOf_137 (by decide) (by decide) ⟨rfl, h⟩
      · have h := h.2 hx6
        refine zj_iload (pc := 81) hc dX8_refusalOf_81 rfl ?_
        refine zj_iload (pc := 83) hc dX8_refusalOf_83 rfl ?_
        refine zj_icmp_ge (pc := 85) (tgt := 109) hc dX8_refusalOf_85 (by decide) (fun hx9 => ?_) (fun hx9 => ?_)
        · have h := h.1 hx9
          refine zj_bipush (pc := 109) hc dX8_refusalOf_109 (by decide) (zin _ rfl) ?_
          refine zj_goto (pc := 111) (tgt := 115) hc dX8_refusalOf_111 (by decide) ?_
          exact zj_iret (pc := 115) hc hr hlk dX8_refusalOf_115 (by decide) (by decide) ⟨rfl, h⟩
        · have h := h.2 hx9
          refine zj_aload_n (pc := 88) hc dX8_refusalOf_88 rfl ?_
          refine zgv_X8_3 (pc := 89) ho hc lk_X8_25 dX8_refusalOf_89 ?_
          refine zj_iload (pc := 92) hc dX8_refusalOf_92 rfl ?_
          refine zj_bipush (pc := 94) hc dX8_refusalOf_94 (by decide) (zin _ rfl) ?_
          refine zj_imul (pc := 96) hc dX8_refusalOf_96 h.1 ?_
          have h := h.2
          refine zj_iload (pc := 97) hc dX8_refusalOf_97 rfl ?_
          refine zj_iadd (pc := 99) hc dX8_refusalOf_99 h.1 ?_
          have h := h.2
          refine zj_iald (pc := 100) hc dX8_refusalOf_100 (alenv_X8_3 ho) h.1 ?_
          have h := h.2
          refine zj_aload_n (pc := 101) hc dX8_refusalOf_101 rfl ?_
          refine zj_iload_n (pc := 102) hc dX8_refusalOf_102 rfl ?_
          refine zj_iconst (pc := 103) hc dX8_refusalOf_103 (zin _ rfl) ?_
          refine zj_iadd (pc := 104) hc dX8_refusalOf_104 h.1 ?_
          have h := h.2
          refine zj_iald (pc := 105) hc dX8_refusalOf_105 rfl h.1 ?_
          have h := h.2
          refine zj_icmp_ne (pc := 106) (tgt := 114) hc dX8_refusalOf_106 (by decide) (fun hx10 => ?_) (fun hx10 => ?_)
          · have h := h.1 hx10
            refine zj_iconst (pc := 114) hc dX8_refusalOf_114 (zin _ rfl) ?_
            exact zj_iret (pc := 115) hc hr hlk dX8_refusalOf_115 (by decide) (by decide) ⟨rfl, h⟩
          · have h := h.2 hx10
            refine zj_bipush (pc := 109) hc dX8_refusalOf_109 (by decide) (zin _ rfl) ?_
            refine zj_goto (pc := 111) (tgt := 115) hc dX8_refusalOf_111 (by decide) ?_
            exact zj_iret (pc := 115) hc hr hlk dX8_refusalOf_115 (by decide) (by decide) ⟨rfl, h⟩
    · have h := h.2 hx5
      refine zj_bipush (pc := 73) hc dX8_refusalOf_73 (by decide) (zin _ rfl) ?_
      exact zj_iret (pc := 75) hc hr hlk dX8_refusalOf_75 (by decide) (by decide) ⟨rfl, h⟩
  · have h := h.2 hx4
    refine zj_iload (pc := 40) hc dX8_refusalOf_40 rfl ?_
    refine zj_iload (pc := 42) hc dX8_refusalOf_42 rfl ?_
    refine zj_icmp_ne (pc := 44) (tgt := 65) hc dX8_refusalOf_44 (by decide) (fun hx11 => ?_) (fun hx11 => ?_)
    · have h := h.1 hx11
      refine zj_iconst (pc := 65) hc dX8_refusalOf_65 (zin _ rfl) ?_
      exact zj_iret (pc := 66) hc hr hlk dX8_refusalOf_66 (by decide) (by decide) ⟨rfl, h⟩
    · have h := h.2 hx11
      refine zj_aload_n (pc := 47) hc dX8_refusalOf_47 rfl ?_
      refine zj_iload (pc := 48) hc dX8_refusalOf_48 rfl ?_
      refine zj_aload_n (pc := 50) hc dX8_refusalOf_50 rfl ?_
      refine zj_iload_n (pc := 51) hc dX8_refusalOf_51 rfl ?_
      refine zj_iconst (pc := 52) hc dX8_refusalOf_52 (zin _ rfl) ?_
      refine zj_iadd (pc := 53) hc dX8_refusalOf_53 h.1 ?_
      have h := h.2
      refine zj_vti (pc := 54) (st := []) hc ks_X8_holdsBytes iv_X8_holdsBytes lk_X8_91 (zrvv_X8 G M ho) (S_X8_holdsBytes l G ho (zand (M.2 r1 (v2 + 1)) 255) r1 (v2 + 2) M _ h) rfl ⟨Nat.le_of_ble_eq_true rfl, Nat.le_of_ble_eq_true rfl⟩ (Nat.le_of_ble_eq_true rfl) ⟨Nat.le_of_ble_eq_true rfl, Nat.le_of_ble_eq_true rfl⟩ dX8_refusalOf_54 rfl (fun y12 M9 h => ?_)
      obtain ⟨hM9, h⟩ := h
      subst hM9
      refine zj_if_eq (pc := 57) (tgt := 65) hc dX8_refusalOf_57 (by decide) (fun hx13 => ?_) (fun hx13 => ?_)
      · have h := h.1 hx13
        refine zj_iconst (pc := 65) hc dX8_refusalOf_65 (zin _ rfl) ?_
        exact zj_iret (pc := 66) hc hr hlk dX8_refusalOf_66 (by decide) (by decide) ⟨rfl, h⟩
      · have h := h.2 hx13
        refine zj_bipush (pc := 60) hc dX8_refusalOf_60 (by decide) (zin _ rfl) ?_
        refine zj_goto (pc := 62) (tgt := 66) hc dX8_refusalOf_62 (by decide) ?_
        exact zj_iret (pc := 66) hc hr hlk dX8_refusalOf_66 (by decide) (by decide) ⟨rfl, h⟩
set_option maxHeartbeats 4000000 in
set_option maxRecDepth 100000 in
theorem S_X8_sizeOf (l : Launch) (G : zG) {o : Nat} (ho : o = 3 ∨ o = 5) (v1 : Int) (M : zMem) (Qr : Int → Prop) (h : T_X8_sizeOf o v1 Qr M) : zMetI l yX8_sizeOf cX8_sizeOf 2 (some .int) 1 20 0 0 G [.inr (64 * o + 63), .inl v1] M (fun r9 M9 => M = M9 ∧ Qr r9) := by
  refine zmetI (by decide) (Nat.le_of_ble_eq_true rfl) [some (.inr (64 * o + 63)), some (.inl v1)] rfl ?_
  intro p e s m args below meth c hc hr hlk
  unfold T_X8_sizeOf at h
  refine zj_iload_n (pc := 0) hc dX8_sizeOf_0 rfl ?_
  refine zj_sni (pc := 1) (st := []) hc ks_X9_isByte st_X9_isByte (nw_X8_74) (S_X9_isByte l G v1 M _ h) rfl ⟨Nat.le_of_ble_eq_true rfl, Nat.le_of_ble_eq_true rfl⟩ (Nat.le_of_ble_eq_true rfl) ⟨Nat.le_of_ble_eq_true rfl, Nat.le_of_ble_eq_true rfl⟩ dX8_sizeOf_1 rfl (fun y1 M9 h => ?_)
  obtain ⟨hM9, h⟩ := h
  subst hM9
  refine zj_if_eq (pc := 4) (tgt := 16) hc dX8_sizeOf_4 (by decide) (fun hx2 => ?_) (fun hx2 => ?_)
  · have h := h.1 hx2
    refine zj_iconst (pc := 16) hc dX8_sizeOf_16 (zin _ rfl) ?_
    exact zj_iret (pc := 17) hc hr hlk dX8_sizeOf_17 (by decide) (by decide) ⟨rfl, h⟩
  · have h := h.2 hx2
    refine zj_aload_n (pc := 7) hc dX8_sizeOf_7 rfl ?_
    refine zgv_X8_2 (pc := 8) ho hc lk_X8_22 dX8_sizeOf_8 ?_
    refine zj_iload_n (pc := 11) hc dX8_sizeOf_11 rfl ?_
    refine zj_iald (pc := 12) hc dX8_sizeOf_12 (alenv_X8_2 ho) h.1 ?_
    have h := h.2
    refine zj_goto (pc := 13) (tgt := 17) hc dX8_sizeOf_13 (by decide) ?_
    exact zj_iret (pc := 17) hc hr hlk dX8_sizeOf_17 (by decide) (by decide) ⟨rfl, h⟩
set_option maxHeartbeats 4000000 in
set_option maxRecDepth 100000 in
theorem S_X8_byteOf (l : Launch) (G : zG) {o : Nat} (ho : o = 3 ∨ o = 5) (v1 : Int) (v2 : Int) (M : zMem) (Qr : Int → Prop) (h : T_X8_byteOf o v1 v2 Qr M) : zMetI l yX8_byteOf cX8_byteOf 3 (some .int) 2 41 0 0 G [.inr (64 * o + 63), .inl v1, .inl v2] M (fun r9 M9 => M = M9 ∧ Qr r9) := by
  refine zmetI (by decide) (Nat.le_of_ble_eq_true rfl) [some (.inr (64 * o + 63)), some (.inl v1), some (.inl v2)] rfl ?_
  intro p e s m args below meth c hc hr hlk
  unfold T_X8_byteOf at h
  refine zj_iload_n (pc := 0) hc dX8_byteOf_0 rfl ?_
  refine zj_if_lt (pc := 1) (tgt := 27) hc dX8_byteOf_1 (by decide) (fun hx1 => ?_) (fun hx1 => ?_)
  · have h := h.1 hx1
    refine zj_iconst (pc := 27) hc dX8_byteOf_27 (zin _ rfl) ?_
    exact zj_iret (pc := 28) hc hr hlk dX8_byteOf_28 (by decide) (by decide) ⟨rfl, h⟩
  · have h := h.2 hx1
    refine zj_iload_n (pc := 4) hc dX8_byteOf_4 rfl ?_
    refine zj_aload_n (pc := 5) hc dX8_byteOf_5 rfl ?_
    refine zj_iload_n (pc := 6) hc dX8_byteOf_6 rfl ?_
    refine zj_vti (pc := 7) (st := [.inl v2]) hc ks_X8_sizeOf iv_X8_sizeOf lk_X8_95 (zrvv_X8 G M ho) (S_X8_sizeOf l G ho v1 M _ h) rfl ⟨Nat.le_of_ble_eq_true rfl, Nat.le_of_ble_eq_true rfl⟩ (Nat.le_of_ble_eq_true rfl) ⟨Nat.le_of_ble_eq_true rfl, Nat.le_of_ble_eq_true rfl⟩ dX8_byteOf_7 rfl (fun y2 M9 h => ?_)
    obtain ⟨hM9, h⟩ := h
    subst hM9
    refine zj_icmp_ge (pc := 10) (tgt := 27) hc dX8_byteOf_10 (by decide) (fun hx3 => ?_) (fun hx3 => ?_)
    · have h := h.1 hx3
      refine zj_iconst (pc := 27) hc dX8_byteOf_27 (zin _ rfl) ?_
      exact zj_iret (pc := 28) hc hr hlk dX8_byteOf_28 (by decide) (by decide) ⟨rfl, h⟩
    · have h := h.2 hx3
      refine zj_aload_n (pc := 13) hc dX8_byteOf_13 rfl ?_
      refine zgv_X8_3 (pc := 14) ho hc lk_X8_25 dX8_byteOf_14 ?_
      refine zj_iload_n (pc := 17) hc dX8_byteOf_17 rfl ?_
      refine zj_bipush (pc := 18) hc dX8_byteOf_18 (by decide) (zin _ rfl) ?_
      refine zj_imul (pc := 20) hc dX8_byteOf_20 h.1 ?_
      have h := h.2
      refine zj_iload_n (pc := 21) hc dX8_byteOf_21 rfl ?_
      refine zj_iadd (pc := 22) hc dX8_byteOf_22 h.1 ?_
      have h := h.2
      refine zj_iald (pc := 23) hc dX8_byteOf_23 (alenv_X8_3 ho) h.1 ?_
      have h := h.2
      refine zj_goto (pc := 24) (tgt := 28) hc dX8_byteOf_24 (by decide) ?_
      exact zj_iret (pc := 28) hc hr hlk dX8_byteOf_28 (by decide) (by decide) ⟨rfl, h⟩
