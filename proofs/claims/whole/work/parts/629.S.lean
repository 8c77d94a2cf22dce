set_option maxHeartbeats 4000000 in
set_option maxRecDepth 100000 in
theorem S_X10_fuse (l : Launch) (G : zG) (v1 : Int) (M : zMem) (Qr : Int → zMem → Prop) (h : T_X10_fuse v1 Qr M) : zMetI l yX10_fuse cX10_fuse 3 (some .int) 1 21 0 0 G [.inr 639, .inl v1] M Qr := by
  refine zmetI (by decide) (Nat.le_of_ble_eq_true rfl) [some (.inr 639), some (.inl v1), none] rfl ?_
  intro p e s m args below meth c hc hr hlk
  unfold T_X10_fuse at h
  refine zj_aload_n (pc := 0) hc dX10_fuse_0 rfl ?_
  refine zj_iconst (pc := 1) hc dX10_fuse_1 (zin _ rfl) ?_
  refine zs_9_0 (pc := 2) hc lk_X10_77 dX10_fuse_2 (fun M1 hM1 => ?_)
  have h := h M1 hM1
  refine zj_iload_n (pc := 5) hc dX10_fuse_5 rfl ?_
  refine zj_iconst (pc := 6) hc dX10_fuse_6 (zin _ rfl) ?_
  refine zj_icmp_ge (pc := 7) (tgt := 16) hc dX10_fuse_7 (by decide) (fun hx2 => ?_) (fun hx2 => ?_)
  · have h := h.1 hx2
    refine zj_aload_n (pc := 16) hc dX10_fuse_16 rfl ?_
    refine zg_9_11 (pc := 17) hc lk_X10_35 dX10_fuse_17 ?_
    refine zj_istore_n (pc := 20) hc dX10_fuse_20 (by decide) ?_
    refine zj_aload_n (pc := 21) hc dX10_fuse_21 rfl ?_
    refine zj_iload_n (pc := 22) hc dX10_fuse_22 rfl ?_
    refine zs_9_11 (pc := 23) hc lk_X10_35 dX10_fuse_23 (fun M3 hM3 => ?_)
    have h := h M3 hM3
    refine zj_aload_n (pc := 26) hc dX10_fuse_26 rfl ?_
    refine zj_iload_n (pc := 27) hc dX10_fuse_27 rfl ?_
    refine zj_vti (pc := 28) (st := []) hc ks_X10_tells iv_X10_tells lk_X10_98 (zrv_9 G M3) (S_X10_tells l G (M1.1 587) M3 _ h) rfl ⟨Nat.le_of_ble_eq_true rfl, Nat.le_of_ble_eq_true rfl⟩ (Nat.le_of_ble_eq_true rfl) ⟨Nat.le_of_ble_eq_true rfl, Nat.le_of_ble_eq_true rfl⟩ dX10_fuse_28 rfl (fun y4 M5 h => ?_)
    exact zj_iret (pc := 31) hc hr hlk dX10_fuse_31 (by decide) (by decide) h
  · have h := h.2 hx2
    refine zj_aload_n (pc := 10) hc dX10_fuse_10 rfl ?_
    refine zj_iconst (pc := 11) hc dX10_fuse_11 (zin _ rfl) ?_
    refine zj_vti (pc := 12) (st := []) hc ks_X10_refuses iv_X10_refuses lk_X10_87 (zrv_9 G M1) (S_X10_refuses l G (-1) M1 _ h) rfl ⟨Nat.le_of_ble_eq_true rfl, Nat.le_of_ble_eq_true rfl⟩ (Nat.le_of_ble_eq_true rfl) ⟨Nat.le_of_ble_eq_true rfl, Nat.le_of_ble_eq_true rfl⟩ dX10_fuse_12 rfl (fun y6 M7 h => ?_)
    exact zj_iret (pc := 15) hc hr hlk dX10_fuse_15 (by decide) (by decide) h
set_option maxHeartbeats 4000000 in
set_option maxRecDepth 100000 in
theorem S_X10_comesBack (l : Launch) (G : zG) (M : zMem) (Qr : zMem → Prop) (h : T_X10_comesBack Qr M) : zMetV l yX10_comesBack cX10_comesBack 6 none 1 22 0 0 G [.inr 639] M Qr := by
  refine zmetV (by decide) (Nat.le_of_ble_eq_true rfl) [some (.inr 639), none, none, none, none, none] rfl ?_
  intro p e s m args below meth c hc hr hlk
  have k90 : ∀ (M : zMem) (v1 : Int) (v3 : Int) (v4 : Int), T_X10_comesBack_90 v1 v3 Qr v4 M → zJ p l e (zRoom 1 22 0 0) s m args below meth c G 6 0 0 (MQ below (zQv G (Qr)) args s 0 0 (zA G)) 90 [some (.inr 639), some (.inl v1), none, some (.inl v3), some (.inl v4), none] [] M := by
    intro M v1 v3 v4 h
    unfold T_X10_comesBack_90 at h
    refine zl1_use h (fun v4 M => zJ p l e (zRoom 1 22 0 0) s m args below meth c G 6 0 0 (MQ below (zQv G (Qr)) args s 0 0 (zA G)) 90 [some (.inr 639), some (.inl v1), none, some (.inl v3), some (.inl v4), none] [] M) (fun X90 hX90 v4 M h => ?_)
    refine zj_iload (pc := 90) hc dX10_comesBack_90 rfl ?_
    refine zj_iload_n (pc := 92) hc dX10_comesBack_92 rfl ?_
    refine zj_icmp_ge (pc := 93) (tgt := 121) hc dX10_comesBack_93 (by decide) (fun hx1 => ?_) (fun hx1 => ?_)
    · have h := h.1 hx1
      refine zj_aload_n (pc := 121) hc dX10_comesBack_121 rfl ?_
      refine zj_sipush (pc := 122) hc dX10_comesBack_122 (by decide) (zin _ rfl) ?_
      refine zj_iconst (pc := 125) hc dX10_comesBack_125 (zin _ rfl) ?_
      refine zj_vtv (pc := 126) (st := []) hc ks_X10_writes iv_X10_writes lk_X10_271 (zrv_9 G M) (S_X10_writes l G 666 0 M _ h) rfl ⟨Nat.le_of_ble_eq_true rfl, Nat.le_of_ble_eq_true rfl⟩ (Nat.le_of_ble_eq_true rfl) ⟨Nat.le_of_ble_eq_true rfl, Nat.le_of_ble_eq_true rfl⟩ dX10_comesBack_126 rfl (fun M2 h => ?_)
      exact zj_vret (pc := 129) hc hr hlk dX10_comesBack_129 (by decide) (by decide) h
    · have h := h.2 hx1
      refine zj_aload_n (pc := 96) hc dX10_comesBack_96 rfl ?_
      refine zj_sipush (pc := 97) hc dX10_comesBack_97 (by decide) (zin _ rfl) ?_
      refine zj_iload (pc := 100) hc dX10_comesBack_100 rfl ?_
      refine zj_iadd (pc := 102) hc dX10_comesBack_102 h.1 ?_
      have h := h.2
      refine zj_aload_n (pc := 103) hc dX10_comesBack_103 rfl ?_
      refine zg_9_6 (pc := 104) hc lk_X10_22 dX10_comesBack_104 ?_
      refine zj_iload_n (pc := 107) hc dX10_comesBack_107 rfl ?_
      refine zj_iload (pc := 108) hc dX10_comesBack_108 rfl ?_
      refine zj_iadd (pc := 110) hc dX10_comesBack_110 h.1 ?_
      have h := h.2
      refine zj_iald (pc := 111) hc dX10_comesBack_111 alen_582 h.1 ?_
      have h := h.2
      refine zj_vtv (pc := 112) (st := []) hc ks_X10_writes iv_X10_writes lk_X10_271 (zrv_9 G M) (S_X10_writes l G (640 + v4) (M.2 582 (v1 + v4)) M _ h) rfl ⟨Nat.le_of_ble_eq_true rfl, Nat.le_of_ble_eq_true rfl⟩ (Nat.le_of_ble_eq_true rfl) ⟨Nat.le_of_ble_eq_true rfl, Nat.le_of_ble_eq_true rfl⟩ dX10_comesBack_112 rfl (fun M3 h => ?_)
      refine zj_iinc (pc := 115) hc dX10_comesBack_115 rfl (by decide) h.1 ?_
      have h := h.2
      refine zj_goto (pc := 118) (tgt := 90) hc dX10_comesBack_118 (by decide) ?_
      exact hX90 (v4 + 1) M3 h
  have k31 : ∀ (M : zMem) (v1 : Int) (v2 : Int) (v3 : Int) (v4 : Int) (X15 : Int → Int → zMem → Prop) (hX15 : ∀ (v1 : Int) (v3 : Int) (M : zMem), X15 v1 v3 M → zJ p l e (zRoom 1 22 0 0) s m args below meth c G 6 0 0 (MQ below (zQv G (Qr)) args s 0 0 (zA G)) 15 [some (.inr 639), some (.inl v1), some (.inl v2), some (.inl v3), none, none] [] M) (v5 : Int), T_X10_comesBack_31 v1 v2 v3 v4 X15 Qr v5 M → zJ p l e (zRoom 1 22 0 0) s m args below meth c G 6 0 0 (MQ below (zQv G (Qr)) args s 0 0 (zA G)) 31 [some (.inr 639), some (.inl v1), some (.inl v2), some (.inl v3), some (.inl v4), some (.inl v5)] [] M := by
    intro M v1 v2 v3 v4 X15 hX15 v5 h
    unfold T_X10_comesBack_31 at h
    refine zl1_use h (fun v5 M => zJ p l e (zRoom 1 22 0 0) s m args below meth c G 6 0 0 (MQ below (zQv G (Qr)) args s 0 0 (zA G)) 31 [some (.inr 639), some (.inl v1), some (.inl v2), some (.inl v3), some (.inl v4), some (.inl v5)] [] M) (fun X31 hX31 v5 M h => ?_)
    refine zj_iload (pc := 31) hc dX10_comesBack_31 rfl ?_
    refine zj_bipush (pc := 33) hc dX10_comesBack_33 (by decide) (zin _ rfl) ?_
    refine zj_icmp_ge (pc := 35) (tgt := 67) hc dX10_comesBack_35 (by decide) (fun hx4 => ?_) (fun hx4 => ?_)
    · have h := h.1 hx4
      refine zj_iinc (pc := 67) hc dX10_comesBack_67 rfl (by decide) h.1 ?_
      have h := h.2
      refine zj_iinc (pc := 70) hc dX10_comesBack_70 rfl (by decide) h.1 ?_
      have h := h.2
      refine zj_goto (pc := 73) (tgt := 15) hc dX10_comesBack_73 (by decide) ?_
      refine zj_mask (bs := [true, true, true, true, false, false]) ?_
      exact hX15 (v1 + 65) (v3 + 1) M h
    · have h := h.2 hx4
      refine zj_aload_n (pc := 38) hc dX10_comesBack_38 rfl ?_
      refine zj_bipush (pc := 39) hc dX10_comesBack_39 (by decide) (zin _ rfl) ?_
      refine zj_iload (pc := 41) hc dX10_comesBack_41 rfl ?_
      refine zj_imul (pc := 43) hc dX10_comesBack_43 h.1 ?_
      have h := h.2
      refine zj_iload (pc := 44) hc dX10_comesBack_44 rfl ?_
      refine zj_iadd (pc := 46) hc dX10_comesBack_46 h.1 ?_
      have h := h.2
      refine zj_aload_n (pc := 47) hc dX10_comesBack_47 rfl ?_
      refine zg_9_6 (pc := 48) hc lk_X10_22 dX10_comesBack_48 ?_
      refine zj_iload_n (pc := 51) hc dX10_comesBack_51 rfl ?_
      refine zj_iconst (pc := 52) hc dX10_comesBack_52 (zin _ rfl) ?_
      refine zj_iadd (pc := 53) hc dX10_comesBack_53 h.1 ?_
      have h := h.2
      refine zj_iload (pc := 54) hc dX10_comesBack_54 rfl ?_
      refine zj_iadd (pc := 56) hc dX10_comesBack_56 h.1 ?_
      have h := h.2
      refine zj_iald (pc := 57) hc dX10_comesBack_57 alen_582 h.1 ?_
      have h := h.2
      refine zj_vtv (pc := 58) (st := []) hc ks_X10_writes iv_X10_writes lk_X10_271 (zrv_9 G M) (S_X10_writes l G ((64 * v4) + v5) (M.2 582 ((v1 + 1) + v5)) M _ h) rfl ⟨Nat.le_of_ble_eq_true rfl, Nat.le_of_ble_eq_true rfl⟩ (Nat.le_of_ble_eq_true rfl) ⟨Nat.le_of_ble_eq_true rfl, Nat.le_of_ble_eq_true rfl⟩ dX10_comesBack_58 rfl (fun M5 h => ?_)
      refine zj_iinc (pc := 61) hc dX10_comesBack_61 rfl (by decide) h.1 ?_
      have h := h.2
      refine zj_goto (pc := 64) (tgt := 31) hc dX10_comesBack_64 (by decide) ?_
      exact hX31 (v5 + 1) M5 h
  have k15 : ∀ (M : zMem) (v2 : Int) (v1 : Int) (v3 : Int), T_X10_comesBack_15 v2 Qr v1 v3 M → zJ p l e (zRoom 1 22 0 0) s m args below meth c G 6 0 0 (MQ below (zQv G (Qr)) args s 0 0 (zA G)) 15 [some (.inr 639), some (.inl v1), some (.inl v2), some (.inl v3), none, none] [] M := by
    intro M v2 v1 v3 h
    unfold T_X10_comesBack_15 at h
    refine zl2_use h (fun v1 v3 M => zJ p l e (zRoom 1 22 0 0) s m args below meth c G 6 0 0 (MQ below (zQv G (Qr)) args s 0 0 (zA G)) 15 [some (.inr 639), some (.inl v1), some (.inl v2), some (.inl v3), none, none] [] M) (fun X15 hX15 v1 v3 M h => ?_)
    refine zj_iload_n (pc := 15) hc dX10_comesBack_15 rfl ?_
    refine zj_iload_n (pc := 16) hc dX10_comesBack_16 rfl ?_
    refine zj_icmp_ge (pc := 17) (tgt := 76) hc dX10_comesBack_17 (by decide) (fun hx6 => ?_) (fun hx6 => ?_)
    · have h := h.1 hx6
      refine zj_iconst (pc := 76) hc dX10_comesBack_76 (zin _ rfl) ?_
      refine zj_iconst (pc := 77) hc dX10_comesBack_77 (zin _ rfl) ?_
      refine zj_aload_n (pc := 78) hc dX10_comesBack_78 rfl ?_
      refine zg_9_6 (pc := 79) hc lk_X10_22 dX10_comesBack_79 ?_
      refine zj_iload_n (pc := 82) hc dX10_comesBack_82 rfl ?_
      refine zj_iald (pc := 83) hc dX10_comesBack_83 alen_582 h.1 ?_
      have h := h.2
      refine zj_imul (pc := 84) hc dX10_comesBack_84 h.1 ?_
      have h := h.2
      refine zj_iadd (pc := 85) hc dX10_comesBack_85 h.1 ?_
      have h := h.2
      refine zj_istore_n (pc := 86) hc dX10_comesBack_86 (by decide) ?_
      refine zj_iconst (pc := 87) hc dX10_comesBack_87 (zin _ rfl) ?_
      refine zj_istore (pc := 88) hc dX10_comesBack_88 (by decide) ?_
      refine zj_mask (bs := [true, true, false, true, true, true]) ?_
      exact k90 M v1 (1 + (2 * (M.2 582 v1))) 0 h
    · have h := h.2 hx6
      refine zj_aload_n (pc := 20) hc dX10_comesBack_20 rfl ?_
      refine zg_9_6 (pc := 21) hc lk_X10_22 dX10_comesBack_21 ?_
      refine zj_iload_n (pc := 24) hc dX10_comesBack_24 rfl ?_
      refine zj_iald (pc := 25) hc dX10_comesBack_25 alen_582 h.1 ?_
      have h := h.2
      refine zj_istore (pc := 26) hc dX10_comesBack_26 (by decide) ?_
      refine zj_iconst (pc := 28) hc dX10_comesBack_28 (zin _ rfl) ?_
      refine zj_istore (pc := 29) hc dX10_comesBack_29 (by decide) ?_
      exact k31 M v1 v2 v3 (M.2 582 v1) X15 hX15 0 h
  unfold T_X10_comesBack at h
  refine zj_sipush (pc := 0) hc dX10_comesBack_0 (by decide) (zin _ rfl) ?_
  refine zj_istore_n (pc := 3) hc dX10_comesBack_3 (by decide) ?_
  refine zj_aload_n (pc := 4) hc dX10_comesBack_4 rfl ?_
  refine zg_9_6 (pc := 5) hc lk_X10_22 dX10_comesBack_5 ?_
  refine zj_sipush (pc := 8) hc dX10_comesBack_8 (by decide) (zin _ rfl) ?_
  refine zj_iald (pc := 11) hc dX10_comesBack_11 alen_582 h.1 ?_
  have h := h.2
  refine zj_istore_n (pc := 12) hc dX10_comesBack_12 (by decide) ?_
  refine zj_iconst (pc := 13) hc dX10_comesBack_13 (zin _ rfl) ?_
  refine zj_istore_n (pc := 14) hc dX10_comesBack_14 (by decide) ?_
  exact k15 M (M.2 582 667) 668 0 h
set_option maxHeartbeats 4000000 in
set_option maxRecDepth 100000 in
theorem S_X10_wipes (l : Launch) (G : zG) (v1 : Int) (M : zMem) (Qr : zMem → Prop) (h : T_X10_wipes v1 Qr M) : zMetV l yX10_wipes cX10_wipes 3 none 4 87 0 0 G [.inr 639, .inl v1] M Qr := by
  refine zmetV (by decide) (Nat.le_of_ble_eq_true rfl) [some (.inr 639), some (.inl v1), none] rfl ?_
  intro p e s m args below meth c hc hr hlk
  have k40 : ∀ (M : zMem) (v1 : Int) (v2 : Int) (X9 : Int → zMem → Prop) (hX9 : ∀ (v2 : Int) (M : zMem), X9 v2 M → zJ p l e (zRoom 4 87 0 0) s m args below meth c G 3 0 0 (MQ below (zQv G (Qr)) args s 0 0 (zA G)) 9 [some (.inr 639), some (.inl v1), some (.inl v2)] [] M), T_X10_wipes_40 v1 v2 X9 Qr M → zJ p l e (zRoom 4 87 0 0) s m args below meth c G 3 0 0 (MQ below (zQv G (Qr)) args s 0 0 (zA G)) 40 [some (.inr 639), some (.inl v1), some (.inl v2)] [] M := by
    intro M v1 v2 X9 hX9 h
    unfold T_X10_wipes_40 at h
    refine zj_iinc (pc := 40) hc dX10_wipes_40 rfl (by decide) h.1 ?_
    have h := h.2
    refine zj_goto (pc := 43) (tgt := 9) hc dX10_wipes_43 (by decide) ?_
    exact hX9 (v2 + 1) M h
  have k9 : ∀ (M : zMem) (v1 : Int) (v2 : Int), T_X10_wipes_9 v1 Qr v2 M → zJ p l e (zRoom 4 87 0 0) s m args below meth c G 3 0 0 (MQ below (zQv G (Qr)) args s 0 0 (zA G)) 9 [some (.inr 639), some (.inl v1), some (.inl v2)] [] M := by
    intro M v1 v2 h
    unfold T_X10_wipes_9 at h
    refine zl1_use h (fun v2 M => zJ p l e (zRoom 4 87 0 0) s m args below meth c G 3 0 0 (MQ below (zQv G (Qr)) args s 0 0 (zA G)) 9 [some (.inr 639), some (.inl v1), some (.inl v2)] [] M) (fun X9 hX9 v2 M h => ?_)
    refine zj_iload_n (pc := 9) hc dX10_wipes_9 rfl ?_
    refine zj_bipush (pc := 10) hc dX10_wipes_10 (by decide) (zin _ rfl) ?_
    refine zj_icmp_ge (pc := 12) (tgt := 46) hc dX10_wipes_12 (by decide) (fun hx1 => ?_) (fun hx1 => ?_)
    · have h := h.1 hx1
      exact zj_vret (pc := 46) hc hr hlk dX10_wipes_46 (by decide) (by decide) h
    · have h := h.2 hx1
      refine zj_aload_n (pc := 15) hc dX10_wipes_15 rfl ?_
      refine zg_9_6 (pc := 16) hc lk_X10_22 dX10_wipes_16 ?_
      refine zj_bipush (pc := 19) hc dX10_wipes_19 (by decide) (zin _ rfl) ?_
      refine zj_iload_n (pc := 21) hc dX10_wipes_21 rfl ?_
      refine zj_imul (pc := 22) hc dX10_wipes_22 h.1 ?_
      have h := h.2
      refine zj_iload_n (pc := 23) hc dX10_wipes_23 rfl ?_
      refine zj_iadd (pc := 24) hc dX10_wipes_24 h.1 ?_
      have h := h.2
      refine zj_iald (pc := 25) hc dX10_wipes_25 alen_582 h.1 ?_
      have h := h.2
      refine zj_if_eq (pc := 26) (tgt := 40) hc dX10_wipes_26 (by decide) (fun hx2 => ?_) (fun hx2 => ?_)
      · have h := h.1 hx2
        exact k40 M v1 v2 X9 hX9 h
      · have h := h.2 hx2
        refine zj_aload_n (pc := 29) hc dX10_wipes_29 rfl ?_
        refine zj_bipush (pc := 30) hc dX10_wipes_30 (by decide) (zin _ rfl) ?_
        refine zj_iload_n (pc := 32) hc dX10_wipes_32 rfl ?_
        refine zj_imul (pc := 33) hc dX10_wipes_33 h.1 ?_
        have h := h.2
        refine zj_iload_n (pc := 34) hc dX10_wipes_34 rfl ?_
        refine zj_iadd (pc := 35) hc dX10_wipes_35 h.1 ?_
        have h := h.2
        refine zj_iconst (pc := 36) hc dX10_wipes_36 (zin _ rfl) ?_
        refine zj_vtv (pc := 37) (st := []) hc ks_X10_writes iv_X10_writes lk_X10_271 (zrv_9 G M) (S_X10_writes l G ((64 * v1) + v2) 0 M _ h) rfl ⟨Nat.le_of_ble_eq_true rfl, Nat.le_of_ble_eq_true rfl⟩ (Nat.le_of_ble_eq_true rfl) ⟨Nat.le_of_ble_eq_true rfl, Nat.le_of_ble_eq_true rfl⟩ dX10_wipes_37 rfl (fun M3 h => ?_)
        exact k40 M3 v1 v2 X9 hX9 h
  unfold T_X10_wipes at h
  refine zj_aload_n (pc := 0) hc dX10_wipes_0 rfl ?_
  refine zg_9_6 (pc := 1) hc lk_X10_22 dX10_wipes_1 ?_
  refine zj_iload_n (pc := 4) hc dX10_wipes_4 rfl ?_
  refine zj_sti (pc := 5) (st := []) hc ks_X10_endOf st_X10_endOf lk_X10_166 (S_X10_endOf l G 582 v1 M _ h) rfl ⟨Nat.le_of_ble_eq_true rfl, Nat.le_of_ble_eq_true rfl⟩ (Nat.le_of_ble_eq_true rfl) ⟨Nat.le_of_ble_eq_true rfl, Nat.le_of_ble_eq_true rfl⟩ dX10_wipes_5 rfl (fun y4 M9 h => ?_)
  obtain ⟨hM9, h⟩ := h
  subst hM9
  refine zj_istore_n (pc := 8) hc dX10_wipes_8 (by decide) ?_
  exact k9 M v1 y4 h
set_option maxHeartbeats 4000000 in
set_option maxRecDepth 100000 in
theorem S_X10_recover (l : Launch) (G : zG) (M : zMem) (Qr : Int → zMem → Prop) (h : T_X10_recover Qr M) : zMetI l yX10_recover cX10_recover 2 (some .int) 5 109 0 0 G [.inr 639] M Qr := by
  refine zmetI (by decide) (Nat.le_of_ble_eq_true rfl) [some (.inr 639), none] rfl ?_
  intro p e s m args below meth c hc hr hlk
  have k87 : ∀ (M : zMem), T_X10_recover_87 Qr M → zJ p l e (zRoom 5 109 0 0) s m args below meth c G 2 0 0 (MQ below (zQi G (Qr)) args s 0 0 (zA G)) 87 [some (.inr 639), none] [] M := by
    intro M h
    unfold T_X10_recover_87 at h
    refine zj_aload_n (pc := 87) hc dX10_recover_87 rfl ?_
    refine zj_iconst (pc := 88) hc dX10_recover_88 (zin _ rfl) ?_
    refine zs_9_36 (pc := 89) hc lk_X10_91 dX10_recover_89 (fun M1 hM1 => ?_)
    have h := h M1 hM1
    refine zj_aload_n (pc := 92) hc dX10_recover_92 rfl ?_
    refine zg_9_13 (pc := 93) hc lk_X10_264 dX10_recover_93 ?_
    refine zj_if_ne (pc := 96) (tgt := 108) hc dX10_recover_96 (by decide) (fun hx2 => ?_) (fun hx2 => ?_)
    · have h := h.1 hx2
      refine zj_aload_n (pc := 108) hc dX10_recover_108 rfl ?_
      refine zj_aload_n (pc := 109) hc dX10_recover_109 rfl ?_
      refine zg_9_12 (pc := 110) hc lk_X10_268 dX10_recover_110 ?_
      refine zj_vti (pc := 113) (st := []) hc ks_X10_ends iv_X10_ends lk_X10_314 (zrv_9 G M1) (S_X10_ends l G (M1.1 588) M1 _ h) rfl ⟨Nat.le_of_ble_eq_true rfl, Nat.le_of_ble_eq_true rfl⟩ (Nat.le_of_ble_eq_true rfl) ⟨Nat.le_of_ble_eq_true rfl, Nat.le_of_ble_eq_true rfl⟩ dX10_recover_113 rfl (fun y3 M4 h => ?_)
      exact zj_iret (pc := 116) hc hr hlk dX10_recover_116 (by decide) (by decide) h
    · have h := h.2 hx2
      refine zj_aload_n (pc := 99) hc dX10_recover_99 rfl ?_
      refine zg_9_6 (pc := 100) hc lk_X10_22 dX10_recover_100 ?_
      refine zj_sipush (pc := 103) hc dX10_recover_103 (by decide) (zin _ rfl) ?_
      refine zj_iconst (pc := 106) hc dX10_recover_106 (zin _ rfl) ?_
      refine zj_iast (pc := 107) hc dX10_recover_107 alen_582 h.1 (fun M5 hM5 => ?_)
      have h := h.2 M5 hM5
      refine zj_aload_n (pc := 108) hc dX10_recover_108 rfl ?_
      refine zj_aload_n (pc := 109) hc dX10_recover_109 rfl ?_
      refine zg_9_12 (pc := 110) hc lk_X10_268 dX10_recover_110 ?_
      refine zj_vti (pc := 113) (st := []) hc ks_X10_ends iv_X10_ends lk_X10_314 (zrv_9 G M5) (S_X10_ends l G (M5.1 588) M5 _ h) rfl ⟨Nat.le_of_ble_eq_true rfl, Nat.le_of_ble_eq_true rfl⟩ (Nat.le_of_ble_eq_true rfl) ⟨Nat.le_of_ble_eq_true rfl, Nat.le_of_ble_eq_true rfl⟩ dX10_recover_113 rfl (fun y6 M7 h => ?_)
      exact zj_iret (pc := 116) hc hr hlk dX10_recover_116 (by decide) (by decide) h
  have k51 : ∀ (M : zMem) (v1 : Int), T_X10_recover_51 Qr v1 M → zJ p l e (zRoom 5 109 0 0) s m args below meth c G 2 0 0 (MQ below (zQi G (Qr)) args s 0 0 (zA G)) 51 [some (.inr 639), some (.inl v1)] [] M := by
    intro M v1 h
    unfold T_X10_recover_51 at h
    refine zl1_use h (fun v1 M => zJ p l e (zRoom 5 109 0 0) s m args below meth c G 2 0 0 (MQ below (zQi G (Qr)) args s 0 0 (zA G)) 51 [some (.inr 639), some (.inl v1)] [] M) (fun X51 hX51 v1 M h => ?_)
    refine zj_iload_n (pc := 51) hc dX10_recover_51 rfl ?_
    refine zj_aload_n (pc := 52) hc dX10_recover_52 rfl ?_
    refine zg_9_6 (pc := 53) hc lk_X10_22 dX10_recover_53 ?_
    refine zj_sti (pc := 56) (st := [.inl v1]) hc ks_X10_pagesOf st_X10_pagesOf lk_X10_151 (S_X10_pagesOf l G 582 M _ h) rfl ⟨Nat.le_of_ble_eq_true rfl, Nat.le_of_ble_eq_true rfl⟩ (Nat.le_of_ble_eq_true rfl) ⟨Nat.le_of_ble_eq_true rfl, Nat.le_of_ble_eq_true rfl⟩ dX10_recover_56 rfl (fun y8 M9 h => ?_)
    obtain ⟨hM9, h⟩ := h
    subst hM9
    refine zj_icmp_ge (pc := 59) (tgt := 87) hc dX10_recover_59 (by decide) (fun hx9 => ?_) (fun hx9 => ?_)
    · have h := h.1 hx9
      refine zj_mask (bs := [true, false]) ?_
      exact k87 M h
    · have h := h.2 hx9
      refine zj_aload_n (pc := 62) hc dX10_recover_62 rfl ?_
      refine zg_9_13 (pc := 63) hc lk_X10_264 dX10_recover_63 ?_
      refine zj_if_ne (pc := 66) (tgt := 87) hc dX10_recover_66 (by decide) (fun hx10 => ?_) (fun hx10 => ?_)
      · have h := h.1 hx10
        refine zj_mask (bs := [true, false]) ?_
        exact k87 M h
      · have h := h.2 hx10
        refine zj_aload_n (pc := 69) hc dX10_recover_69 rfl ?_
        refine zj_aload_n (pc := 70) hc dX10_recover_70 rfl ?_
        refine zg_9_6 (pc := 71) hc lk_X10_22 dX10_recover_71 ?_
        refine zj_iload_n (pc := 74) hc dX10_recover_74 rfl ?_
        refine zj_sti (pc := 75) (st := [.inr 639]) hc ks_X10_numberOf st_X10_numberOf lk_X10_183 (S_X10_numberOf l G 582 v1 M _ h) rfl ⟨Nat.le_of_ble_eq_true rfl, Nat.le_of_ble_eq_true rfl⟩ (Nat.le_of_ble_eq_true rfl) ⟨Nat.le_of_ble_eq_true rfl, Nat.le_of_ble_eq_true rfl⟩ dX10_recover_75 rfl (fun y11 M9 h => ?_)
        obtain ⟨hM9, h⟩ := h
        subst hM9
        refine zj_vtv (pc := 78) (st := []) hc ks_X10_wipes iv_X10_wipes lk_X10_349 (zrv_9 G M) (S_X10_wipes l G y11 M _ h) rfl ⟨Nat.le_of_ble_eq_true rfl, Nat.le_of_ble_eq_true rfl⟩ (Nat.le_of_ble_eq_true rfl) ⟨Nat.le_of_ble_eq_true rfl, Nat.le_of_ble_eq_true rfl⟩ dX10_recover_78 rfl (fun M12 h => ?_)
        refine zj_iinc (pc := 81) hc dX10_recover_81 rfl (by decide) h.1 ?_
        have h := h.2
        refine zj_goto (pc := 84) (tgt := 51) hc dX10_recover_84 (by decide) ?_
        exact hX51 (v1 + 1) M12 h
  have k49 : ∀ (M : zMem), T_X10_recover_49 Qr M → zJ p l e (zRoom 5 109 0 0) s m args below meth c G 2 0 0 (MQ below (zQi G (Qr)) args s 0 0 (zA G)) 49 [some (.inr 639), none] [] M := by
    intro M h
    unfold T_X10_recover_49 at h
    refine zj_iconst (pc := 49) hc dX10_recover_49 (zin _ rfl) ?_
    refine zj_istore_n (pc := 50) hc dX10_recover_50 (by decide) ?_
    exact k51 M 0 h
  unfold T_X10_recover at h
  refine zj_aload_n (pc := 0) hc dX10_recover_0 rfl ?_
  refine zj_iconst (pc := 1) hc dX10_recover_1 (zin _ rfl) ?_
  refine zs_9_0 (pc := 2) hc lk_X10_77 dX10_recover_2 (fun M13 hM13 => ?_)
  have h := h M13 hM13
  refine zj_aload_n (pc := 5) hc dX10_recover_5 rfl ?_
  refine zj_vti (pc := 6) (st := []) hc ks_X10_isDown iv_X10_isDown lk_X10_292 (zrv_9 G M13) (S_X10_isDown l G M13 _ h) rfl ⟨Nat.le_of_ble_eq_true rfl, Nat.le_of_ble_eq_true rfl⟩ (Nat.le_of_ble_eq_true rfl) ⟨Nat.le_of_ble_eq_true rfl, Nat.le_of_ble_eq_true rfl⟩ dX10_recover_6 rfl (fun y14 M9 h => ?_)
  obtain ⟨hM9, h⟩ := h
  subst hM9
  refine zj_if_ne (pc := 9) (tgt := 19) hc dX10_recover_9 (by decide) (fun hx15 => ?_) (fun hx15 => ?_)
  · have h := h.1 hx15
    refine zj_aload_n (pc := 19) hc dX10_recover_19 rfl ?_
    refine zj_bipush (pc := 20) hc dX10_recover_20 (by decide) (zin _ rfl) ?_
    refine zj_vtv (pc := 22) (st := []) hc ks_X10_keeps iv_X10_keeps lk_X10_305 (zrv_9 G M13) (S_X10_keeps l G 6 M13 _ h) rfl ⟨Nat.le_of_ble_eq_true rfl, Nat.le_of_ble_eq_true rfl⟩ (Nat.le_of_ble_eq_true rfl) ⟨Nat.le_of_ble_eq_true rfl, Nat.le_of_ble_eq_true rfl⟩ dX10_recover_22 rfl (fun M16 h => ?_)
    refine zj_aload_n (pc := 25) hc dX10_recover_25 rfl ?_
    refine zj_vtv (pc := 26) (st := []) hc ks_X10_drafts iv_X10_drafts lk_X10_299 (zrv_9 G M16) (S_X10_drafts l G M16 _ h) rfl ⟨Nat.le_of_ble_eq_true rfl, Nat.le_of_ble_eq_true rfl⟩ (Nat.le_of_ble_eq_true rfl) ⟨Nat.le_of_ble_eq_true rfl, Nat.le_of_ble_eq_true rfl⟩ dX10_recover_26 rfl (fun M17 h => ?_)
    refine zj_aload_n (pc := 29) hc dX10_recover_29 rfl ?_
    refine zj_vtv (pc := 30) (st := []) hc ks_X10_beginsWriting iv_X10_beginsWriting lk_X10_308 (zrv_9 G M17) (S_X10_beginsWriting l G M17 _ h) rfl ⟨Nat.le_of_ble_eq_true rfl, Nat.le_of_ble_eq_true rfl⟩ (Nat.le_of_ble_eq_true rfl) ⟨Nat.le_of_ble_eq_true rfl, Nat.le_of_ble_eq_true rfl⟩ dX10_recover_30 rfl (fun M18 h => ?_)
    refine zj_aload_n (pc := 33) hc dX10_recover_33 rfl ?_
    refine zg_9_6 (pc := 34) hc lk_X10_22 dX10_recover_34 ?_
    refine zj_sipush (pc := 37) hc dX10_recover_37 (by decide) (zin _ rfl) ?_
    refine zj_iald (pc := 40) hc dX10_recover_40 alen_582 h.1 ?_
    have h := h.2
    refine zj_iconst (pc := 41) hc dX10_recover_41 (zin _ rfl) ?_
    refine zj_icmp_ne (pc := 42) (tgt := 49) hc dX10_recover_42 (by decide) (fun hx19 => ?_) (fun hx19 => ?_)
    · have h := h.1 hx19
      exact k49 M18 h
    · have h := h.2 hx19
      refine zj_aload_n (pc := 45) hc dX10_recover_45 rfl ?_
      refine zj_vtv (pc := 46) (st := []) hc ks_X10_comesBack iv_X10_comesBack lk_X10_346 (zrv_9 G M18) (S_X10_comesBack l G M18 _ h) rfl ⟨Nat.le_of_ble_eq_true rfl, Nat.le_of_ble_eq_true rfl⟩ (Nat.le_of_ble_eq_true rfl) ⟨Nat.le_of_ble_eq_true rfl, Nat.le_of_ble_eq_true rfl⟩ dX10_recover_46 rfl (fun M20 h => ?_)
      exact k49 M20 h
  · have h := h.2 hx15
    refine zj_aload_n (pc := 12) hc dX10_recover_12 rfl ?_
    refine zj_bipush (pc := 13) hc dX10_recover_13 (by decide) (zin _ rfl) ?_
    refine zj_vti (pc := 15) (st := []) hc ks_X10_refuses iv_X10_refuses lk_X10_87 (zrv_9 G M13) (S_X10_refuses l G (-3) M13 _ h) rfl ⟨Nat.le_of_ble_eq_true rfl, Nat.le_of_ble_eq_true rfl⟩ (Nat.le_of_ble_eq_true rfl) ⟨Nat.le_of_ble_eq_true rfl, Nat.le_of_ble_eq_true rfl⟩ dX10_recover_15 rfl (fun y21 M22 h => ?_)
    exact zj_iret (pc := 18) hc hr hlk dX10_recover_18 (by decide) (by decide) h
set_option maxHeartbeats 4000000 in
set_option maxRecDepth 100000 in
theorem S_X10_written (l : Launch) (G : zG) (M : zMem) (Qr : Int → zMem → Prop) (h : T_X10_written Qr M) : zMetI l yX10_written cX10_written 1 (some .int) 0 0 0 0 G [.inr 639] M Qr := by
  refine zmetI (by decide) (Nat.le_of_ble_eq_true rfl) [some (.inr 639)] rfl ?_
  intro p e s m args below meth c hc hr hlk
  unfold T_X10_written at h
  refine zj_aload_n (pc := 0) hc dX10_written_0 rfl ?_
  refine zj_iconst (pc := 1) hc dX10_written_1 (zin _ rfl) ?_
  refine zs_9_0 (pc := 2) hc lk_X10_77 dX10_written_2 (fun M1 hM1 => ?_)
  have h := h M1 hM1
  refine zj_aload_n (pc := 5) hc dX10_written_5 rfl ?_
  refine zg_9_12 (pc := 6) hc lk_X10_268 dX10_written_6 ?_
  exact zj_iret (pc := 9) hc hr hlk dX10_written_9 (by decide) (by decide) h
set_option maxHeartbeats 4000000 in
set_option maxRecDepth 100000 in
theorem S_X10_fetch (l : Launch) (G : zG) (v1 : Int) (M : zMem) (Qr : Int → zMem → Prop) (h : T_X10_fetch v1 Qr M) : zMetI l yX10_fetch cX10_fetch 3 (some .int) 5 124 0 0 G [.inr 639, .inl v1] M Qr := by
  refine zmetI (by decide) (Nat.le_of_ble_eq_true rfl) [some (.inr 639), some (.inl v1), none] rfl ?_
  intro p e s m args below meth c hc hr hlk
  have k89 : ∀ (M : zMem) (v1 : Int) (v2 : Int), T_X10_fetch_89 v1 Qr v2 M → zJ p l e (zRoom 5 124 0 0) s m args below meth c G 3 0 0 (MQ below (zQi G (Qr)) args s 0 0 (zA G)) 89 [some (.inr 639), some (.inl v1), some (.inl v2)] [] M := by
    intro M v1 v2 h
    unfold T_X10_fetch_89 at h
    refine zl1_use h (fun v2 M => zJ p l e (zRoom 5 124 0 0) s m args below meth c G 3 0 0 (MQ below (zQi G (Qr)) args s 0 0 (zA G)) 89 [some (.inr 639), some (.inl v1), some (.inl v2)] [] M) (fun X89 hX89 v2 M h => ?_)
    refine zj_iload_n (pc := 89) hc dX10_fetch_89 rfl ?_
    refine zj_aload_n (pc := 90) hc dX10_fetch_90 rfl ?_
    refine zg_9_9 (pc := 91) hc lk_X10_101 dX10_fetch_91 ?_
    refine zj_icmp_ge (pc := 94) (tgt := 120) hc dX10_fetch_94 (by decide) (fun hx1 => ?_) (fun hx1 => ?_)
    · have h := h.1 hx1
      refine zj_aload_n (pc := 120) hc dX10_fetch_120 rfl ?_
      refine zj_aload_n (pc := 121) hc dX10_fetch_121 rfl ?_
      refine zg_9_9 (pc := 122) hc lk_X10_101 dX10_fetch_122 ?_
      refine zj_vti (pc := 125) (st := []) hc ks_X10_tells iv_X10_tells lk_X10_98 (zrv_9 G M) (S_X10_tells l G (M.1 585) M _ h) rfl ⟨Nat.le_of_ble_eq_true rfl, Nat.le_of_ble_eq_true rfl⟩ (Nat.le_of_ble_eq_true rfl) ⟨Nat.le_of_ble_eq_true rfl, Nat.le_of_ble_eq_true rfl⟩ dX10_fetch_125 rfl (fun y2 M3 h => ?_)
      exact zj_iret (pc := 128) hc hr hlk dX10_fetch_128 (by decide) (by decide) h
    · have h := h.2 hx1
      refine zj_aload_n (pc := 97) hc dX10_fetch_97 rfl ?_
      refine zg_9_8 (pc := 98) hc lk_X10_28 dX10_fetch_98 ?_
      refine zj_iload_n (pc := 101) hc dX10_fetch_101 rfl ?_
      refine zj_aload_n (pc := 102) hc dX10_fetch_102 rfl ?_
      refine zg_9_21 (pc := 103) hc lk_X10_50 dX10_fetch_103 ?_
      refine zj_bipush (pc := 106) hc dX10_fetch_106 (by decide) (zin _ rfl) ?_
      refine zj_iload_n (pc := 108) hc dX10_fetch_108 rfl ?_
      refine zj_imul (pc := 109) hc dX10_fetch_109 h.1 ?_
      have h := h.2
      refine zj_iload_n (pc := 110) hc dX10_fetch_110 rfl ?_
      refine zj_iadd (pc := 111) hc dX10_fetch_111 h.1 ?_
      have h := h.2
      refine zj_iald (pc := 112) hc dX10_fetch_112 alen_597 h.1 ?_
      have h := h.2
      refine zj_iast (pc := 113) hc dX10_fetch_113 alen_584 h.1 (fun M4 hM4 => ?_)
      have h := h.2 M4 hM4
      refine zj_iinc (pc := 114) hc dX10_fetch_114 rfl (by decide) h.1 ?_
      have h := h.2
      refine zj_goto (pc := 117) (tgt := 89) hc dX10_fetch_117 (by decide) ?_
      exact hX89 (v2 + 1) M4 h
  unfold T_X10_fetch at h
  refine zj_aload_n (pc := 0) hc dX10_fetch_0 rfl ?_
  refine zj_iconst (pc := 1) hc dX10_fetch_1 (zin _ rfl) ?_
  refine zs_9_0 (pc := 2) hc lk_X10_77 dX10_fetch_2 (fun M5 hM5 => ?_)
  have h := h M5 hM5
  refine zj_iload_n (pc := 5) hc dX10_fetch_5 rfl ?_
  refine zj_sti (pc := 6) (st := []) hc ks_X10_isKey st_X10_isKey lk_X10_323 (S_X10_isKey l G v1 M5 _ h) rfl ⟨Nat.le_of_ble_eq_true rfl, Nat.le_of_ble_eq_true rfl⟩ (Nat.le_of_ble_eq_true rfl) ⟨Nat.le_of_ble_eq_true rfl, Nat.le_of_ble_eq_true rfl⟩ dX10_fetch_6 rfl (fun y6 M9 h => ?_)
  obtain ⟨hM9, h⟩ := h
  subst hM9
  refine zj_if_ne (pc := 9) (tgt := 18) hc dX10_fetch_9 (by decide) (fun hx7 => ?_) (fun hx7 => ?_)
  · have h := h.1 hx7
    refine zj_aload_n (pc := 18) hc dX10_fetch_18 rfl ?_
    refine zj_vti (pc := 19) (st := []) hc ks_X10_isDown iv_X10_isDown lk_X10_292 (zrv_9 G M5) (S_X10_isDown l G M5 _ h) rfl ⟨Nat.le_of_ble_eq_true rfl, Nat.le_of_ble_eq_true rfl⟩ (Nat.le_of_ble_eq_true rfl) ⟨Nat.le_of_ble_eq_true rfl, Nat.le_of_ble_eq_true rfl⟩ dX10_fetch_19 rfl (fun y8 M9 h => ?_)
    obtain ⟨hM9, h⟩ := h
    subst hM9
    refine zj_if_eq (pc := 22) (tgt := 32) hc dX10_fetch_22 (by decide) (fun hx9 => ?_) (fun hx9 => ?_)
    · have h := h.1 hx9
      refine zj_aload_n (pc := 32) hc dX10_fetch_32 rfl ?_
      refine zj_iload_n (pc := 33) hc dX10_fetch_33 rfl ?_
      refine zj_vtv (pc := 34) (st := []) hc ks_X10_uses iv_X10_uses lk_X10_296 (zrv_9 G M5) (S_X10_uses l G v1 M5 _ h) rfl ⟨Nat.le_of_ble_eq_true rfl, Nat.le_of_ble_eq_true rfl⟩ (Nat.le_of_ble_eq_true rfl) ⟨Nat.le_of_ble_eq_true rfl, Nat.le_of_ble_eq_true rfl⟩ dX10_fetch_34 rfl (fun M10 h => ?_)
      refine zj_aload_n (pc := 37) hc dX10_fetch_37 rfl ?_
      refine zj_aload_n (pc := 38) hc dX10_fetch_38 rfl ?_
      refine zg_9_6 (pc := 39) hc lk_X10_22 dX10_fetch_39 ?_
      refine zj_aload_n (pc := 42) hc dX10_fetch_42 rfl ?_
      refine zg_9_6 (pc := 43) hc lk_X10_22 dX10_fetch_43 ?_
      refine zj_aload_n (pc := 46) hc dX10_fetch_46 rfl ?_
      refine zg_9_6 (pc := 47) hc lk_X10_22 dX10_fetch_47 ?_
      refine zj_iload_n (pc := 50) hc dX10_fetch_50 rfl ?_
      refine zj_sti (pc := 51) (st := [.inr 582, .inr 582, .inr 639]) hc ks_X10_placeFor st_X10_placeFor lk_X10_224 (S_X10_placeFor l G 582 v1 M10 _ h) rfl ⟨Nat.le_of_ble_eq_true rfl, Nat.le_of_ble_eq_true rfl⟩ (Nat.le_of_ble_eq_true rfl) ⟨Nat.le_of_ble_eq_true rfl, Nat.le_of_ble_eq_true rfl⟩ dX10_fetch_51 rfl (fun y11 M9 h => ?_)
      obtain ⟨hM9, h⟩ := h
      subst hM9
      refine zj_sti (pc := 54) (st := [.inr 582, .inr 639]) hc ks_X10_numberOf st_X10_numberOf lk_X10_183 (S_X10_numberOf l G 582 y11 M10 _ h) rfl ⟨Nat.le_of_ble_eq_true rfl, Nat.le_of_ble_eq_true rfl⟩ (Nat.le_of_ble_eq_true rfl) ⟨Nat.le_of_ble_eq_true rfl, Nat.le_of_ble_eq_true rfl⟩ dX10_fetch_54 rfl (fun y12 M9 h => ?_)
      obtain ⟨hM9, h⟩ := h
      subst hM9
      refine zj_vtv (pc := 57) (st := []) hc ks_X10_laysAlone iv_X10_laysAlone lk_X10_227 (zrv_9 G M10) (S_X10_laysAlone l G 582 y12 M10 _ h) rfl ⟨Nat.le_of_ble_eq_true rfl, Nat.le_of_ble_eq_true rfl⟩ (Nat.le_of_ble_eq_true rfl) ⟨Nat.le_of_ble_eq_true rfl, Nat.le_of_ble_eq_true rfl⟩ dX10_fetch_57 rfl (fun M13 h => ?_)
      refine zj_aload_n (pc := 60) hc dX10_fetch_60 rfl ?_
      refine zg_9_20 (pc := 61) hc lk_X10_47 dX10_fetch_61 ?_
      refine zj_iload_n (pc := 64) hc dX10_fetch_64 rfl ?_
      refine zj_iald (pc := 65) hc dX10_fetch_65 alen_596 h.1 ?_
      have h := h.2
      refine zj_iconst (pc := 66) hc dX10_fetch_66 (zin _ rfl) ?_
      refine zj_icmp_ne (pc := 67) (tgt := 77) hc dX10_fetch_67 (by decide) (fun hx14 => ?_) (fun hx14 => ?_)
      · have h := h.1 hx14
        refine zj_aload_n (pc := 77) hc dX10_fetch_77 rfl ?_
        refine zj_aload_n (pc := 78) hc dX10_fetch_78 rfl ?_
        refine zg_9_20 (pc := 79) hc lk_X10_47 dX10_fetch_79 ?_
        refine zj_iload_n (pc := 82) hc dX10_fetch_82 rfl ?_
        refine zj_iald (pc := 83) hc dX10_fetch_83 alen_596 h.1 ?_
        have h := h.2
        refine zs_9_9 (pc := 84) hc lk_X10_101 dX10_fetch_84 (fun M15 hM15 => ?_)
        have h := h M15 hM15
        refine zj_iconst (pc := 87) hc dX10_fetch_87 (zin _ rfl) ?_
        refine zj_istore_n (pc := 88) hc dX10_fetch_88 (by decide) ?_
        exact k89 M15 v1 0 h
      · have h := h.2 hx14
        refine zj_aload_n (pc := 70) hc dX10_fetch_70 rfl ?_
        refine zj_bipush (pc := 71) hc dX10_fetch_71 (by decide) (zin _ rfl) ?_
        refine zj_vti (pc := 73) (st := []) hc ks_X10_refuses iv_X10_refuses lk_X10_87 (zrv_9 G M13) (S_X10_refuses l G (-2) M13 _ h) rfl ⟨Nat.le_of_ble_eq_true rfl, Nat.le_of_ble_eq_true rfl⟩ (Nat.le_of_ble_eq_true rfl) ⟨Nat.le_of_ble_eq_true rfl, Nat.le_of_ble_eq_true rfl⟩ dX10_fetch_73 rfl (fun y16 M17 h => ?_)
        exact zj_iret (pc := 76) hc hr hlk dX10_fetch_76 (by decide) (by decide) h
    · have h := h.2 hx9
      refine zj_aload_n (pc := 25) hc dX10_fetch_25 rfl ?_
      refine zj_bipush (pc := 26) hc dX10_fetch_26 (by decide) (zin _ rfl) ?_
      refine zj_vti (pc := 28) (st := []) hc ks_X10_refuses iv_X10_refuses lk_X10_87 (zrv_9 G M5) (S_X10_refuses l G (-3) M5 _ h) rfl ⟨Nat.le_of_ble_eq_true rfl, Nat.le_of_ble_eq_true rfl⟩ (Nat.le_of_ble_eq_true rfl) ⟨Nat.le_of_ble_eq_true rfl, Nat.le_of_ble_eq_true rfl⟩ dX10_fetch_28 rfl (fun y18 M19 h => ?_)
      exact zj_iret (pc := 31) hc hr hlk dX10_fetch_31 (by decide) (by decide) h
  · have h := h.2 hx7
    refine zj_aload_n (pc := 12) hc dX10_fetch_12 rfl ?_
    refine zj_iconst (pc := 13) hc dX10_fetch_13 (zin _ rfl) ?_
    refine zj_vti (pc := 14) (st := []) hc ks_X10_refuses iv_X10_refuses lk_X10_87 (zrv_9 G M5) (S_X10_refuses l G (-1) M5 _ h) rfl ⟨Nat.le_of_ble_eq_true rfl, Nat.le_of_ble_eq_true rfl⟩ (Nat.le_of_ble_eq_true rfl) ⟨Nat.le_of_ble_eq_true rfl, Nat.le_of_ble_eq_true rfl⟩ dX10_fetch_14 rfl (fun y20 M21 h => ?_)
    exact zj_iret (pc := 17) hc hr hlk dX10_fetch_17 (by decide) (by decide) h
