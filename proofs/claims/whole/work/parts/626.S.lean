set_option maxHeartbeats 4000000 in
set_option maxRecDepth 100000 in
theorem S_X10_keeps (l : Launch) (G : zG) (v1 : Int) (M : zMem) (Qr : zMem → Prop) (h : T_X10_keeps v1 Qr M) : zMetV l yX10_keeps cX10_keeps 3 none 0 0 0 0 G [.inr 639, .inl v1] M Qr := by
  refine zmetV (by decide) (Nat.le_of_ble_eq_true rfl) [some (.inr 639), some (.inl v1), none] rfl ?_
  intro p e s m args below meth c hc hr hlk
  have k15 : ∀ (M : zMem) (v1 : Int) (v2 : Int), T_X10_keeps_15 v1 Qr v2 M → zJ p l e (zRoom 0 0 0 0) s m args below meth c G 3 0 0 (MQ below (zQv G (Qr)) args s 0 0 (zA G)) 15 [some (.inr 639), some (.inl v1), some (.inl v2)] [] M := by
    intro M v1 v2 h
    unfold T_X10_keeps_15 at h
    refine zl1_use h (fun v2 M => zJ p l e (zRoom 0 0 0 0) s m args below meth c G 3 0 0 (MQ below (zQv G (Qr)) args s 0 0 (zA G)) 15 [some (.inr 639), some (.inl v1), some (.inl v2)] [] M) (fun X15 hX15 v2 M h => ?_)
    refine zj_iload_n (pc := 15) hc dX10_keeps_15 rfl ?_
    refine zj_sipush (pc := 16) hc dX10_keeps_16 (by decide) (zin _ rfl) ?_
    refine zj_icmp_ge (pc := 19) (tgt := 49) hc dX10_keeps_19 (by decide) (fun hx1 => ?_) (fun hx1 => ?_)
    · have h := h.1 hx1
      refine zj_aload_n (pc := 49) hc dX10_keeps_49 rfl ?_
      refine zg_9_32 (pc := 50) hc lk_X10_68 dX10_keeps_50 ?_
      refine zj_aload_n (pc := 53) hc dX10_keeps_53 rfl ?_
      refine zg_9_34 (pc := 54) hc lk_X10_277 dX10_keeps_54 ?_
      refine zj_iload_n (pc := 57) hc dX10_keeps_57 rfl ?_
      refine zj_iast (pc := 58) hc dX10_keeps_58 alen_608 h.1 (fun M2 hM2 => ?_)
      have h := h.2 M2 hM2
      refine zj_aload_n (pc := 59) hc dX10_keeps_59 rfl ?_
      refine zg_9_33 (pc := 60) hc lk_X10_280 dX10_keeps_60 ?_
      refine zj_bipush (pc := 63) hc dX10_keeps_63 (by decide) (zin _ rfl) ?_
      refine zj_icmp_ge (pc := 65) (tgt := 78) hc dX10_keeps_65 (by decide) (fun hx3 => ?_) (fun hx3 => ?_)
      · have h := h.1 hx3
        exact zj_vret (pc := 78) hc hr hlk dX10_keeps_78 (by decide) (by decide) h
      · have h := h.2 hx3
        refine zj_aload_n (pc := 68) hc dX10_keeps_68 rfl ?_
        refine zj_dup (pc := 69) hc dX10_keeps_69 ?_
        refine zg_9_33 (pc := 70) hc lk_X10_280 dX10_keeps_70 ?_
        refine zj_iconst (pc := 73) hc dX10_keeps_73 (zin _ rfl) ?_
        refine zj_iadd (pc := 74) hc dX10_keeps_74 h.1 ?_
        have h := h.2
        refine zs_9_33 (pc := 75) hc lk_X10_280 dX10_keeps_75 (fun M4 hM4 => ?_)
        have h := h M4 hM4
        exact zj_vret (pc := 78) hc hr hlk dX10_keeps_78 (by decide) (by decide) h
    · have h := h.2 hx1
      refine zj_aload_n (pc := 22) hc dX10_keeps_22 rfl ?_
      refine zg_9_31 (pc := 23) hc lk_X10_65 dX10_keeps_23 ?_
      refine zj_sipush (pc := 26) hc dX10_keeps_26 (by decide) (zin _ rfl) ?_
      refine zj_aload_n (pc := 29) hc dX10_keeps_29 rfl ?_
      refine zg_9_34 (pc := 30) hc lk_X10_277 dX10_keeps_30 ?_
      refine zj_imul (pc := 33) hc dX10_keeps_33 h.1 ?_
      have h := h.2
      refine zj_iload_n (pc := 34) hc dX10_keeps_34 rfl ?_
      refine zj_iadd (pc := 35) hc dX10_keeps_35 h.1 ?_
      have h := h.2
      refine zj_aload_n (pc := 36) hc dX10_keeps_36 rfl ?_
      refine zg_9_6 (pc := 37) hc lk_X10_22 dX10_keeps_37 ?_
      refine zj_iload_n (pc := 40) hc dX10_keeps_40 rfl ?_
      refine zj_iald (pc := 41) hc dX10_keeps_41 alen_582 h.1 ?_
      have h := h.2
      refine zj_iast (pc := 42) hc dX10_keeps_42 alen_607 h.1 (fun M5 hM5 => ?_)
      have h := h.2 M5 hM5
      refine zj_iinc (pc := 43) hc dX10_keeps_43 rfl (by decide) h.1 ?_
      have h := h.2
      refine zj_goto (pc := 46) (tgt := 15) hc dX10_keeps_46 (by decide) ?_
      exact hX15 (v2 + 1) M5 h
  unfold T_X10_keeps at h
  refine zj_aload_n (pc := 0) hc dX10_keeps_0 rfl ?_
  refine zj_aload_n (pc := 1) hc dX10_keeps_1 rfl ?_
  refine zg_9_34 (pc := 2) hc lk_X10_277 dX10_keeps_2 ?_
  refine zj_iconst (pc := 5) hc dX10_keeps_5 (zin _ rfl) ?_
  refine zj_iadd (pc := 6) hc dX10_keeps_6 h.1 ?_
  have h := h.2
  refine zj_bipush (pc := 7) hc dX10_keeps_7 (by decide) (zin _ rfl) ?_
  refine zj_irem (pc := 9) hc dX10_keeps_9 (by decide) ?_
  refine zs_9_34 (pc := 10) hc lk_X10_277 dX10_keeps_10 (fun M6 hM6 => ?_)
  have h := h M6 hM6
  refine zj_iconst (pc := 13) hc dX10_keeps_13 (zin _ rfl) ?_
  refine zj_istore_n (pc := 14) hc dX10_keeps_14 (by decide) ?_
  exact k15 M6 v1 0 h
set_option maxHeartbeats 4000000 in
set_option maxRecDepth 100000 in
theorem S_X10_undo (l : Launch) (G : zG) (M : zMem) (Qr : Int → zMem → Prop) (h : T_X10_undo Qr M) : zMetI l yX10_undo cX10_undo 2 (some .int) 1 21 0 0 G [.inr 639] M Qr := by
  refine zmetI (by decide) (Nat.le_of_ble_eq_true rfl) [some (.inr 639), none] rfl ?_
  intro p e s m args below meth c hc hr hlk
  have k21 : ∀ (M : zMem) (v1 : Int), T_X10_undo_21 Qr v1 M → zJ p l e (zRoom 1 21 0 0) s m args below meth c G 2 0 0 (MQ below (zQi G (Qr)) args s 0 0 (zA G)) 21 [some (.inr 639), some (.inl v1)] [] M := by
    intro M v1 h
    unfold T_X10_undo_21 at h
    refine zl1_use h (fun v1 M => zJ p l e (zRoom 1 21 0 0) s m args below meth c G 2 0 0 (MQ below (zQi G (Qr)) args s 0 0 (zA G)) 21 [some (.inr 639), some (.inl v1)] [] M) (fun X21 hX21 v1 M h => ?_)
    refine zj_iload_n (pc := 21) hc dX10_undo_21 rfl ?_
    refine zj_sipush (pc := 22) hc dX10_undo_22 (by decide) (zin _ rfl) ?_
    refine zj_icmp_ge (pc := 25) (tgt := 55) hc dX10_undo_25 (by decide) (fun hx1 => ?_) (fun hx1 => ?_)
    · have h := h.1 hx1
      refine zj_aload_n (pc := 55) hc dX10_undo_55 rfl ?_
      refine zg_9_32 (pc := 56) hc lk_X10_68 dX10_undo_56 ?_
      refine zj_aload_n (pc := 59) hc dX10_undo_59 rfl ?_
      refine zg_9_34 (pc := 60) hc lk_X10_277 dX10_undo_60 ?_
      refine zj_iald (pc := 63) hc dX10_undo_63 alen_608 h.1 ?_
      have h := h.2
      refine zj_istore_n (pc := 64) hc dX10_undo_64 (by decide) ?_
      refine zj_aload_n (pc := 65) hc dX10_undo_65 rfl ?_
      refine zj_aload_n (pc := 66) hc dX10_undo_66 rfl ?_
      refine zg_9_34 (pc := 67) hc lk_X10_277 dX10_undo_67 ?_
      refine zj_bipush (pc := 70) hc dX10_undo_70 (by decide) (zin _ rfl) ?_
      refine zj_iadd (pc := 72) hc dX10_undo_72 h.1 ?_
      have h := h.2
      refine zj_iconst (pc := 73) hc dX10_undo_73 (zin _ rfl) ?_
      refine zj_isub (pc := 74) hc dX10_undo_74 h.1 ?_
      have h := h.2
      refine zj_bipush (pc := 75) hc dX10_undo_75 (by decide) (zin _ rfl) ?_
      refine zj_irem (pc := 77) hc dX10_undo_77 (by decide) ?_
      refine zs_9_34 (pc := 78) hc lk_X10_277 dX10_undo_78 (fun M2 hM2 => ?_)
      have h := h M2 hM2
      refine zj_aload_n (pc := 81) hc dX10_undo_81 rfl ?_
      refine zj_dup (pc := 82) hc dX10_undo_82 ?_
      refine zg_9_33 (pc := 83) hc lk_X10_280 dX10_undo_83 ?_
      refine zj_iconst (pc := 86) hc dX10_undo_86 (zin _ rfl) ?_
      refine zj_isub (pc := 87) hc dX10_undo_87 h.1 ?_
      have h := h.2
      refine zs_9_33 (pc := 88) hc lk_X10_280 dX10_undo_88 (fun M3 hM3 => ?_)
      have h := h M3 hM3
      refine zj_aload_n (pc := 91) hc dX10_undo_91 rfl ?_
      refine zj_iconst (pc := 92) hc dX10_undo_92 (zin _ rfl) ?_
      refine zs_9_36 (pc := 93) hc lk_X10_91 dX10_undo_93 (fun M4 hM4 => ?_)
      have h := h M4 hM4
      refine zj_aload_n (pc := 96) hc dX10_undo_96 rfl ?_
      refine zj_iload_n (pc := 97) hc dX10_undo_97 rfl ?_
      refine zj_vti (pc := 98) (st := []) hc ks_X10_tells iv_X10_tells lk_X10_98 (zrv_9 G M4) (S_X10_tells l G (M.2 608 (M.1 610)) M4 _ h) rfl ⟨Nat.le_of_ble_eq_true rfl, Nat.le_of_ble_eq_true rfl⟩ (Nat.le_of_ble_eq_true rfl) ⟨Nat.le_of_ble_eq_true rfl, Nat.le_of_ble_eq_true rfl⟩ dX10_undo_98 rfl (fun y5 M6 h => ?_)
      exact zj_iret (pc := 101) hc hr hlk dX10_undo_101 (by decide) (by decide) h
    · have h := h.2 hx1
      refine zj_aload_n (pc := 28) hc dX10_undo_28 rfl ?_
      refine zg_9_6 (pc := 29) hc lk_X10_22 dX10_undo_29 ?_
      refine zj_iload_n (pc := 32) hc dX10_undo_32 rfl ?_
      refine zj_aload_n (pc := 33) hc dX10_undo_33 rfl ?_
      refine zg_9_31 (pc := 34) hc lk_X10_65 dX10_undo_34 ?_
      refine zj_sipush (pc := 37) hc dX10_undo_37 (by decide) (zin _ rfl) ?_
      refine zj_aload_n (pc := 40) hc dX10_undo_40 rfl ?_
      refine zg_9_34 (pc := 41) hc lk_X10_277 dX10_undo_41 ?_
      refine zj_imul (pc := 44) hc dX10_undo_44 h.1 ?_
      have h := h.2
      refine zj_iload_n (pc := 45) hc dX10_undo_45 rfl ?_
      refine zj_iadd (pc := 46) hc dX10_undo_46 h.1 ?_
      have h := h.2
      refine zj_iald (pc := 47) hc dX10_undo_47 alen_607 h.1 ?_
      have h := h.2
      refine zj_iast (pc := 48) hc dX10_undo_48 alen_582 h.1 (fun M7 hM7 => ?_)
      have h := h.2 M7 hM7
      refine zj_iinc (pc := 49) hc dX10_undo_49 rfl (by decide) h.1 ?_
      have h := h.2
      refine zj_goto (pc := 52) (tgt := 21) hc dX10_undo_52 (by decide) ?_
      exact hX21 (v1 + 1) M7 h
  unfold T_X10_undo at h
  refine zj_aload_n (pc := 0) hc dX10_undo_0 rfl ?_
  refine zj_iconst (pc := 1) hc dX10_undo_1 (zin _ rfl) ?_
  refine zs_9_0 (pc := 2) hc lk_X10_77 dX10_undo_2 (fun M8 hM8 => ?_)
  have h := h M8 hM8
  refine zj_aload_n (pc := 5) hc dX10_undo_5 rfl ?_
  refine zg_9_33 (pc := 6) hc lk_X10_280 dX10_undo_6 ?_
  refine zj_if_ne (pc := 9) (tgt := 19) hc dX10_undo_9 (by decide) (fun hx9 => ?_) (fun hx9 => ?_)
  · have h := h.1 hx9
    refine zj_iconst (pc := 19) hc dX10_undo_19 (zin _ rfl) ?_
    refine zj_istore_n (pc := 20) hc dX10_undo_20 (by decide) ?_
    exact k21 M8 0 h
  · have h := h.2 hx9
    refine zj_aload_n (pc := 12) hc dX10_undo_12 rfl ?_
    refine zj_bipush (pc := 13) hc dX10_undo_13 (by decide) (zin _ rfl) ?_
    refine zj_vti (pc := 15) (st := []) hc ks_X10_refuses iv_X10_refuses lk_X10_87 (zrv_9 G M8) (S_X10_refuses l G (-4) M8 _ h) rfl ⟨Nat.le_of_ble_eq_true rfl, Nat.le_of_ble_eq_true rfl⟩ (Nat.le_of_ble_eq_true rfl) ⟨Nat.le_of_ble_eq_true rfl, Nat.le_of_ble_eq_true rfl⟩ dX10_undo_15 rfl (fun y10 M11 h => ?_)
    exact zj_iret (pc := 18) hc hr hlk dX10_undo_18 (by decide) (by decide) h
set_option maxHeartbeats 4000000 in
set_option maxRecDepth 100000 in
theorem S_X10_placeHeld (l : Launch) (G : zG) (v1 : Int) (M : zMem) (Qr : Int → Prop) (h : T_X10_placeHeld v1 Qr M) : zMetI l yX10_placeHeld cX10_placeHeld 3 (some .int) 0 0 0 0 G [.inr 639, .inl v1] M (fun r9 M9 => M = M9 ∧ Qr r9) := by
  refine zmetI (by decide) (Nat.le_of_ble_eq_true rfl) [some (.inr 639), some (.inl v1), none] rfl ?_
  intro p e s m args below meth c hc hr hlk
  have k2 : ∀ (v1 : Int) (v2 : Int), T_X10_placeHeld_2 v1 Qr v2 M → zJ p l e (zRoom 0 0 0 0) s m args below meth c G 3 0 0 (MQ below (zQi G (fun r9 M9 => M = M9 ∧ Qr r9)) args s 0 0 (zA G)) 2 [some (.inr 639), some (.inl v1), some (.inl v2)] [] M := by
    intro v1 v2 h
    unfold T_X10_placeHeld_2 at h
    refine zp1_use h (fun v2 => zJ p l e (zRoom 0 0 0 0) s m args below meth c G 3 0 0 (MQ below (zQi G (fun r9 M9 => M = M9 ∧ Qr r9)) args s 0 0 (zA G)) 2 [some (.inr 639), some (.inl v1), some (.inl v2)] [] M) (fun X2 hX2 v2 h => ?_)
    refine zj_iload_n (pc := 2) hc dX10_placeHeld_2 rfl ?_
    refine zj_aload_n (pc := 3) hc dX10_placeHeld_3 rfl ?_
    refine zg_9_36 (pc := 4) hc lk_X10_91 dX10_placeHeld_4 ?_
    refine zj_icmp_ge (pc := 7) (tgt := 28) hc dX10_placeHeld_7 (by decide) (fun hx1 => ?_) (fun hx1 => ?_)
    · have h := h.1 hx1
      refine zj_iconst (pc := 28) hc dX10_placeHeld_28 (zin _ rfl) ?_
      exact zj_iret (pc := 29) hc hr hlk dX10_placeHeld_29 (by decide) (by decide) ⟨rfl, h⟩
    · have h := h.2 hx1
      refine zj_aload_n (pc := 10) hc dX10_placeHeld_10 rfl ?_
      refine zg_9_35 (pc := 11) hc lk_X10_71 dX10_placeHeld_11 ?_
      refine zj_iload_n (pc := 14) hc dX10_placeHeld_14 rfl ?_
      refine zj_iald (pc := 15) hc dX10_placeHeld_15 alen_611 h.1 ?_
      have h := h.2
      refine zj_iload_n (pc := 16) hc dX10_placeHeld_16 rfl ?_
      refine zj_icmp_ne (pc := 17) (tgt := 22) hc dX10_placeHeld_17 (by decide) (fun hx2 => ?_) (fun hx2 => ?_)
      · have h := h.1 hx2
        refine zj_iinc (pc := 22) hc dX10_placeHeld_22 rfl (by decide) h.1 ?_
        have h := h.2
        refine zj_goto (pc := 25) (tgt := 2) hc dX10_placeHeld_25 (by decide) ?_
        exact hX2 (v2 + 1) h
      · have h := h.2 hx2
        refine zj_iload_n (pc := 20) hc dX10_placeHeld_20 rfl ?_
        exact zj_iret (pc := 21) hc hr hlk dX10_placeHeld_21 (by decide) (by decide) ⟨rfl, h⟩
  unfold T_X10_placeHeld at h
  refine zj_iconst (pc := 0) hc dX10_placeHeld_0 (zin _ rfl) ?_
  refine zj_istore_n (pc := 1) hc dX10_placeHeld_1 (by decide) ?_
  exact k2 v1 0 h
set_option maxHeartbeats 4000000 in
set_option maxRecDepth 100000 in
theorem S_X10_uses (l : Launch) (G : zG) (v1 : Int) (M : zMem) (Qr : zMem → Prop) (h : T_X10_uses v1 Qr M) : zMetV l yX10_uses cX10_uses 4 none 2 43 0 0 G [.inr 639, .inl v1] M Qr := by
  refine zmetV (by decide) (Nat.le_of_ble_eq_true rfl) [some (.inr 639), some (.inl v1), none, none] rfl ?_
  intro p e s m args below meth c hc hr hlk
  have k66 : ∀ (M : zMem) (v2 : Int), T_X10_uses_66 v2 Qr M → zJ p l e (zRoom 2 43 0 0) s m args below meth c G 4 0 0 (MQ below (zQv G (Qr)) args s 0 0 (zA G)) 66 [some (.inr 639), none, some (.inl v2), none] [] M := by
    intro M v2 h
    unfold T_X10_uses_66 at h
    refine zj_aload_n (pc := 66) hc dX10_uses_66 rfl ?_
    refine zg_9_35 (pc := 67) hc lk_X10_71 dX10_uses_67 ?_
    refine zj_aload_n (pc := 70) hc dX10_uses_70 rfl ?_
    refine zg_9_36 (pc := 71) hc lk_X10_91 dX10_uses_71 ?_
    refine zj_iload_n (pc := 74) hc dX10_uses_74 rfl ?_
    refine zj_iast (pc := 75) hc dX10_uses_75 alen_611 h.1 (fun M1 hM1 => ?_)
    have h := h.2 M1 hM1
    refine zj_aload_n (pc := 76) hc dX10_uses_76 rfl ?_
    refine zj_dup (pc := 77) hc dX10_uses_77 ?_
    refine zg_9_36 (pc := 78) hc lk_X10_91 dX10_uses_78 ?_
    refine zj_iconst (pc := 81) hc dX10_uses_81 (zin _ rfl) ?_
    refine zj_iadd (pc := 82) hc dX10_uses_82 h.1 ?_
    have h := h.2
    refine zs_9_36 (pc := 83) hc lk_X10_91 dX10_uses_83 (fun M2 hM2 => ?_)
    have h := h M2 hM2
    exact zj_vret (pc := 86) hc hr hlk dX10_uses_86 (by decide) (by decide) h
  have k61 : ∀ (M : zMem) (v2 : Int) (v3 : Int), T_X10_uses_61 v2 v3 Qr M → zJ p l e (zRoom 2 43 0 0) s m args below meth c G 4 0 0 (MQ below (zQv G (Qr)) args s 0 0 (zA G)) 61 [some (.inr 639), none, some (.inl v2), some (.inl v3)] [] M := by
    intro M v2 v3 h
    unfold T_X10_uses_61 at h
    refine zj_aload_n (pc := 61) hc dX10_uses_61 rfl ?_
    refine zj_iload_n (pc := 62) hc dX10_uses_62 rfl ?_
    refine zj_vtv (pc := 63) (st := []) hc ks_X10_lets iv_X10_lets lk_X10_94 (zrv_9 G M) (S_X10_lets l G v3 M _ h) rfl ⟨Nat.le_of_ble_eq_true rfl, Nat.le_of_ble_eq_true rfl⟩ (Nat.le_of_ble_eq_true rfl) ⟨Nat.le_of_ble_eq_true rfl, Nat.le_of_ble_eq_true rfl⟩ dX10_uses_63 rfl (fun M3 h => ?_)
    refine zj_mask (bs := [true, true, true, false]) ?_
    exact k66 M3 v2 h
  have k39 : ∀ (M : zMem) (v2 : Int) (v3 : Int), T_X10_uses_39 v2 v3 Qr M → zJ p l e (zRoom 2 43 0 0) s m args below meth c G 4 0 0 (MQ below (zQv G (Qr)) args s 0 0 (zA G)) 39 [some (.inr 639), none, some (.inl v2), some (.inl v3)] [] M := by
    intro M v2 v3 h
    unfold T_X10_uses_39 at h
    refine zj_aload_n (pc := 39) hc dX10_uses_39 rfl ?_
    refine zj_iload_n (pc := 40) hc dX10_uses_40 rfl ?_
    refine zj_vti (pc := 41) (st := []) hc ks_X10_placeHeld iv_X10_placeHeld lk_X10_283 (zrv_9 G M) (S_X10_placeHeld l G v2 M _ h) rfl ⟨Nat.le_of_ble_eq_true rfl, Nat.le_of_ble_eq_true rfl⟩ (Nat.le_of_ble_eq_true rfl) ⟨Nat.le_of_ble_eq_true rfl, Nat.le_of_ble_eq_true rfl⟩ dX10_uses_41 rfl (fun y4 M9 h => ?_)
    obtain ⟨hM9, h⟩ := h
    subst hM9
    refine zj_iconst (pc := 44) hc dX10_uses_44 (zin _ rfl) ?_
    refine zj_icmp_ne (pc := 45) (tgt := 61) hc dX10_uses_45 (by decide) (fun hx5 => ?_) (fun hx5 => ?_)
    · have h := h.1 hx5
      exact k61 M v2 v3 h
    · have h := h.2 hx5
      refine zj_aload_n (pc := 48) hc dX10_uses_48 rfl ?_
      refine zg_9_36 (pc := 49) hc lk_X10_91 dX10_uses_49 ?_
      refine zj_aload_n (pc := 52) hc dX10_uses_52 rfl ?_
      refine zg_9_3 (pc := 53) hc lk_X10_13 dX10_uses_53 ?_
      refine zj_iconst (pc := 56) hc dX10_uses_56 (zin _ rfl) ?_
      refine zj_iald (pc := 57) hc dX10_uses_57 alen_579 h.1 ?_
      have h := h.2
      refine zj_icmp_ne (pc := 58) (tgt := 66) hc dX10_uses_58 (by decide) (fun hx6 => ?_) (fun hx6 => ?_)
      · have h := h.1 hx6
        refine zj_mask (bs := [true, true, true, false]) ?_
        exact k66 M v2 h
      · have h := h.2 hx6
        exact k61 M v2 v3 h
  unfold T_X10_uses at h
  refine zj_aload_n (pc := 0) hc dX10_uses_0 rfl ?_
  refine zg_9_6 (pc := 1) hc lk_X10_22 dX10_uses_1 ?_
  refine zj_aload_n (pc := 4) hc dX10_uses_4 rfl ?_
  refine zg_9_6 (pc := 5) hc lk_X10_22 dX10_uses_5 ?_
  refine zj_iload_n (pc := 8) hc dX10_uses_8 rfl ?_
  refine zj_sti (pc := 9) (st := [.inr 582]) hc ks_X10_placeFor st_X10_placeFor lk_X10_224 (S_X10_placeFor l G 582 v1 M _ h) rfl ⟨Nat.le_of_ble_eq_true rfl, Nat.le_of_ble_eq_true rfl⟩ (Nat.le_of_ble_eq_true rfl) ⟨Nat.le_of_ble_eq_true rfl, Nat.le_of_ble_eq_true rfl⟩ dX10_uses_9 rfl (fun y7 M9 h => ?_)
  obtain ⟨hM9, h⟩ := h
  subst hM9
  refine zj_sti (pc := 12) (st := []) hc ks_X10_numberOf st_X10_numberOf lk_X10_183 (S_X10_numberOf l G 582 y7 M _ h) rfl ⟨Nat.le_of_ble_eq_true rfl, Nat.le_of_ble_eq_true rfl⟩ (Nat.le_of_ble_eq_true rfl) ⟨Nat.le_of_ble_eq_true rfl, Nat.le_of_ble_eq_true rfl⟩ dX10_uses_12 rfl (fun y8 M9 h => ?_)
  obtain ⟨hM9, h⟩ := h
  subst hM9
  refine zj_istore_n (pc := 15) hc dX10_uses_15 (by decide) ?_
  refine zj_aload_n (pc := 16) hc dX10_uses_16 rfl ?_
  refine zj_iload_n (pc := 17) hc dX10_uses_17 rfl ?_
  refine zj_vti (pc := 18) (st := []) hc ks_X10_placeHeld iv_X10_placeHeld lk_X10_283 (zrv_9 G M) (S_X10_placeHeld l G y8 M _ h) rfl ⟨Nat.le_of_ble_eq_true rfl, Nat.le_of_ble_eq_true rfl⟩ (Nat.le_of_ble_eq_true rfl) ⟨Nat.le_of_ble_eq_true rfl, Nat.le_of_ble_eq_true rfl⟩ dX10_uses_18 rfl (fun y9 M9 h => ?_)
  obtain ⟨hM9, h⟩ := h
  subst hM9
  refine zj_istore_n (pc := 21) hc dX10_uses_21 (by decide) ?_
  refine zj_iload_n (pc := 22) hc dX10_uses_22 rfl ?_
  refine zj_iconst (pc := 23) hc dX10_uses_23 (zin _ rfl) ?_
  refine zj_icmp_ne (pc := 24) (tgt := 39) hc dX10_uses_24 (by decide) (fun hx10 => ?_) (fun hx10 => ?_)
  · have h := h.1 hx10
    refine zj_mask (bs := [true, false, true, true]) ?_
    exact k39 M y8 y9 h
  · have h := h.2 hx10
    refine zj_aload_n (pc := 27) hc dX10_uses_27 rfl ?_
    refine zj_dup (pc := 28) hc dX10_uses_28 ?_
    refine zg_9_37 (pc := 29) hc lk_X10_286 dX10_uses_29 ?_
    refine zj_iconst (pc := 32) hc dX10_uses_32 (zin _ rfl) ?_
    refine zj_iadd (pc := 33) hc dX10_uses_33 h.1 ?_
    have h := h.2
    refine zs_9_37 (pc := 34) hc lk_X10_286 dX10_uses_34 (fun M11 hM11 => ?_)
    have h := h M11 hM11
    refine zj_iconst (pc := 37) hc dX10_uses_37 (zin _ rfl) ?_
    refine zj_istore_n (pc := 38) hc dX10_uses_38 (by decide) ?_
    refine zj_mask (bs := [true, false, true, true]) ?_
    exact k39 M11 y8 0 h
set_option maxHeartbeats 4000000 in
set_option maxRecDepth 100000 in
theorem S_X10_isInUse (l : Launch) (G : zG) (v1 : Int) (M : zMem) (Qr : Int → Prop) (h : T_X10_isInUse v1 Qr M) : zMetI l yX10_isInUse cX10_isInUse 3 (some .boolean) 1 21 0 0 G [.inr 639, .inl v1] M (fun r9 M9 => M = M9 ∧ Qr r9) := by
  refine zmetI (by decide) (Nat.le_of_ble_eq_true rfl) [some (.inr 639), some (.inl v1), none] rfl ?_
  intro p e s m args below meth c hc hr hlk
  have k2 : ∀ (v1 : Int) (v2 : Int), T_X10_isInUse_2 v1 Qr v2 M → zJ p l e (zRoom 1 21 0 0) s m args below meth c G 3 0 0 (MQ below (zQi G (fun r9 M9 => M = M9 ∧ Qr r9)) args s 0 0 (zA G)) 2 [some (.inr 639), some (.inl v1), some (.inl v2)] [] M := by
    intro v1 v2 h
    unfold T_X10_isInUse_2 at h
    refine zp1_use h (fun v2 => zJ p l e (zRoom 1 21 0 0) s m args below meth c G 3 0 0 (MQ below (zQi G (fun r9 M9 => M = M9 ∧ Qr r9)) args s 0 0 (zA G)) 2 [some (.inr 639), some (.inl v1), some (.inl v2)] [] M) (fun X2 hX2 v2 h => ?_)
    refine zj_iload_n (pc := 2) hc dX10_isInUse_2 rfl ?_
    refine zj_aload_n (pc := 3) hc dX10_isInUse_3 rfl ?_
    refine zg_9_6 (pc := 4) hc lk_X10_22 dX10_isInUse_4 ?_
    refine zj_sti (pc := 7) (st := [.inl v2]) hc ks_X10_pagesOf st_X10_pagesOf lk_X10_151 (S_X10_pagesOf l G 582 M _ h) rfl ⟨Nat.le_of_ble_eq_true rfl, Nat.le_of_ble_eq_true rfl⟩ (Nat.le_of_ble_eq_true rfl) ⟨Nat.le_of_ble_eq_true rfl, Nat.le_of_ble_eq_true rfl⟩ dX10_isInUse_7 rfl (fun y1 M9 h => ?_)
    obtain ⟨hM9, h⟩ := h
    subst hM9
    refine zj_icmp_ge (pc := 10) (tgt := 33) hc dX10_isInUse_10 (by decide) (fun hx2 => ?_) (fun hx2 => ?_)
    · have h := h.1 hx2
      refine zj_iconst (pc := 33) hc dX10_isInUse_33 (zin _ rfl) ?_
      exact zj_zret (pc := 34) hc hr hlk dX10_isInUse_34 (by decide) (by decide) (Or.inl rfl) ⟨rfl, h⟩
    · have h := h.2 hx2
      refine zj_aload_n (pc := 13) hc dX10_isInUse_13 rfl ?_
      refine zg_9_6 (pc := 14) hc lk_X10_22 dX10_isInUse_14 ?_
      refine zj_iload_n (pc := 17) hc dX10_isInUse_17 rfl ?_
      refine zj_sti (pc := 18) (st := []) hc ks_X10_numberOf st_X10_numberOf lk_X10_183 (S_X10_numberOf l G 582 v2 M _ h) rfl ⟨Nat.le_of_ble_eq_true rfl, Nat.le_of_ble_eq_true rfl⟩ (Nat.le_of_ble_eq_true rfl) ⟨Nat.le_of_ble_eq_true rfl, Nat.le_of_ble_eq_true rfl⟩ dX10_isInUse_18 rfl (fun y3 M9 h => ?_)
      obtain ⟨hM9, h⟩ := h
      subst hM9
      refine zj_iload_n (pc := 21) hc dX10_isInUse_21 rfl ?_
      refine zj_icmp_ne (pc := 22) (tgt := 27) hc dX10_isInUse_22 (by decide) (fun hx4 => ?_) (fun hx4 => ?_)
      · have h := h.1 hx4
        refine zj_iinc (pc := 27) hc dX10_isInUse_27 rfl (by decide) h.1 ?_
        have h := h.2
        refine zj_goto (pc := 30) (tgt := 2) hc dX10_isInUse_30 (by decide) ?_
        exact hX2 (v2 + 1) h
      · have h := h.2 hx4
        refine zj_iconst (pc := 25) hc dX10_isInUse_25 (zin _ rfl) ?_
        exact zj_zret (pc := 26) hc hr hlk dX10_isInUse_26 (by decide) (by decide) (Or.inr rfl) ⟨rfl, h⟩
  unfold T_X10_isInUse at h
  refine zj_iconst (pc := 0) hc dX10_isInUse_0 (zin _ rfl) ?_
  refine zj_istore_n (pc := 1) hc dX10_isInUse_1 (by decide) ?_
  exact k2 v1 0 h
set_option maxHeartbeats 4000000 in
set_option maxRecDepth 100000 in
theorem S_X10_letsFree (l : Launch) (G : zG) (M : zMem) (Qr : zMem → Prop) (h : T_X10_letsFree Qr M) : zMetV l yX10_letsFree cX10_letsFree 2 none 2 43 0 0 G [.inr 639] M Qr := by
  refine zmetV (by decide) (Nat.le_of_ble_eq_true rfl) [some (.inr 639), none] rfl ?_
  intro p e s m args below meth c hc hr hlk
  have k29 : ∀ (M : zMem) (v1 : Int) (X7 : Int → zMem → Prop) (hX7 : ∀ (v1 : Int) (M : zMem), X7 v1 M → zJ p l e (zRoom 2 43 0 0) s m args below meth c G 2 0 0 (MQ below (zQv G (Qr)) args s 0 0 (zA G)) 7 [some (.inr 639), some (.inl v1)] [] M), T_X10_letsFree_29 v1 X7 Qr M → zJ p l e (zRoom 2 43 0 0) s m args below meth c G 2 0 0 (MQ below (zQv G (Qr)) args s 0 0 (zA G)) 29 [some (.inr 639), some (.inl v1)] [] M := by
    intro M v1 X7 hX7 h
    unfold T_X10_letsFree_29 at h
    refine zj_iinc (pc := 29) hc dX10_letsFree_29 rfl (by decide) h.1 ?_
    have h := h.2
    refine zj_goto (pc := 32) (tgt := 7) hc dX10_letsFree_32 (by decide) ?_
    exact hX7 (v1 + (-1)) M h
  have k7 : ∀ (M : zMem) (v1 : Int), T_X10_letsFree_7 Qr v1 M → zJ p l e (zRoom 2 43 0 0) s m args below meth c G 2 0 0 (MQ below (zQv G (Qr)) args s 0 0 (zA G)) 7 [some (.inr 639), some (.inl v1)] [] M := by
    intro M v1 h
    unfold T_X10_letsFree_7 at h
    refine zl1_use h (fun v1 M => zJ p l e (zRoom 2 43 0 0) s m args below meth c G 2 0 0 (MQ below (zQv G (Qr)) args s 0 0 (zA G)) 7 [some (.inr 639), some (.inl v1)] [] M) (fun X7 hX7 v1 M h => ?_)
    refine zj_iload_n (pc := 7) hc dX10_letsFree_7 rfl ?_
    refine zj_if_lt (pc := 8) (tgt := 35) hc dX10_letsFree_8 (by decide) (fun hx1 => ?_) (fun hx1 => ?_)
    · have h := h.1 hx1
      exact zj_vret (pc := 35) hc hr hlk dX10_letsFree_35 (by decide) (by decide) h
    · have h := h.2 hx1
      refine zj_aload_n (pc := 11) hc dX10_letsFree_11 rfl ?_
      refine zj_aload_n (pc := 12) hc dX10_letsFree_12 rfl ?_
      refine zg_9_35 (pc := 13) hc lk_X10_71 dX10_letsFree_13 ?_
      refine zj_iload_n (pc := 16) hc dX10_letsFree_16 rfl ?_
      refine zj_iald (pc := 17) hc dX10_letsFree_17 alen_611 h.1 ?_
      have h := h.2
      refine zj_vti (pc := 18) (st := []) hc ks_X10_isInUse iv_X10_isInUse lk_X10_289 (zrv_9 G M) (S_X10_isInUse l G (M.2 611 v1) M _ h) rfl ⟨Nat.le_of_ble_eq_true rfl, Nat.le_of_ble_eq_true rfl⟩ (Nat.le_of_ble_eq_true rfl) ⟨Nat.le_of_ble_eq_true rfl, Nat.le_of_ble_eq_true rfl⟩ dX10_letsFree_18 rfl (fun y2 M9 h => ?_)
      obtain ⟨hM9, h⟩ := h
      subst hM9
      refine zj_if_ne (pc := 21) (tgt := 29) hc dX10_letsFree_21 (by decide) (fun hx3 => ?_) (fun hx3 => ?_)
      · have h := h.1 hx3
        exact k29 M v1 X7 hX7 h
      · have h := h.2 hx3
        refine zj_aload_n (pc := 24) hc dX10_letsFree_24 rfl ?_
        refine zj_iload_n (pc := 25) hc dX10_letsFree_25 rfl ?_
        refine zj_vtv (pc := 26) (st := []) hc ks_X10_lets iv_X10_lets lk_X10_94 (zrv_9 G M) (S_X10_lets l G v1 M _ h) rfl ⟨Nat.le_of_ble_eq_true rfl, Nat.le_of_ble_eq_true rfl⟩ (Nat.le_of_ble_eq_true rfl) ⟨Nat.le_of_ble_eq_true rfl, Nat.le_of_ble_eq_true rfl⟩ dX10_letsFree_26 rfl (fun M4 h => ?_)
        exact k29 M4 v1 X7 hX7 h
  unfold T_X10_letsFree at h
  refine zj_aload_n (pc := 0) hc dX10_letsFree_0 rfl ?_
  refine zg_9_36 (pc := 1) hc lk_X10_91 dX10_letsFree_1 ?_
  refine zj_iconst (pc := 4) hc dX10_letsFree_4 (zin _ rfl) ?_
  refine zj_isub (pc := 5) hc dX10_letsFree_5 h.1 ?_
  have h := h.2
  refine zj_istore_n (pc := 6) hc dX10_letsFree_6 (by decide) ?_
  exact k7 M ((M.1 612) - 1) h
set_option maxHeartbeats 4000000 in
set_option maxRecDepth 100000 in
theorem S_X10_alone (l : Launch) (G : zG) (v1 : Int) (M : zMem) (Qr : Int → zMem → Prop) (h : T_X10_alone v1 Qr M) : zMetI l yX10_alone cX10_alone 4 (some .int) 9 222 0 0 G [.inr 639, .inl v1] M Qr := by
  refine zmetI (by decide) (Nat.le_of_ble_eq_true rfl) [some (.inr 639), some (.inl v1), none, none] rfl ?_
  intro p e s m args below meth c hc hr hlk
  have k63 : ∀ (M : zMem) (v2 : Int) (v3 : Int), T_X10_alone_63 v2 Qr v3 M → zJ p l e (zRoom 9 222 0 0) s m args below meth c G 4 0 0 (MQ below (zQi G (Qr)) args s 0 0 (zA G)) 63 [some (.inr 639), none, some (.inl v2), some (.inl v3)] [] M := by
    intro M v2 v3 h
    unfold T_X10_alone_63 at h
    refine zl1_use h (fun v3 M => zJ p l e (zRoom 9 222 0 0) s m args below meth c G 4 0 0 (MQ below (zQi G (Qr)) args s 0 0 (zA G)) 63 [some (.inr 639), none, some (.inl v2), some (.inl v3)] [] M) (fun X63 hX63 v3 M h => ?_)
    refine zj_iload_n (pc := 63) hc dX10_alone_63 rfl ?_
    refine zj_aload_n (pc := 64) hc dX10_alone_64 rfl ?_
    refine zg_9_29 (pc := 65) hc lk_X10_242 dX10_alone_65 ?_
    refine zj_icmp_ge (pc := 68) (tgt := 98) hc dX10_alone_68 (by decide) (fun hx1 => ?_) (fun hx1 => ?_)
    · have h := h.1 hx1
      refine zj_aload_n (pc := 98) hc dX10_alone_98 rfl ?_
      refine zj_aload_n (pc := 99) hc dX10_alone_99 rfl ?_
      refine zg_9_28 (pc := 100) hc lk_X10_239 dX10_alone_100 ?_
      refine zj_aload_n (pc := 103) hc dX10_alone_103 rfl ?_
      refine zg_9_7 (pc := 104) hc lk_X10_25 dX10_alone_104 ?_
      refine zj_aload_n (pc := 107) hc dX10_alone_107 rfl ?_
      refine zg_9_28 (pc := 108) hc lk_X10_239 dX10_alone_108 ?_
      refine zj_iald (pc := 111) hc dX10_alone_111 alen_583 h.1 ?_
      have h := h.2
      refine zj_vtv (pc := 112) (st := []) hc ks_X10_writes iv_X10_writes lk_X10_271 (zrv_9 G M) (S_X10_writes l G (M.1 604) (M.2 583 (M.1 604)) M _ h) rfl ⟨Nat.le_of_ble_eq_true rfl, Nat.le_of_ble_eq_true rfl⟩ (Nat.le_of_ble_eq_true rfl) ⟨Nat.le_of_ble_eq_true rfl, Nat.le_of_ble_eq_true rfl⟩ dX10_alone_112 rfl (fun M2 h => ?_)
      refine zj_goto (pc := 115) (tgt := 122) hc dX10_alone_115 (by decide) ?_
      refine zj_aload_n (pc := 122) hc dX10_alone_122 rfl ?_
      refine zj_iload_n (pc := 123) hc dX10_alone_123 rfl ?_
      refine zj_vti (pc := 124) (st := []) hc ks_X10_ends iv_X10_ends lk_X10_314 (zrv_9 G M2) (S_X10_ends l G v2 M2 _ h) rfl ⟨Nat.le_of_ble_eq_true rfl, Nat.le_of_ble_eq_true rfl⟩ (Nat.le_of_ble_eq_true rfl) ⟨Nat.le_of_ble_eq_true rfl, Nat.le_of_ble_eq_true rfl⟩ dX10_alone_124 rfl (fun y3 M4 h => ?_)
      refine zj_istore_n (pc := 127) hc dX10_alone_127 (by decide) ?_
      refine zj_aload_n (pc := 128) hc dX10_alone_128 rfl ?_
      refine zj_vtv (pc := 129) (st := []) hc ks_X10_letsFree iv_X10_letsFree lk_X10_317 (zrv_9 G M4) (S_X10_letsFree l G M4 _ h) rfl ⟨Nat.le_of_ble_eq_true rfl, Nat.le_of_ble_eq_true rfl⟩ (Nat.le_of_ble_eq_true rfl) ⟨Nat.le_of_ble_eq_true rfl, Nat.le_of_ble_eq_true rfl⟩ dX10_alone_129 rfl (fun M5 h => ?_)
      refine zj_iload_n (pc := 132) hc dX10_alone_132 rfl ?_
      exact zj_iret (pc := 133) hc hr hlk dX10_alone_133 (by decide) (by decide) h
    · have h := h.2 hx1
      refine zj_aload_n (pc := 71) hc dX10_alone_71 rfl ?_
      refine zj_aload_n (pc := 72) hc dX10_alone_72 rfl ?_
      refine zg_9_28 (pc := 73) hc lk_X10_239 dX10_alone_73 ?_
      refine zj_iload_n (pc := 76) hc dX10_alone_76 rfl ?_
      refine zj_iadd (pc := 77) hc dX10_alone_77 h.1 ?_
      have h := h.2
      refine zj_aload_n (pc := 78) hc dX10_alone_78 rfl ?_
      refine zg_9_7 (pc := 79) hc lk_X10_25 dX10_alone_79 ?_
      refine zj_aload_n (pc := 82) hc dX10_alone_82 rfl ?_
      refine zg_9_28 (pc := 83) hc lk_X10_239 dX10_alone_83 ?_
      refine zj_iload_n (pc := 86) hc dX10_alone_86 rfl ?_
      refine zj_iadd (pc := 87) hc dX10_alone_87 h.1 ?_
      have h := h.2
      refine zj_iald (pc := 88) hc dX10_alone_88 alen_583 h.1 ?_
      have h := h.2
      refine zj_vtv (pc := 89) (st := []) hc ks_X10_writes iv_X10_writes lk_X10_271 (zrv_9 G M) (S_X10_writes l G ((M.1 604) + v3) (M.2 583 ((M.1 604) + v3)) M _ h) rfl ⟨Nat.le_of_ble_eq_true rfl, Nat.le_of_ble_eq_true rfl⟩ (Nat.le_of_ble_eq_true rfl) ⟨Nat.le_of_ble_eq_true rfl, Nat.le_of_ble_eq_true rfl⟩ dX10_alone_89 rfl (fun M6 h => ?_)
      refine zj_iinc (pc := 92) hc dX10_alone_92 rfl (by decide) h.1 ?_
      have h := h.2
      refine zj_goto (pc := 95) (tgt := 63) hc dX10_alone_95 (by decide) ?_
      exact hX63 (v3 + 1) M6 h
  unfold T_X10_alone at h
  refine zj_aload_n (pc := 0) hc dX10_alone_0 rfl ?_
  refine zj_vti (pc := 1) (st := []) hc ks_X10_isDown iv_X10_isDown lk_X10_292 (zrv_9 G M) (S_X10_isDown l G M _ h) rfl ⟨Nat.le_of_ble_eq_true rfl, Nat.le_of_ble_eq_true rfl⟩ (Nat.le_of_ble_eq_true rfl) ⟨Nat.le_of_ble_eq_true rfl, Nat.le_of_ble_eq_true rfl⟩ dX10_alone_1 rfl (fun y7 M9 h => ?_)
  obtain ⟨hM9, h⟩ := h
  subst hM9
  refine zj_if_eq (pc := 4) (tgt := 14) hc dX10_alone_4 (by decide) (fun hx8 => ?_) (fun hx8 => ?_)
  · have h := h.1 hx8
    refine zj_aload_n (pc := 14) hc dX10_alone_14 rfl ?_
    refine zj_aload_n (pc := 15) hc dX10_alone_15 rfl ?_
    refine zg_9_38 (pc := 16) hc lk_X10_74 dX10_alone_16 ?_
    refine zj_iconst (pc := 19) hc dX10_alone_19 (zin _ rfl) ?_
    refine zj_iald (pc := 20) hc dX10_alone_20 alen_614 h.1 ?_
    have h := h.2
    refine zj_vtv (pc := 21) (st := []) hc ks_X10_uses iv_X10_uses lk_X10_296 (zrv_9 G M) (S_X10_uses l G (M.2 614 1) M _ h) rfl ⟨Nat.le_of_ble_eq_true rfl, Nat.le_of_ble_eq_true rfl⟩ (Nat.le_of_ble_eq_true rfl) ⟨Nat.le_of_ble_eq_true rfl, Nat.le_of_ble_eq_true rfl⟩ dX10_alone_21 rfl (fun M9 h => ?_)
    refine zj_aload_n (pc := 24) hc dX10_alone_24 rfl ?_
    refine zj_vtv (pc := 25) (st := []) hc ks_X10_drafts iv_X10_drafts lk_X10_299 (zrv_9 G M9) (S_X10_drafts l G M9 _ h) rfl ⟨Nat.le_of_ble_eq_true rfl, Nat.le_of_ble_eq_true rfl⟩ (Nat.le_of_ble_eq_true rfl) ⟨Nat.le_of_ble_eq_true rfl, Nat.le_of_ble_eq_true rfl⟩ dX10_alone_25 rfl (fun M10 h => ?_)
    refine zj_aload_n (pc := 28) hc dX10_alone_28 rfl ?_
    refine zj_aload_n (pc := 29) hc dX10_alone_29 rfl ?_
    refine zg_9_38 (pc := 30) hc lk_X10_74 dX10_alone_30 ?_
    refine zj_iconst (pc := 33) hc dX10_alone_33 (zin _ rfl) ?_
    refine zj_vti (pc := 34) (st := []) hc ks_X10_edits iv_X10_edits lk_X10_302 (zrv_9 G M10) (S_X10_edits l G 614 0 M10 _ h) rfl ⟨Nat.le_of_ble_eq_true rfl, Nat.le_of_ble_eq_true rfl⟩ (Nat.le_of_ble_eq_true rfl) ⟨Nat.le_of_ble_eq_true rfl, Nat.le_of_ble_eq_true rfl⟩ dX10_alone_34 rfl (fun y11 M12 h => ?_)
    refine zj_istore_n (pc := 37) hc dX10_alone_37 (by decide) ?_
    refine zj_iload_n (pc := 38) hc dX10_alone_38 rfl ?_
    refine zj_if_ge (pc := 39) (tgt := 48) hc dX10_alone_39 (by decide) (fun hx13 => ?_) (fun hx13 => ?_)
    · have h := h.1 hx13
      refine zj_aload_n (pc := 48) hc dX10_alone_48 rfl ?_
      refine zj_iload_n (pc := 49) hc dX10_alone_49 rfl ?_
      refine zj_vtv (pc := 50) (st := []) hc ks_X10_keeps iv_X10_keeps lk_X10_305 (zrv_9 G M12) (S_X10_keeps l G v1 M12 _ h) rfl ⟨Nat.le_of_ble_eq_true rfl, Nat.le_of_ble_eq_true rfl⟩ (Nat.le_of_ble_eq_true rfl) ⟨Nat.le_of_ble_eq_true rfl, Nat.le_of_ble_eq_true rfl⟩ dX10_alone_50 rfl (fun M14 h => ?_)
      refine zj_aload_n (pc := 53) hc dX10_alone_53 rfl ?_
      refine zj_vtv (pc := 54) (st := []) hc ks_X10_beginsWriting iv_X10_beginsWriting lk_X10_308 (zrv_9 G M14) (S_X10_beginsWriting l G M14 _ h) rfl ⟨Nat.le_of_ble_eq_true rfl, Nat.le_of_ble_eq_true rfl⟩ (Nat.le_of_ble_eq_true rfl) ⟨Nat.le_of_ble_eq_true rfl, Nat.le_of_ble_eq_true rfl⟩ dX10_alone_54 rfl (fun M15 h => ?_)
      refine zj_iload_n (pc := 57) hc dX10_alone_57 rfl ?_
      refine zj_if_ne (pc := 58) (tgt := 118) hc dX10_alone_58 (by decide) (fun hx16 => ?_) (fun hx16 => ?_)
      · have h := h.1 hx16
        refine zj_aload_n (pc := 118) hc dX10_alone_118 rfl ?_
        refine zj_vtv (pc := 119) (st := []) hc ks_X10_throughJournal iv_X10_throughJournal lk_X10_311 (zrv_9 G M15) (S_X10_throughJournal l G M15 _ h) rfl ⟨Nat.le_of_ble_eq_true rfl, Nat.le_of_ble_eq_true rfl⟩ (Nat.le_of_ble_eq_true rfl) ⟨Nat.le_of_ble_eq_true rfl, Nat.le_of_ble_eq_true rfl⟩ dX10_alone_119 rfl (fun M17 h => ?_)
        refine zj_aload_n (pc := 122) hc dX10_alone_122 rfl ?_
        refine zj_iload_n (pc := 123) hc dX10_alone_123 rfl ?_
        refine zj_vti (pc := 124) (st := []) hc ks_X10_ends iv_X10_ends lk_X10_314 (zrv_9 G M17) (S_X10_ends l G y11 M17 _ h) rfl ⟨Nat.le_of_ble_eq_true rfl, Nat.le_of_ble_eq_true rfl⟩ (Nat.le_of_ble_eq_true rfl) ⟨Nat.le_of_ble_eq_true rfl, Nat.le_of_ble_eq_true rfl⟩ dX10_alone_124 rfl (fun y18 M19 h => ?_)
        refine zj_istore_n (pc := 127) hc dX10_alone_127 (by decide) ?_
        refine zj_aload_n (pc := 128) hc dX10_alone_128 rfl ?_
        refine zj_vtv (pc := 129) (st := []) hc ks_X10_letsFree iv_X10_letsFree lk_X10_317 (zrv_9 G M19) (S_X10_letsFree l G M19 _ h) rfl ⟨Nat.le_of_ble_eq_true rfl, Nat.le_of_ble_eq_true rfl⟩ (Nat.le_of_ble_eq_true rfl) ⟨Nat.le_of_ble_eq_true rfl, Nat.le_of_ble_eq_true rfl⟩ dX10_alone_129 rfl (fun M20 h => ?_)
        refine zj_iload_n (pc := 132) hc dX10_alone_132 rfl ?_
        exact zj_iret (pc := 133) hc hr hlk dX10_alone_133 (by decide) (by decide) h
      · have h := h.2 hx16
        refine zj_iconst (pc := 61) hc dX10_alone_61 (zin _ rfl) ?_
        refine zj_istore_n (pc := 62) hc dX10_alone_62 (by decide) ?_
        refine zj_mask (bs := [true, false, true, true]) ?_
        exact k63 M15 y11 1 h
    · have h := h.2 hx13
      refine zj_aload_n (pc := 42) hc dX10_alone_42 rfl ?_
      refine zj_iload_n (pc := 43) hc dX10_alone_43 rfl ?_
      refine zj_vti (pc := 44) (st := []) hc ks_X10_refuses iv_X10_refuses lk_X10_87 (zrv_9 G M12) (S_X10_refuses l G y11 M12 _ h) rfl ⟨Nat.le_of_ble_eq_true rfl, Nat.le_of_ble_eq_true rfl⟩ (Nat.le_of_ble_eq_true rfl) ⟨Nat.le_of_ble_eq_true rfl, Nat.le_of_ble_eq_true rfl⟩ dX10_alone_44 rfl (fun y21 M22 h => ?_)
      exact zj_iret (pc := 47) hc hr hlk dX10_alone_47 (by decide) (by decide) h
  · have h := h.2 hx8
    refine zj_aload_n (pc := 7) hc dX10_alone_7 rfl ?_
    refine zj_bipush (pc := 8) hc dX10_alone_8 (by decide) (zin _ rfl) ?_
    refine zj_vti (pc := 10) (st := []) hc ks_X10_refuses iv_X10_refuses lk_X10_87 (zrv_9 G M) (S_X10_refuses l G (-3) M _ h) rfl ⟨Nat.le_of_ble_eq_true rfl, Nat.le_of_ble_eq_true rfl⟩ (Nat.le_of_ble_eq_true rfl) ⟨Nat.le_of_ble_eq_true rfl, Nat.le_of_ble_eq_true rfl⟩ dX10_alone_10 rfl (fun y23 M24 h => ?_)
    exact zj_iret (pc := 13) hc hr hlk dX10_alone_13 (by decide) (by decide) h
