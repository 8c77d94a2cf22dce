set_option maxHeartbeats 4000000 in
set_option maxRecDepth 100000 in
theorem S_X10_pagesOf (l : Launch) (G : zG) (r0 : Nat) (M : zMem) (Qr : Int → Prop) (h : T_X10_pagesOf r0 Qr M) : zMetI l yX10_pagesOf cX10_pagesOf 1 (some .int) 0 0 0 0 G [.inr r0] M (fun r9 M9 => M = M9 ∧ Qr r9) := by
  refine zmetI (by decide) (Nat.le_of_ble_eq_true rfl) [some (.inr r0)] rfl ?_
  intro p e s m args below meth c hc hr hlk
  unfold T_X10_pagesOf at h
  refine zj_aload_n (pc := 0) hc dX10_pagesOf_0 rfl ?_
  refine zj_sipush (pc := 1) hc dX10_pagesOf_1 (by decide) (zin _ rfl) ?_
  refine zj_iald (pc := 4) hc dX10_pagesOf_4 rfl h.1 ?_
  have h := h.2
  exact zj_iret (pc := 5) hc hr hlk dX10_pagesOf_5 (by decide) (by decide) ⟨rfl, h⟩
set_option maxHeartbeats 4000000 in
set_option maxRecDepth 100000 in
theorem S_X10_numberOf (l : Launch) (G : zG) (r0 : Nat) (v1 : Int) (M : zMem) (Qr : Int → Prop) (h : T_X10_numberOf r0 v1 Qr M) : zMetI l yX10_numberOf cX10_numberOf 2 (some .int) 0 0 0 0 G [.inr r0, .inl v1] M (fun r9 M9 => M = M9 ∧ Qr r9) := by
  refine zmetI (by decide) (Nat.le_of_ble_eq_true rfl) [some (.inr r0), some (.inl v1)] rfl ?_
  intro p e s m args below meth c hc hr hlk
  unfold T_X10_numberOf at h
  refine zj_aload_n (pc := 0) hc dX10_numberOf_0 rfl ?_
  refine zj_sipush (pc := 1) hc dX10_numberOf_1 (by decide) (zin _ rfl) ?_
  refine zj_iconst (pc := 4) hc dX10_numberOf_4 (zin _ rfl) ?_
  refine zj_iload_n (pc := 5) hc dX10_numberOf_5 rfl ?_
  refine zj_imul (pc := 6) hc dX10_numberOf_6 h.1 ?_
  have h := h.2
  refine zj_iadd (pc := 7) hc dX10_numberOf_7 h.1 ?_
  have h := h.2
  refine zj_iald (pc := 8) hc dX10_numberOf_8 rfl h.1 ?_
  have h := h.2
  exact zj_iret (pc := 9) hc hr hlk dX10_numberOf_9 (by decide) (by decide) ⟨rfl, h⟩
set_option maxHeartbeats 4000000 in
set_option maxRecDepth 100000 in
theorem S_X10_fenceOf (l : Launch) (G : zG) (r0 : Nat) (v1 : Int) (M : zMem) (Qr : Int → Prop) (h : T_X10_fenceOf r0 v1 Qr M) : zMetI l yX10_fenceOf cX10_fenceOf 2 (some .int) 0 0 0 0 G [.inr r0, .inl v1] M (fun r9 M9 => M = M9 ∧ Qr r9) := by
  refine zmetI (by decide) (Nat.le_of_ble_eq_true rfl) [some (.inr r0), some (.inl v1)] rfl ?_
  intro p e s m args below meth c hc hr hlk
  unfold T_X10_fenceOf at h
  refine zj_aload_n (pc := 0) hc dX10_fenceOf_0 rfl ?_
  refine zj_sipush (pc := 1) hc dX10_fenceOf_1 (by decide) (zin _ rfl) ?_
  refine zj_iconst (pc := 4) hc dX10_fenceOf_4 (zin _ rfl) ?_
  refine zj_iload_n (pc := 5) hc dX10_fenceOf_5 rfl ?_
  refine zj_imul (pc := 6) hc dX10_fenceOf_6 h.1 ?_
  have h := h.2
  refine zj_iadd (pc := 7) hc dX10_fenceOf_7 h.1 ?_
  have h := h.2
  refine zj_iald (pc := 8) hc dX10_fenceOf_8 rfl h.1 ?_
  have h := h.2
  exact zj_iret (pc := 9) hc hr hlk dX10_fenceOf_9 (by decide) (by decide) ⟨rfl, h⟩
set_option maxHeartbeats 4000000 in
set_option maxRecDepth 100000 in
theorem S_X10_placeFor (l : Launch) (G : zG) (r0 : Nat) (v1 : Int) (M : zMem) (Qr : Int → Prop) (h : T_X10_placeFor r0 v1 Qr M) : zMetI l yX10_placeFor cX10_placeFor 3 (some .int) 1 21 0 0 G [.inr r0, .inl v1] M (fun r9 M9 => M = M9 ∧ Qr r9) := by
  refine zmetI (by decide) (Nat.le_of_ble_eq_true rfl) [some (.inr r0), some (.inl v1), none] rfl ?_
  intro p e s m args below meth c hc hr hlk
  have k2 : ∀ (r0 : Nat) (v1 : Int) (v2 : Int), T_X10_placeFor_2 r0 v1 Qr v2 M → zJ p l e (zRoom 1 21 0 0) s m args below meth c G 3 0 0 (MQ below (zQi G (fun r9 M9 => M = M9 ∧ Qr r9)) args s 0 0 (zA G)) 2 [some (.inr r0), some (.inl v1), some (.inl v2)] [] M := by
    intro r0 v1 v2 h
    unfold T_X10_placeFor_2 at h
    refine zp1_use h (fun v2 => zJ p l e (zRoom 1 21 0 0) s m args below meth c G 3 0 0 (MQ below (zQi G (fun r9 M9 => M = M9 ∧ Qr r9)) args s 0 0 (zA G)) 2 [some (.inr r0), some (.inl v1), some (.inl v2)] [] M) (fun X2 hX2 v2 h => ?_)
    refine zj_iload_n (pc := 2) hc dX10_placeFor_2 rfl ?_
    refine zj_iconst (pc := 3) hc dX10_placeFor_3 (zin _ rfl) ?_
    refine zj_iadd (pc := 4) hc dX10_placeFor_4 h.1 ?_
    have h := h.2
    refine zj_aload_n (pc := 5) hc dX10_placeFor_5 rfl ?_
    refine zj_sti (pc := 6) (st := [.inl (v2 + 1)]) hc ks_X10_pagesOf st_X10_pagesOf lk_X10_151 (S_X10_pagesOf l G r0 M _ h) rfl ⟨Nat.le_of_ble_eq_true rfl, Nat.le_of_ble_eq_true rfl⟩ (Nat.le_of_ble_eq_true rfl) ⟨Nat.le_of_ble_eq_true rfl, Nat.le_of_ble_eq_true rfl⟩ dX10_placeFor_6 rfl (fun y1 M9 h => ?_)
    obtain ⟨hM9, h⟩ := h
    subst hM9
    refine zj_icmp_ge (pc := 9) (tgt := 29) hc dX10_placeFor_9 (by decide) (fun hx2 => ?_) (fun hx2 => ?_)
    · have h := h.1 hx2
      refine zj_iload_n (pc := 29) hc dX10_placeFor_29 rfl ?_
      exact zj_iret (pc := 30) hc hr hlk dX10_placeFor_30 (by decide) (by decide) ⟨rfl, h⟩
    · have h := h.2 hx2
      refine zj_aload_n (pc := 12) hc dX10_placeFor_12 rfl ?_
      refine zj_iload_n (pc := 13) hc dX10_placeFor_13 rfl ?_
      refine zj_iconst (pc := 14) hc dX10_placeFor_14 (zin _ rfl) ?_
      refine zj_iadd (pc := 15) hc dX10_placeFor_15 h.1 ?_
      have h := h.2
      refine zj_sti (pc := 16) (st := []) hc ks_X10_fenceOf st_X10_fenceOf lk_X10_155 (S_X10_fenceOf l G r0 (v2 + 1) M _ h) rfl ⟨Nat.le_of_ble_eq_true rfl, Nat.le_of_ble_eq_true rfl⟩ (Nat.le_of_ble_eq_true rfl) ⟨Nat.le_of_ble_eq_true rfl, Nat.le_of_ble_eq_true rfl⟩ dX10_placeFor_16 rfl (fun y3 M9 h => ?_)
      obtain ⟨hM9, h⟩ := h
      subst hM9
      refine zj_iload_n (pc := 19) hc dX10_placeFor_19 rfl ?_
      refine zj_icmp_gt (pc := 20) (tgt := 29) hc dX10_placeFor_20 (by decide) (fun hx4 => ?_) (fun hx4 => ?_)
      · have h := h.1 hx4
        refine zj_iload_n (pc := 29) hc dX10_placeFor_29 rfl ?_
        exact zj_iret (pc := 30) hc hr hlk dX10_placeFor_30 (by decide) (by decide) ⟨rfl, h⟩
      · have h := h.2 hx4
        refine zj_iinc (pc := 23) hc dX10_placeFor_23 rfl (by decide) h.1 ?_
        have h := h.2
        refine zj_goto (pc := 26) (tgt := 2) hc dX10_placeFor_26 (by decide) ?_
        exact hX2 (v2 + 1) h
  unfold T_X10_placeFor at h
  refine zj_iconst (pc := 0) hc dX10_placeFor_0 (zin _ rfl) ?_
  refine zj_istore_n (pc := 1) hc dX10_placeFor_1 (by decide) ?_
  exact k2 r0 v1 0 h
set_option maxHeartbeats 4000000 in
set_option maxRecDepth 100000 in
theorem S_X10_laysPacked (l : Launch) (G : zG) (r1 : Nat) (v2 : Int) (M : zMem) (Qr : zMem → Prop) (h : T_X10_laysPacked r1 v2 Qr M) : zMetV l yX10_laysPacked cX10_laysPacked 8 none 2 50 0 0 G [.inr 639, .inr r1, .inl v2] M Qr := by
  refine zmetV (by decide) (Nat.le_of_ble_eq_true rfl) [some (.inr 639), some (.inr r1), some (.inl v2), none, none, none, none, none] rfl ?_
  intro p e s m args below meth c hc hr hlk
  have k63 : ∀ (M : zMem) (v5 : Int) (v6 : Int) (X26 : Int → zMem → Prop) (hX26 : ∀ (v5 : Int) (M : zMem), X26 v5 M → zJ p l e (zRoom 2 50 0 0) s m args below meth c G 8 0 0 (MQ below (zQv G (Qr)) args s 0 0 (zA G)) 26 [some (.inr 639), none, none, none, none, some (.inl v5), none, none] [] M) (v7 : Int), T_X10_laysPacked_63 v5 v6 X26 Qr v7 M → zJ p l e (zRoom 2 50 0 0) s m args below meth c G 8 0 0 (MQ below (zQv G (Qr)) args s 0 0 (zA G)) 63 [some (.inr 639), none, none, none, none, some (.inl v5), some (.inl v6), some (.inl v7)] [] M := by
    intro M v5 v6 X26 hX26 v7 h
    unfold T_X10_laysPacked_63 at h
    refine zl1_use h (fun v7 M => zJ p l e (zRoom 2 50 0 0) s m args below meth c G 8 0 0 (MQ below (zQv G (Qr)) args s 0 0 (zA G)) 63 [some (.inr 639), none, none, none, none, some (.inl v5), some (.inl v6), some (.inl v7)] [] M) (fun X63 hX63 v7 M h => ?_)
    refine zj_iload (pc := 63) hc dX10_laysPacked_63 rfl ?_
    refine zj_aload_n (pc := 65) hc dX10_laysPacked_65 rfl ?_
    refine zg_9_20 (pc := 66) hc lk_X10_47 dX10_laysPacked_66 ?_
    refine zj_iload (pc := 69) hc dX10_laysPacked_69 rfl ?_
    refine zj_iald (pc := 71) hc dX10_laysPacked_71 alen_596 h.1 ?_
    have h := h.2
    refine zj_icmp_ge (pc := 72) (tgt := 106) hc dX10_laysPacked_72 (by decide) (fun hx1 => ?_) (fun hx1 => ?_)
    · have h := h.1 hx1
      refine zj_iload (pc := 106) hc dX10_laysPacked_106 rfl ?_
      refine zj_iconst (pc := 108) hc dX10_laysPacked_108 (zin _ rfl) ?_
      refine zj_aload_n (pc := 109) hc dX10_laysPacked_109 rfl ?_
      refine zg_9_20 (pc := 110) hc lk_X10_47 dX10_laysPacked_110 ?_
      refine zj_iload (pc := 113) hc dX10_laysPacked_113 rfl ?_
      refine zj_iald (pc := 115) hc dX10_laysPacked_115 alen_596 h.1 ?_
      have h := h.2
      refine zj_iadd (pc := 116) hc dX10_laysPacked_116 h.1 ?_
      have h := h.2
      refine zj_iadd (pc := 117) hc dX10_laysPacked_117 h.1 ?_
      have h := h.2
      refine zj_istore (pc := 118) hc dX10_laysPacked_118 (by decide) ?_
      refine zj_goto (pc := 120) (tgt := 26) hc dX10_laysPacked_120 (by decide) ?_
      refine zj_mask (bs := [true, true, true, true, true, true, false, false]) ?_
      exact hX26 (v5 + (2 + (M.2 596 v6))) M h
    · have h := h.2 hx1
      refine zj_aload_n (pc := 75) hc dX10_laysPacked_75 rfl ?_
      refine zg_9_21 (pc := 76) hc lk_X10_50 dX10_laysPacked_76 ?_
      refine zj_bipush (pc := 79) hc dX10_laysPacked_79 (by decide) (zin _ rfl) ?_
      refine zj_iload (pc := 81) hc dX10_laysPacked_81 rfl ?_
      refine zj_imul (pc := 83) hc dX10_laysPacked_83 h.1 ?_
      have h := h.2
      refine zj_iload (pc := 84) hc dX10_laysPacked_84 rfl ?_
      refine zj_iadd (pc := 86) hc dX10_laysPacked_86 h.1 ?_
      have h := h.2
      refine zj_aload_n (pc := 87) hc dX10_laysPacked_87 rfl ?_
      refine zg_9_14 (pc := 88) hc lk_X10_38 dX10_laysPacked_88 ?_
      refine zj_iload (pc := 91) hc dX10_laysPacked_91 rfl ?_
      refine zj_iconst (pc := 93) hc dX10_laysPacked_93 (zin _ rfl) ?_
      refine zj_iadd (pc := 94) hc dX10_laysPacked_94 h.1 ?_
      have h := h.2
      refine zj_iload (pc := 95) hc dX10_laysPacked_95 rfl ?_
      refine zj_iadd (pc := 97) hc dX10_laysPacked_97 h.1 ?_
      have h := h.2
      refine zj_iald (pc := 98) hc dX10_laysPacked_98 alen_590 h.1 ?_
      have h := h.2
      refine zj_iast (pc := 99) hc dX10_laysPacked_99 alen_597 h.1 (fun M2 hM2 => ?_)
      have h := h.2 M2 hM2
      refine zj_iinc (pc := 100) hc dX10_laysPacked_100 rfl (by decide) h.1 ?_
      have h := h.2
      refine zj_goto (pc := 103) (tgt := 63) hc dX10_laysPacked_103 (by decide) ?_
      exact hX63 (v7 + 1) M2 h
  have k26 : ∀ (M : zMem) (v5 : Int), T_X10_laysPacked_26 Qr v5 M → zJ p l e (zRoom 2 50 0 0) s m args below meth c G 8 0 0 (MQ below (zQv G (Qr)) args s 0 0 (zA G)) 26 [some (.inr 639), none, none, none, none, some (.inl v5), none, none] [] M := by
    intro M v5 h
    unfold T_X10_laysPacked_26 at h
    refine zl1_use h (fun v5 M => zJ p l e (zRoom 2 50 0 0) s m args below meth c G 8 0 0 (MQ below (zQv G (Qr)) args s 0 0 (zA G)) 26 [some (.inr 639), none, none, none, none, some (.inl v5), none, none] [] M) (fun X26 hX26 v5 M h => ?_)
    refine zj_iload (pc := 26) hc dX10_laysPacked_26 rfl ?_
    refine zj_aload_n (pc := 28) hc dX10_laysPacked_28 rfl ?_
    refine zg_9_15 (pc := 29) hc lk_X10_107 dX10_laysPacked_29 ?_
    refine zj_icmp_ge (pc := 32) (tgt := 123) hc dX10_laysPacked_32 (by decide) (fun hx3 => ?_) (fun hx3 => ?_)
    · have h := h.1 hx3
      exact zj_vret (pc := 123) hc hr hlk dX10_laysPacked_123 (by decide) (by decide) h
    · have h := h.2 hx3
      refine zj_aload_n (pc := 35) hc dX10_laysPacked_35 rfl ?_
      refine zg_9_14 (pc := 36) hc lk_X10_38 dX10_laysPacked_36 ?_
      refine zj_iload (pc := 39) hc dX10_laysPacked_39 rfl ?_
      refine zj_iald (pc := 41) hc dX10_laysPacked_41 alen_590 h.1 ?_
      have h := h.2
      refine zj_istore (pc := 42) hc dX10_laysPacked_42 (by decide) ?_
      refine zj_aload_n (pc := 44) hc dX10_laysPacked_44 rfl ?_
      refine zg_9_20 (pc := 45) hc lk_X10_47 dX10_laysPacked_45 ?_
      refine zj_iload (pc := 48) hc dX10_laysPacked_48 rfl ?_
      refine zj_aload_n (pc := 50) hc dX10_laysPacked_50 rfl ?_
      refine zg_9_14 (pc := 51) hc lk_X10_38 dX10_laysPacked_51 ?_
      refine zj_iload (pc := 54) hc dX10_laysPacked_54 rfl ?_
      refine zj_iconst (pc := 56) hc dX10_laysPacked_56 (zin _ rfl) ?_
      refine zj_iadd (pc := 57) hc dX10_laysPacked_57 h.1 ?_
      have h := h.2
      refine zj_iald (pc := 58) hc dX10_laysPacked_58 alen_590 h.1 ?_
      have h := h.2
      refine zj_iast (pc := 59) hc dX10_laysPacked_59 alen_596 h.1 (fun M4 hM4 => ?_)
      have h := h.2 M4 hM4
      refine zj_iconst (pc := 60) hc dX10_laysPacked_60 (zin _ rfl) ?_
      refine zj_istore (pc := 61) hc dX10_laysPacked_61 (by decide) ?_
      exact k63 M4 v5 (M.2 590 v5) X26 hX26 0 h
  unfold T_X10_laysPacked at h
  refine zj_bipush (pc := 0) hc dX10_laysPacked_0 (by decide) (zin _ rfl) ?_
  refine zj_iload_n (pc := 2) hc dX10_laysPacked_2 rfl ?_
  refine zj_imul (pc := 3) hc dX10_laysPacked_3 h.1 ?_
  have h := h.2
  refine zj_istore_n (pc := 4) hc dX10_laysPacked_4 (by decide) ?_
  refine zj_aload_n (pc := 5) hc dX10_laysPacked_5 rfl ?_
  refine zj_aload_n (pc := 6) hc dX10_laysPacked_6 rfl ?_
  refine zj_iload_n (pc := 7) hc dX10_laysPacked_7 rfl ?_
  refine zj_iconst (pc := 8) hc dX10_laysPacked_8 (zin _ rfl) ?_
  refine zj_iadd (pc := 9) hc dX10_laysPacked_9 h.1 ?_
  have h := h.2
  refine zj_aload_n (pc := 10) hc dX10_laysPacked_10 rfl ?_
  refine zj_iload_n (pc := 11) hc dX10_laysPacked_11 rfl ?_
  refine zj_iconst (pc := 12) hc dX10_laysPacked_12 (zin _ rfl) ?_
  refine zj_iadd (pc := 13) hc dX10_laysPacked_13 h.1 ?_
  have h := h.2
  refine zj_iald (pc := 14) hc dX10_laysPacked_14 rfl h.1 ?_
  have h := h.2
  refine zj_aload_n (pc := 15) hc dX10_laysPacked_15 rfl ?_
  refine zj_iload_n (pc := 16) hc dX10_laysPacked_16 rfl ?_
  refine zj_iald (pc := 17) hc dX10_laysPacked_17 rfl h.1 ?_
  have h := h.2
  refine zj_vti (pc := 18) (st := []) hc ks_X10_unpacks iv_X10_unpacks lk_X10_144 (zrv_9 G M) (S_X10_unpacks l G r1 ((64 * v2) + 2) (M.2 r1 ((64 * v2) + 1)) (M.2 r1 (64 * v2)) M _ h) rfl ⟨Nat.le_of_ble_eq_true rfl, Nat.le_of_ble_eq_true rfl⟩ (Nat.le_of_ble_eq_true rfl) ⟨Nat.le_of_ble_eq_true rfl, Nat.le_of_ble_eq_true rfl⟩ dX10_laysPacked_18 rfl (fun y5 M6 h => ?_)
  refine zj_istore (pc := 21) hc dX10_laysPacked_21 (by decide) ?_
  refine zj_iconst (pc := 23) hc dX10_laysPacked_23 (zin _ rfl) ?_
  refine zj_istore (pc := 24) hc dX10_laysPacked_24 (by decide) ?_
  refine zj_mask (bs := [true, false, false, false, false, true, true, true]) ?_
  exact k26 M6 0 h
set_option maxHeartbeats 4000000 in
set_option maxRecDepth 100000 in
theorem S_X10_entryAt (l : Launch) (G : zG) (r0 : Nat) (v1 : Int) (v2 : Int) (M : zMem) (Qr : Int → Prop) (h : T_X10_entryAt r0 v1 v2 Qr M) : zMetI l yX10_entryAt cX10_entryAt 6 (some .int) 2 41 0 0 G [.inr r0, .inl v1, .inl v2] M (fun r9 M9 => M = M9 ∧ Qr r9) := by
  refine zmetI (by decide) (Nat.le_of_ble_eq_true rfl) [some (.inr r0), some (.inl v1), some (.inl v2), none, none, none] rfl ?_
  intro p e s m args below meth c hc hr hlk
  have k17 : ∀ (r0 : Nat) (v2 : Int) (v3 : Int) (v4 : Int) (v5 : Int), T_X10_entryAt_17 r0 v2 v3 Qr v4 v5 M → zJ p l e (zRoom 2 41 0 0) s m args below meth c G 6 0 0 (MQ below (zQi G (fun r9 M9 => M = M9 ∧ Qr r9)) args s 0 0 (zA G)) 17 [some (.inr r0), none, some (.inl v2), some (.inl v3), some (.inl v4), some (.inl v5)] [] M := by
    intro r0 v2 v3 v4 v5 h
    unfold T_X10_entryAt_17 at h
    refine zp2_use h (fun v4 v5 => zJ p l e (zRoom 2 41 0 0) s m args below meth c G 6 0 0 (MQ below (zQi G (fun r9 M9 => M = M9 ∧ Qr r9)) args s 0 0 (zA G)) 17 [some (.inr r0), none, some (.inl v2), some (.inl v3), some (.inl v4), some (.inl v5)] [] M) (fun X17 hX17 v4 v5 h => ?_)
    refine zj_iload (pc := 17) hc dX10_entryAt_17 rfl ?_
    refine zj_iload_n (pc := 19) hc dX10_entryAt_19 rfl ?_
    refine zj_icmp_ge (pc := 20) (tgt := 59) hc dX10_entryAt_20 (by decide) (fun hx1 => ?_) (fun hx1 => ?_)
    · have h := h.1 hx1
      refine zj_iload (pc := 59) hc dX10_entryAt_59 rfl ?_
      exact zj_iret (pc := 61) hc hr hlk dX10_entryAt_61 (by decide) (by decide) ⟨rfl, h⟩
    · have h := h.2 hx1
      refine zj_iload (pc := 23) hc dX10_entryAt_23 rfl ?_
      refine zj_bipush (pc := 25) hc dX10_entryAt_25 (by decide) (zin _ rfl) ?_
      refine zj_icmp_ge (pc := 27) (tgt := 59) hc dX10_entryAt_27 (by decide) (fun hx2 => ?_) (fun hx2 => ?_)
      · have h := h.1 hx2
        refine zj_iload (pc := 59) hc dX10_entryAt_59 rfl ?_
        exact zj_iret (pc := 61) hc hr hlk dX10_entryAt_61 (by decide) (by decide) ⟨rfl, h⟩
      · have h := h.2 hx2
        refine zj_aload_n (pc := 30) hc dX10_entryAt_30 rfl ?_
        refine zj_iload_n (pc := 31) hc dX10_entryAt_31 rfl ?_
        refine zj_iload (pc := 32) hc dX10_entryAt_32 rfl ?_
        refine zj_iadd (pc := 34) hc dX10_entryAt_34 h.1 ?_
        have h := h.2
        refine zj_iald (pc := 35) hc dX10_entryAt_35 rfl h.1 ?_
        have h := h.2
        refine zj_if_eq (pc := 36) (tgt := 59) hc dX10_entryAt_36 (by decide) (fun hx3 => ?_) (fun hx3 => ?_)
        · have h := h.1 hx3
          refine zj_iload (pc := 59) hc dX10_entryAt_59 rfl ?_
          exact zj_iret (pc := 61) hc hr hlk dX10_entryAt_61 (by decide) (by decide) ⟨rfl, h⟩
        · have h := h.2 hx3
          refine zj_iload (pc := 39) hc dX10_entryAt_39 rfl ?_
          refine zj_aload_n (pc := 41) hc dX10_entryAt_41 rfl ?_
          refine zj_iload_n (pc := 42) hc dX10_entryAt_42 rfl ?_
          refine zj_iload (pc := 43) hc dX10_entryAt_43 rfl ?_
          refine zj_iadd (pc := 45) hc dX10_entryAt_45 h.1 ?_
          have h := h.2
          refine zj_iald (pc := 46) hc dX10_entryAt_46 rfl h.1 ?_
          have h := h.2
          refine zj_sti (pc := 47) (st := [.inl v4]) hc ks_X10_lengthOf st_X10_lengthOf lk_X10_159 (S_X10_lengthOf l G (M.2 r0 (v3 + v4)) M _ h) rfl ⟨Nat.le_of_ble_eq_true rfl, Nat.le_of_ble_eq_true rfl⟩ (Nat.le_of_ble_eq_true rfl) ⟨Nat.le_of_ble_eq_true rfl, Nat.le_of_ble_eq_true rfl⟩ dX10_entryAt_47 rfl (fun y4 M9 h => ?_)
          obtain ⟨hM9, h⟩ := h
          subst hM9
          refine zj_iadd (pc := 50) hc dX10_entryAt_50 h.1 ?_
          have h := h.2
          refine zj_istore (pc := 51) hc dX10_entryAt_51 (by decide) ?_
          refine zj_iinc (pc := 53) hc dX10_entryAt_53 rfl (by decide) h.1 ?_
          have h := h.2
          refine zj_goto (pc := 56) (tgt := 17) hc dX10_entryAt_56 (by decide) ?_
          exact hX17 (v4 + y4) (v5 + 1) h
  unfold T_X10_entryAt at h
  refine zj_bipush (pc := 0) hc dX10_entryAt_0 (by decide) (zin _ rfl) ?_
  refine zj_iload_n (pc := 2) hc dX10_entryAt_2 rfl ?_
  refine zj_imul (pc := 3) hc dX10_entryAt_3 h.1 ?_
  have h := h.2
  refine zj_istore_n (pc := 4) hc dX10_entryAt_4 (by decide) ?_
  refine zj_iconst (pc := 5) hc dX10_entryAt_5 (zin _ rfl) ?_
  refine zj_aload_n (pc := 6) hc dX10_entryAt_6 rfl ?_
  refine zj_iload_n (pc := 7) hc dX10_entryAt_7 rfl ?_
  refine zj_iconst (pc := 8) hc dX10_entryAt_8 (zin _ rfl) ?_
  refine zj_iadd (pc := 9) hc dX10_entryAt_9 h.1 ?_
  have h := h.2
  refine zj_iald (pc := 10) hc dX10_entryAt_10 rfl h.1 ?_
  have h := h.2
  refine zj_iadd (pc := 11) hc dX10_entryAt_11 h.1 ?_
  have h := h.2
  refine zj_istore (pc := 12) hc dX10_entryAt_12 (by decide) ?_
  refine zj_iconst (pc := 14) hc dX10_entryAt_14 (zin _ rfl) ?_
  refine zj_istore (pc := 15) hc dX10_entryAt_15 (by decide) ?_
  refine zj_mask (bs := [true, false, true, true, true, true]) ?_
  exact k17 r0 v2 (64 * v1) (2 + (M.2 r0 ((64 * v1) + 1))) 0 h
set_option maxHeartbeats 4000000 in
set_option maxRecDepth 100000 in
theorem S_X10_endOf (l : Launch) (G : zG) (r0 : Nat) (v1 : Int) (M : zMem) (Qr : Int → Prop) (h : T_X10_endOf r0 v1 Qr M) : zMetI l yX10_endOf cX10_endOf 2 (some .int) 3 66 0 0 G [.inr r0, .inl v1] M (fun r9 M9 => M = M9 ∧ Qr r9) := by
  refine zmetI (by decide) (Nat.le_of_ble_eq_true rfl) [some (.inr r0), some (.inl v1)] rfl ?_
  intro p e s m args below meth c hc hr hlk
  unfold T_X10_endOf at h
  refine zj_aload_n (pc := 0) hc dX10_endOf_0 rfl ?_
  refine zj_iload_n (pc := 1) hc dX10_endOf_1 rfl ?_
  refine zj_bipush (pc := 2) hc dX10_endOf_2 (by decide) (zin _ rfl) ?_
  refine zj_sti (pc := 4) (st := []) hc ks_X10_entryAt st_X10_entryAt lk_X10_162 (S_X10_entryAt l G r0 v1 64 M _ h) rfl ⟨Nat.le_of_ble_eq_true rfl, Nat.le_of_ble_eq_true rfl⟩ (Nat.le_of_ble_eq_true rfl) ⟨Nat.le_of_ble_eq_true rfl, Nat.le_of_ble_eq_true rfl⟩ dX10_endOf_4 rfl (fun y1 M9 h => ?_)
  obtain ⟨hM9, h⟩ := h
  subst hM9
  exact zj_iret (pc := 7) hc hr hlk dX10_endOf_7 (by decide) (by decide) ⟨rfl, h⟩
set_option maxHeartbeats 4000000 in
set_option maxRecDepth 100000 in
theorem S_X10_entriesOf (l : Launch) (G : zG) (r0 : Nat) (v1 : Int) (M : zMem) (Qr : Int → Prop) (h : T_X10_entriesOf r0 v1 Qr M) : zMetI l yX10_entriesOf cX10_entriesOf 4 (some .int) 4 87 0 0 G [.inr r0, .inl v1] M (fun r9 M9 => M = M9 ∧ Qr r9) := by
  refine zmetI (by decide) (Nat.le_of_ble_eq_true rfl) [some (.inr r0), some (.inl v1), none, none] rfl ?_
  intro p e s m args below meth c hc hr hlk
  have k8 : ∀ (r0 : Nat) (v1 : Int) (v2 : Int) (v3 : Int), T_X10_entriesOf_8 r0 v1 v2 Qr v3 M → zJ p l e (zRoom 4 87 0 0) s m args below meth c G 4 0 0 (MQ below (zQi G (fun r9 M9 => M = M9 ∧ Qr r9)) args s 0 0 (zA G)) 8 [some (.inr r0), some (.inl v1), some (.inl v2), some (.inl v3)] [] M := by
    intro r0 v1 v2 v3 h
    unfold T_X10_entriesOf_8 at h
    refine zp1_use h (fun v3 => zJ p l e (zRoom 4 87 0 0) s m args below meth c G 4 0 0 (MQ below (zQi G (fun r9 M9 => M = M9 ∧ Qr r9)) args s 0 0 (zA G)) 8 [some (.inr r0), some (.inl v1), some (.inl v2), some (.inl v3)] [] M) (fun X8 hX8 v3 h => ?_)
    refine zj_aload_n (pc := 8) hc dX10_entriesOf_8 rfl ?_
    refine zj_iload_n (pc := 9) hc dX10_entriesOf_9 rfl ?_
    refine zj_iload_n (pc := 10) hc dX10_entriesOf_10 rfl ?_
    refine zj_sti (pc := 11) (st := []) hc ks_X10_entryAt st_X10_entryAt lk_X10_162 (S_X10_entryAt l G r0 v1 v3 M _ h) rfl ⟨Nat.le_of_ble_eq_true rfl, Nat.le_of_ble_eq_true rfl⟩ (Nat.le_of_ble_eq_true rfl) ⟨Nat.le_of_ble_eq_true rfl, Nat.le_of_ble_eq_true rfl⟩ dX10_entriesOf_11 rfl (fun y1 M9 h => ?_)
    obtain ⟨hM9, h⟩ := h
    subst hM9
    refine zj_iload_n (pc := 14) hc dX10_entriesOf_14 rfl ?_
    refine zj_icmp_ge (pc := 15) (tgt := 24) hc dX10_entriesOf_15 (by decide) (fun hx2 => ?_) (fun hx2 => ?_)
    · have h := h.1 hx2
      refine zj_iload_n (pc := 24) hc dX10_entriesOf_24 rfl ?_
      exact zj_iret (pc := 25) hc hr hlk dX10_entriesOf_25 (by decide) (by decide) ⟨rfl, h⟩
    · have h := h.2 hx2
      refine zj_iinc (pc := 18) hc dX10_entriesOf_18 rfl (by decide) h.1 ?_
      have h := h.2
      refine zj_goto (pc := 21) (tgt := 8) hc dX10_entriesOf_21 (by decide) ?_
      exact hX8 (v3 + 1) h
  unfold T_X10_entriesOf at h
  refine zj_aload_n (pc := 0) hc dX10_entriesOf_0 rfl ?_
  refine zj_iload_n (pc := 1) hc dX10_entriesOf_1 rfl ?_
  refine zj_sti (pc := 2) (st := []) hc ks_X10_endOf st_X10_endOf lk_X10_166 (S_X10_endOf l G r0 v1 M _ h) rfl ⟨Nat.le_of_ble_eq_true rfl, Nat.le_of_ble_eq_true rfl⟩ (Nat.le_of_ble_eq_true rfl) ⟨Nat.le_of_ble_eq_true rfl, Nat.le_of_ble_eq_true rfl⟩ dX10_entriesOf_2 rfl (fun y3 M9 h => ?_)
  obtain ⟨hM9, h⟩ := h
  subst hM9
  refine zj_istore_n (pc := 5) hc dX10_entriesOf_5 (by decide) ?_
  refine zj_iconst (pc := 6) hc dX10_entriesOf_6 (zin _ rfl) ?_
  refine zj_istore_n (pc := 7) hc dX10_entriesOf_7 (by decide) ?_
  exact k8 r0 v1 y3 0 h
set_option maxHeartbeats 4000000 in
set_option maxRecDepth 100000 in
theorem S_X10_lays (l : Launch) (G : zG) (r1 : Nat) (v2 : Int) (v3 : Int) (M : zMem) (Qr : zMem → Prop) (h : T_X10_lays r1 v2 v3 Qr M) : zMetV l yX10_lays cX10_lays 6 none 3 77 0 0 G [.inr 639, .inr r1, .inl v2, .inl v3] M Qr := by
  refine zmetV (by decide) (Nat.le_of_ble_eq_true rfl) [some (.inr 639), some (.inr r1), some (.inl v2), some (.inl v3), none, none] rfl ?_
  intro p e s m args below meth c hc hr hlk
  have k26 : ∀ (M : zMem) (r1 : Nat) (v2 : Int) (v4 : Int) (v5 : Int), T_X10_lays_26 r1 v2 v4 Qr v5 M → zJ p l e (zRoom 3 77 0 0) s m args below meth c G 6 0 0 (MQ below (zQv G (Qr)) args s 0 0 (zA G)) 26 [some (.inr 639), some (.inr r1), some (.inl v2), none, some (.inl v4), some (.inl v5)] [] M := by
    intro M r1 v2 v4 v5 h
    unfold T_X10_lays_26 at h
    refine zl1_use h (fun v5 M => zJ p l e (zRoom 3 77 0 0) s m args below meth c G 6 0 0 (MQ below (zQv G (Qr)) args s 0 0 (zA G)) 26 [some (.inr 639), some (.inr r1), some (.inl v2), none, some (.inl v4), some (.inl v5)] [] M) (fun X26 hX26 v5 M h => ?_)
    refine zj_iload (pc := 26) hc dX10_lays_26 rfl ?_
    refine zj_iload (pc := 28) hc dX10_lays_28 rfl ?_
    refine zj_icmp_ge (pc := 30) (tgt := 65) hc dX10_lays_30 (by decide) (fun hx1 => ?_) (fun hx1 => ?_)
    · have h := h.1 hx1
      exact zj_vret (pc := 65) hc hr hlk dX10_lays_65 (by decide) (by decide) h
    · have h := h.2 hx1
      refine zj_aload_n (pc := 33) hc dX10_lays_33 rfl ?_
      refine zj_aload_n (pc := 34) hc dX10_lays_34 rfl ?_
      refine zj_bipush (pc := 35) hc dX10_lays_35 (by decide) (zin _ rfl) ?_
      refine zj_iload_n (pc := 37) hc dX10_lays_37 rfl ?_
      refine zj_imul (pc := 38) hc dX10_lays_38 h.1 ?_
      have h := h.2
      refine zj_iload (pc := 39) hc dX10_lays_39 rfl ?_
      refine zj_iadd (pc := 41) hc dX10_lays_41 h.1 ?_
      have h := h.2
      refine zj_vtv (pc := 42) (st := []) hc ks_X10_does iv_X10_does lk_X10_173 (zrv_9 G M) (S_X10_does l G r1 ((64 * v2) + v5) M _ h) rfl ⟨Nat.le_of_ble_eq_true rfl, Nat.le_of_ble_eq_true rfl⟩ (Nat.le_of_ble_eq_true rfl) ⟨Nat.le_of_ble_eq_true rfl, Nat.le_of_ble_eq_true rfl⟩ dX10_lays_42 rfl (fun M2 h => ?_)
      refine zj_iload (pc := 45) hc dX10_lays_45 rfl ?_
      refine zj_aload_n (pc := 47) hc dX10_lays_47 rfl ?_
      refine zj_bipush (pc := 48) hc dX10_lays_48 (by decide) (zin _ rfl) ?_
      refine zj_iload_n (pc := 50) hc dX10_lays_50 rfl ?_
      refine zj_imul (pc := 51) hc dX10_lays_51 h.1 ?_
      have h := h.2
      refine zj_iload (pc := 52) hc dX10_lays_52 rfl ?_
      refine zj_iadd (pc := 54) hc dX10_lays_54 h.1 ?_
      have h := h.2
      refine zj_iald (pc := 55) hc dX10_lays_55 rfl h.1 ?_
      have h := h.2
      refine zj_sti (pc := 56) (st := [.inl v5]) hc ks_X10_lengthOf st_X10_lengthOf lk_X10_159 (S_X10_lengthOf l G (M2.2 r1 ((64 * v2) + v5)) M2 _ h) rfl ⟨Nat.le_of_ble_eq_true rfl, Nat.le_of_ble_eq_true rfl⟩ (Nat.le_of_ble_eq_true rfl) ⟨Nat.le_of_ble_eq_true rfl, Nat.le_of_ble_eq_true rfl⟩ dX10_lays_56 rfl (fun y3 M9 h => ?_)
      obtain ⟨hM9, h⟩ := h
      subst hM9
      refine zj_iadd (pc := 59) hc dX10_lays_59 h.1 ?_
      have h := h.2
      refine zj_istore (pc := 60) hc dX10_lays_60 (by decide) ?_
      refine zj_goto (pc := 62) (tgt := 26) hc dX10_lays_62 (by decide) ?_
      exact hX26 (v5 + y3) M2 h
  unfold T_X10_lays at h
  refine zj_aload_n (pc := 0) hc dX10_lays_0 rfl ?_
  refine zj_aload_n (pc := 1) hc dX10_lays_1 rfl ?_
  refine zj_iload_n (pc := 2) hc dX10_lays_2 rfl ?_
  refine zj_vtv (pc := 3) (st := []) hc ks_X10_laysPacked iv_X10_laysPacked lk_X10_169 (zrv_9 G M) (S_X10_laysPacked l G r1 v2 M _ h) rfl ⟨Nat.le_of_ble_eq_true rfl, Nat.le_of_ble_eq_true rfl⟩ (Nat.le_of_ble_eq_true rfl) ⟨Nat.le_of_ble_eq_true rfl, Nat.le_of_ble_eq_true rfl⟩ dX10_lays_3 rfl (fun M4 h => ?_)
  refine zj_aload_n (pc := 6) hc dX10_lays_6 rfl ?_
  refine zj_iload_n (pc := 7) hc dX10_lays_7 rfl ?_
  refine zj_iload_n (pc := 8) hc dX10_lays_8 rfl ?_
  refine zj_sti (pc := 9) (st := []) hc ks_X10_entryAt st_X10_entryAt lk_X10_162 (S_X10_entryAt l G r1 v2 v3 M4 _ h) rfl ⟨Nat.le_of_ble_eq_true rfl, Nat.le_of_ble_eq_true rfl⟩ (Nat.le_of_ble_eq_true rfl) ⟨Nat.le_of_ble_eq_true rfl, Nat.le_of_ble_eq_true rfl⟩ dX10_lays_9 rfl (fun y5 M9 h => ?_)
  obtain ⟨hM9, h⟩ := h
  subst hM9
  refine zj_istore (pc := 12) hc dX10_lays_12 (by decide) ?_
  refine zj_iconst (pc := 14) hc dX10_lays_14 (zin _ rfl) ?_
  refine zj_aload_n (pc := 15) hc dX10_lays_15 rfl ?_
  refine zj_bipush (pc := 16) hc dX10_lays_16 (by decide) (zin _ rfl) ?_
  refine zj_iload_n (pc := 18) hc dX10_lays_18 rfl ?_
  refine zj_imul (pc := 19) hc dX10_lays_19 h.1 ?_
  have h := h.2
  refine zj_iconst (pc := 20) hc dX10_lays_20 (zin _ rfl) ?_
  refine zj_iadd (pc := 21) hc dX10_lays_21 h.1 ?_
  have h := h.2
  refine zj_iald (pc := 22) hc dX10_lays_22 rfl h.1 ?_
  have h := h.2
  refine zj_iadd (pc := 23) hc dX10_lays_23 h.1 ?_
  have h := h.2
  refine zj_istore (pc := 24) hc dX10_lays_24 (by decide) ?_
  refine zj_mask (bs := [true, true, true, false, true, true]) ?_
  exact k26 M4 r1 v2 y5 (2 + (M4.2 r1 ((64 * v2) + 1))) h
set_option maxHeartbeats 4000000 in
set_option maxRecDepth 100000 in
theorem S_X10_laysAlone (l : Launch) (G : zG) (r1 : Nat) (v2 : Int) (M : zMem) (Qr : zMem → Prop) (h : T_X10_laysAlone r1 v2 Qr M) : zMetV l yX10_laysAlone cX10_laysAlone 3 none 4 102 0 0 G [.inr 639, .inr r1, .inl v2] M Qr := by
  refine zmetV (by decide) (Nat.le_of_ble_eq_true rfl) [some (.inr 639), some (.inr r1), some (.inl v2)] rfl ?_
  intro p e s m args below meth c hc hr hlk
  unfold T_X10_laysAlone at h
  refine zj_aload_n (pc := 0) hc dX10_laysAlone_0 rfl ?_
  refine zj_vtv (pc := 1) (st := []) hc ks_X10_clears iv_X10_clears lk_X10_176 (zrv_9 G M) (S_X10_clears l G M _ h) rfl ⟨Nat.le_of_ble_eq_true rfl, Nat.le_of_ble_eq_true rfl⟩ (Nat.le_of_ble_eq_true rfl) ⟨Nat.le_of_ble_eq_true rfl, Nat.le_of_ble_eq_true rfl⟩ dX10_laysAlone_1 rfl (fun M1 h => ?_)
  refine zj_aload_n (pc := 4) hc dX10_laysAlone_4 rfl ?_
  refine zj_aload_n (pc := 5) hc dX10_laysAlone_5 rfl ?_
  refine zj_iload_n (pc := 6) hc dX10_laysAlone_6 rfl ?_
  refine zj_bipush (pc := 7) hc dX10_laysAlone_7 (by decide) (zin _ rfl) ?_
  refine zj_vtv (pc := 9) (st := []) hc ks_X10_lays iv_X10_lays lk_X10_179 (zrv_9 G M1) (S_X10_lays l G r1 v2 64 M1 _ h) rfl ⟨Nat.le_of_ble_eq_true rfl, Nat.le_of_ble_eq_true rfl⟩ (Nat.le_of_ble_eq_true rfl) ⟨Nat.le_of_ble_eq_true rfl, Nat.le_of_ble_eq_true rfl⟩ dX10_laysAlone_9 rfl (fun M2 h => ?_)
  exact zj_vret (pc := 12) hc hr hlk dX10_laysAlone_12 (by decide) (by decide) h
