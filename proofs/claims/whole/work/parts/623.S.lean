set_option maxHeartbeats 4000000 in
set_option maxRecDepth 100000 in
theorem S_X10_isPart (l : Launch) (G : zG) (v1 : Int) (v2 : Int) (M : zMem) (Qr : Int → zMem → Prop) (h : T_X10_isPart v1 v2 Qr M) : zMetI l yX10_isPart cX10_isPart 4 (some .boolean) 5 120 0 0 G [.inr 639, .inl v1, .inl v2] M Qr := by
  refine zmetI (by decide) (Nat.le_of_ble_eq_true rfl) [some (.inr 639), some (.inl v1), some (.inl v2), none] rfl ?_
  intro p e s m args below meth c hc hr hlk
  unfold T_X10_isPart at h
  refine zj_aload_n (pc := 0) hc dX10_isPart_0 rfl ?_
  refine zj_iload_n (pc := 1) hc dX10_isPart_1 rfl ?_
  refine zj_iload_n (pc := 2) hc dX10_isPart_2 rfl ?_
  refine zj_vti (pc := 3) (st := []) hc ks_X10_keysFrom iv_X10_keysFrom lk_X10_186 (zrv_9 G M) (S_X10_keysFrom l G v1 v2 M _ h) rfl ⟨Nat.le_of_ble_eq_true rfl, Nat.le_of_ble_eq_true rfl⟩ (Nat.le_of_ble_eq_true rfl) ⟨Nat.le_of_ble_eq_true rfl, Nat.le_of_ble_eq_true rfl⟩ dX10_isPart_3 rfl (fun y1 M9 h => ?_)
  obtain ⟨hM9, h⟩ := h
  subst hM9
  refine zj_iconst (pc := 6) hc dX10_isPart_6 (zin _ rfl) ?_
  refine zj_icmp_le (pc := 7) (tgt := 25) hc dX10_isPart_7 (by decide) (fun hx2 => ?_) (fun hx2 => ?_)
  · have h := h.1 hx2
    refine zj_aload_n (pc := 25) hc dX10_isPart_25 rfl ?_
    refine zj_iload_n (pc := 26) hc dX10_isPart_26 rfl ?_
    refine zj_iload_n (pc := 27) hc dX10_isPart_27 rfl ?_
    refine zj_vti (pc := 28) (st := []) hc ks_X10_fits iv_X10_fits lk_X10_201 (zrv_9 G M) (S_X10_fits l G v1 v2 M _ h) rfl ⟨Nat.le_of_ble_eq_true rfl, Nat.le_of_ble_eq_true rfl⟩ (Nat.le_of_ble_eq_true rfl) ⟨Nat.le_of_ble_eq_true rfl, Nat.le_of_ble_eq_true rfl⟩ dX10_isPart_28 rfl (fun y3 M4 h => ?_)
    refine zj_istore_n (pc := 31) hc dX10_isPart_31 (by decide) ?_
    refine zj_aload_n (pc := 32) hc dX10_isPart_32 rfl ?_
    refine zj_iload_n (pc := 33) hc dX10_isPart_33 rfl ?_
    refine zj_vtv (pc := 34) (st := []) hc ks_X10_learns iv_X10_learns lk_X10_205 (zrv_9 G M4) (S_X10_learns l G y3 M4 _ h) rfl ⟨Nat.le_of_ble_eq_true rfl, Nat.le_of_ble_eq_true rfl⟩ (Nat.le_of_ble_eq_true rfl) ⟨Nat.le_of_ble_eq_true rfl, Nat.le_of_ble_eq_true rfl⟩ dX10_isPart_34 rfl (fun M5 h => ?_)
    refine zj_iload_n (pc := 37) hc dX10_isPart_37 rfl ?_
    exact zj_zret (pc := 38) hc hr hlk dX10_isPart_38 (by decide) (by decide) h.1 h.2
  · have h := h.2 hx2
    refine zj_aload_n (pc := 10) hc dX10_isPart_10 rfl ?_
    refine zj_iload_n (pc := 11) hc dX10_isPart_11 rfl ?_
    refine zj_iload_n (pc := 12) hc dX10_isPart_12 rfl ?_
    refine zj_vti (pc := 13) (st := []) hc ks_X10_plainOf iv_X10_plainOf lk_X10_195 (zrv_9 G M) (S_X10_plainOf l G v1 v2 M _ h) rfl ⟨Nat.le_of_ble_eq_true rfl, Nat.le_of_ble_eq_true rfl⟩ (Nat.le_of_ble_eq_true rfl) ⟨Nat.le_of_ble_eq_true rfl, Nat.le_of_ble_eq_true rfl⟩ dX10_isPart_13 rfl (fun y6 M9 h => ?_)
    obtain ⟨hM9, h⟩ := h
    subst hM9
    refine zj_aload_n (pc := 16) hc dX10_isPart_16 rfl ?_
    refine zj_vti (pc := 17) (st := [.inl y6]) hc ks_X10_full iv_X10_full lk_X10_198 (zrv_9 G M) (S_X10_full l G M _ h) rfl ⟨Nat.le_of_ble_eq_true rfl, Nat.le_of_ble_eq_true rfl⟩ (Nat.le_of_ble_eq_true rfl) ⟨Nat.le_of_ble_eq_true rfl, Nat.le_of_ble_eq_true rfl⟩ dX10_isPart_17 rfl (fun y7 M9 h => ?_)
    obtain ⟨hM9, h⟩ := h
    subst hM9
    refine zj_icmp_le (pc := 20) (tgt := 25) hc dX10_isPart_20 (by decide) (fun hx8 => ?_) (fun hx8 => ?_)
    · have h := h.1 hx8
      refine zj_aload_n (pc := 25) hc dX10_isPart_25 rfl ?_
      refine zj_iload_n (pc := 26) hc dX10_isPart_26 rfl ?_
      refine zj_iload_n (pc := 27) hc dX10_isPart_27 rfl ?_
      refine zj_vti (pc := 28) (st := []) hc ks_X10_fits iv_X10_fits lk_X10_201 (zrv_9 G M) (S_X10_fits l G v1 v2 M _ h) rfl ⟨Nat.le_of_ble_eq_true rfl, Nat.le_of_ble_eq_true rfl⟩ (Nat.le_of_ble_eq_true rfl) ⟨Nat.le_of_ble_eq_true rfl, Nat.le_of_ble_eq_true rfl⟩ dX10_isPart_28 rfl (fun y9 M10 h => ?_)
      refine zj_istore_n (pc := 31) hc dX10_isPart_31 (by decide) ?_
      refine zj_aload_n (pc := 32) hc dX10_isPart_32 rfl ?_
      refine zj_iload_n (pc := 33) hc dX10_isPart_33 rfl ?_
      refine zj_vtv (pc := 34) (st := []) hc ks_X10_learns iv_X10_learns lk_X10_205 (zrv_9 G M10) (S_X10_learns l G y9 M10 _ h) rfl ⟨Nat.le_of_ble_eq_true rfl, Nat.le_of_ble_eq_true rfl⟩ (Nat.le_of_ble_eq_true rfl) ⟨Nat.le_of_ble_eq_true rfl, Nat.le_of_ble_eq_true rfl⟩ dX10_isPart_34 rfl (fun M11 h => ?_)
      refine zj_iload_n (pc := 37) hc dX10_isPart_37 rfl ?_
      exact zj_zret (pc := 38) hc hr hlk dX10_isPart_38 (by decide) (by decide) h.1 h.2
    · have h := h.2 hx8
      refine zj_iconst (pc := 23) hc dX10_isPart_23 (zin _ rfl) ?_
      exact zj_zret (pc := 24) hc hr hlk dX10_isPart_24 (by decide) (by decide) (Or.inl rfl) h
set_option maxHeartbeats 4000000 in
set_option maxRecDepth 100000 in
theorem S_X10_middleOf (l : Launch) (G : zG) (v1 : Int) (v2 : Int) (M : zMem) (Qr : Int → Prop) (h : T_X10_middleOf v1 v2 Qr M) : zMetI l yX10_middleOf cX10_middleOf 6 (some .int) 1 24 0 0 G [.inr 639, .inl v1, .inl v2] M (fun r9 M9 => M = M9 ∧ Qr r9) := by
  refine zmetI (by decide) (Nat.le_of_ble_eq_true rfl) [some (.inr 639), some (.inl v1), some (.inl v2), none, none, none] rfl ?_
  intro p e s m args below meth c hc hr hlk
  have k39 : ∀ (v3 : Int) (v4 : Int) (s0 : Int) (s1 : Int) (X15 : Int → Int → Prop) (hX15 : ∀ (v4 : Int) (v5 : Int), X15 v4 v5 → zJ p l e (zRoom 1 24 0 0) s m args below meth c G 6 0 0 (MQ below (zQi G (fun r9 M9 => M = M9 ∧ Qr r9)) args s 0 0 (zA G)) 15 [some (.inr 639), none, none, some (.inl v3), some (.inl v4), some (.inl v5)] [] M), T_X10_middleOf_39 v3 v4 s0 s1 X15 Qr M → zJ p l e (zRoom 1 24 0 0) s m args below meth c G 6 0 0 (MQ below (zQi G (fun r9 M9 => M = M9 ∧ Qr r9)) args s 0 0 (zA G)) 39 [some (.inr 639), none, none, some (.inl v3), some (.inl v4), none] [.inl s1, .inl s0] M := by
    intro v3 v4 s0 s1 X15 hX15 h
    unfold T_X10_middleOf_39 at h
    refine zj_iadd (pc := 39) hc dX10_middleOf_39 h.1 ?_
    have h := h.2
    refine zj_istore (pc := 40) hc dX10_middleOf_40 (by decide) ?_
    refine zj_iinc (pc := 42) hc dX10_middleOf_42 rfl (by decide) h.1 ?_
    have h := h.2
    refine zj_goto (pc := 45) (tgt := 15) hc dX10_middleOf_45 (by decide) ?_
    exact hX15 (v4 + 1) (s0 + s1) h
  have k15 : ∀ (v3 : Int) (v4 : Int) (v5 : Int), T_X10_middleOf_15 v3 Qr v4 v5 M → zJ p l e (zRoom 1 24 0 0) s m args below meth c G 6 0 0 (MQ below (zQi G (fun r9 M9 => M = M9 ∧ Qr r9)) args s 0 0 (zA G)) 15 [some (.inr 639), none, none, some (.inl v3), some (.inl v4), some (.inl v5)] [] M := by
    intro v3 v4 v5 h
    unfold T_X10_middleOf_15 at h
    refine zp2_use h (fun v4 v5 => zJ p l e (zRoom 1 24 0 0) s m args below meth c G 6 0 0 (MQ below (zQi G (fun r9 M9 => M = M9 ∧ Qr r9)) args s 0 0 (zA G)) 15 [some (.inr 639), none, none, some (.inl v3), some (.inl v4), some (.inl v5)] [] M) (fun X15 hX15 v4 v5 h => ?_)
    refine zj_iload (pc := 15) hc dX10_middleOf_15 rfl ?_
    refine zj_iload_n (pc := 17) hc dX10_middleOf_17 rfl ?_
    refine zj_icmp_ge (pc := 18) (tgt := 48) hc dX10_middleOf_18 (by decide) (fun hx1 => ?_) (fun hx1 => ?_)
    · have h := h.1 hx1
      refine zj_iload (pc := 48) hc dX10_middleOf_48 rfl ?_
      exact zj_iret (pc := 50) hc hr hlk dX10_middleOf_50 (by decide) (by decide) ⟨rfl, h⟩
    · have h := h.2 hx1
      refine zj_iload (pc := 21) hc dX10_middleOf_21 rfl ?_
      refine zj_aload_n (pc := 23) hc dX10_middleOf_23 rfl ?_
      refine zg_9_20 (pc := 24) hc lk_X10_47 dX10_middleOf_24 ?_
      refine zj_iload (pc := 27) hc dX10_middleOf_27 rfl ?_
      refine zj_iald (pc := 29) hc dX10_middleOf_29 alen_596 h.1 ?_
      have h := h.2
      refine zj_iconst (pc := 30) hc dX10_middleOf_30 (zin _ rfl) ?_
      refine zj_icmp_ne (pc := 31) (tgt := 38) hc dX10_middleOf_31 (by decide) (fun hx2 => ?_) (fun hx2 => ?_)
      · have h := h.1 hx2
        refine zj_iconst (pc := 38) hc dX10_middleOf_38 (zin _ rfl) ?_
        refine zj_mask (bs := [true, true, true, true, true, false]) ?_
        exact k39 v3 v4 v5 1 X15 hX15 h
      · have h := h.2 hx2
        refine zj_iconst (pc := 34) hc dX10_middleOf_34 (zin _ rfl) ?_
        refine zj_goto (pc := 35) (tgt := 39) hc dX10_middleOf_35 (by decide) ?_
        refine zj_mask (bs := [true, true, true, true, true, false]) ?_
        exact k39 v3 v4 v5 0 X15 hX15 h
  unfold T_X10_middleOf at h
  refine zj_aload_n (pc := 0) hc dX10_middleOf_0 rfl ?_
  refine zj_iload_n (pc := 1) hc dX10_middleOf_1 rfl ?_
  refine zj_iload_n (pc := 2) hc dX10_middleOf_2 rfl ?_
  refine zj_vti (pc := 3) (st := []) hc ks_X10_keysFrom iv_X10_keysFrom lk_X10_186 (zrv_9 G M) (S_X10_keysFrom l G v1 v2 M _ h) rfl ⟨Nat.le_of_ble_eq_true rfl, Nat.le_of_ble_eq_true rfl⟩ (Nat.le_of_ble_eq_true rfl) ⟨Nat.le_of_ble_eq_true rfl, Nat.le_of_ble_eq_true rfl⟩ dX10_middleOf_3 rfl (fun y3 M9 h => ?_)
  obtain ⟨hM9, h⟩ := h
  subst hM9
  refine zj_iconst (pc := 6) hc dX10_middleOf_6 (zin _ rfl) ?_
  refine zj_idiv (pc := 7) hc dX10_middleOf_7 (by decide) ?_
  refine zj_istore_n (pc := 8) hc dX10_middleOf_8 (by decide) ?_
  refine zj_iload_n (pc := 9) hc dX10_middleOf_9 rfl ?_
  refine zj_istore (pc := 10) hc dX10_middleOf_10 (by decide) ?_
  refine zj_iconst (pc := 12) hc dX10_middleOf_12 (zin _ rfl) ?_
  refine zj_istore (pc := 13) hc dX10_middleOf_13 (by decide) ?_
  refine zj_mask (bs := [true, false, false, true, true, true]) ?_
  exact k15 (Int.tdiv y3 2) v1 0 h
set_option maxHeartbeats 4000000 in
set_option maxRecDepth 100000 in
theorem S_X10_spreads (l : Launch) (G : zG) (M : zMem) (Qr : zMem → Prop) (h : T_X10_spreads Qr M) : zMetV l yX10_spreads cX10_spreads 4 none 6 143 0 0 G [.inr 639] M Qr := by
  refine zmetV (by decide) (Nat.le_of_ble_eq_true rfl) [some (.inr 639), none, none, none] rfl ?_
  intro p e s m args below meth c hc hr hlk
  have k113 : ∀ (M : zMem) (X13 : zMem → Prop) (hX13 : ∀ (M : zMem), X13 M → zJ p l e (zRoom 6 143 0 0) s m args below meth c G 4 0 0 (MQ below (zQv G (Qr)) args s 0 0 (zA G)) 13 [some (.inr 639), none, none, none] [] M), T_X10_spreads_113 X13 Qr M → zJ p l e (zRoom 6 143 0 0) s m args below meth c G 4 0 0 (MQ below (zQv G (Qr)) args s 0 0 (zA G)) 113 [some (.inr 639), none, none, none] [] M := by
    intro M X13 hX13 h
    unfold T_X10_spreads_113 at h
    refine zj_goto (pc := 113) (tgt := 13) hc dX10_spreads_113 (by decide) ?_
    exact hX13 M h
  have k13 : ∀ (M : zMem), T_X10_spreads_13 Qr M → zJ p l e (zRoom 6 143 0 0) s m args below meth c G 4 0 0 (MQ below (zQv G (Qr)) args s 0 0 (zA G)) 13 [some (.inr 639), none, none, none] [] M := by
    intro M h
    unfold T_X10_spreads_13 at h
    refine zl0_use h (fun M => zJ p l e (zRoom 6 143 0 0) s m args below meth c G 4 0 0 (MQ below (zQv G (Qr)) args s 0 0 (zA G)) 13 [some (.inr 639), none, none, none] [] M) (fun X13 hX13 M h => ?_)
    refine zj_aload_n (pc := 13) hc dX10_spreads_13 rfl ?_
    refine zg_9_27 (pc := 14) hc lk_X10_192 dX10_spreads_14 ?_
    refine zj_if_le (pc := 17) (tgt := 116) hc dX10_spreads_17 (by decide) (fun hx1 => ?_) (fun hx1 => ?_)
    · have h := h.1 hx1
      exact zj_vret (pc := 116) hc hr hlk dX10_spreads_116 (by decide) (by decide) h
    · have h := h.2 hx1
      refine zj_aload_n (pc := 20) hc dX10_spreads_20 rfl ?_
      refine zj_dup (pc := 21) hc dX10_spreads_21 ?_
      refine zg_9_27 (pc := 22) hc lk_X10_192 dX10_spreads_22 ?_
      refine zj_iconst (pc := 25) hc dX10_spreads_25 (zin _ rfl) ?_
      refine zj_isub (pc := 26) hc dX10_spreads_26 h.1 ?_
      have h := h.2
      refine zs_9_27 (pc := 27) hc lk_X10_192 dX10_spreads_27 (fun M2 hM2 => ?_)
      have h := h M2 hM2
      refine zj_aload_n (pc := 30) hc dX10_spreads_30 rfl ?_
      refine zg_9_25 (pc := 31) hc lk_X10_59 dX10_spreads_31 ?_
      refine zj_aload_n (pc := 34) hc dX10_spreads_34 rfl ?_
      refine zg_9_27 (pc := 35) hc lk_X10_192 dX10_spreads_35 ?_
      refine zj_iald (pc := 38) hc dX10_spreads_38 alen_601 h.1 ?_
      have h := h.2
      refine zj_istore_n (pc := 39) hc dX10_spreads_39 (by decide) ?_
      refine zj_aload_n (pc := 40) hc dX10_spreads_40 rfl ?_
      refine zg_9_26 (pc := 41) hc lk_X10_62 dX10_spreads_41 ?_
      refine zj_aload_n (pc := 44) hc dX10_spreads_44 rfl ?_
      refine zg_9_27 (pc := 45) hc lk_X10_192 dX10_spreads_45 ?_
      refine zj_iald (pc := 48) hc dX10_spreads_48 alen_602 h.1 ?_
      have h := h.2
      refine zj_istore_n (pc := 49) hc dX10_spreads_49 (by decide) ?_
      refine zj_aload_n (pc := 50) hc dX10_spreads_50 rfl ?_
      refine zj_iload_n (pc := 51) hc dX10_spreads_51 rfl ?_
      refine zj_iload_n (pc := 52) hc dX10_spreads_52 rfl ?_
      refine zj_vti (pc := 53) (st := []) hc ks_X10_isPart iv_X10_isPart lk_X10_212 (zrv_9 G M2) (S_X10_isPart l G (M2.2 601 (M2.1 603)) (M2.2 602 (M2.1 603)) M2 _ h) rfl ⟨Nat.le_of_ble_eq_true rfl, Nat.le_of_ble_eq_true rfl⟩ (Nat.le_of_ble_eq_true rfl) ⟨Nat.le_of_ble_eq_true rfl, Nat.le_of_ble_eq_true rfl⟩ dX10_spreads_53 rfl (fun y3 M4 h => ?_)
      refine zj_if_eq (pc := 56) (tgt := 92) hc dX10_spreads_56 (by decide) (fun hx5 => ?_) (fun hx5 => ?_)
      · have h := h.1 hx5
        refine zj_aload_n (pc := 92) hc dX10_spreads_92 rfl ?_
        refine zj_iload_n (pc := 93) hc dX10_spreads_93 rfl ?_
        refine zj_iload_n (pc := 94) hc dX10_spreads_94 rfl ?_
        refine zj_vti (pc := 95) (st := []) hc ks_X10_middleOf iv_X10_middleOf lk_X10_218 (zrv_9 G M4) (S_X10_middleOf l G (M2.2 601 (M2.1 603)) (M2.2 602 (M2.1 603)) M4 _ h) rfl ⟨Nat.le_of_ble_eq_true rfl, Nat.le_of_ble_eq_true rfl⟩ (Nat.le_of_ble_eq_true rfl) ⟨Nat.le_of_ble_eq_true rfl, Nat.le_of_ble_eq_true rfl⟩ dX10_spreads_95 rfl (fun y6 M9 h => ?_)
        obtain ⟨hM9, h⟩ := h
        subst hM9
        refine zj_istore_n (pc := 98) hc dX10_spreads_98 (by decide) ?_
        refine zj_aload_n (pc := 99) hc dX10_spreads_99 rfl ?_
        refine zj_iload_n (pc := 100) hc dX10_spreads_100 rfl ?_
        refine zj_iload_n (pc := 101) hc dX10_spreads_101 rfl ?_
        refine zj_vtv (pc := 102) (st := []) hc ks_X10_waits iv_X10_waits lk_X10_209 (zrv_9 G M4) (S_X10_waits l G y6 (M2.2 602 (M2.1 603)) M4 _ h) rfl ⟨Nat.le_of_ble_eq_true rfl, Nat.le_of_ble_eq_true rfl⟩ (Nat.le_of_ble_eq_true rfl) ⟨Nat.le_of_ble_eq_true rfl, Nat.le_of_ble_eq_true rfl⟩ dX10_spreads_102 rfl (fun M7 h => ?_)
        refine zj_aload_n (pc := 105) hc dX10_spreads_105 rfl ?_
        refine zj_iload_n (pc := 106) hc dX10_spreads_106 rfl ?_
        refine zj_iload_n (pc := 107) hc dX10_spreads_107 rfl ?_
        refine zj_iconst (pc := 108) hc dX10_spreads_108 (zin _ rfl) ?_
        refine zj_isub (pc := 109) hc dX10_spreads_109 h.1 ?_
        have h := h.2
        refine zj_vtv (pc := 110) (st := []) hc ks_X10_waits iv_X10_waits lk_X10_209 (zrv_9 G M7) (S_X10_waits l G (M2.2 601 (M2.1 603)) (y6 - 1) M7 _ h) rfl ⟨Nat.le_of_ble_eq_true rfl, Nat.le_of_ble_eq_true rfl⟩ (Nat.le_of_ble_eq_true rfl) ⟨Nat.le_of_ble_eq_true rfl, Nat.le_of_ble_eq_true rfl⟩ dX10_spreads_110 rfl (fun M8 h => ?_)
        refine zj_mask (bs := [true, false, false, false]) ?_
        exact k113 M8 X13 hX13 h
      · have h := h.2 hx5
        refine zj_aload_n (pc := 59) hc dX10_spreads_59 rfl ?_
        refine zg_9_22 (pc := 60) hc lk_X10_53 dX10_spreads_60 ?_
        refine zj_aload_n (pc := 63) hc dX10_spreads_63 rfl ?_
        refine zg_9_24 (pc := 64) hc lk_X10_215 dX10_spreads_64 ?_
        refine zj_iload_n (pc := 67) hc dX10_spreads_67 rfl ?_
        refine zj_iast (pc := 68) hc dX10_spreads_68 alen_598 h.1 (fun M9 hM9 => ?_)
        have h := h.2 M9 hM9
        refine zj_aload_n (pc := 69) hc dX10_spreads_69 rfl ?_
        refine zg_9_23 (pc := 70) hc lk_X10_56 dX10_spreads_70 ?_
        refine zj_aload_n (pc := 73) hc dX10_spreads_73 rfl ?_
        refine zg_9_24 (pc := 74) hc lk_X10_215 dX10_spreads_74 ?_
        refine zj_iload_n (pc := 77) hc dX10_spreads_77 rfl ?_
        refine zj_iast (pc := 78) hc dX10_spreads_78 alen_599 h.1 (fun M10 hM10 => ?_)
        have h := h.2 M10 hM10
        refine zj_aload_n (pc := 79) hc dX10_spreads_79 rfl ?_
        refine zj_dup (pc := 80) hc dX10_spreads_80 ?_
        refine zg_9_24 (pc := 81) hc lk_X10_215 dX10_spreads_81 ?_
        refine zj_iconst (pc := 84) hc dX10_spreads_84 (zin _ rfl) ?_
        refine zj_iadd (pc := 85) hc dX10_spreads_85 h.1 ?_
        have h := h.2
        refine zs_9_24 (pc := 86) hc lk_X10_215 dX10_spreads_86 (fun M11 hM11 => ?_)
        have h := h M11 hM11
        refine zj_goto (pc := 89) (tgt := 113) hc dX10_spreads_89 (by decide) ?_
        refine zj_mask (bs := [true, false, false, true]) ?_
        exact k113 M11 X13 hX13 h
  unfold T_X10_spreads at h
  refine zj_aload_n (pc := 0) hc dX10_spreads_0 rfl ?_
  refine zj_iconst (pc := 1) hc dX10_spreads_1 (zin _ rfl) ?_
  refine zs_9_27 (pc := 2) hc lk_X10_192 dX10_spreads_2 (fun M12 hM12 => ?_)
  have h := h M12 hM12
  refine zj_aload_n (pc := 5) hc dX10_spreads_5 rfl ?_
  refine zj_iconst (pc := 6) hc dX10_spreads_6 (zin _ rfl) ?_
  refine zj_sipush (pc := 7) hc dX10_spreads_7 (by decide) (zin _ rfl) ?_
  refine zj_vtv (pc := 10) (st := []) hc ks_X10_waits iv_X10_waits lk_X10_209 (zrv_9 G M12) (S_X10_waits l G 0 255 M12 _ h) rfl ⟨Nat.le_of_ble_eq_true rfl, Nat.le_of_ble_eq_true rfl⟩ (Nat.le_of_ble_eq_true rfl) ⟨Nat.le_of_ble_eq_true rfl, Nat.le_of_ble_eq_true rfl⟩ dX10_spreads_10 rfl (fun M13 h => ?_)
  exact k13 M13 h
set_option maxHeartbeats 4000000 in
set_option maxRecDepth 100000 in
theorem S_X10_lowestKey (l : Launch) (G : zG) (v1 : Int) (v2 : Int) (M : zMem) (Qr : Int → Prop) (h : T_X10_lowestKey v1 v2 Qr M) : zMetI l yX10_lowestKey cX10_lowestKey 4 (some .int) 0 0 0 0 G [.inr 639, .inl v1, .inl v2] M (fun r9 M9 => M = M9 ∧ Qr r9) := by
  refine zmetI (by decide) (Nat.le_of_ble_eq_true rfl) [some (.inr 639), some (.inl v1), some (.inl v2), none] rfl ?_
  intro p e s m args below meth c hc hr hlk
  have k2 : ∀ (v2 : Int) (v3 : Int), T_X10_lowestKey_2 v2 Qr v3 M → zJ p l e (zRoom 0 0 0 0) s m args below meth c G 4 0 0 (MQ below (zQi G (fun r9 M9 => M = M9 ∧ Qr r9)) args s 0 0 (zA G)) 2 [some (.inr 639), none, some (.inl v2), some (.inl v3)] [] M := by
    intro v2 v3 h
    unfold T_X10_lowestKey_2 at h
    refine zp1_use h (fun v3 => zJ p l e (zRoom 0 0 0 0) s m args below meth c G 4 0 0 (MQ below (zQi G (fun r9 M9 => M = M9 ∧ Qr r9)) args s 0 0 (zA G)) 2 [some (.inr 639), none, some (.inl v2), some (.inl v3)] [] M) (fun X2 hX2 v3 h => ?_)
    refine zj_iload_n (pc := 2) hc dX10_lowestKey_2 rfl ?_
    refine zj_iload_n (pc := 3) hc dX10_lowestKey_3 rfl ?_
    refine zj_icmp_ge (pc := 4) (tgt := 23) hc dX10_lowestKey_4 (by decide) (fun hx1 => ?_) (fun hx1 => ?_)
    · have h := h.1 hx1
      refine zj_iload_n (pc := 23) hc dX10_lowestKey_23 rfl ?_
      exact zj_iret (pc := 24) hc hr hlk dX10_lowestKey_24 (by decide) (by decide) ⟨rfl, h⟩
    · have h := h.2 hx1
      refine zj_aload_n (pc := 7) hc dX10_lowestKey_7 rfl ?_
      refine zg_9_20 (pc := 8) hc lk_X10_47 dX10_lowestKey_8 ?_
      refine zj_iload_n (pc := 11) hc dX10_lowestKey_11 rfl ?_
      refine zj_iald (pc := 12) hc dX10_lowestKey_12 alen_596 h.1 ?_
      have h := h.2
      refine zj_iconst (pc := 13) hc dX10_lowestKey_13 (zin _ rfl) ?_
      refine zj_icmp_ne (pc := 14) (tgt := 23) hc dX10_lowestKey_14 (by decide) (fun hx2 => ?_) (fun hx2 => ?_)
      · have h := h.1 hx2
        refine zj_iload_n (pc := 23) hc dX10_lowestKey_23 rfl ?_
        exact zj_iret (pc := 24) hc hr hlk dX10_lowestKey_24 (by decide) (by decide) ⟨rfl, h⟩
      · have h := h.2 hx2
        refine zj_iinc (pc := 17) hc dX10_lowestKey_17 rfl (by decide) h.1 ?_
        have h := h.2
        refine zj_goto (pc := 20) (tgt := 2) hc dX10_lowestKey_20 (by decide) ?_
        exact hX2 (v3 + 1) h
  unfold T_X10_lowestKey at h
  refine zj_iload_n (pc := 0) hc dX10_lowestKey_0 rfl ?_
  refine zj_istore_n (pc := 1) hc dX10_lowestKey_1 (by decide) ?_
  refine zj_mask (bs := [true, false, true, true]) ?_
  exact k2 v2 v1 h
set_option maxHeartbeats 4000000 in
set_option maxRecDepth 100000 in
theorem S_X10_shapes (l : Launch) (G : zG) (v1 : Int) (v2 : Int) (v3 : Int) (M : zMem) (Qr : zMem → Prop) (h : T_X10_shapes v1 v2 v3 Qr M) : zMetV l yX10_shapes cX10_shapes 6 none 4 97 0 0 G [.inr 639, .inl v1, .inl v2, .inl v3] M Qr := by
  refine zmetV (by decide) (Nat.le_of_ble_eq_true rfl) [some (.inr 639), some (.inl v1), some (.inl v2), some (.inl v3), none, none] rfl ?_
  intro p e s m args below meth c hc hr hlk
  have k79 : ∀ (M : zMem) (v4 : Int) (v5 : Int) (s1 : Int) (s2 : Int) (X39 : Int → zMem → Prop) (hX39 : ∀ (v5 : Int) (M : zMem), X39 v5 M → zJ p l e (zRoom 4 97 0 0) s m args below meth c G 6 0 0 (MQ below (zQv G (Qr)) args s 0 0 (zA G)) 39 [some (.inr 639), none, none, none, some (.inl v4), some (.inl v5)] [] M), T_X10_shapes_79 v4 v5 s1 s2 X39 Qr M → zJ p l e (zRoom 4 97 0 0) s m args below meth c G 6 0 0 (MQ below (zQv G (Qr)) args s 0 0 (zA G)) 79 [some (.inr 639), none, none, none, some (.inl v4), some (.inl v5)] [.inl s2, .inl s1, .inr 583] M := by
    intro M v4 v5 s1 s2 X39 hX39 h
    unfold T_X10_shapes_79 at h
    refine zj_iast (pc := 79) hc dX10_shapes_79 alen_583 h.1 (fun M1 hM1 => ?_)
    have h := h.2 M1 hM1
    refine zj_iinc (pc := 80) hc dX10_shapes_80 rfl (by decide) h.1 ?_
    have h := h.2
    refine zj_goto (pc := 83) (tgt := 39) hc dX10_shapes_83 (by decide) ?_
    exact hX39 (v5 + 1) M1 h
  have k39 : ∀ (M : zMem) (v4 : Int) (v5 : Int), T_X10_shapes_39 v4 Qr v5 M → zJ p l e (zRoom 4 97 0 0) s m args below meth c G 6 0 0 (MQ below (zQv G (Qr)) args s 0 0 (zA G)) 39 [some (.inr 639), none, none, none, some (.inl v4), some (.inl v5)] [] M := by
    intro M v4 v5 h
    unfold T_X10_shapes_39 at h
    refine zl1_use h (fun v5 M => zJ p l e (zRoom 4 97 0 0) s m args below meth c G 6 0 0 (MQ below (zQv G (Qr)) args s 0 0 (zA G)) 39 [some (.inr 639), none, none, none, some (.inl v4), some (.inl v5)] [] M) (fun X39 hX39 v5 M h => ?_)
    refine zj_iload (pc := 39) hc dX10_shapes_39 rfl ?_
    refine zj_iconst (pc := 41) hc dX10_shapes_41 (zin _ rfl) ?_
    refine zj_iadd (pc := 42) hc dX10_shapes_42 h.1 ?_
    have h := h.2
    refine zj_bipush (pc := 43) hc dX10_shapes_43 (by decide) (zin _ rfl) ?_
    refine zj_icmp_ge (pc := 45) (tgt := 86) hc dX10_shapes_45 (by decide) (fun hx2 => ?_) (fun hx2 => ?_)
    · have h := h.1 hx2
      exact zj_vret (pc := 86) hc hr hlk dX10_shapes_86 (by decide) (by decide) h
    · have h := h.2 hx2
      refine zj_aload_n (pc := 48) hc dX10_shapes_48 rfl ?_
      refine zg_9_7 (pc := 49) hc lk_X10_25 dX10_shapes_49 ?_
      refine zj_iload (pc := 52) hc dX10_shapes_52 rfl ?_
      refine zj_iconst (pc := 54) hc dX10_shapes_54 (zin _ rfl) ?_
      refine zj_iadd (pc := 55) hc dX10_shapes_55 h.1 ?_
      have h := h.2
      refine zj_iload (pc := 56) hc dX10_shapes_56 rfl ?_
      refine zj_iadd (pc := 58) hc dX10_shapes_58 h.1 ?_
      have h := h.2
      refine zj_iload (pc := 59) hc dX10_shapes_59 rfl ?_
      refine zj_aload_n (pc := 61) hc dX10_shapes_61 rfl ?_
      refine zg_9_18 (pc := 62) hc lk_X10_110 dX10_shapes_62 ?_
      refine zj_icmp_ge (pc := 65) (tgt := 78) hc dX10_shapes_65 (by decide) (fun hx3 => ?_) (fun hx3 => ?_)
      · have h := h.1 hx3
        refine zj_iconst (pc := 78) hc dX10_shapes_78 (zin _ rfl) ?_
        exact k79 M v4 v5 ((v4 + 2) + v5) 0 X39 hX39 h
      · have h := h.2 hx3
        refine zj_aload_n (pc := 68) hc dX10_shapes_68 rfl ?_
        refine zg_9_17 (pc := 69) hc lk_X10_44 dX10_shapes_69 ?_
        refine zj_iload (pc := 72) hc dX10_shapes_72 rfl ?_
        refine zj_iald (pc := 74) hc dX10_shapes_74 alen_593 h.1 ?_
        have h := h.2
        refine zj_goto (pc := 75) (tgt := 79) hc dX10_shapes_75 (by decide) ?_
        exact k79 M v4 v5 ((v4 + 2) + v5) (M.2 593 v5) X39 hX39 h
  unfold T_X10_shapes at h
  refine zj_aload_n (pc := 0) hc dX10_shapes_0 rfl ?_
  refine zj_iload_n (pc := 1) hc dX10_shapes_1 rfl ?_
  refine zj_iload_n (pc := 2) hc dX10_shapes_2 rfl ?_
  refine zj_vtv (pc := 3) (st := []) hc ks_X10_laysPlain iv_X10_laysPlain lk_X10_189 (zrv_9 G M) (S_X10_laysPlain l G v2 v3 M _ h) rfl ⟨Nat.le_of_ble_eq_true rfl, Nat.le_of_ble_eq_true rfl⟩ (Nat.le_of_ble_eq_true rfl) ⟨Nat.le_of_ble_eq_true rfl, Nat.le_of_ble_eq_true rfl⟩ dX10_shapes_3 rfl (fun M4 h => ?_)
  refine zj_bipush (pc := 6) hc dX10_shapes_6 (by decide) (zin _ rfl) ?_
  refine zj_iload_n (pc := 8) hc dX10_shapes_8 rfl ?_
  refine zj_imul (pc := 9) hc dX10_shapes_9 h.1 ?_
  have h := h.2
  refine zj_istore (pc := 10) hc dX10_shapes_10 (by decide) ?_
  refine zj_aload_n (pc := 12) hc dX10_shapes_12 rfl ?_
  refine zg_9_7 (pc := 13) hc lk_X10_25 dX10_shapes_13 ?_
  refine zj_iload (pc := 16) hc dX10_shapes_16 rfl ?_
  refine zj_aload_n (pc := 18) hc dX10_shapes_18 rfl ?_
  refine zj_vti (pc := 19) (st := [.inl (64 * v1), .inr 583]) hc ks_X10_shapeOf iv_X10_shapeOf lk_X10_140 (zrv_9 G M4) (S_X10_shapeOf l G M4 _ h) rfl ⟨Nat.le_of_ble_eq_true rfl, Nat.le_of_ble_eq_true rfl⟩ (Nat.le_of_ble_eq_true rfl) ⟨Nat.le_of_ble_eq_true rfl, Nat.le_of_ble_eq_true rfl⟩ dX10_shapes_19 rfl (fun y5 M6 h => ?_)
  refine zj_iast (pc := 22) hc dX10_shapes_22 alen_583 h.1 (fun M7 hM7 => ?_)
  have h := h.2 M7 hM7
  refine zj_aload_n (pc := 23) hc dX10_shapes_23 rfl ?_
  refine zg_9_7 (pc := 24) hc lk_X10_25 dX10_shapes_24 ?_
  refine zj_iload (pc := 27) hc dX10_shapes_27 rfl ?_
  refine zj_iconst (pc := 29) hc dX10_shapes_29 (zin _ rfl) ?_
  refine zj_iadd (pc := 30) hc dX10_shapes_30 h.1 ?_
  have h := h.2
  refine zj_aload_n (pc := 31) hc dX10_shapes_31 rfl ?_
  refine zg_9_18 (pc := 32) hc lk_X10_110 dX10_shapes_32 ?_
  refine zj_iast (pc := 35) hc dX10_shapes_35 alen_583 h.1 (fun M8 hM8 => ?_)
  have h := h.2 M8 hM8
  refine zj_iconst (pc := 36) hc dX10_shapes_36 (zin _ rfl) ?_
  refine zj_istore (pc := 37) hc dX10_shapes_37 (by decide) ?_
  refine zj_mask (bs := [true, false, false, false, true, true]) ?_
  exact k39 M8 (64 * v1) 0 h
set_option maxHeartbeats 4000000 in
set_option maxRecDepth 100000 in
theorem S_X10_lowestFree (l : Launch) (G : zG) (M : zMem) (Qr : Int → Prop) (h : T_X10_lowestFree Qr M) : zMetI l yX10_lowestFree cX10_lowestFree 4 (some .int) 1 21 0 0 G [.inr 639] M (fun r9 M9 => M = M9 ∧ Qr r9) := by
  refine zmetI (by decide) (Nat.le_of_ble_eq_true rfl) [some (.inr 639), none, none, none] rfl ?_
  intro p e s m args below meth c hc hr hlk
  have k44 : ∀ (v1 : Int) (v3 : Int) (s0 : Int) (X2 : Int → Prop) (hX2 : ∀ (v1 : Int), X2 v1 → zJ p l e (zRoom 1 21 0 0) s m args below meth c G 4 0 0 (MQ below (zQi G (fun r9 M9 => M = M9 ∧ Qr r9)) args s 0 0 (zA G)) 2 [some (.inr 639), some (.inl v1), none, none] [] M) (X12 : Int → Int → Prop) (hX12 : ∀ (v2 : Int) (v3 : Int), X12 v2 v3 → zJ p l e (zRoom 1 21 0 0) s m args below meth c G 4 0 0 (MQ below (zQi G (fun r9 M9 => M = M9 ∧ Qr r9)) args s 0 0 (zA G)) 12 [some (.inr 639), some (.inl v1), some (.inl v2), some (.inl v3)] [] M), T_X10_lowestFree_44 v1 v3 s0 X2 X12 Qr M → zJ p l e (zRoom 1 21 0 0) s m args below meth c G 4 0 0 (MQ below (zQi G (fun r9 M9 => M = M9 ∧ Qr r9)) args s 0 0 (zA G)) 44 [some (.inr 639), some (.inl v1), none, some (.inl v3)] [.inl s0] M := by
    intro v1 v3 s0 X2 hX2 X12 hX12 h
    unfold T_X10_lowestFree_44 at h
    refine zj_istore_n (pc := 44) hc dX10_lowestFree_44 (by decide) ?_
    refine zj_iinc (pc := 45) hc dX10_lowestFree_45 rfl (by decide) h.1 ?_
    have h := h.2
    refine zj_goto (pc := 48) (tgt := 12) hc dX10_lowestFree_48 (by decide) ?_
    exact hX12 s0 (v3 + 1) h
  have k43 : ∀ (v1 : Int) (v3 : Int) (X2 : Int → Prop) (hX2 : ∀ (v1 : Int), X2 v1 → zJ p l e (zRoom 1 21 0 0) s m args below meth c G 4 0 0 (MQ below (zQi G (fun r9 M9 => M = M9 ∧ Qr r9)) args s 0 0 (zA G)) 2 [some (.inr 639), some (.inl v1), none, none] [] M) (X12 : Int → Int → Prop) (hX12 : ∀ (v2 : Int) (v3 : Int), X12 v2 v3 → zJ p l e (zRoom 1 21 0 0) s m args below meth c G 4 0 0 (MQ below (zQi G (fun r9 M9 => M = M9 ∧ Qr r9)) args s 0 0 (zA G)) 12 [some (.inr 639), some (.inl v1), some (.inl v2), some (.inl v3)] [] M), T_X10_lowestFree_43 v1 v3 X2 X12 Qr M → zJ p l e (zRoom 1 21 0 0) s m args below meth c G 4 0 0 (MQ below (zQi G (fun r9 M9 => M = M9 ∧ Qr r9)) args s 0 0 (zA G)) 43 [some (.inr 639), some (.inl v1), none, some (.inl v3)] [] M := by
    intro v1 v3 X2 hX2 X12 hX12 h
    unfold T_X10_lowestFree_43 at h
    refine zj_iconst (pc := 43) hc dX10_lowestFree_43 (zin _ rfl) ?_
    exact k44 v1 v3 0 X2 hX2 X12 hX12 h
  have k12 : ∀ (v1 : Int) (X2 : Int → Prop) (hX2 : ∀ (v1 : Int), X2 v1 → zJ p l e (zRoom 1 21 0 0) s m args below meth c G 4 0 0 (MQ below (zQi G (fun r9 M9 => M = M9 ∧ Qr r9)) args s 0 0 (zA G)) 2 [some (.inr 639), some (.inl v1), none, none] [] M) (v2 : Int) (v3 : Int), T_X10_lowestFree_12 v1 X2 Qr v2 v3 M → zJ p l e (zRoom 1 21 0 0) s m args below meth c G 4 0 0 (MQ below (zQi G (fun r9 M9 => M = M9 ∧ Qr r9)) args s 0 0 (zA G)) 12 [some (.inr 639), some (.inl v1), some (.inl v2), some (.inl v3)] [] M := by
    intro v1 X2 hX2 v2 v3 h
    unfold T_X10_lowestFree_12 at h
    refine zp2_use h (fun v2 v3 => zJ p l e (zRoom 1 21 0 0) s m args below meth c G 4 0 0 (MQ below (zQi G (fun r9 M9 => M = M9 ∧ Qr r9)) args s 0 0 (zA G)) 12 [some (.inr 639), some (.inl v1), some (.inl v2), some (.inl v3)] [] M) (fun X12 hX12 v2 v3 h => ?_)
    refine zj_iload_n (pc := 12) hc dX10_lowestFree_12 rfl ?_
    refine zj_aload_n (pc := 13) hc dX10_lowestFree_13 rfl ?_
    refine zg_9_7 (pc := 14) hc lk_X10_25 dX10_lowestFree_14 ?_
    refine zj_sti (pc := 17) (st := [.inl v3]) hc ks_X10_pagesOf st_X10_pagesOf lk_X10_151 (S_X10_pagesOf l G 583 M _ h) rfl ⟨Nat.le_of_ble_eq_true rfl, Nat.le_of_ble_eq_true rfl⟩ (Nat.le_of_ble_eq_true rfl) ⟨Nat.le_of_ble_eq_true rfl, Nat.le_of_ble_eq_true rfl⟩ dX10_lowestFree_17 rfl (fun y1 M9 h => ?_)
    obtain ⟨hM9, h⟩ := h
    subst hM9
    refine zj_icmp_ge (pc := 20) (tgt := 51) hc dX10_lowestFree_20 (by decide) (fun hx2 => ?_) (fun hx2 => ?_)
    · have h := h.1 hx2
      refine zj_iload_n (pc := 51) hc dX10_lowestFree_51 rfl ?_
      refine zj_if_eq (pc := 52) (tgt := 57) hc dX10_lowestFree_52 (by decide) (fun hx3 => ?_) (fun hx3 => ?_)
      · have h := h.1 hx3
        refine zj_iinc (pc := 57) hc dX10_lowestFree_57 rfl (by decide) h.1 ?_
        have h := h.2
        refine zj_goto (pc := 60) (tgt := 2) hc dX10_lowestFree_60 (by decide) ?_
        refine zj_mask (bs := [true, true, false, false]) ?_
        exact hX2 (v1 + 1) h
      · have h := h.2 hx3
        refine zj_iload_n (pc := 55) hc dX10_lowestFree_55 rfl ?_
        exact zj_iret (pc := 56) hc hr hlk dX10_lowestFree_56 (by decide) (by decide) ⟨rfl, h⟩
    · have h := h.2 hx2
      refine zj_iload_n (pc := 23) hc dX10_lowestFree_23 rfl ?_
      refine zj_if_eq (pc := 24) (tgt := 43) hc dX10_lowestFree_24 (by decide) (fun hx4 => ?_) (fun hx4 => ?_)
      · have h := h.1 hx4
        refine zj_mask (bs := [true, true, false, true]) ?_
        exact k43 v1 v3 X2 hX2 X12 hX12 h
      · have h := h.2 hx4
        refine zj_aload_n (pc := 27) hc dX10_lowestFree_27 rfl ?_
        refine zg_9_7 (pc := 28) hc lk_X10_25 dX10_lowestFree_28 ?_
        refine zj_iload_n (pc := 31) hc dX10_lowestFree_31 rfl ?_
        refine zj_sti (pc := 32) (st := []) hc ks_X10_numberOf st_X10_numberOf lk_X10_183 (S_X10_numberOf l G 583 v3 M _ h) rfl ⟨Nat.le_of_ble_eq_true rfl, Nat.le_of_ble_eq_true rfl⟩ (Nat.le_of_ble_eq_true rfl) ⟨Nat.le_of_ble_eq_true rfl, Nat.le_of_ble_eq_true rfl⟩ dX10_lowestFree_32 rfl (fun y5 M9 h => ?_)
        obtain ⟨hM9, h⟩ := h
        subst hM9
        refine zj_iload_n (pc := 35) hc dX10_lowestFree_35 rfl ?_
        refine zj_icmp_eq (pc := 36) (tgt := 43) hc dX10_lowestFree_36 (by decide) (fun hx6 => ?_) (fun hx6 => ?_)
        · have h := h.1 hx6
          refine zj_mask (bs := [true, true, false, true]) ?_
          exact k43 v1 v3 X2 hX2 X12 hX12 h
        · have h := h.2 hx6
          refine zj_iconst (pc := 39) hc dX10_lowestFree_39 (zin _ rfl) ?_
          refine zj_goto (pc := 40) (tgt := 44) hc dX10_lowestFree_40 (by decide) ?_
          refine zj_mask (bs := [true, true, false, true]) ?_
          exact k44 v1 v3 1 X2 hX2 X12 hX12 h
  have k2 : ∀ (v1 : Int), T_X10_lowestFree_2 Qr v1 M → zJ p l e (zRoom 1 21 0 0) s m args below meth c G 4 0 0 (MQ below (zQi G (fun r9 M9 => M = M9 ∧ Qr r9)) args s 0 0 (zA G)) 2 [some (.inr 639), some (.inl v1), none, none] [] M := by
    intro v1 h
    unfold T_X10_lowestFree_2 at h
    refine zp1_use h (fun v1 => zJ p l e (zRoom 1 21 0 0) s m args below meth c G 4 0 0 (MQ below (zQi G (fun r9 M9 => M = M9 ∧ Qr r9)) args s 0 0 (zA G)) 2 [some (.inr 639), some (.inl v1), none, none] [] M) (fun X2 hX2 v1 h => ?_)
    refine zj_iload_n (pc := 2) hc dX10_lowestFree_2 rfl ?_
    refine zj_bipush (pc := 3) hc dX10_lowestFree_3 (by decide) (zin _ rfl) ?_
    refine zj_icmp_ge (pc := 5) (tgt := 63) hc dX10_lowestFree_5 (by decide) (fun hx7 => ?_) (fun hx7 => ?_)
    · have h := h.1 hx7
      refine zj_iconst (pc := 63) hc dX10_lowestFree_63 (zin _ rfl) ?_
      exact zj_iret (pc := 64) hc hr hlk dX10_lowestFree_64 (by decide) (by decide) ⟨rfl, h⟩
    · have h := h.2 hx7
      refine zj_iconst (pc := 8) hc dX10_lowestFree_8 (zin _ rfl) ?_
      refine zj_istore_n (pc := 9) hc dX10_lowestFree_9 (by decide) ?_
      refine zj_iconst (pc := 10) hc dX10_lowestFree_10 (zin _ rfl) ?_
      refine zj_istore_n (pc := 11) hc dX10_lowestFree_11 (by decide) ?_
      exact k12 v1 X2 hX2 1 0 h
  unfold T_X10_lowestFree at h
  refine zj_iconst (pc := 0) hc dX10_lowestFree_0 (zin _ rfl) ?_
  refine zj_istore_n (pc := 1) hc dX10_lowestFree_1 (by decide) ?_
  exact k2 0 h
