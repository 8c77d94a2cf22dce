set_option maxHeartbeats 4000000 in
set_option maxRecDepth 100000 in
theorem S_X9_status (l : Launch) (G : zG) (M : zMem) (Qr : Int → Prop) (h : T_X9_status Qr M) : zMetI l yX9_status cX9_status 1 (some .int) 0 0 0 0 G [.inr 63] M (fun r9 M9 => M = M9 ∧ Qr r9) := by
  refine zmetI (by decide) (Nat.le_of_ble_eq_true rfl) [some (.inr 63)] rfl ?_
  intro p e s m args below meth c hc hr hlk
  unfold T_X9_status at h
  refine zj_aload_n (pc := 0) hc dX9_status_0 rfl ?_
  refine zg_0_6 (pc := 1) hc lk_X9_31 dX9_status_1 ?_
  exact zj_iret (pc := 4) hc hr hlk dX9_status_4 (by decide) (by decide) ⟨rfl, h⟩
set_option maxHeartbeats 4000000 in
set_option maxRecDepth 100000 in
theorem S_X10_refuses (l : Launch) (G : zG) (v1 : Int) (M : zMem) (Qr : Int → zMem → Prop) (h : T_X10_refuses v1 Qr M) : zMetI l yX10_refuses cX10_refuses 2 (some .int) 0 0 0 0 G [.inr 639, .inl v1] M Qr := by
  refine zmetI (by decide) (Nat.le_of_ble_eq_true rfl) [some (.inr 639), some (.inl v1)] rfl ?_
  intro p e s m args below meth c hc hr hlk
  unfold T_X10_refuses at h
  refine zj_aload_n (pc := 0) hc dX10_refuses_0 rfl ?_
  refine zj_iload_n (pc := 1) hc dX10_refuses_1 rfl ?_
  refine zs_9_1 (pc := 2) hc lk_X10_80 dX10_refuses_2 (fun M1 hM1 => ?_)
  have h := h M1 hM1
  refine zj_aload_n (pc := 5) hc dX10_refuses_5 rfl ?_
  refine zg_9_2 (pc := 6) hc lk_X10_7 dX10_refuses_6 ?_
  refine zj_iload_n (pc := 9) hc dX10_refuses_9 rfl ?_
  refine zj_ineg (pc := 10) hc dX10_refuses_10 h.1 ?_
  have h := h.2
  refine zj_dup2 (pc := 11) hc dX10_refuses_11 ?_
  refine zj_iald (pc := 12) hc dX10_refuses_12 alen_578 h.1 ?_
  have h := h.2
  refine zj_iconst (pc := 13) hc dX10_refuses_13 (zin _ rfl) ?_
  refine zj_iadd (pc := 14) hc dX10_refuses_14 h.1 ?_
  have h := h.2
  refine zj_iast (pc := 15) hc dX10_refuses_15 alen_578 h.1 (fun M2 hM2 => ?_)
  have h := h.2 M2 hM2
  refine zj_iload_n (pc := 16) hc dX10_refuses_16 rfl ?_
  exact zj_iret (pc := 17) hc hr hlk dX10_refuses_17 (by decide) (by decide) h
set_option maxHeartbeats 4000000 in
set_option maxRecDepth 100000 in
theorem S_X10_tells (l : Launch) (G : zG) (v1 : Int) (M : zMem) (Qr : Int → zMem → Prop) (h : T_X10_tells v1 Qr M) : zMetI l yX10_tells cX10_tells 2 (some .int) 0 0 0 0 G [.inr 639, .inl v1] M Qr := by
  refine zmetI (by decide) (Nat.le_of_ble_eq_true rfl) [some (.inr 639), some (.inl v1)] rfl ?_
  intro p e s m args below meth c hc hr hlk
  unfold T_X10_tells at h
  refine zj_aload_n (pc := 0) hc dX10_tells_0 rfl ?_
  refine zj_iconst (pc := 1) hc dX10_tells_1 (zin _ rfl) ?_
  refine zs_9_1 (pc := 2) hc lk_X10_80 dX10_tells_2 (fun M1 hM1 => ?_)
  have h := h M1 hM1
  refine zj_iload_n (pc := 5) hc dX10_tells_5 rfl ?_
  exact zj_iret (pc := 6) hc hr hlk dX10_tells_6 (by decide) (by decide) h
set_option maxHeartbeats 4000000 in
set_option maxRecDepth 100000 in
theorem S_X10_isIn (l : Launch) (G : zG) (v0 : Int) (v1 : Int) (v2 : Int) (M : zMem) (Qr : Int → Prop) (h : T_X10_isIn v0 v1 v2 Qr M) : zMetI l yX10_isIn cX10_isIn 3 (some .boolean) 0 0 0 0 G [.inl v0, .inl v1, .inl v2] M (fun r9 M9 => M = M9 ∧ Qr r9) := by
  refine zmetI (by decide) (Nat.le_of_ble_eq_true rfl) [some (.inl v0), some (.inl v1), some (.inl v2)] rfl ?_
  intro p e s m args below meth c hc hr hlk
  unfold T_X10_isIn at h
  refine zj_iload_n (pc := 0) hc dX10_isIn_0 rfl ?_
  refine zj_iload_n (pc := 1) hc dX10_isIn_1 rfl ?_
  refine zj_icmp_lt (pc := 2) (tgt := 14) hc dX10_isIn_2 (by decide) (fun hx1 => ?_) (fun hx1 => ?_)
  · have h := h.1 hx1
    refine zj_iconst (pc := 14) hc dX10_isIn_14 (zin _ rfl) ?_
    exact zj_zret (pc := 15) hc hr hlk dX10_isIn_15 (by decide) (by decide) (Or.inl rfl) ⟨rfl, h⟩
  · have h := h.2 hx1
    refine zj_iload_n (pc := 5) hc dX10_isIn_5 rfl ?_
    refine zj_iload_n (pc := 6) hc dX10_isIn_6 rfl ?_
    refine zj_icmp_gt (pc := 7) (tgt := 14) hc dX10_isIn_7 (by decide) (fun hx2 => ?_) (fun hx2 => ?_)
    · have h := h.1 hx2
      refine zj_iconst (pc := 14) hc dX10_isIn_14 (zin _ rfl) ?_
      exact zj_zret (pc := 15) hc hr hlk dX10_isIn_15 (by decide) (by decide) (Or.inl rfl) ⟨rfl, h⟩
    · have h := h.2 hx2
      refine zj_iconst (pc := 10) hc dX10_isIn_10 (zin _ rfl) ?_
      refine zj_goto (pc := 11) (tgt := 15) hc dX10_isIn_11 (by decide) ?_
      exact zj_zret (pc := 15) hc hr hlk dX10_isIn_15 (by decide) (by decide) (Or.inr rfl) ⟨rfl, h⟩
set_option maxHeartbeats 4000000 in
set_option maxRecDepth 100000 in
theorem S_X10_isDown (l : Launch) (G : zG) (M : zMem) (Qr : Int → Prop) (h : T_X10_isDown Qr M) : zMetI l yX10_isDown cX10_isDown 1 (some .boolean) 0 0 0 0 G [.inr 639] M (fun r9 M9 => M = M9 ∧ Qr r9) := by
  refine zmetI (by decide) (Nat.le_of_ble_eq_true rfl) [some (.inr 639)] rfl ?_
  intro p e s m args below meth c hc hr hlk
  unfold T_X10_isDown at h
  refine zj_aload_n (pc := 0) hc dX10_isDown_0 rfl ?_
  refine zg_9_6 (pc := 1) hc lk_X10_22 dX10_isDown_1 ?_
  refine zj_sipush (pc := 4) hc dX10_isDown_4 (by decide) (zin _ rfl) ?_
  refine zj_iald (pc := 7) hc dX10_isDown_7 alen_582 h.1 ?_
  have h := h.2
  refine zj_iconst (pc := 8) hc dX10_isDown_8 (zin _ rfl) ?_
  refine zj_icmp_ne (pc := 9) (tgt := 16) hc dX10_isDown_9 (by decide) (fun hx1 => ?_) (fun hx1 => ?_)
  · have h := h.1 hx1
    refine zj_iconst (pc := 16) hc dX10_isDown_16 (zin _ rfl) ?_
    exact zj_zret (pc := 17) hc hr hlk dX10_isDown_17 (by decide) (by decide) (Or.inl rfl) ⟨rfl, h⟩
  · have h := h.2 hx1
    refine zj_iconst (pc := 12) hc dX10_isDown_12 (zin _ rfl) ?_
    refine zj_goto (pc := 13) (tgt := 17) hc dX10_isDown_13 (by decide) ?_
    exact zj_zret (pc := 17) hc hr hlk dX10_isDown_17 (by decide) (by decide) (Or.inr rfl) ⟨rfl, h⟩
set_option maxHeartbeats 4000000 in
set_option maxRecDepth 100000 in
theorem S_X10_lets (l : Launch) (G : zG) (v1 : Int) (M : zMem) (Qr : zMem → Prop) (h : T_X10_lets v1 Qr M) : zMetV l yX10_lets cX10_lets 3 none 0 0 0 0 G [.inr 639, .inl v1] M Qr := by
  refine zmetV (by decide) (Nat.le_of_ble_eq_true rfl) [some (.inr 639), some (.inl v1), none] rfl ?_
  intro p e s m args below meth c hc hr hlk
  have k12 : ∀ (M : zMem) (v2 : Int), T_X10_lets_12 Qr v2 M → zJ p l e (zRoom 0 0 0 0) s m args below meth c G 3 0 0 (MQ below (zQv G (Qr)) args s 0 0 (zA G)) 12 [some (.inr 639), none, some (.inl v2)] [] M := by
    intro M v2 h
    unfold T_X10_lets_12 at h
    refine zl1_use h (fun v2 M => zJ p l e (zRoom 0 0 0 0) s m args below meth c G 3 0 0 (MQ below (zQv G (Qr)) args s 0 0 (zA G)) 12 [some (.inr 639), none, some (.inl v2)] [] M) (fun X12 hX12 v2 M h => ?_)
    refine zj_iload_n (pc := 12) hc dX10_lets_12 rfl ?_
    refine zj_aload_n (pc := 13) hc dX10_lets_13 rfl ?_
    refine zg_9_36 (pc := 14) hc lk_X10_91 dX10_lets_14 ?_
    refine zj_icmp_ge (pc := 17) (tgt := 40) hc dX10_lets_17 (by decide) (fun hx1 => ?_) (fun hx1 => ?_)
    · have h := h.1 hx1
      exact zj_vret (pc := 40) hc hr hlk dX10_lets_40 (by decide) (by decide) h
    · have h := h.2 hx1
      refine zj_aload_n (pc := 20) hc dX10_lets_20 rfl ?_
      refine zg_9_35 (pc := 21) hc lk_X10_71 dX10_lets_21 ?_
      refine zj_iload_n (pc := 24) hc dX10_lets_24 rfl ?_
      refine zj_aload_n (pc := 25) hc dX10_lets_25 rfl ?_
      refine zg_9_35 (pc := 26) hc lk_X10_71 dX10_lets_26 ?_
      refine zj_iload_n (pc := 29) hc dX10_lets_29 rfl ?_
      refine zj_iconst (pc := 30) hc dX10_lets_30 (zin _ rfl) ?_
      refine zj_iadd (pc := 31) hc dX10_lets_31 h.1 ?_
      have h := h.2
      refine zj_iald (pc := 32) hc dX10_lets_32 alen_611 h.1 ?_
      have h := h.2
      refine zj_iast (pc := 33) hc dX10_lets_33 alen_611 h.1 (fun M2 hM2 => ?_)
      have h := h.2 M2 hM2
      refine zj_iinc (pc := 34) hc dX10_lets_34 rfl (by decide) h.1 ?_
      have h := h.2
      refine zj_goto (pc := 37) (tgt := 12) hc dX10_lets_37 (by decide) ?_
      exact hX12 (v2 + 1) M2 h
  unfold T_X10_lets at h
  refine zj_aload_n (pc := 0) hc dX10_lets_0 rfl ?_
  refine zj_dup (pc := 1) hc dX10_lets_1 ?_
  refine zg_9_36 (pc := 2) hc lk_X10_91 dX10_lets_2 ?_
  refine zj_iconst (pc := 5) hc dX10_lets_5 (zin _ rfl) ?_
  refine zj_isub (pc := 6) hc dX10_lets_6 h.1 ?_
  have h := h.2
  refine zs_9_36 (pc := 7) hc lk_X10_91 dX10_lets_7 (fun M3 hM3 => ?_)
  have h := h M3 hM3
  refine zj_iload_n (pc := 10) hc dX10_lets_10 rfl ?_
  refine zj_istore_n (pc := 11) hc dX10_lets_11 (by decide) ?_
  refine zj_mask (bs := [true, false, true]) ?_
  exact k12 M3 v1 h
set_option maxHeartbeats 4000000 in
set_option maxRecDepth 100000 in
theorem S_X10_terms (l : Launch) (G : zG) (v1 : Int) (v2 : Int) (M : zMem) (Qr : Int → zMem → Prop) (h : T_X10_terms v1 v2 Qr M) : zMetI l yX10_terms cX10_terms 4 (some .int) 1 22 0 0 G [.inr 639, .inl v1, .inl v2] M Qr := by
  refine zmetI (by decide) (Nat.le_of_ble_eq_true rfl) [some (.inr 639), some (.inl v1), some (.inl v2), none] rfl ?_
  intro p e s m args below meth c hc hr hlk
  have k53 : ∀ (M : zMem) (v1 : Int) (v2 : Int) (v3 : Int), T_X10_terms_53 v1 v2 v3 Qr M → zJ p l e (zRoom 1 22 0 0) s m args below meth c G 4 0 0 (MQ below (zQi G (Qr)) args s 0 0 (zA G)) 53 [some (.inr 639), some (.inl v1), some (.inl v2), some (.inl v3)] [] M := by
    intro M v1 v2 v3 h
    unfold T_X10_terms_53 at h
    refine zl0_use h (fun M => zJ p l e (zRoom 1 22 0 0) s m args below meth c G 4 0 0 (MQ below (zQi G (Qr)) args s 0 0 (zA G)) 53 [some (.inr 639), some (.inl v1), some (.inl v2), some (.inl v3)] [] M) (fun X53 hX53 M h => ?_)
    refine zj_iload_n (pc := 53) hc dX10_terms_53 rfl ?_
    refine zj_iconst (pc := 54) hc dX10_terms_54 (zin _ rfl) ?_
    refine zj_icmp_ne (pc := 55) (tgt := 74) hc dX10_terms_55 (by decide) (fun hx1 => ?_) (fun hx1 => ?_)
    · have h := h.1 hx1
      refine zj_aload_n (pc := 74) hc dX10_terms_74 rfl ?_
      refine zj_iload_n (pc := 75) hc dX10_terms_75 rfl ?_
      refine zj_vti (pc := 76) (st := []) hc ks_X10_tells iv_X10_tells lk_X10_98 (zrv_9 G M) (S_X10_tells l G v3 M _ h) rfl ⟨Nat.le_of_ble_eq_true rfl, Nat.le_of_ble_eq_true rfl⟩ (Nat.le_of_ble_eq_true rfl) ⟨Nat.le_of_ble_eq_true rfl, Nat.le_of_ble_eq_true rfl⟩ dX10_terms_76 rfl (fun y2 M3 h => ?_)
      exact zj_iret (pc := 79) hc hr hlk dX10_terms_79 (by decide) (by decide) h
    · have h := h.2 hx1
      refine zj_aload_n (pc := 58) hc dX10_terms_58 rfl ?_
      refine zg_9_36 (pc := 59) hc lk_X10_91 dX10_terms_59 ?_
      refine zj_iload_n (pc := 62) hc dX10_terms_62 rfl ?_
      refine zj_icmp_le (pc := 63) (tgt := 74) hc dX10_terms_63 (by decide) (fun hx4 => ?_) (fun hx4 => ?_)
      · have h := h.1 hx4
        refine zj_aload_n (pc := 74) hc dX10_terms_74 rfl ?_
        refine zj_iload_n (pc := 75) hc dX10_terms_75 rfl ?_
        refine zj_vti (pc := 76) (st := []) hc ks_X10_tells iv_X10_tells lk_X10_98 (zrv_9 G M) (S_X10_tells l G v3 M _ h) rfl ⟨Nat.le_of_ble_eq_true rfl, Nat.le_of_ble_eq_true rfl⟩ (Nat.le_of_ble_eq_true rfl) ⟨Nat.le_of_ble_eq_true rfl, Nat.le_of_ble_eq_true rfl⟩ dX10_terms_76 rfl (fun y5 M6 h => ?_)
        exact zj_iret (pc := 79) hc hr hlk dX10_terms_79 (by decide) (by decide) h
      · have h := h.2 hx4
        refine zj_aload_n (pc := 66) hc dX10_terms_66 rfl ?_
        refine zj_iconst (pc := 67) hc dX10_terms_67 (zin _ rfl) ?_
        refine zj_vtv (pc := 68) (st := []) hc ks_X10_lets iv_X10_lets lk_X10_94 (zrv_9 G M) (S_X10_lets l G 0 M _ h) rfl ⟨Nat.le_of_ble_eq_true rfl, Nat.le_of_ble_eq_true rfl⟩ (Nat.le_of_ble_eq_true rfl) ⟨Nat.le_of_ble_eq_true rfl, Nat.le_of_ble_eq_true rfl⟩ dX10_terms_68 rfl (fun M7 h => ?_)
        refine zj_goto (pc := 71) (tgt := 53) hc dX10_terms_71 (by decide) ?_
        exact hX53 M7 h
  unfold T_X10_terms at h
  refine zj_aload_n (pc := 0) hc dX10_terms_0 rfl ?_
  refine zj_iconst (pc := 1) hc dX10_terms_1 (zin _ rfl) ?_
  refine zs_9_0 (pc := 2) hc lk_X10_77 dX10_terms_2 (fun M8 hM8 => ?_)
  have h := h M8 hM8
  refine zj_iload_n (pc := 5) hc dX10_terms_5 rfl ?_
  refine zj_iconst (pc := 6) hc dX10_terms_6 (zin _ rfl) ?_
  refine zj_iconst (pc := 7) hc dX10_terms_7 (zin _ rfl) ?_
  refine zj_sti (pc := 8) (st := []) hc ks_X10_isIn st_X10_isIn lk_X10_83 (S_X10_isIn l G v1 0 4 M8 _ h) rfl ⟨Nat.le_of_ble_eq_true rfl, Nat.le_of_ble_eq_true rfl⟩ (Nat.le_of_ble_eq_true rfl) ⟨Nat.le_of_ble_eq_true rfl, Nat.le_of_ble_eq_true rfl⟩ dX10_terms_8 rfl (fun y9 M9 h => ?_)
  obtain ⟨hM9, h⟩ := h
  subst hM9
  refine zj_if_eq (pc := 11) (tgt := 33) hc dX10_terms_11 (by decide) (fun hx10 => ?_) (fun hx10 => ?_)
  · have h := h.1 hx10
    refine zj_aload_n (pc := 33) hc dX10_terms_33 rfl ?_
    refine zj_iconst (pc := 34) hc dX10_terms_34 (zin _ rfl) ?_
    refine zj_vti (pc := 35) (st := []) hc ks_X10_refuses iv_X10_refuses lk_X10_87 (zrv_9 G M8) (S_X10_refuses l G (-1) M8 _ h) rfl ⟨Nat.le_of_ble_eq_true rfl, Nat.le_of_ble_eq_true rfl⟩ (Nat.le_of_ble_eq_true rfl) ⟨Nat.le_of_ble_eq_true rfl, Nat.le_of_ble_eq_true rfl⟩ dX10_terms_35 rfl (fun y11 M12 h => ?_)
    exact zj_iret (pc := 38) hc hr hlk dX10_terms_38 (by decide) (by decide) h
  · have h := h.2 hx10
    refine zj_iload_n (pc := 14) hc dX10_terms_14 rfl ?_
    refine zj_aload_n (pc := 15) hc dX10_terms_15 rfl ?_
    refine zg_9_4 (pc := 16) hc lk_X10_16 dX10_terms_16 ?_
    refine zj_iload_n (pc := 19) hc dX10_terms_19 rfl ?_
    refine zj_iald (pc := 20) hc dX10_terms_20 alen_580 h.1 ?_
    have h := h.2
    refine zj_aload_n (pc := 21) hc dX10_terms_21 rfl ?_
    refine zg_9_5 (pc := 22) hc lk_X10_19 dX10_terms_22 ?_
    refine zj_iload_n (pc := 25) hc dX10_terms_25 rfl ?_
    refine zj_iald (pc := 26) hc dX10_terms_26 alen_581 h.1 ?_
    have h := h.2
    refine zj_sti (pc := 27) (st := []) hc ks_X10_isIn st_X10_isIn lk_X10_83 (S_X10_isIn l G v2 (M8.2 580 v1) (M8.2 581 v1) M8 _ h) rfl ⟨Nat.le_of_ble_eq_true rfl, Nat.le_of_ble_eq_true rfl⟩ (Nat.le_of_ble_eq_true rfl) ⟨Nat.le_of_ble_eq_true rfl, Nat.le_of_ble_eq_true rfl⟩ dX10_terms_27 rfl (fun y13 M9 h => ?_)
    obtain ⟨hM9, h⟩ := h
    subst hM9
    refine zj_if_ne (pc := 30) (tgt := 39) hc dX10_terms_30 (by decide) (fun hx14 => ?_) (fun hx14 => ?_)
    · have h := h.1 hx14
      refine zj_aload_n (pc := 39) hc dX10_terms_39 rfl ?_
      refine zg_9_3 (pc := 40) hc lk_X10_13 dX10_terms_40 ?_
      refine zj_iload_n (pc := 43) hc dX10_terms_43 rfl ?_
      refine zj_iald (pc := 44) hc dX10_terms_44 alen_579 h.1 ?_
      have h := h.2
      refine zj_istore_n (pc := 45) hc dX10_terms_45 (by decide) ?_
      refine zj_aload_n (pc := 46) hc dX10_terms_46 rfl ?_
      refine zg_9_3 (pc := 47) hc lk_X10_13 dX10_terms_47 ?_
      refine zj_iload_n (pc := 50) hc dX10_terms_50 rfl ?_
      refine zj_iload_n (pc := 51) hc dX10_terms_51 rfl ?_
      refine zj_iast (pc := 52) hc dX10_terms_52 alen_579 h.1 (fun M15 hM15 => ?_)
      have h := h.2 M15 hM15
      exact k53 M15 v1 v2 (M8.2 579 v1) h
    · have h := h.2 hx14
      refine zj_aload_n (pc := 33) hc dX10_terms_33 rfl ?_
      refine zj_iconst (pc := 34) hc dX10_terms_34 (zin _ rfl) ?_
      refine zj_vti (pc := 35) (st := []) hc ks_X10_refuses iv_X10_refuses lk_X10_87 (zrv_9 G M8) (S_X10_refuses l G (-1) M8 _ h) rfl ⟨Nat.le_of_ble_eq_true rfl, Nat.le_of_ble_eq_true rfl⟩ (Nat.le_of_ble_eq_true rfl) ⟨Nat.le_of_ble_eq_true rfl, Nat.le_of_ble_eq_true rfl⟩ dX10_terms_35 rfl (fun y16 M17 h => ?_)
      exact zj_iret (pc := 38) hc hr hlk dX10_terms_38 (by decide) (by decide) h
set_option maxHeartbeats 4000000 in
set_option maxRecDepth 100000 in
theorem S_X10_types (l : Launch) (G : zG) (v1 : Int) (M : zMem) (Qr : zMem → Prop) (h : T_X10_types v1 Qr M) : zMetV l yX10_types cX10_types 3 none 0 0 0 0 G [.inr 639, .inl v1] M Qr := by
  refine zmetV (by decide) (Nat.le_of_ble_eq_true rfl) [some (.inr 639), some (.inl v1), none] rfl ?_
  intro p e s m args below meth c hc hr hlk
  have k3 : ∀ (M : zMem) (v1 : Int) (v2 : Int), T_X10_types_3 v1 Qr v2 M → zJ p l e (zRoom 0 0 0 0) s m args below meth c G 3 0 0 (MQ below (zQv G (Qr)) args s 0 0 (zA G)) 3 [some (.inr 639), some (.inl v1), some (.inl v2)] [] M := by
    intro M v1 v2 h
    unfold T_X10_types_3 at h
    refine zl1_use h (fun v2 M => zJ p l e (zRoom 0 0 0 0) s m args below meth c G 3 0 0 (MQ below (zQv G (Qr)) args s 0 0 (zA G)) 3 [some (.inr 639), some (.inl v1), some (.inl v2)] [] M) (fun X3 hX3 v2 M h => ?_)
    refine zj_iload_n (pc := 3) hc dX10_types_3 rfl ?_
    refine zj_if_lt (pc := 4) (tgt := 39) hc dX10_types_4 (by decide) (fun hx1 => ?_) (fun hx1 => ?_)
    · have h := h.1 hx1
      exact zj_vret (pc := 39) hc hr hlk dX10_types_39 (by decide) (by decide) h
    · have h := h.2 hx1
      refine zj_aload_n (pc := 7) hc dX10_types_7 rfl ?_
      refine zg_9_8 (pc := 8) hc lk_X10_28 dX10_types_8 ?_
      refine zj_aload_n (pc := 11) hc dX10_types_11 rfl ?_
      refine zg_9_9 (pc := 12) hc lk_X10_101 dX10_types_12 ?_
      refine zj_iload_n (pc := 15) hc dX10_types_15 rfl ?_
      refine zj_iload_n (pc := 16) hc dX10_types_16 rfl ?_
      refine zj_ishr (pc := 17) hc dX10_types_17 ?_
      refine zj_sipush (pc := 18) hc dX10_types_18 (by decide) (zin _ rfl) ?_
      refine zj_iand (pc := 21) hc dX10_types_21 ?_
      refine zj_iast (pc := 22) hc dX10_types_22 alen_584 h.1 (fun M2 hM2 => ?_)
      have h := h.2 M2 hM2
      refine zj_aload_n (pc := 23) hc dX10_types_23 rfl ?_
      refine zj_dup (pc := 24) hc dX10_types_24 ?_
      refine zg_9_9 (pc := 25) hc lk_X10_101 dX10_types_25 ?_
      refine zj_iconst (pc := 28) hc dX10_types_28 (zin _ rfl) ?_
      refine zj_iadd (pc := 29) hc dX10_types_29 h.1 ?_
      have h := h.2
      refine zs_9_9 (pc := 30) hc lk_X10_101 dX10_types_30 (fun M3 hM3 => ?_)
      have h := h M3 hM3
      refine zj_iinc (pc := 33) hc dX10_types_33 rfl (by decide) h.1 ?_
      have h := h.2
      refine zj_goto (pc := 36) (tgt := 3) hc dX10_types_36 (by decide) ?_
      exact hX3 (v2 + (-8)) M3 h
  unfold T_X10_types at h
  refine zj_bipush (pc := 0) hc dX10_types_0 (by decide) (zin _ rfl) ?_
  refine zj_istore_n (pc := 2) hc dX10_types_2 (by decide) ?_
  exact k3 M v1 24 h
set_option maxHeartbeats 4000000 in
set_option maxRecDepth 100000 in
theorem S_X10_feed (l : Launch) (G : zG) (v1 : Int) (v2 : Int) (v3 : Int) (v4 : Int) (v5 : Int) (M : zMem) (Qr : Int → zMem → Prop) (h : T_X10_feed v1 v2 v3 v4 v5 Qr M) : zMetI l yX10_feed cX10_feed 6 (some .int) 1 22 0 0 G [.inr 639, .inl v1, .inl v2, .inl v3, .inl v4, .inl v5] M Qr := by
  refine zmetI (by decide) (Nat.le_of_ble_eq_true rfl) [some (.inr 639), some (.inl v1), some (.inl v2), some (.inl v3), some (.inl v4), some (.inl v5)] rfl ?_
  intro p e s m args below meth c hc hr hlk
  unfold T_X10_feed at h
  refine zj_aload_n (pc := 0) hc dX10_feed_0 rfl ?_
  refine zj_iconst (pc := 1) hc dX10_feed_1 (zin _ rfl) ?_
  refine zs_9_0 (pc := 2) hc lk_X10_77 dX10_feed_2 (fun M1 hM1 => ?_)
  have h := h M1 hM1
  refine zj_aload_n (pc := 5) hc dX10_feed_5 rfl ?_
  refine zg_9_9 (pc := 6) hc lk_X10_101 dX10_feed_6 ?_
  refine zj_sipush (pc := 9) hc dX10_feed_9 (by decide) (zin _ rfl) ?_
  refine zj_icmp_le (pc := 12) (tgt := 17) hc dX10_feed_12 (by decide) (fun hx2 => ?_) (fun hx2 => ?_)
  · have h := h.1 hx2
    refine zj_aload_n (pc := 17) hc dX10_feed_17 rfl ?_
    refine zj_iload_n (pc := 18) hc dX10_feed_18 rfl ?_
    refine zj_vtv (pc := 19) (st := []) hc ks_X10_types iv_X10_types lk_X10_104 (zrv_9 G M1) (S_X10_types l G v1 M1 _ h) rfl ⟨Nat.le_of_ble_eq_true rfl, Nat.le_of_ble_eq_true rfl⟩ (Nat.le_of_ble_eq_true rfl) ⟨Nat.le_of_ble_eq_true rfl, Nat.le_of_ble_eq_true rfl⟩ dX10_feed_19 rfl (fun M3 h => ?_)
    refine zj_aload_n (pc := 22) hc dX10_feed_22 rfl ?_
    refine zj_iload_n (pc := 23) hc dX10_feed_23 rfl ?_
    refine zj_vtv (pc := 24) (st := []) hc ks_X10_types iv_X10_types lk_X10_104 (zrv_9 G M3) (S_X10_types l G v2 M3 _ h) rfl ⟨Nat.le_of_ble_eq_true rfl, Nat.le_of_ble_eq_true rfl⟩ (Nat.le_of_ble_eq_true rfl) ⟨Nat.le_of_ble_eq_true rfl, Nat.le_of_ble_eq_true rfl⟩ dX10_feed_24 rfl (fun M4 h => ?_)
    refine zj_aload_n (pc := 27) hc dX10_feed_27 rfl ?_
    refine zj_iload_n (pc := 28) hc dX10_feed_28 rfl ?_
    refine zj_vtv (pc := 29) (st := []) hc ks_X10_types iv_X10_types lk_X10_104 (zrv_9 G M4) (S_X10_types l G v3 M4 _ h) rfl ⟨Nat.le_of_ble_eq_true rfl, Nat.le_of_ble_eq_true rfl⟩ (Nat.le_of_ble_eq_true rfl) ⟨Nat.le_of_ble_eq_true rfl, Nat.le_of_ble_eq_true rfl⟩ dX10_feed_29 rfl (fun M5 h => ?_)
    refine zj_aload_n (pc := 32) hc dX10_feed_32 rfl ?_
    refine zj_iload (pc := 33) hc dX10_feed_33 rfl ?_
    refine zj_vtv (pc := 35) (st := []) hc ks_X10_types iv_X10_types lk_X10_104 (zrv_9 G M5) (S_X10_types l G v4 M5 _ h) rfl ⟨Nat.le_of_ble_eq_true rfl, Nat.le_of_ble_eq_true rfl⟩ (Nat.le_of_ble_eq_true rfl) ⟨Nat.le_of_ble_eq_true rfl, Nat.le_of_ble_eq_true rfl⟩ dX10_feed_35 rfl (fun M6 h => ?_)
    refine zj_aload_n (pc := 38) hc dX10_feed_38 rfl ?_
    refine zj_iload (pc := 39) hc dX10_feed_39 rfl ?_
    refine zj_vtv (pc := 41) (st := []) hc ks_X10_types iv_X10_types lk_X10_104 (zrv_9 G M6) (S_X10_types l G v5 M6 _ h) rfl ⟨Nat.le_of_ble_eq_true rfl, Nat.le_of_ble_eq_true rfl⟩ (Nat.le_of_ble_eq_true rfl) ⟨Nat.le_of_ble_eq_true rfl, Nat.le_of_ble_eq_true rfl⟩ dX10_feed_41 rfl (fun M7 h => ?_)
    refine zj_aload_n (pc := 44) hc dX10_feed_44 rfl ?_
    refine zg_9_9 (pc := 45) hc lk_X10_101 dX10_feed_45 ?_
    exact zj_iret (pc := 48) hc hr hlk dX10_feed_48 (by decide) (by decide) h
  · have h := h.2 hx2
    refine zj_iconst (pc := 15) hc dX10_feed_15 (zin _ rfl) ?_
    exact zj_iret (pc := 16) hc hr hlk dX10_feed_16 (by decide) (by decide) h
set_option maxHeartbeats 4000000 in
set_option maxRecDepth 100000 in
theorem S_X10_end (l : Launch) (G : zG) (v1 : Int) (M : zMem) (Qr : Int → zMem → Prop) (h : T_X10_end v1 Qr M) : zMetI l yX10_end cX10_end 2 (some .int) 1 22 0 0 G [.inr 639, .inl v1] M Qr := by
  refine zmetI (by decide) (Nat.le_of_ble_eq_true rfl) [some (.inr 639), some (.inl v1)] rfl ?_
  intro p e s m args below meth c hc hr hlk
  unfold T_X10_end at h
  refine zj_aload_n (pc := 0) hc dX10_end_0 rfl ?_
  refine zj_iconst (pc := 1) hc dX10_end_1 (zin _ rfl) ?_
  refine zs_9_0 (pc := 2) hc lk_X10_77 dX10_end_2 (fun M1 hM1 => ?_)
  have h := h M1 hM1
  refine zj_iload_n (pc := 5) hc dX10_end_5 rfl ?_
  refine zj_iconst (pc := 6) hc dX10_end_6 (zin _ rfl) ?_
  refine zj_aload_n (pc := 7) hc dX10_end_7 rfl ?_
  refine zg_9_9 (pc := 8) hc lk_X10_101 dX10_end_8 ?_
  refine zj_sti (pc := 11) (st := []) hc ks_X10_isIn st_X10_isIn lk_X10_83 (S_X10_isIn l G v1 0 (M1.1 585) M1 _ h) rfl ⟨Nat.le_of_ble_eq_true rfl, Nat.le_of_ble_eq_true rfl⟩ (Nat.le_of_ble_eq_true rfl) ⟨Nat.le_of_ble_eq_true rfl, Nat.le_of_ble_eq_true rfl⟩ dX10_end_11 rfl (fun y2 M9 h => ?_)
  obtain ⟨hM9, h⟩ := h
  subst hM9
  refine zj_if_ne (pc := 14) (tgt := 19) hc dX10_end_14 (by decide) (fun hx3 => ?_) (fun hx3 => ?_)
  · have h := h.1 hx3
    refine zj_aload_n (pc := 19) hc dX10_end_19 rfl ?_
    refine zj_iload_n (pc := 20) hc dX10_end_20 rfl ?_
    refine zs_9_9 (pc := 21) hc lk_X10_101 dX10_end_21 (fun M4 hM4 => ?_)
    have h := h M4 hM4
    refine zj_iload_n (pc := 24) hc dX10_end_24 rfl ?_
    exact zj_iret (pc := 25) hc hr hlk dX10_end_25 (by decide) (by decide) h
  · have h := h.2 hx3
    refine zj_iconst (pc := 17) hc dX10_end_17 (zin _ rfl) ?_
    exact zj_iret (pc := 18) hc hr hlk dX10_end_18 (by decide) (by decide) h
set_option maxHeartbeats 4000000 in
set_option maxRecDepth 100000 in
theorem S_X10_tape (l : Launch) (G : zG) (v1 : Int) (M : zMem) (Qr : Int → zMem → Prop) (h : T_X10_tape v1 Qr M) : zMetI l yX10_tape cX10_tape 2 (some .int) 1 22 0 0 G [.inr 639, .inl v1] M Qr := by
  refine zmetI (by decide) (Nat.le_of_ble_eq_true rfl) [some (.inr 639), some (.inl v1)] rfl ?_
  intro p e s m args below meth c hc hr hlk
  unfold T_X10_tape at h
  refine zj_aload_n (pc := 0) hc dX10_tape_0 rfl ?_
  refine zj_iconst (pc := 1) hc dX10_tape_1 (zin _ rfl) ?_
  refine zs_9_0 (pc := 2) hc lk_X10_77 dX10_tape_2 (fun M1 hM1 => ?_)
  have h := h M1 hM1
  refine zj_iload_n (pc := 5) hc dX10_tape_5 rfl ?_
  refine zj_iconst (pc := 6) hc dX10_tape_6 (zin _ rfl) ?_
  refine zj_aload_n (pc := 7) hc dX10_tape_7 rfl ?_
  refine zg_9_9 (pc := 8) hc lk_X10_101 dX10_tape_8 ?_
  refine zj_iconst (pc := 11) hc dX10_tape_11 (zin _ rfl) ?_
  refine zj_isub (pc := 12) hc dX10_tape_12 h.1 ?_
  have h := h.2
  refine zj_sti (pc := 13) (st := []) hc ks_X10_isIn st_X10_isIn lk_X10_83 (S_X10_isIn l G v1 0 ((M1.1 585) - 1) M1 _ h) rfl ⟨Nat.le_of_ble_eq_true rfl, Nat.le_of_ble_eq_true rfl⟩ (Nat.le_of_ble_eq_true rfl) ⟨Nat.le_of_ble_eq_true rfl, Nat.le_of_ble_eq_true rfl⟩ dX10_tape_13 rfl (fun y2 M9 h => ?_)
  obtain ⟨hM9, h⟩ := h
  subst hM9
  refine zj_if_eq (pc := 16) (tgt := 28) hc dX10_tape_16 (by decide) (fun hx3 => ?_) (fun hx3 => ?_)
  · have h := h.1 hx3
    refine zj_iconst (pc := 28) hc dX10_tape_28 (zin _ rfl) ?_
    exact zj_iret (pc := 29) hc hr hlk dX10_tape_29 (by decide) (by decide) h
  · have h := h.2 hx3
    refine zj_aload_n (pc := 19) hc dX10_tape_19 rfl ?_
    refine zg_9_8 (pc := 20) hc lk_X10_28 dX10_tape_20 ?_
    refine zj_iload_n (pc := 23) hc dX10_tape_23 rfl ?_
    refine zj_iald (pc := 24) hc dX10_tape_24 alen_584 h.1 ?_
    have h := h.2
    refine zj_goto (pc := 25) (tgt := 29) hc dX10_tape_25 (by decide) ?_
    exact zj_iret (pc := 29) hc hr hlk dX10_tape_29 (by decide) (by decide) h
set_option maxHeartbeats 4000000 in
set_option maxRecDepth 100000 in
theorem S_X10_filteredAt (l : Launch) (G : zG) (v1 : Int) (v2 : Int) (M : zMem) (Qr : Int → Prop) (h : T_X10_filteredAt v1 v2 Qr M) : zMetI l yX10_filteredAt cX10_filteredAt 5 (some .int) 0 0 0 0 G [.inr 639, .inl v1, .inl v2] M (fun r9 M9 => M = M9 ∧ Qr r9) := by
  refine zmetI (by decide) (Nat.le_of_ble_eq_true rfl) [some (.inr 639), some (.inl v1), some (.inl v2), none, none] rfl ?_
  intro p e s m args below meth c hc hr hlk
  have k34 : ∀ (v1 : Int) (v2 : Int) (v3 : Int) (s0 : Int), T_X10_filteredAt_34 v1 v2 v3 s0 Qr M → zJ p l e (zRoom 0 0 0 0) s m args below meth c G 5 0 0 (MQ below (zQi G (fun r9 M9 => M = M9 ∧ Qr r9)) args s 0 0 (zA G)) 34 [some (.inr 639), some (.inl v1), some (.inl v2), some (.inl v3), none] [.inl s0] M := by
    intro v1 v2 v3 s0 h
    unfold T_X10_filteredAt_34 at h
    refine zj_istore (pc := 34) hc dX10_filteredAt_34 (by decide) ?_
    refine zj_iload_n (pc := 36) hc dX10_filteredAt_36 rfl ?_
    refine zj_iconst (pc := 37) hc dX10_filteredAt_37 (zin _ rfl) ?_
    refine zj_icmp_ne (pc := 38) (tgt := 54) hc dX10_filteredAt_38 (by decide) (fun hx1 => ?_) (fun hx1 => ?_)
    · have h := h.1 hx1
      refine zj_iload_n (pc := 54) hc dX10_filteredAt_54 rfl ?_
      refine zj_iconst (pc := 55) hc dX10_filteredAt_55 (zin _ rfl) ?_
      refine zj_icmp_ne (pc := 56) (tgt := 68) hc dX10_filteredAt_56 (by decide) (fun hx2 => ?_) (fun hx2 => ?_)
      · have h := h.1 hx2
        refine zj_iload_n (pc := 68) hc dX10_filteredAt_68 rfl ?_
        refine zj_iconst (pc := 69) hc dX10_filteredAt_69 (zin _ rfl) ?_
        refine zj_icmp_ne (pc := 70) (tgt := 89) hc dX10_filteredAt_70 (by decide) (fun hx3 => ?_) (fun hx3 => ?_)
        · have h := h.1 hx3
          refine zj_aload_n (pc := 89) hc dX10_filteredAt_89 rfl ?_
          refine zg_9_14 (pc := 90) hc lk_X10_38 dX10_filteredAt_90 ?_
          refine zj_iload_n (pc := 93) hc dX10_filteredAt_93 rfl ?_
          refine zj_iald (pc := 94) hc dX10_filteredAt_94 alen_590 h.1 ?_
          have h := h.2
          exact zj_iret (pc := 95) hc hr hlk dX10_filteredAt_95 (by decide) (by decide) ⟨rfl, h⟩
        · have h := h.2 hx3
          refine zj_aload_n (pc := 73) hc dX10_filteredAt_73 rfl ?_
          refine zg_9_14 (pc := 74) hc lk_X10_38 dX10_filteredAt_74 ?_
          refine zj_iload_n (pc := 77) hc dX10_filteredAt_77 rfl ?_
          refine zj_iald (pc := 78) hc dX10_filteredAt_78 alen_590 h.1 ?_
          have h := h.2
          refine zj_iload (pc := 79) hc dX10_filteredAt_79 rfl ?_
          refine zj_isub (pc := 81) hc dX10_filteredAt_81 h.1 ?_
          have h := h.2
          refine zj_sipush (pc := 82) hc dX10_filteredAt_82 (by decide) (zin _ rfl) ?_
          refine zj_iand (pc := 85) hc dX10_filteredAt_85 ?_
          refine zj_goto (pc := 86) (tgt := 95) hc dX10_filteredAt_86 (by decide) ?_
          exact zj_iret (pc := 95) hc hr hlk dX10_filteredAt_95 (by decide) (by decide) ⟨rfl, h⟩
      · have h := h.2 hx2
        refine zj_aload_n (pc := 59) hc dX10_filteredAt_59 rfl ?_
        refine zg_9_14 (pc := 60) hc lk_X10_38 dX10_filteredAt_60 ?_
        refine zj_iload_n (pc := 63) hc dX10_filteredAt_63 rfl ?_
        refine zj_iald (pc := 64) hc dX10_filteredAt_64 alen_590 h.1 ?_
        have h := h.2
        refine zj_iload_n (pc := 65) hc dX10_filteredAt_65 rfl ?_
        refine zj_ixor (pc := 66) hc dX10_filteredAt_66 ?_
        exact zj_iret (pc := 67) hc hr hlk dX10_filteredAt_67 (by decide) (by decide) ⟨rfl, h⟩
    · have h := h.2 hx1
      refine zj_aload_n (pc := 41) hc dX10_filteredAt_41 rfl ?_
      refine zg_9_14 (pc := 42) hc lk_X10_38 dX10_filteredAt_42 ?_
      refine zj_iload_n (pc := 45) hc dX10_filteredAt_45 rfl ?_
      refine zj_iald (pc := 46) hc dX10_filteredAt_46 alen_590 h.1 ?_
      have h := h.2
      refine zj_iload_n (pc := 47) hc dX10_filteredAt_47 rfl ?_
      refine zj_isub (pc := 48) hc dX10_filteredAt_48 h.1 ?_
      have h := h.2
      refine zj_sipush (pc := 49) hc dX10_filteredAt_49 (by decide) (zin _ rfl) ?_
      refine zj_iand (pc := 52) hc dX10_filteredAt_52 ?_
      exact zj_iret (pc := 53) hc hr hlk dX10_filteredAt_53 (by decide) (by decide) ⟨rfl, h⟩
  have k16 : ∀ (v1 : Int) (v2 : Int) (s0 : Int), T_X10_filteredAt_16 v1 v2 s0 Qr M → zJ p l e (zRoom 0 0 0 0) s m args below meth c G 5 0 0 (MQ below (zQi G (fun r9 M9 => M = M9 ∧ Qr r9)) args s 0 0 (zA G)) 16 [some (.inr 639), some (.inl v1), some (.inl v2), none, none] [.inl s0] M := by
    intro v1 v2 s0 h
    unfold T_X10_filteredAt_16 at h
    refine zj_istore_n (pc := 16) hc dX10_filteredAt_16 (by decide) ?_
    refine zj_iload_n (pc := 17) hc dX10_filteredAt_17 rfl ?_
    refine zj_iconst (pc := 18) hc dX10_filteredAt_18 (zin _ rfl) ?_
    refine zj_icmp_le (pc := 19) (tgt := 33) hc dX10_filteredAt_19 (by decide) (fun hx4 => ?_) (fun hx4 => ?_)
    · have h := h.1 hx4
      refine zj_iconst (pc := 33) hc dX10_filteredAt_33 (zin _ rfl) ?_
      exact k34 v1 v2 s0 0 h
    · have h := h.2 hx4
      refine zj_aload_n (pc := 22) hc dX10_filteredAt_22 rfl ?_
      refine zg_9_14 (pc := 23) hc lk_X10_38 dX10_filteredAt_23 ?_
      refine zj_iload_n (pc := 26) hc dX10_filteredAt_26 rfl ?_
      refine zj_iconst (pc := 27) hc dX10_filteredAt_27 (zin _ rfl) ?_
      refine zj_isub (pc := 28) hc dX10_filteredAt_28 h.1 ?_
      have h := h.2
      refine zj_iald (pc := 29) hc dX10_filteredAt_29 alen_590 h.1 ?_
      have h := h.2
      refine zj_goto (pc := 30) (tgt := 34) hc dX10_filteredAt_30 (by decide) ?_
      exact k34 v1 v2 s0 (M.2 590 (v1 - 2)) h
  unfold T_X10_filteredAt at h
  refine zj_iload_n (pc := 0) hc dX10_filteredAt_0 rfl ?_
  refine zj_if_le (pc := 1) (tgt := 15) hc dX10_filteredAt_1 (by decide) (fun hx5 => ?_) (fun hx5 => ?_)
  · have h := h.1 hx5
    refine zj_iconst (pc := 15) hc dX10_filteredAt_15 (zin _ rfl) ?_
    exact k16 v1 v2 0 h
  · have h := h.2 hx5
    refine zj_aload_n (pc := 4) hc dX10_filteredAt_4 rfl ?_
    refine zg_9_14 (pc := 5) hc lk_X10_38 dX10_filteredAt_5 ?_
    refine zj_iload_n (pc := 8) hc dX10_filteredAt_8 rfl ?_
    refine zj_iconst (pc := 9) hc dX10_filteredAt_9 (zin _ rfl) ?_
    refine zj_isub (pc := 10) hc dX10_filteredAt_10 h.1 ?_
    have h := h.2
    refine zj_iald (pc := 11) hc dX10_filteredAt_11 alen_590 h.1 ?_
    have h := h.2
    refine zj_goto (pc := 12) (tgt := 16) hc dX10_filteredAt_12 (by decide) ?_
    exact k16 v1 v2 (M.2 590 (v1 - 1)) h
