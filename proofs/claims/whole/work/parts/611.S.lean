set_option maxHeartbeats 4000000 in
set_option maxRecDepth 100000 in
theorem S_X0_doJournalAgain (l : Launch) (G : zG) (M : zMem) (Qr : zMem → Prop) (h : T_X0_doJournalAgain Qr M) : zMetV l yX0_doJournalAgain cX0_doJournalAgain 4 none 2 47 0 0 G [.inr 127] M Qr := by
  refine zmetV (by decide) (Nat.le_of_ble_eq_true rfl) [some (.inr 127), none, none, none] rfl ?_
  intro p e s m args below meth c hc hr hlk
  have k24 : ∀ (M : zMem) (v1 : Int) (v2 : Int) (v3 : Int), T_X0_doJournalAgain_24 v1 Qr v2 v3 M → zJ p l e (zRoom 2 47 0 0) s m args below meth c G 4 0 0 (MQ below (zQv G (Qr)) args s 0 0 (zA G)) 24 [some (.inr 127), some (.inl v1), some (.inl v2), some (.inl v3)] [] M := by
    intro M v1 v2 v3 h
    unfold T_X0_doJournalAgain_24 at h
    refine zl2_use h (fun v2 v3 M => zJ p l e (zRoom 2 47 0 0) s m args below meth c G 4 0 0 (MQ below (zQv G (Qr)) args s 0 0 (zA G)) 24 [some (.inr 127), some (.inl v1), some (.inl v2), some (.inl v3)] [] M) (fun X24 hX24 v2 v3 M h => ?_)
    refine zj_iload_n (pc := 24) hc dX0_doJournalAgain_24 rfl ?_
    refine zj_iload_n (pc := 25) hc dX0_doJournalAgain_25 rfl ?_
    refine zj_icmp_ge (pc := 26) (tgt := 60) hc dX0_doJournalAgain_26 (by decide) (fun hx1 => ?_) (fun hx1 => ?_)
    · have h := h.1 hx1
      refine zj_aload_n (pc := 60) hc dX0_doJournalAgain_60 rfl ?_
      refine zj_aload_n (pc := 61) hc dX0_doJournalAgain_61 rfl ?_
      refine zg_1_0 (pc := 62) hc lk_X0_9 dX0_doJournalAgain_62 ?_
      refine zj_iload_n (pc := 65) hc dX0_doJournalAgain_65 rfl ?_
      refine zj_sipush (pc := 66) hc dX0_doJournalAgain_66 (by decide) (zin _ rfl) ?_
      refine zj_iconst (pc := 69) hc dX0_doJournalAgain_69 (zin _ rfl) ?_
      refine zj_iconst (pc := 70) hc dX0_doJournalAgain_70 (zin _ rfl) ?_
      refine zj_iconst (pc := 71) hc dX0_doJournalAgain_71 (zin _ rfl) ?_
      refine zj_bipush (pc := 72) hc dX0_doJournalAgain_72 (by decide) (zin _ rfl) ?_
      refine zj_aload_n (pc := 74) hc dX0_doJournalAgain_74 rfl ?_
      refine zg_1_0 (pc := 75) hc lk_X0_9 dX0_doJournalAgain_75 ?_
      refine zj_iload_n (pc := 78) hc dX0_doJournalAgain_78 rfl ?_
      refine zj_iald (pc := 79) hc dX0_doJournalAgain_79 alen_64 h.1 ?_
      have h := h.2
      refine zj_min (pc := 80) hc dX0_doJournalAgain_80 lk_X0_58 st_min in_Math co_min (Nat.le_of_ble_eq_true rfl) (Nat.le_of_ble_eq_true rfl) ⟨Nat.le_of_ble_eq_true rfl, Nat.le_of_ble_eq_true rfl⟩ ?_
      refine zj_max (pc := 83) hc dX0_doJournalAgain_83 lk_X0_64 st_max in_Math co_max (Nat.le_of_ble_eq_true rfl) (Nat.le_of_ble_eq_true rfl) ⟨Nat.le_of_ble_eq_true rfl, Nat.le_of_ble_eq_true rfl⟩ ?_
      refine zj_imul (pc := 86) hc dX0_doJournalAgain_86 h.1 ?_
      have h := h.2
      refine zj_iadd (pc := 87) hc dX0_doJournalAgain_87 h.1 ?_
      have h := h.2
      refine zj_vtv (pc := 88) (st := []) hc ks_X0_copyIn iv_X0_copyIn lk_X0_48 (zrv_1 G M) (S_X0_copyIn l G 64 v2 640 (1 + (2 * (max 0 (min 10 (M.2 64 v2))))) M _ h) rfl ⟨Nat.le_of_ble_eq_true rfl, Nat.le_of_ble_eq_true rfl⟩ (Nat.le_of_ble_eq_true rfl) ⟨Nat.le_of_ble_eq_true rfl, Nat.le_of_ble_eq_true rfl⟩ dX0_doJournalAgain_88 rfl (fun M2 h => ?_)
      refine zj_aload_n (pc := 91) hc dX0_doJournalAgain_91 rfl ?_
      refine zj_sipush (pc := 92) hc dX0_doJournalAgain_92 (by decide) (zin _ rfl) ?_
      refine zj_iconst (pc := 95) hc dX0_doJournalAgain_95 (zin _ rfl) ?_
      refine zj_vtv (pc := 96) (st := []) hc ks_X0_write iv_X0_write lk_X0_38 (zrv_1 G M2) (S_X0_write l G 661 0 M2 _ h) rfl ⟨Nat.le_of_ble_eq_true rfl, Nat.le_of_ble_eq_true rfl⟩ (Nat.le_of_ble_eq_true rfl) ⟨Nat.le_of_ble_eq_true rfl, Nat.le_of_ble_eq_true rfl⟩ dX0_doJournalAgain_96 rfl (fun M3 h => ?_)
      exact zj_vret (pc := 99) hc hr hlk dX0_doJournalAgain_99 (by decide) (by decide) h
    · have h := h.2 hx1
      refine zj_aload_n (pc := 29) hc dX0_doJournalAgain_29 rfl ?_
      refine zj_aload_n (pc := 30) hc dX0_doJournalAgain_30 rfl ?_
      refine zg_1_0 (pc := 31) hc lk_X0_9 dX0_doJournalAgain_31 ?_
      refine zj_iload_n (pc := 34) hc dX0_doJournalAgain_34 rfl ?_
      refine zj_iconst (pc := 35) hc dX0_doJournalAgain_35 (zin _ rfl) ?_
      refine zj_iadd (pc := 36) hc dX0_doJournalAgain_36 h.1 ?_
      have h := h.2
      refine zj_aload_n (pc := 37) hc dX0_doJournalAgain_37 rfl ?_
      refine zg_1_0 (pc := 38) hc lk_X0_9 dX0_doJournalAgain_38 ?_
      refine zj_iload_n (pc := 41) hc dX0_doJournalAgain_41 rfl ?_
      refine zj_iald (pc := 42) hc dX0_doJournalAgain_42 alen_64 h.1 ?_
      have h := h.2
      refine zj_bipush (pc := 43) hc dX0_doJournalAgain_43 (by decide) (zin _ rfl) ?_
      refine zj_imul (pc := 45) hc dX0_doJournalAgain_45 h.1 ?_
      have h := h.2
      refine zj_bipush (pc := 46) hc dX0_doJournalAgain_46 (by decide) (zin _ rfl) ?_
      refine zj_vtv (pc := 48) (st := []) hc ks_X0_copyIn iv_X0_copyIn lk_X0_48 (zrv_1 G M) (S_X0_copyIn l G 64 (v2 + 1) ((M.2 64 v2) * 64) 64 M _ h) rfl ⟨Nat.le_of_ble_eq_true rfl, Nat.le_of_ble_eq_true rfl⟩ (Nat.le_of_ble_eq_true rfl) ⟨Nat.le_of_ble_eq_true rfl, Nat.le_of_ble_eq_true rfl⟩ dX0_doJournalAgain_48 rfl (fun M4 h => ?_)
      refine zj_iinc (pc := 51) hc dX0_doJournalAgain_51 rfl (by decide) h.1 ?_
      have h := h.2
      refine zj_iinc (pc := 54) hc dX0_doJournalAgain_54 rfl (by decide) h.1 ?_
      have h := h.2
      refine zj_goto (pc := 57) (tgt := 24) hc dX0_doJournalAgain_57 (by decide) ?_
      exact hX24 (v2 + 65) (v3 + 1) M4 h
  unfold T_X0_doJournalAgain at h
  refine zj_iconst (pc := 0) hc dX0_doJournalAgain_0 (zin _ rfl) ?_
  refine zj_bipush (pc := 1) hc dX0_doJournalAgain_1 (by decide) (zin _ rfl) ?_
  refine zj_aload_n (pc := 3) hc dX0_doJournalAgain_3 rfl ?_
  refine zg_1_0 (pc := 4) hc lk_X0_9 dX0_doJournalAgain_4 ?_
  refine zj_sipush (pc := 7) hc dX0_doJournalAgain_7 (by decide) (zin _ rfl) ?_
  refine zj_iald (pc := 10) hc dX0_doJournalAgain_10 alen_64 h.1 ?_
  have h := h.2
  refine zj_min (pc := 11) hc dX0_doJournalAgain_11 lk_X0_58 st_min in_Math co_min (Nat.le_of_ble_eq_true rfl) (Nat.le_of_ble_eq_true rfl) ⟨Nat.le_of_ble_eq_true rfl, Nat.le_of_ble_eq_true rfl⟩ ?_
  refine zj_max (pc := 14) hc dX0_doJournalAgain_14 lk_X0_64 st_max in_Math co_max (Nat.le_of_ble_eq_true rfl) (Nat.le_of_ble_eq_true rfl) ⟨Nat.le_of_ble_eq_true rfl, Nat.le_of_ble_eq_true rfl⟩ ?_
  refine zj_istore_n (pc := 17) hc dX0_doJournalAgain_17 (by decide) ?_
  refine zj_sipush (pc := 18) hc dX0_doJournalAgain_18 (by decide) (zin _ rfl) ?_
  refine zj_istore_n (pc := 21) hc dX0_doJournalAgain_21 (by decide) ?_
  refine zj_iconst (pc := 22) hc dX0_doJournalAgain_22 (zin _ rfl) ?_
  refine zj_istore_n (pc := 23) hc dX0_doJournalAgain_23 (by decide) ?_
  exact k24 M (max 0 (min 10 (M.2 64 662))) 663 0 h
set_option maxHeartbeats 4000000 in
set_option maxRecDepth 100000 in
theorem S_X0_restoreOrder (l : Launch) (G : zG) (M : zMem) (Qr : zMem → Prop) (h : T_X0_restoreOrder Qr M) : zMetV l yX0_restoreOrder cX0_restoreOrder 1 none 6 135 0 0 G [.inr 127] M Qr := by
  refine zmetV (by decide) (Nat.le_of_ble_eq_true rfl) [some (.inr 127)] rfl ?_
  intro p e s m args below meth c hc hr hlk
  have k31 : ∀ (M : zMem), T_X0_restoreOrder_31 Qr M → zJ p l e (zRoom 6 135 0 0) s m args below meth c G 1 0 0 (MQ below (zQv G (Qr)) args s 0 0 (zA G)) 31 [some (.inr 127)] [] M := by
    intro M h
    unfold T_X0_restoreOrder_31 at h
    refine zj_aload_n (pc := 31) hc dX0_restoreOrder_31 rfl ?_
    refine zg_1_3 (pc := 32) hc lk_X0_23 dX0_restoreOrder_32 ?_
    refine zj_if_ne (pc := 35) (tgt := 43) hc dX0_restoreOrder_35 (by decide) (fun hx1 => ?_) (fun hx1 => ?_)
    · have h := h.1 hx1
      exact zj_vret (pc := 43) hc hr hlk dX0_restoreOrder_43 (by decide) (by decide) h
    · have h := h.2 hx1
      refine zj_aload_n (pc := 38) hc dX0_restoreOrder_38 rfl ?_
      refine zj_iconst (pc := 39) hc dX0_restoreOrder_39 (zin _ rfl) ?_
      refine zs_1_2 (pc := 40) hc lk_X0_19 (Or.inl rfl) dX0_restoreOrder_40 (fun M2 hM2 => ?_)
      have h := h M2 hM2
      exact zj_vret (pc := 43) hc hr hlk dX0_restoreOrder_43 (by decide) (by decide) h
  have k20 : ∀ (M : zMem), T_X0_restoreOrder_20 Qr M → zJ p l e (zRoom 6 135 0 0) s m args below meth c G 1 0 0 (MQ below (zQv G (Qr)) args s 0 0 (zA G)) 20 [some (.inr 127)] [] M := by
    intro M h
    unfold T_X0_restoreOrder_20 at h
    refine zj_aload_n (pc := 20) hc dX0_restoreOrder_20 rfl ?_
    refine zg_1_3 (pc := 21) hc lk_X0_23 dX0_restoreOrder_21 ?_
    refine zj_if_ne (pc := 24) (tgt := 31) hc dX0_restoreOrder_24 (by decide) (fun hx3 => ?_) (fun hx3 => ?_)
    · have h := h.1 hx3
      exact k31 M h
    · have h := h.2 hx3
      refine zj_aload_n (pc := 27) hc dX0_restoreOrder_27 rfl ?_
      refine zj_vtv (pc := 28) (st := []) hc ks_X0_clearBehindLogs iv_X0_clearBehindLogs lk_X0_55 (zrv_1 G M) (S_X0_clearBehindLogs l G M _ h) rfl ⟨Nat.le_of_ble_eq_true rfl, Nat.le_of_ble_eq_true rfl⟩ (Nat.le_of_ble_eq_true rfl) ⟨Nat.le_of_ble_eq_true rfl, Nat.le_of_ble_eq_true rfl⟩ dX0_restoreOrder_28 rfl (fun M4 h => ?_)
      exact k31 M4 h
  unfold T_X0_restoreOrder at h
  refine zj_aload_n (pc := 0) hc dX0_restoreOrder_0 rfl ?_
  refine zj_vtv (pc := 1) (st := []) hc ks_X0_startAct iv_X0_startAct lk_X0_29 (zrv_1 G M) (S_X0_startAct l G M _ h) rfl ⟨Nat.le_of_ble_eq_true rfl, Nat.le_of_ble_eq_true rfl⟩ (Nat.le_of_ble_eq_true rfl) ⟨Nat.le_of_ble_eq_true rfl, Nat.le_of_ble_eq_true rfl⟩ dX0_restoreOrder_1 rfl (fun M5 h => ?_)
  refine zj_aload_n (pc := 4) hc dX0_restoreOrder_4 rfl ?_
  refine zg_1_0 (pc := 5) hc lk_X0_9 dX0_restoreOrder_5 ?_
  refine zj_sipush (pc := 8) hc dX0_restoreOrder_8 (by decide) (zin _ rfl) ?_
  refine zj_iald (pc := 11) hc dX0_restoreOrder_11 alen_64 h.1 ?_
  have h := h.2
  refine zj_iconst (pc := 12) hc dX0_restoreOrder_12 (zin _ rfl) ?_
  refine zj_icmp_ne (pc := 13) (tgt := 20) hc dX0_restoreOrder_13 (by decide) (fun hx6 => ?_) (fun hx6 => ?_)
  · have h := h.1 hx6
    exact k20 M5 h
  · have h := h.2 hx6
    refine zj_aload_n (pc := 16) hc dX0_restoreOrder_16 rfl ?_
    refine zj_vtv (pc := 17) (st := []) hc ks_X0_doJournalAgain iv_X0_doJournalAgain lk_X0_52 (zrv_1 G M5) (S_X0_doJournalAgain l G M5 _ h) rfl ⟨Nat.le_of_ble_eq_true rfl, Nat.le_of_ble_eq_true rfl⟩ (Nat.le_of_ble_eq_true rfl) ⟨Nat.le_of_ble_eq_true rfl, Nat.le_of_ble_eq_true rfl⟩ dX0_restoreOrder_17 rfl (fun M7 h => ?_)
    exact k20 M7 h
set_option maxHeartbeats 4000000 in
set_option maxRecDepth 100000 in
theorem S_X9_accept (l : Launch) (G : zG) (v1 : Int) (M : zMem) (Qr : Int → zMem → Prop) (h : T_X9_accept v1 Qr M) : zMetI l yX9_accept cX9_accept 2 (some .int) 0 0 0 0 G [.inr 63, .inl v1] M Qr := by
  refine zmetI (by decide) (Nat.le_of_ble_eq_true rfl) [some (.inr 63), some (.inl v1)] rfl ?_
  intro p e s m args below meth c hc hr hlk
  unfold T_X9_accept at h
  refine zj_aload_n (pc := 0) hc dX9_accept_0 rfl ?_
  refine zj_iconst (pc := 1) hc dX9_accept_1 (zin _ rfl) ?_
  refine zs_0_6 (pc := 2) hc lk_X9_31 dX9_accept_2 (fun M1 hM1 => ?_)
  have h := h M1 hM1
  refine zj_iload_n (pc := 5) hc dX9_accept_5 rfl ?_
  exact zj_iret (pc := 6) hc hr hlk dX9_accept_6 (by decide) (by decide) h
set_option maxHeartbeats 4000000 in
set_option maxRecDepth 100000 in
theorem S_X9_refuse (l : Launch) (G : zG) (v1 : Int) (M : zMem) (Qr : Int → zMem → Prop) (h : T_X9_refuse v1 Qr M) : zMetI l yX9_refuse cX9_refuse 3 (some .int) 0 0 0 0 G [.inr 63, .inl v1] M Qr := by
  refine zmetI (by decide) (Nat.le_of_ble_eq_true rfl) [some (.inr 63), some (.inl v1), none] rfl ?_
  intro p e s m args below meth c hc hr hlk
  unfold T_X9_refuse at h
  refine zj_aload_n (pc := 0) hc dX9_refuse_0 rfl ?_
  refine zj_iload_n (pc := 1) hc dX9_refuse_1 rfl ?_
  refine zs_0_6 (pc := 2) hc lk_X9_31 dX9_refuse_2 (fun M1 hM1 => ?_)
  have h := h M1 hM1
  refine zj_iconst (pc := 5) hc dX9_refuse_5 (zin _ rfl) ?_
  refine zj_iload_n (pc := 6) hc dX9_refuse_6 rfl ?_
  refine zj_isub (pc := 7) hc dX9_refuse_7 h.1 ?_
  have h := h.2
  refine zj_istore_n (pc := 8) hc dX9_refuse_8 (by decide) ?_
  refine zj_iload_n (pc := 9) hc dX9_refuse_9 rfl ?_
  refine zj_if_lt (pc := 10) (tgt := 32) hc dX9_refuse_10 (by decide) (fun hx2 => ?_) (fun hx2 => ?_)
  · have h := h.1 hx2
    refine zj_iload_n (pc := 32) hc dX9_refuse_32 rfl ?_
    exact zj_iret (pc := 33) hc hr hlk dX9_refuse_33 (by decide) (by decide) h
  · have h := h.2 hx2
    refine zj_iload_n (pc := 13) hc dX9_refuse_13 rfl ?_
    refine zj_aload_n (pc := 14) hc dX9_refuse_14 rfl ?_
    refine zg_0_5 (pc := 15) hc lk_X9_28 dX9_refuse_15 ?_
    refine zj_alen (pc := 18) hc dX9_refuse_18 alen_5 (by decide) ?_
    refine zj_icmp_ge (pc := 19) (tgt := 32) hc dX9_refuse_19 (by decide) (fun hx3 => ?_) (fun hx3 => ?_)
    · have h := h.1 hx3
      refine zj_iload_n (pc := 32) hc dX9_refuse_32 rfl ?_
      exact zj_iret (pc := 33) hc hr hlk dX9_refuse_33 (by decide) (by decide) h
    · have h := h.2 hx3
      refine zj_aload_n (pc := 22) hc dX9_refuse_22 rfl ?_
      refine zg_0_5 (pc := 23) hc lk_X9_28 dX9_refuse_23 ?_
      refine zj_iload_n (pc := 26) hc dX9_refuse_26 rfl ?_
      refine zj_dup2 (pc := 27) hc dX9_refuse_27 ?_
      refine zj_iald (pc := 28) hc dX9_refuse_28 alen_5 h.1 ?_
      have h := h.2
      refine zj_iconst (pc := 29) hc dX9_refuse_29 (zin _ rfl) ?_
      refine zj_iadd (pc := 30) hc dX9_refuse_30 h.1 ?_
      have h := h.2
      refine zj_iast (pc := 31) hc dX9_refuse_31 alen_5 h.1 (fun M4 hM4 => ?_)
      have h := h.2 M4 hM4
      refine zj_iload_n (pc := 32) hc dX9_refuse_32 rfl ?_
      exact zj_iret (pc := 33) hc hr hlk dX9_refuse_33 (by decide) (by decide) h
set_option maxHeartbeats 4000000 in
set_option maxRecDepth 100000 in
theorem S_X9_addFour (l : Launch) (G : zG) (v1 : Int) (M : zMem) (Qr : zMem → Prop) (h : T_X9_addFour v1 Qr M) : zMetV l yX9_addFour cX9_addFour 3 none 0 0 0 0 G [.inr 63, .inl v1] M Qr := by
  refine zmetV (by decide) (Nat.le_of_ble_eq_true rfl) [some (.inr 63), some (.inl v1), none] rfl ?_
  intro p e s m args below meth c hc hr hlk
  have k3 : ∀ (M : zMem) (v1 : Int) (v2 : Int), T_X9_addFour_3 v1 Qr v2 M → zJ p l e (zRoom 0 0 0 0) s m args below meth c G 3 0 0 (MQ below (zQv G (Qr)) args s 0 0 (zA G)) 3 [some (.inr 63), some (.inl v1), some (.inl v2)] [] M := by
    intro M v1 v2 h
    unfold T_X9_addFour_3 at h
    refine zl1_use h (fun v2 M => zJ p l e (zRoom 0 0 0 0) s m args below meth c G 3 0 0 (MQ below (zQv G (Qr)) args s 0 0 (zA G)) 3 [some (.inr 63), some (.inl v1), some (.inl v2)] [] M) (fun X3 hX3 v2 M h => ?_)
    refine zj_iload_n (pc := 3) hc dX9_addFour_3 rfl ?_
    refine zj_if_lt (pc := 4) (tgt := 49) hc dX9_addFour_4 (by decide) (fun hx1 => ?_) (fun hx1 => ?_)
    · have h := h.1 hx1
      exact zj_vret (pc := 49) hc hr hlk dX9_addFour_49 (by decide) (by decide) h
    · have h := h.2 hx1
      refine zj_aload_n (pc := 7) hc dX9_addFour_7 rfl ?_
      refine zg_0_3 (pc := 8) hc lk_X9_19 dX9_addFour_8 ?_
      refine zj_sipush (pc := 11) hc dX9_addFour_11 (by decide) (zin _ rfl) ?_
      refine zj_icmp_ge (pc := 14) (tgt := 49) hc dX9_addFour_14 (by decide) (fun hx2 => ?_) (fun hx2 => ?_)
      · have h := h.1 hx2
        exact zj_vret (pc := 49) hc hr hlk dX9_addFour_49 (by decide) (by decide) h
      · have h := h.2 hx2
        refine zj_aload_n (pc := 17) hc dX9_addFour_17 rfl ?_
        refine zg_0_2 (pc := 18) hc lk_X9_16 dX9_addFour_18 ?_
        refine zj_aload_n (pc := 21) hc dX9_addFour_21 rfl ?_
        refine zg_0_3 (pc := 22) hc lk_X9_19 dX9_addFour_22 ?_
        refine zj_iload_n (pc := 25) hc dX9_addFour_25 rfl ?_
        refine zj_iload_n (pc := 26) hc dX9_addFour_26 rfl ?_
        refine zj_iushr (pc := 27) hc dX9_addFour_27 ?_
        refine zj_sipush (pc := 28) hc dX9_addFour_28 (by decide) (zin _ rfl) ?_
        refine zj_iand (pc := 31) hc dX9_addFour_31 ?_
        refine zj_iast (pc := 32) hc dX9_addFour_32 alen_2 h.1 (fun M3 hM3 => ?_)
        have h := h.2 M3 hM3
        refine zj_aload_n (pc := 33) hc dX9_addFour_33 rfl ?_
        refine zj_dup (pc := 34) hc dX9_addFour_34 ?_
        refine zg_0_3 (pc := 35) hc lk_X9_19 dX9_addFour_35 ?_
        refine zj_iconst (pc := 38) hc dX9_addFour_38 (zin _ rfl) ?_
        refine zj_iadd (pc := 39) hc dX9_addFour_39 h.1 ?_
        have h := h.2
        refine zs_0_3 (pc := 40) hc lk_X9_19 dX9_addFour_40 (fun M4 hM4 => ?_)
        have h := h M4 hM4
        refine zj_iinc (pc := 43) hc dX9_addFour_43 rfl (by decide) h.1 ?_
        have h := h.2
        refine zj_goto (pc := 46) (tgt := 3) hc dX9_addFour_46 (by decide) ?_
        exact hX3 (v2 + (-8)) M4 h
  unfold T_X9_addFour at h
  refine zj_bipush (pc := 0) hc dX9_addFour_0 (by decide) (zin _ rfl) ?_
  refine zj_istore_n (pc := 2) hc dX9_addFour_2 (by decide) ?_
  exact k3 M v1 24 h
set_option maxHeartbeats 4000000 in
set_option maxRecDepth 100000 in
theorem S_X9_feed (l : Launch) (G : zG) (v1 : Int) (v2 : Int) (v3 : Int) (v4 : Int) (v5 : Int) (M : zMem) (Qr : Int → zMem → Prop) (h : T_X9_feed v1 v2 v3 v4 v5 Qr M) : zMetI l yX9_feed cX9_feed 6 (some .int) 1 22 0 0 G [.inr 63, .inl v1, .inl v2, .inl v3, .inl v4, .inl v5] M Qr := by
  refine zmetI (by decide) (Nat.le_of_ble_eq_true rfl) [some (.inr 63), some (.inl v1), some (.inl v2), some (.inl v3), some (.inl v4), some (.inl v5)] rfl ?_
  intro p e s m args below meth c hc hr hlk
  unfold T_X9_feed at h
  refine zj_aload_n (pc := 0) hc dX9_feed_0 rfl ?_
  refine zg_0_3 (pc := 1) hc lk_X9_19 dX9_feed_1 ?_
  refine zj_bipush (pc := 4) hc dX9_feed_4 (by decide) (zin _ rfl) ?_
  refine zj_iadd (pc := 6) hc dX9_feed_6 h.1 ?_
  have h := h.2
  refine zj_sipush (pc := 7) hc dX9_feed_7 (by decide) (zin _ rfl) ?_
  refine zj_icmp_le (pc := 10) (tgt := 15) hc dX9_feed_10 (by decide) (fun hx1 => ?_) (fun hx1 => ?_)
  · have h := h.1 hx1
    refine zj_aload_n (pc := 15) hc dX9_feed_15 rfl ?_
    refine zj_iload_n (pc := 16) hc dX9_feed_16 rfl ?_
    refine zj_vtv (pc := 17) (st := []) hc ks_X9_addFour iv_X9_addFour lk_X9_92 (zrv_0 G M) (S_X9_addFour l G v1 M _ h) rfl ⟨Nat.le_of_ble_eq_true rfl, Nat.le_of_ble_eq_true rfl⟩ (Nat.le_of_ble_eq_true rfl) ⟨Nat.le_of_ble_eq_true rfl, Nat.le_of_ble_eq_true rfl⟩ dX9_feed_17 rfl (fun M2 h => ?_)
    refine zj_aload_n (pc := 20) hc dX9_feed_20 rfl ?_
    refine zj_iload_n (pc := 21) hc dX9_feed_21 rfl ?_
    refine zj_vtv (pc := 22) (st := []) hc ks_X9_addFour iv_X9_addFour lk_X9_92 (zrv_0 G M2) (S_X9_addFour l G v2 M2 _ h) rfl ⟨Nat.le_of_ble_eq_true rfl, Nat.le_of_ble_eq_true rfl⟩ (Nat.le_of_ble_eq_true rfl) ⟨Nat.le_of_ble_eq_true rfl, Nat.le_of_ble_eq_true rfl⟩ dX9_feed_22 rfl (fun M3 h => ?_)
    refine zj_aload_n (pc := 25) hc dX9_feed_25 rfl ?_
    refine zj_iload_n (pc := 26) hc dX9_feed_26 rfl ?_
    refine zj_vtv (pc := 27) (st := []) hc ks_X9_addFour iv_X9_addFour lk_X9_92 (zrv_0 G M3) (S_X9_addFour l G v3 M3 _ h) rfl ⟨Nat.le_of_ble_eq_true rfl, Nat.le_of_ble_eq_true rfl⟩ (Nat.le_of_ble_eq_true rfl) ⟨Nat.le_of_ble_eq_true rfl, Nat.le_of_ble_eq_true rfl⟩ dX9_feed_27 rfl (fun M4 h => ?_)
    refine zj_aload_n (pc := 30) hc dX9_feed_30 rfl ?_
    refine zj_iload (pc := 31) hc dX9_feed_31 rfl ?_
    refine zj_vtv (pc := 33) (st := []) hc ks_X9_addFour iv_X9_addFour lk_X9_92 (zrv_0 G M4) (S_X9_addFour l G v4 M4 _ h) rfl ⟨Nat.le_of_ble_eq_true rfl, Nat.le_of_ble_eq_true rfl⟩ (Nat.le_of_ble_eq_true rfl) ⟨Nat.le_of_ble_eq_true rfl, Nat.le_of_ble_eq_true rfl⟩ dX9_feed_33 rfl (fun M5 h => ?_)
    refine zj_aload_n (pc := 36) hc dX9_feed_36 rfl ?_
    refine zj_iload (pc := 37) hc dX9_feed_37 rfl ?_
    refine zj_vtv (pc := 39) (st := []) hc ks_X9_addFour iv_X9_addFour lk_X9_92 (zrv_0 G M5) (S_X9_addFour l G v5 M5 _ h) rfl ⟨Nat.le_of_ble_eq_true rfl, Nat.le_of_ble_eq_true rfl⟩ (Nat.le_of_ble_eq_true rfl) ⟨Nat.le_of_ble_eq_true rfl, Nat.le_of_ble_eq_true rfl⟩ dX9_feed_39 rfl (fun M6 h => ?_)
    refine zj_aload_n (pc := 42) hc dX9_feed_42 rfl ?_
    refine zg_0_3 (pc := 43) hc lk_X9_19 dX9_feed_43 ?_
    exact zj_iret (pc := 46) hc hr hlk dX9_feed_46 (by decide) (by decide) h
  · have h := h.2 hx1
    refine zj_iconst (pc := 13) hc dX9_feed_13 (zin _ rfl) ?_
    exact zj_iret (pc := 14) hc hr hlk dX9_feed_14 (by decide) (by decide) h
set_option maxHeartbeats 4000000 in
set_option maxRecDepth 100000 in
theorem S_X9_end (l : Launch) (G : zG) (v1 : Int) (M : zMem) (Qr : Int → zMem → Prop) (h : T_X9_end v1 Qr M) : zMetI l yX9_end cX9_end 2 (some .int) 0 0 0 0 G [.inr 63, .inl v1] M Qr := by
  refine zmetI (by decide) (Nat.le_of_ble_eq_true rfl) [some (.inr 63), some (.inl v1)] rfl ?_
  intro p e s m args below meth c hc hr hlk
  unfold T_X9_end at h
  refine zj_iload_n (pc := 0) hc dX9_end_0 rfl ?_
  refine zj_if_lt (pc := 1) (tgt := 12) hc dX9_end_1 (by decide) (fun hx1 => ?_) (fun hx1 => ?_)
  · have h := h.1 hx1
    refine zj_iconst (pc := 12) hc dX9_end_12 (zin _ rfl) ?_
    exact zj_iret (pc := 13) hc hr hlk dX9_end_13 (by decide) (by decide) h
  · have h := h.2 hx1
    refine zj_iload_n (pc := 4) hc dX9_end_4 rfl ?_
    refine zj_aload_n (pc := 5) hc dX9_end_5 rfl ?_
    refine zg_0_3 (pc := 6) hc lk_X9_19 dX9_end_6 ?_
    refine zj_icmp_le (pc := 9) (tgt := 14) hc dX9_end_9 (by decide) (fun hx2 => ?_) (fun hx2 => ?_)
    · have h := h.1 hx2
      refine zj_aload_n (pc := 14) hc dX9_end_14 rfl ?_
      refine zj_iload_n (pc := 15) hc dX9_end_15 rfl ?_
      refine zs_0_3 (pc := 16) hc lk_X9_19 dX9_end_16 (fun M3 hM3 => ?_)
      have h := h M3 hM3
      refine zj_iload_n (pc := 19) hc dX9_end_19 rfl ?_
      exact zj_iret (pc := 20) hc hr hlk dX9_end_20 (by decide) (by decide) h
    · have h := h.2 hx2
      refine zj_iconst (pc := 12) hc dX9_end_12 (zin _ rfl) ?_
      exact zj_iret (pc := 13) hc hr hlk dX9_end_13 (by decide) (by decide) h
set_option maxHeartbeats 4000000 in
set_option maxRecDepth 100000 in
theorem S_X9_tape (l : Launch) (G : zG) (v1 : Int) (M : zMem) (Qr : Int → Prop) (h : T_X9_tape v1 Qr M) : zMetI l yX9_tape cX9_tape 2 (some .int) 0 0 0 0 G [.inr 63, .inl v1] M (fun r9 M9 => M = M9 ∧ Qr r9) := by
  refine zmetI (by decide) (Nat.le_of_ble_eq_true rfl) [some (.inr 63), some (.inl v1)] rfl ?_
  intro p e s m args below meth c hc hr hlk
  unfold T_X9_tape at h
  refine zj_iload_n (pc := 0) hc dX9_tape_0 rfl ?_
  refine zj_if_lt (pc := 1) (tgt := 21) hc dX9_tape_1 (by decide) (fun hx1 => ?_) (fun hx1 => ?_)
  · have h := h.1 hx1
    refine zj_iconst (pc := 21) hc dX9_tape_21 (zin _ rfl) ?_
    exact zj_iret (pc := 22) hc hr hlk dX9_tape_22 (by decide) (by decide) ⟨rfl, h⟩
  · have h := h.2 hx1
    refine zj_iload_n (pc := 4) hc dX9_tape_4 rfl ?_
    refine zj_aload_n (pc := 5) hc dX9_tape_5 rfl ?_
    refine zg_0_3 (pc := 6) hc lk_X9_19 dX9_tape_6 ?_
    refine zj_icmp_ge (pc := 9) (tgt := 21) hc dX9_tape_9 (by decide) (fun hx2 => ?_) (fun hx2 => ?_)
    · have h := h.1 hx2
      refine zj_iconst (pc := 21) hc dX9_tape_21 (zin _ rfl) ?_
      exact zj_iret (pc := 22) hc hr hlk dX9_tape_22 (by decide) (by decide) ⟨rfl, h⟩
    · have h := h.2 hx2
      refine zj_aload_n (pc := 12) hc dX9_tape_12 rfl ?_
      refine zg_0_2 (pc := 13) hc lk_X9_16 dX9_tape_13 ?_
      refine zj_iload_n (pc := 16) hc dX9_tape_16 rfl ?_
      refine zj_iald (pc := 17) hc dX9_tape_17 alen_2 h.1 ?_
      have h := h.2
      refine zj_goto (pc := 18) (tgt := 22) hc dX9_tape_18 (by decide) ?_
      exact zj_iret (pc := 22) hc hr hlk dX9_tape_22 (by decide) (by decide) ⟨rfl, h⟩
set_option maxHeartbeats 4000000 in
set_option maxRecDepth 100000 in
theorem S_X9_takeTape (l : Launch) (G : zG) (r1 : Nat) (v2 : Int) (M : zMem) (Qr : zMem → Prop) (h : T_X9_takeTape r1 v2 Qr M) : zMetV l yX9_takeTape cX9_takeTape 3 none 1 26 0 0 G [.inr 63, .inr r1, .inl v2] M Qr := by
  refine zmetV (by decide) (Nat.le_of_ble_eq_true rfl) [some (.inr 63), some (.inr r1), some (.inl v2)] rfl ?_
  intro p e s m args below meth c hc hr hlk
  unfold T_X9_takeTape at h
  refine zj_iload_n (pc := 0) hc dX9_takeTape_0 rfl ?_
  refine zj_if_lt (pc := 1) (tgt := 33) hc dX9_takeTape_1 (by decide) (fun hx1 => ?_) (fun hx1 => ?_)
  · have h := h.1 hx1
    exact zj_vret (pc := 33) hc hr hlk dX9_takeTape_33 (by decide) (by decide) h
  · have h := h.2 hx1
    refine zj_iload_n (pc := 4) hc dX9_takeTape_4 rfl ?_
    refine zj_sipush (pc := 5) hc dX9_takeTape_5 (by decide) (zin _ rfl) ?_
    refine zj_icmp_gt (pc := 8) (tgt := 33) hc dX9_takeTape_8 (by decide) (fun hx2 => ?_) (fun hx2 => ?_)
    · have h := h.1 hx2
      exact zj_vret (pc := 33) hc hr hlk dX9_takeTape_33 (by decide) (by decide) h
    · have h := h.2 hx2
      refine zj_iload_n (pc := 11) hc dX9_takeTape_11 rfl ?_
      refine zj_aload_n (pc := 12) hc dX9_takeTape_12 rfl ?_
      refine zj_alen (pc := 13) hc dX9_takeTape_13 rfl h.1 ?_
      have h := h.2
      refine zj_icmp_gt (pc := 14) (tgt := 33) hc dX9_takeTape_14 (by decide) (fun hx3 => ?_) (fun hx3 => ?_)
      · have h := h.1 hx3
        exact zj_vret (pc := 33) hc hr hlk dX9_takeTape_33 (by decide) (by decide) h
      · have h := h.2 hx3
        refine zj_aload_n (pc := 17) hc dX9_takeTape_17 rfl ?_
        refine zj_iconst (pc := 18) hc dX9_takeTape_18 (zin _ rfl) ?_
        refine zj_aload_n (pc := 19) hc dX9_takeTape_19 rfl ?_
        refine zg_0_2 (pc := 20) hc lk_X9_16 dX9_takeTape_20 ?_
        refine zj_iconst (pc := 23) hc dX9_takeTape_23 (zin _ rfl) ?_
        refine zj_iload_n (pc := 24) hc dX9_takeTape_24 rfl ?_
        refine zj_copy (pc := 25) hc dX9_takeTape_25 lk_X9_277 na_copy st_copy in_System rfl alen_2 h.1 (Nat.le_of_ble_eq_true rfl) (Nat.le_of_ble_eq_true rfl) (fun M4 hM4 => ?_)
        have h := h.2 M4 hM4
        refine zj_aload_n (pc := 28) hc dX9_takeTape_28 rfl ?_
        refine zj_iload_n (pc := 29) hc dX9_takeTape_29 rfl ?_
        refine zs_0_3 (pc := 30) hc lk_X9_19 dX9_takeTape_30 (fun M5 hM5 => ?_)
        have h := h M5 hM5
        exact zj_vret (pc := 33) hc hr hlk dX9_takeTape_33 (by decide) (by decide) h
set_option maxHeartbeats 4000000 in
set_option maxRecDepth 100000 in
theorem S_X9_pack (l : Launch) (G : zG) (v1 : Int) (M : zMem) (Qr : Int → zMem → Prop) (h : T_X9_pack v1 Qr M) : zMetI l yX9_pack cX9_pack 4 (some .int) 3 81 0 0 G [.inr 63, .inl v1] M Qr := by
  refine zmetI (by decide) (Nat.le_of_ble_eq_true rfl) [some (.inr 63), some (.inl v1), none, none] rfl ?_
  intro p e s m args below meth c hc hr hlk
  have k57 : ∀ (M : zMem) (s0 : Int), T_X9_pack_57 s0 Qr M → zJ p l e (zRoom 3 81 0 0) s m args below meth c G 4 0 0 (MQ below (zQi G (Qr)) args s 0 0 (zA G)) 57 [some (.inr 63), none, some (.inr 447), none] [.inl s0] M := by
    intro M s0 h
    unfold T_X9_pack_57 at h
    refine zj_istore_n (pc := 57) hc dX9_pack_57 (by decide) ?_
    refine zj_iload_n (pc := 58) hc dX9_pack_58 rfl ?_
    refine zj_sipush (pc := 59) hc dX9_pack_59 (by decide) (zin _ rfl) ?_
    refine zj_icmp_le (pc := 62) (tgt := 72) hc dX9_pack_62 (by decide) (fun hx1 => ?_) (fun hx1 => ?_)
    · have h := h.1 hx1
      refine zj_aload_n (pc := 72) hc dX9_pack_72 rfl ?_
      refine zj_aload_n (pc := 73) hc dX9_pack_73 rfl ?_
      refine zg_6_0 (pc := 74) hc lk_X9_109 dX9_pack_74 ?_
      refine zj_iload_n (pc := 77) hc dX9_pack_77 rfl ?_
      refine zj_vtv (pc := 78) (st := []) hc ks_X9_takeTape iv_X9_takeTape lk_X9_112 (zrv_0 G M) (S_X9_takeTape l G 384 s0 M _ h) rfl ⟨Nat.le_of_ble_eq_true rfl, Nat.le_of_ble_eq_true rfl⟩ (Nat.le_of_ble_eq_true rfl) ⟨Nat.le_of_ble_eq_true rfl, Nat.le_of_ble_eq_true rfl⟩ dX9_pack_78 rfl (fun M2 h => ?_)
      refine zj_aload_n (pc := 81) hc dX9_pack_81 rfl ?_
      refine zj_iload_n (pc := 82) hc dX9_pack_82 rfl ?_
      refine zj_vti (pc := 83) (st := []) hc ks_X9_accept iv_X9_accept lk_X9_89 (zrv_0 G M2) (S_X9_accept l G s0 M2 _ h) rfl ⟨Nat.le_of_ble_eq_true rfl, Nat.le_of_ble_eq_true rfl⟩ (Nat.le_of_ble_eq_true rfl) ⟨Nat.le_of_ble_eq_true rfl, Nat.le_of_ble_eq_true rfl⟩ dX9_pack_83 rfl (fun y3 M4 h => ?_)
      exact zj_iret (pc := 86) hc hr hlk dX9_pack_86 (by decide) (by decide) h
    · have h := h.2 hx1
      refine zj_aload_n (pc := 65) hc dX9_pack_65 rfl ?_
      refine zj_bipush (pc := 66) hc dX9_pack_66 (by decide) (zin _ rfl) ?_
      refine zj_vti (pc := 68) (st := []) hc ks_X9_refuse iv_X9_refuse lk_X9_81 (zrv_0 G M) (S_X9_refuse l G (-5) M _ h) rfl ⟨Nat.le_of_ble_eq_true rfl, Nat.le_of_ble_eq_true rfl⟩ (Nat.le_of_ble_eq_true rfl) ⟨Nat.le_of_ble_eq_true rfl, Nat.le_of_ble_eq_true rfl⟩ dX9_pack_68 rfl (fun y5 M6 h => ?_)
      exact zj_iret (pc := 71) hc hr hlk dX9_pack_71 (by decide) (by decide) h
  unfold T_X9_pack at h
  refine zj_iload_n (pc := 0) hc dX9_pack_0 rfl ?_
  refine zj_iconst (pc := 1) hc dX9_pack_1 (zin _ rfl) ?_
  refine zj_icmp_lt (pc := 2) (tgt := 10) hc dX9_pack_2 (by decide) (fun hx7 => ?_) (fun hx7 => ?_)
  · have h := h.1 hx7
    refine zj_aload_n (pc := 10) hc dX9_pack_10 rfl ?_
    refine zj_iconst (pc := 11) hc dX9_pack_11 (zin _ rfl) ?_
    refine zj_vti (pc := 12) (st := []) hc ks_X9_refuse iv_X9_refuse lk_X9_81 (zrv_0 G M) (S_X9_refuse l G (-1) M _ h) rfl ⟨Nat.le_of_ble_eq_true rfl, Nat.le_of_ble_eq_true rfl⟩ (Nat.le_of_ble_eq_true rfl) ⟨Nat.le_of_ble_eq_true rfl, Nat.le_of_ble_eq_true rfl⟩ dX9_pack_12 rfl (fun y8 M9 h => ?_)
    exact zj_iret (pc := 15) hc hr hlk dX9_pack_15 (by decide) (by decide) h
  · have h := h.2 hx7
    refine zj_iload_n (pc := 5) hc dX9_pack_5 rfl ?_
    refine zj_iconst (pc := 6) hc dX9_pack_6 (zin _ rfl) ?_
    refine zj_icmp_lt (pc := 7) (tgt := 16) hc dX9_pack_7 (by decide) (fun hx10 => ?_) (fun hx10 => ?_)
    · have h := h.1 hx10
      refine zj_aload_n (pc := 16) hc dX9_pack_16 rfl ?_
      refine zg_0_11 (pc := 17) hc lk_X9_57 dX9_pack_17 ?_
      refine zg_5_0 (pc := 20) hc lk_X9_95 dX9_pack_20 ?_
      refine zj_astore_n (pc := 23) hc dX9_pack_23 (by decide) ?_
      refine zj_iload_n (pc := 24) hc dX9_pack_24 rfl ?_
      refine zj_iconst (pc := 25) hc dX9_pack_25 (zin _ rfl) ?_
      refine zj_icmp_ne (pc := 26) (tgt := 44) hc dX9_pack_26 (by decide) (fun hx11 => ?_) (fun hx11 => ?_)
      · have h := h.1 hx11
        refine zj_aload_n (pc := 44) hc dX9_pack_44 rfl ?_
        refine zj_aload_n (pc := 45) hc dX9_pack_45 rfl ?_
        refine zg_0_2 (pc := 46) hc lk_X9_16 dX9_pack_46 ?_
        refine zj_aload_n (pc := 49) hc dX9_pack_49 rfl ?_
        refine zg_0_3 (pc := 50) hc lk_X9_19 dX9_pack_50 ?_
        refine zj_iload_n (pc := 53) hc dX9_pack_53 rfl ?_
        refine zj_vti (pc := 54) (st := []) hc ks_X6_packRow iv_X6_packRow lk_X9_105 (zrv_6 G M) (S_X6_packRow l G (Or.inr rfl) 2 (M.1 3) v1 M _ h) rfl ⟨Nat.le_of_ble_eq_true rfl, Nat.le_of_ble_eq_true rfl⟩ (Nat.le_of_ble_eq_true rfl) ⟨Nat.le_of_ble_eq_true rfl, Nat.le_of_ble_eq_true rfl⟩ dX9_pack_54 rfl (fun y12 M13 h => ?_)
        refine zj_mask (bs := [true, false, true, true]) ?_
        exact k57 M13 y12 h
      · have h := h.2 hx11
        refine zj_aload_n (pc := 29) hc dX9_pack_29 rfl ?_
        refine zj_aload_n (pc := 30) hc dX9_pack_30 rfl ?_
        refine zg_0_2 (pc := 31) hc lk_X9_16 dX9_pack_31 ?_
        refine zj_aload_n (pc := 34) hc dX9_pack_34 rfl ?_
        refine zg_0_3 (pc := 35) hc lk_X9_19 dX9_pack_35 ?_
        refine zj_vti (pc := 38) (st := []) hc ks_X6_packBest iv_X6_packBest lk_X9_99 (zrv_6 G M) (S_X6_packBest l G (Or.inr rfl) 2 (M.1 3) M _ h) rfl ⟨Nat.le_of_ble_eq_true rfl, Nat.le_of_ble_eq_true rfl⟩ (Nat.le_of_ble_eq_true rfl) ⟨Nat.le_of_ble_eq_true rfl, Nat.le_of_ble_eq_true rfl⟩ dX9_pack_38 rfl (fun y14 M15 h => ?_)
        refine zj_goto (pc := 41) (tgt := 57) hc dX9_pack_41 (by decide) ?_
        refine zj_mask (bs := [true, false, true, true]) ?_
        exact k57 M15 y14 h
    · have h := h.2 hx10
      refine zj_aload_n (pc := 10) hc dX9_pack_10 rfl ?_
      refine zj_iconst (pc := 11) hc dX9_pack_11 (zin _ rfl) ?_
      refine zj_vti (pc := 12) (st := []) hc ks_X9_refuse iv_X9_refuse lk_X9_81 (zrv_0 G M) (S_X9_refuse l G (-1) M _ h) rfl ⟨Nat.le_of_ble_eq_true rfl, Nat.le_of_ble_eq_true rfl⟩ (Nat.le_of_ble_eq_true rfl) ⟨Nat.le_of_ble_eq_true rfl, Nat.le_of_ble_eq_true rfl⟩ dX9_pack_12 rfl (fun y16 M17 h => ?_)
      exact zj_iret (pc := 15) hc hr hlk dX9_pack_15 (by decide) (by decide) h
