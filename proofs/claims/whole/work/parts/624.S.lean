set_option maxHeartbeats 4000000 in
set_option maxRecDepth 100000 in
theorem S_X10_goes (l : Launch) (G : zG) (v1 : Int) (M : zMem) (Qr : zMem → Prop) (h : T_X10_goes v1 Qr M) : zMetV l yX10_goes cX10_goes 3 none 1 20 0 0 G [.inr 639, .inl v1] M Qr := by
  refine zmetV (by decide) (Nat.le_of_ble_eq_true rfl) [some (.inr 639), some (.inl v1), none] rfl ?_
  intro p e s m args below meth c hc hr hlk
  have k20 : ∀ (M : zMem) (v2 : Int), T_X10_goes_20 Qr v2 M → zJ p l e (zRoom 1 20 0 0) s m args below meth c G 3 0 0 (MQ below (zQv G (Qr)) args s 0 0 (zA G)) 20 [some (.inr 639), none, some (.inl v2)] [] M := by
    intro M v2 h
    unfold T_X10_goes_20 at h
    refine zl1_use h (fun v2 M => zJ p l e (zRoom 1 20 0 0) s m args below meth c G 3 0 0 (MQ below (zQv G (Qr)) args s 0 0 (zA G)) 20 [some (.inr 639), none, some (.inl v2)] [] M) (fun X20 hX20 v2 M h => ?_)
    refine zj_iload_n (pc := 20) hc dX10_goes_20 rfl ?_
    refine zj_sipush (pc := 21) hc dX10_goes_21 (by decide) (zin _ rfl) ?_
    refine zj_iconst (pc := 24) hc dX10_goes_24 (zin _ rfl) ?_
    refine zj_aload_n (pc := 25) hc dX10_goes_25 rfl ?_
    refine zg_9_7 (pc := 26) hc lk_X10_25 dX10_goes_26 ?_
    refine zj_sti (pc := 29) (st := [.inl 2, .inl 641, .inl v2]) hc ks_X10_pagesOf st_X10_pagesOf lk_X10_151 (S_X10_pagesOf l G 583 M _ h) rfl ⟨Nat.le_of_ble_eq_true rfl, Nat.le_of_ble_eq_true rfl⟩ (Nat.le_of_ble_eq_true rfl) ⟨Nat.le_of_ble_eq_true rfl, Nat.le_of_ble_eq_true rfl⟩ dX10_goes_29 rfl (fun y1 M9 h => ?_)
    obtain ⟨hM9, h⟩ := h
    subst hM9
    refine zj_imul (pc := 32) hc dX10_goes_32 h.1 ?_
    have h := h.2
    refine zj_iadd (pc := 33) hc dX10_goes_33 h.1 ?_
    have h := h.2
    refine zj_icmp_ge (pc := 34) (tgt := 57) hc dX10_goes_34 (by decide) (fun hx2 => ?_) (fun hx2 => ?_)
    · have h := h.1 hx2
      exact zj_vret (pc := 57) hc hr hlk dX10_goes_57 (by decide) (by decide) h
    · have h := h.2 hx2
      refine zj_aload_n (pc := 37) hc dX10_goes_37 rfl ?_
      refine zg_9_7 (pc := 38) hc lk_X10_25 dX10_goes_38 ?_
      refine zj_iload_n (pc := 41) hc dX10_goes_41 rfl ?_
      refine zj_aload_n (pc := 42) hc dX10_goes_42 rfl ?_
      refine zg_9_7 (pc := 43) hc lk_X10_25 dX10_goes_43 ?_
      refine zj_iload_n (pc := 46) hc dX10_goes_46 rfl ?_
      refine zj_iconst (pc := 47) hc dX10_goes_47 (zin _ rfl) ?_
      refine zj_iadd (pc := 48) hc dX10_goes_48 h.1 ?_
      have h := h.2
      refine zj_iald (pc := 49) hc dX10_goes_49 alen_583 h.1 ?_
      have h := h.2
      refine zj_iast (pc := 50) hc dX10_goes_50 alen_583 h.1 (fun M3 hM3 => ?_)
      have h := h.2 M3 hM3
      refine zj_iinc (pc := 51) hc dX10_goes_51 rfl (by decide) h.1 ?_
      have h := h.2
      refine zj_goto (pc := 54) (tgt := 20) hc dX10_goes_54 (by decide) ?_
      exact hX20 (v2 + 1) M3 h
  unfold T_X10_goes at h
  refine zj_aload_n (pc := 0) hc dX10_goes_0 rfl ?_
  refine zg_9_7 (pc := 1) hc lk_X10_25 dX10_goes_1 ?_
  refine zj_sipush (pc := 4) hc dX10_goes_4 (by decide) (zin _ rfl) ?_
  refine zj_dup2 (pc := 7) hc dX10_goes_7 ?_
  refine zj_iald (pc := 8) hc dX10_goes_8 alen_583 h.1 ?_
  have h := h.2
  refine zj_iconst (pc := 9) hc dX10_goes_9 (zin _ rfl) ?_
  refine zj_isub (pc := 10) hc dX10_goes_10 h.1 ?_
  have h := h.2
  refine zj_iast (pc := 11) hc dX10_goes_11 alen_583 h.1 (fun M4 hM4 => ?_)
  have h := h.2 M4 hM4
  refine zj_sipush (pc := 12) hc dX10_goes_12 (by decide) (zin _ rfl) ?_
  refine zj_iconst (pc := 15) hc dX10_goes_15 (zin _ rfl) ?_
  refine zj_iload_n (pc := 16) hc dX10_goes_16 rfl ?_
  refine zj_imul (pc := 17) hc dX10_goes_17 h.1 ?_
  have h := h.2
  refine zj_iadd (pc := 18) hc dX10_goes_18 h.1 ?_
  have h := h.2
  refine zj_istore_n (pc := 19) hc dX10_goes_19 (by decide) ?_
  refine zj_mask (bs := [true, false, true]) ?_
  exact k20 M4 (641 + (2 * v1)) h
set_option maxHeartbeats 4000000 in
set_option maxRecDepth 100000 in
theorem S_X10_comes (l : Launch) (G : zG) (v1 : Int) (v2 : Int) (v3 : Int) (M : zMem) (Qr : zMem → Prop) (h : T_X10_comes v1 v2 v3 Qr M) : zMetV l yX10_comes cX10_comes 5 none 1 20 0 0 G [.inr 639, .inl v1, .inl v2, .inl v3] M Qr := by
  refine zmetV (by decide) (Nat.le_of_ble_eq_true rfl) [some (.inr 639), some (.inl v1), some (.inl v2), some (.inl v3), none] rfl ?_
  intro p e s m args below meth c hc hr hlk
  have k15 : ∀ (M : zMem) (v1 : Int) (v2 : Int) (v3 : Int) (v4 : Int), T_X10_comes_15 v1 v2 v3 Qr v4 M → zJ p l e (zRoom 1 20 0 0) s m args below meth c G 5 0 0 (MQ below (zQv G (Qr)) args s 0 0 (zA G)) 15 [some (.inr 639), some (.inl v1), some (.inl v2), some (.inl v3), some (.inl v4)] [] M := by
    intro M v1 v2 v3 v4 h
    unfold T_X10_comes_15 at h
    refine zl1_use h (fun v4 M => zJ p l e (zRoom 1 20 0 0) s m args below meth c G 5 0 0 (MQ below (zQv G (Qr)) args s 0 0 (zA G)) 15 [some (.inr 639), some (.inl v1), some (.inl v2), some (.inl v3), some (.inl v4)] [] M) (fun X15 hX15 v4 M h => ?_)
    refine zj_iload (pc := 15) hc dX10_comes_15 rfl ?_
    refine zj_sipush (pc := 17) hc dX10_comes_17 (by decide) (zin _ rfl) ?_
    refine zj_iconst (pc := 20) hc dX10_comes_20 (zin _ rfl) ?_
    refine zj_iload_n (pc := 21) hc dX10_comes_21 rfl ?_
    refine zj_imul (pc := 22) hc dX10_comes_22 h.1 ?_
    have h := h.2
    refine zj_iadd (pc := 23) hc dX10_comes_23 h.1 ?_
    have h := h.2
    refine zj_icmp_le (pc := 24) (tgt := 49) hc dX10_comes_24 (by decide) (fun hx1 => ?_) (fun hx1 => ?_)
    · have h := h.1 hx1
      refine zj_aload_n (pc := 49) hc dX10_comes_49 rfl ?_
      refine zg_9_7 (pc := 50) hc lk_X10_25 dX10_comes_50 ?_
      refine zj_sipush (pc := 53) hc dX10_comes_53 (by decide) (zin _ rfl) ?_
      refine zj_dup2 (pc := 56) hc dX10_comes_56 ?_
      refine zj_iald (pc := 57) hc dX10_comes_57 alen_583 h.1 ?_
      have h := h.2
      refine zj_iconst (pc := 58) hc dX10_comes_58 (zin _ rfl) ?_
      refine zj_iadd (pc := 59) hc dX10_comes_59 h.1 ?_
      have h := h.2
      refine zj_iast (pc := 60) hc dX10_comes_60 alen_583 h.1 (fun M2 hM2 => ?_)
      have h := h.2 M2 hM2
      refine zj_aload_n (pc := 61) hc dX10_comes_61 rfl ?_
      refine zg_9_7 (pc := 62) hc lk_X10_25 dX10_comes_62 ?_
      refine zj_sipush (pc := 65) hc dX10_comes_65 (by decide) (zin _ rfl) ?_
      refine zj_iconst (pc := 68) hc dX10_comes_68 (zin _ rfl) ?_
      refine zj_iload_n (pc := 69) hc dX10_comes_69 rfl ?_
      refine zj_imul (pc := 70) hc dX10_comes_70 h.1 ?_
      have h := h.2
      refine zj_iadd (pc := 71) hc dX10_comes_71 h.1 ?_
      have h := h.2
      refine zj_iload_n (pc := 72) hc dX10_comes_72 rfl ?_
      refine zj_iast (pc := 73) hc dX10_comes_73 alen_583 h.1 (fun M3 hM3 => ?_)
      have h := h.2 M3 hM3
      refine zj_aload_n (pc := 74) hc dX10_comes_74 rfl ?_
      refine zg_9_7 (pc := 75) hc lk_X10_25 dX10_comes_75 ?_
      refine zj_sipush (pc := 78) hc dX10_comes_78 (by decide) (zin _ rfl) ?_
      refine zj_iconst (pc := 81) hc dX10_comes_81 (zin _ rfl) ?_
      refine zj_iload_n (pc := 82) hc dX10_comes_82 rfl ?_
      refine zj_imul (pc := 83) hc dX10_comes_83 h.1 ?_
      have h := h.2
      refine zj_iadd (pc := 84) hc dX10_comes_84 h.1 ?_
      have h := h.2
      refine zj_iload_n (pc := 85) hc dX10_comes_85 rfl ?_
      refine zj_iast (pc := 86) hc dX10_comes_86 alen_583 h.1 (fun M4 hM4 => ?_)
      have h := h.2 M4 hM4
      exact zj_vret (pc := 87) hc hr hlk dX10_comes_87 (by decide) (by decide) h
    · have h := h.2 hx1
      refine zj_aload_n (pc := 27) hc dX10_comes_27 rfl ?_
      refine zg_9_7 (pc := 28) hc lk_X10_25 dX10_comes_28 ?_
      refine zj_iload (pc := 31) hc dX10_comes_31 rfl ?_
      refine zj_iconst (pc := 33) hc dX10_comes_33 (zin _ rfl) ?_
      refine zj_iadd (pc := 34) hc dX10_comes_34 h.1 ?_
      have h := h.2
      refine zj_aload_n (pc := 35) hc dX10_comes_35 rfl ?_
      refine zg_9_7 (pc := 36) hc lk_X10_25 dX10_comes_36 ?_
      refine zj_iload (pc := 39) hc dX10_comes_39 rfl ?_
      refine zj_iald (pc := 41) hc dX10_comes_41 alen_583 h.1 ?_
      have h := h.2
      refine zj_iast (pc := 42) hc dX10_comes_42 alen_583 h.1 (fun M5 hM5 => ?_)
      have h := h.2 M5 hM5
      refine zj_iinc (pc := 43) hc dX10_comes_43 rfl (by decide) h.1 ?_
      have h := h.2
      refine zj_goto (pc := 46) (tgt := 15) hc dX10_comes_46 (by decide) ?_
      exact hX15 (v4 + (-1)) M5 h
  unfold T_X10_comes at h
  refine zj_sipush (pc := 0) hc dX10_comes_0 (by decide) (zin _ rfl) ?_
  refine zj_iconst (pc := 3) hc dX10_comes_3 (zin _ rfl) ?_
  refine zj_aload_n (pc := 4) hc dX10_comes_4 rfl ?_
  refine zg_9_7 (pc := 5) hc lk_X10_25 dX10_comes_5 ?_
  refine zj_sti (pc := 8) (st := [.inl 2, .inl 640]) hc ks_X10_pagesOf st_X10_pagesOf lk_X10_151 (S_X10_pagesOf l G 583 M _ h) rfl ⟨Nat.le_of_ble_eq_true rfl, Nat.le_of_ble_eq_true rfl⟩ (Nat.le_of_ble_eq_true rfl) ⟨Nat.le_of_ble_eq_true rfl, Nat.le_of_ble_eq_true rfl⟩ dX10_comes_8 rfl (fun y6 M9 h => ?_)
  obtain ⟨hM9, h⟩ := h
  subst hM9
  refine zj_imul (pc := 11) hc dX10_comes_11 h.1 ?_
  have h := h.2
  refine zj_iadd (pc := 12) hc dX10_comes_12 h.1 ?_
  have h := h.2
  refine zj_istore (pc := 13) hc dX10_comes_13 (by decide) ?_
  exact k15 M v1 v2 v3 (640 + (2 * y6)) h
set_option maxHeartbeats 4000000 in
set_option maxRecDepth 100000 in
theorem S_X10_drafts (l : Launch) (G : zG) (M : zMem) (Qr : zMem → Prop) (h : T_X10_drafts Qr M) : zMetV l yX10_drafts cX10_drafts 2 none 0 0 0 0 G [.inr 639] M Qr := by
  refine zmetV (by decide) (Nat.le_of_ble_eq_true rfl) [some (.inr 639), none] rfl ?_
  intro p e s m args below meth c hc hr hlk
  have k2 : ∀ (M : zMem) (v1 : Int), T_X10_drafts_2 Qr v1 M → zJ p l e (zRoom 0 0 0 0) s m args below meth c G 2 0 0 (MQ below (zQv G (Qr)) args s 0 0 (zA G)) 2 [some (.inr 639), some (.inl v1)] [] M := by
    intro M v1 h
    unfold T_X10_drafts_2 at h
    refine zl1_use h (fun v1 M => zJ p l e (zRoom 0 0 0 0) s m args below meth c G 2 0 0 (MQ below (zQv G (Qr)) args s 0 0 (zA G)) 2 [some (.inr 639), some (.inl v1)] [] M) (fun X2 hX2 v1 M h => ?_)
    refine zj_iload_n (pc := 2) hc dX10_drafts_2 rfl ?_
    refine zj_sipush (pc := 3) hc dX10_drafts_3 (by decide) (zin _ rfl) ?_
    refine zj_icmp_ge (pc := 6) (tgt := 27) hc dX10_drafts_6 (by decide) (fun hx1 => ?_) (fun hx1 => ?_)
    · have h := h.1 hx1
      refine zj_aload_n (pc := 27) hc dX10_drafts_27 rfl ?_
      refine zj_iconst (pc := 28) hc dX10_drafts_28 (zin _ rfl) ?_
      refine zs_9_30 (pc := 29) hc lk_X10_221 dX10_drafts_29 (fun M2 hM2 => ?_)
      have h := h M2 hM2
      exact zj_vret (pc := 32) hc hr hlk dX10_drafts_32 (by decide) (by decide) h
    · have h := h.2 hx1
      refine zj_aload_n (pc := 9) hc dX10_drafts_9 rfl ?_
      refine zg_9_7 (pc := 10) hc lk_X10_25 dX10_drafts_10 ?_
      refine zj_iload_n (pc := 13) hc dX10_drafts_13 rfl ?_
      refine zj_aload_n (pc := 14) hc dX10_drafts_14 rfl ?_
      refine zg_9_6 (pc := 15) hc lk_X10_22 dX10_drafts_15 ?_
      refine zj_iload_n (pc := 18) hc dX10_drafts_18 rfl ?_
      refine zj_iald (pc := 19) hc dX10_drafts_19 alen_582 h.1 ?_
      have h := h.2
      refine zj_iast (pc := 20) hc dX10_drafts_20 alen_583 h.1 (fun M3 hM3 => ?_)
      have h := h.2 M3 hM3
      refine zj_iinc (pc := 21) hc dX10_drafts_21 rfl (by decide) h.1 ?_
      have h := h.2
      refine zj_goto (pc := 24) (tgt := 2) hc dX10_drafts_24 (by decide) ?_
      exact hX2 (v1 + 1) M3 h
  unfold T_X10_drafts at h
  refine zj_iconst (pc := 0) hc dX10_drafts_0 (zin _ rfl) ?_
  refine zj_istore_n (pc := 1) hc dX10_drafts_1 (by decide) ?_
  exact k2 M 0 h
set_option maxHeartbeats 4000000 in
set_option maxRecDepth 100000 in
theorem S_X10_spreadsPage (l : Launch) (G : zG) (v1 : Int) (M : zMem) (Qr : Int → zMem → Prop) (h : T_X10_spreadsPage v1 Qr M) : zMetI l yX10_spreadsPage cX10_spreadsPage 5 (some .int) 7 166 0 0 G [.inr 639, .inl v1] M Qr := by
  refine zmetI (by decide) (Nat.le_of_ble_eq_true rfl) [some (.inr 639), some (.inl v1), none, none, none] rfl ?_
  intro p e s m args below meth c hc hr hlk
  have k124 : ∀ (M : zMem) (v1 : Int) (v2 : Int) (v3 : Int) (X42 : Int → zMem → Prop) (hX42 : ∀ (v3 : Int) (M : zMem), X42 v3 M → zJ p l e (zRoom 7 166 0 0) s m args below meth c G 5 0 0 (MQ below (zQi G (Qr)) args s 0 0 (zA G)) 42 [some (.inr 639), some (.inl v1), some (.inl v2), some (.inl v3), none] [] M), T_X10_spreadsPage_124 v1 v2 v3 X42 Qr M → zJ p l e (zRoom 7 166 0 0) s m args below meth c G 5 0 0 (MQ below (zQi G (Qr)) args s 0 0 (zA G)) 124 [some (.inr 639), some (.inl v1), some (.inl v2), some (.inl v3), none] [] M := by
    intro M v1 v2 v3 X42 hX42 h
    unfold T_X10_spreadsPage_124 at h
    refine zj_iinc (pc := 124) hc dX10_spreadsPage_124 rfl (by decide) h.1 ?_
    have h := h.2
    refine zj_goto (pc := 127) (tgt := 42) hc dX10_spreadsPage_127 (by decide) ?_
    exact hX42 (v3 + 1) M h
  have k62 : ∀ (M : zMem) (v1 : Int) (v2 : Int) (v3 : Int) (s0 : Int) (X42 : Int → zMem → Prop) (hX42 : ∀ (v3 : Int) (M : zMem), X42 v3 M → zJ p l e (zRoom 7 166 0 0) s m args below meth c G 5 0 0 (MQ below (zQi G (Qr)) args s 0 0 (zA G)) 42 [some (.inr 639), some (.inl v1), some (.inl v2), some (.inl v3), none] [] M), T_X10_spreadsPage_62 v1 v2 v3 s0 X42 Qr M → zJ p l e (zRoom 7 166 0 0) s m args below meth c G 5 0 0 (MQ below (zQi G (Qr)) args s 0 0 (zA G)) 62 [some (.inr 639), some (.inl v1), some (.inl v2), some (.inl v3), none] [.inl s0] M := by
    intro M v1 v2 v3 s0 X42 hX42 h
    unfold T_X10_spreadsPage_62 at h
    refine zj_istore (pc := 62) hc dX10_spreadsPage_62 (by decide) ?_
    refine zj_aload_n (pc := 64) hc dX10_spreadsPage_64 rfl ?_
    refine zj_iload (pc := 65) hc dX10_spreadsPage_65 rfl ?_
    refine zj_aload_n (pc := 67) hc dX10_spreadsPage_67 rfl ?_
    refine zg_9_22 (pc := 68) hc lk_X10_53 dX10_spreadsPage_68 ?_
    refine zj_iload_n (pc := 71) hc dX10_spreadsPage_71 rfl ?_
    refine zj_iald (pc := 72) hc dX10_spreadsPage_72 alen_598 h.1 ?_
    have h := h.2
    refine zj_aload_n (pc := 73) hc dX10_spreadsPage_73 rfl ?_
    refine zg_9_23 (pc := 74) hc lk_X10_56 dX10_spreadsPage_74 ?_
    refine zj_iload_n (pc := 77) hc dX10_spreadsPage_77 rfl ?_
    refine zj_iald (pc := 78) hc dX10_spreadsPage_78 alen_599 h.1 ?_
    have h := h.2
    refine zj_vtv (pc := 79) (st := []) hc ks_X10_shapes iv_X10_shapes lk_X10_254 (zrv_9 G M) (S_X10_shapes l G s0 (M.2 598 v3) (M.2 599 v3) M _ h) rfl ⟨Nat.le_of_ble_eq_true rfl, Nat.le_of_ble_eq_true rfl⟩ (Nat.le_of_ble_eq_true rfl) ⟨Nat.le_of_ble_eq_true rfl, Nat.le_of_ble_eq_true rfl⟩ dX10_spreadsPage_79 rfl (fun M1 h => ?_)
    refine zj_aload_n (pc := 82) hc dX10_spreadsPage_82 rfl ?_
    refine zj_dup (pc := 83) hc dX10_spreadsPage_83 ?_
    refine zg_9_30 (pc := 84) hc lk_X10_221 dX10_spreadsPage_84 ?_
    refine zj_iconst (pc := 87) hc dX10_spreadsPage_87 (zin _ rfl) ?_
    refine zj_iload (pc := 88) hc dX10_spreadsPage_88 rfl ?_
    refine zj_ishl (pc := 90) hc dX10_spreadsPage_90 ?_
    refine zj_ior (pc := 91) hc dX10_spreadsPage_91 ?_
    refine zs_9_30 (pc := 92) hc lk_X10_221 dX10_spreadsPage_92 (fun M2 hM2 => ?_)
    have h := h M2 hM2
    refine zj_iload_n (pc := 95) hc dX10_spreadsPage_95 rfl ?_
    refine zj_if_le (pc := 96) (tgt := 124) hc dX10_spreadsPage_96 (by decide) (fun hx3 => ?_) (fun hx3 => ?_)
    · have h := h.1 hx3
      refine zj_mask (bs := [true, true, true, true, false]) ?_
      exact k124 M2 v1 v2 v3 X42 hX42 h
    · have h := h.2 hx3
      refine zj_aload_n (pc := 99) hc dX10_spreadsPage_99 rfl ?_
      refine zj_iload_n (pc := 100) hc dX10_spreadsPage_100 rfl ?_
      refine zj_iload_n (pc := 101) hc dX10_spreadsPage_101 rfl ?_
      refine zj_iadd (pc := 102) hc dX10_spreadsPage_102 h.1 ?_
      have h := h.2
      refine zj_iload (pc := 103) hc dX10_spreadsPage_103 rfl ?_
      refine zj_aload_n (pc := 105) hc dX10_spreadsPage_105 rfl ?_
      refine zj_aload_n (pc := 106) hc dX10_spreadsPage_106 rfl ?_
      refine zg_9_22 (pc := 107) hc lk_X10_53 dX10_spreadsPage_107 ?_
      refine zj_iload_n (pc := 110) hc dX10_spreadsPage_110 rfl ?_
      refine zj_iald (pc := 111) hc dX10_spreadsPage_111 alen_598 h.1 ?_
      have h := h.2
      refine zj_aload_n (pc := 112) hc dX10_spreadsPage_112 rfl ?_
      refine zg_9_23 (pc := 113) hc lk_X10_56 dX10_spreadsPage_113 ?_
      refine zj_iload_n (pc := 116) hc dX10_spreadsPage_116 rfl ?_
      refine zj_iald (pc := 117) hc dX10_spreadsPage_117 alen_599 h.1 ?_
      have h := h.2
      refine zj_vti (pc := 118) (st := [.inl s0, .inl (v1 + v3), .inr 639]) hc ks_X10_lowestKey iv_X10_lowestKey lk_X10_258 (zrv_9 G M2) (S_X10_lowestKey l G (M2.2 598 v3) (M2.2 599 v3) M2 _ h) rfl ⟨Nat.le_of_ble_eq_true rfl, Nat.le_of_ble_eq_true rfl⟩ (Nat.le_of_ble_eq_true rfl) ⟨Nat.le_of_ble_eq_true rfl, Nat.le_of_ble_eq_true rfl⟩ dX10_spreadsPage_118 rfl (fun y4 M9 h => ?_)
      obtain ⟨hM9, h⟩ := h
      subst hM9
      refine zj_vtv (pc := 121) (st := []) hc ks_X10_comes iv_X10_comes lk_X10_261 (zrv_9 G M2) (S_X10_comes l G (v1 + v3) s0 y4 M2 _ h) rfl ⟨Nat.le_of_ble_eq_true rfl, Nat.le_of_ble_eq_true rfl⟩ (Nat.le_of_ble_eq_true rfl) ⟨Nat.le_of_ble_eq_true rfl, Nat.le_of_ble_eq_true rfl⟩ dX10_spreadsPage_121 rfl (fun M5 h => ?_)
      refine zj_mask (bs := [true, true, true, true, false]) ?_
      exact k124 M5 v1 v2 v3 X42 hX42 h
  have k42 : ∀ (M : zMem) (v1 : Int) (v2 : Int) (v3 : Int), T_X10_spreadsPage_42 v1 v2 Qr v3 M → zJ p l e (zRoom 7 166 0 0) s m args below meth c G 5 0 0 (MQ below (zQi G (Qr)) args s 0 0 (zA G)) 42 [some (.inr 639), some (.inl v1), some (.inl v2), some (.inl v3), none] [] M := by
    intro M v1 v2 v3 h
    unfold T_X10_spreadsPage_42 at h
    refine zl1_use h (fun v3 M => zJ p l e (zRoom 7 166 0 0) s m args below meth c G 5 0 0 (MQ below (zQi G (Qr)) args s 0 0 (zA G)) 42 [some (.inr 639), some (.inl v1), some (.inl v2), some (.inl v3), none] [] M) (fun X42 hX42 v3 M h => ?_)
    refine zj_iload_n (pc := 42) hc dX10_spreadsPage_42 rfl ?_
    refine zj_aload_n (pc := 43) hc dX10_spreadsPage_43 rfl ?_
    refine zg_9_24 (pc := 44) hc lk_X10_215 dX10_spreadsPage_44 ?_
    refine zj_icmp_ge (pc := 47) (tgt := 130) hc dX10_spreadsPage_47 (by decide) (fun hx6 => ?_) (fun hx6 => ?_)
    · have h := h.1 hx6
      refine zj_aload_n (pc := 130) hc dX10_spreadsPage_130 rfl ?_
      refine zg_9_24 (pc := 131) hc lk_X10_215 dX10_spreadsPage_131 ?_
      refine zj_iconst (pc := 134) hc dX10_spreadsPage_134 (zin _ rfl) ?_
      refine zj_icmp_ne (pc := 135) (tgt := 142) hc dX10_spreadsPage_135 (by decide) (fun hx7 => ?_) (fun hx7 => ?_)
      · have h := h.1 hx7
        refine zj_bipush (pc := 142) hc dX10_spreadsPage_142 (by decide) (zin _ rfl) ?_
        refine zj_aload_n (pc := 144) hc dX10_spreadsPage_144 rfl ?_
        refine zg_9_24 (pc := 145) hc lk_X10_215 dX10_spreadsPage_145 ?_
        refine zj_iadd (pc := 148) hc dX10_spreadsPage_148 h.1 ?_
        have h := h.2
        exact zj_iret (pc := 149) hc hr hlk dX10_spreadsPage_149 (by decide) (by decide) h
      · have h := h.2 hx7
        refine zj_iconst (pc := 138) hc dX10_spreadsPage_138 (zin _ rfl) ?_
        refine zj_goto (pc := 139) (tgt := 149) hc dX10_spreadsPage_139 (by decide) ?_
        exact zj_iret (pc := 149) hc hr hlk dX10_spreadsPage_149 (by decide) (by decide) h
    · have h := h.2 hx6
      refine zj_iload_n (pc := 50) hc dX10_spreadsPage_50 rfl ?_
      refine zj_if_ne (pc := 51) (tgt := 58) hc dX10_spreadsPage_51 (by decide) (fun hx8 => ?_) (fun hx8 => ?_)
      · have h := h.1 hx8
        refine zj_aload_n (pc := 58) hc dX10_spreadsPage_58 rfl ?_
        refine zj_vti (pc := 59) (st := []) hc ks_X10_lowestFree iv_X10_lowestFree lk_X10_251 (zrv_9 G M) (S_X10_lowestFree l G M _ h) rfl ⟨Nat.le_of_ble_eq_true rfl, Nat.le_of_ble_eq_true rfl⟩ (Nat.le_of_ble_eq_true rfl) ⟨Nat.le_of_ble_eq_true rfl, Nat.le_of_ble_eq_true rfl⟩ dX10_spreadsPage_59 rfl (fun y9 M9 h => ?_)
        obtain ⟨hM9, h⟩ := h
        subst hM9
        exact k62 M v1 v2 v3 y9 X42 hX42 h
      · have h := h.2 hx8
        refine zj_iload_n (pc := 54) hc dX10_spreadsPage_54 rfl ?_
        refine zj_goto (pc := 55) (tgt := 62) hc dX10_spreadsPage_55 (by decide) ?_
        exact k62 M v1 v2 v3 v2 X42 hX42 h
  unfold T_X10_spreadsPage at h
  refine zj_aload_n (pc := 0) hc dX10_spreadsPage_0 rfl ?_
  refine zg_9_7 (pc := 1) hc lk_X10_25 dX10_spreadsPage_1 ?_
  refine zj_iload_n (pc := 4) hc dX10_spreadsPage_4 rfl ?_
  refine zj_sti (pc := 5) (st := []) hc ks_X10_numberOf st_X10_numberOf lk_X10_183 (S_X10_numberOf l G 583 v1 M _ h) rfl ⟨Nat.le_of_ble_eq_true rfl, Nat.le_of_ble_eq_true rfl⟩ (Nat.le_of_ble_eq_true rfl) ⟨Nat.le_of_ble_eq_true rfl, Nat.le_of_ble_eq_true rfl⟩ dX10_spreadsPage_5 rfl (fun y10 M9 h => ?_)
  obtain ⟨hM9, h⟩ := h
  subst hM9
  refine zj_istore_n (pc := 8) hc dX10_spreadsPage_8 (by decide) ?_
  refine zj_aload_n (pc := 9) hc dX10_spreadsPage_9 rfl ?_
  refine zj_iconst (pc := 10) hc dX10_spreadsPage_10 (zin _ rfl) ?_
  refine zs_9_24 (pc := 11) hc lk_X10_215 dX10_spreadsPage_11 (fun M11 hM11 => ?_)
  have h := h M11 hM11
  refine zj_aload_n (pc := 14) hc dX10_spreadsPage_14 rfl ?_
  refine zj_vtv (pc := 15) (st := []) hc ks_X10_spreads iv_X10_spreads lk_X10_248 (zrv_9 G M11) (S_X10_spreads l G M11 _ h) rfl ⟨Nat.le_of_ble_eq_true rfl, Nat.le_of_ble_eq_true rfl⟩ (Nat.le_of_ble_eq_true rfl) ⟨Nat.le_of_ble_eq_true rfl, Nat.le_of_ble_eq_true rfl⟩ dX10_spreadsPage_15 rfl (fun M12 h => ?_)
  refine zj_aload_n (pc := 18) hc dX10_spreadsPage_18 rfl ?_
  refine zg_9_24 (pc := 19) hc lk_X10_215 dX10_spreadsPage_19 ?_
  refine zj_iconst (pc := 22) hc dX10_spreadsPage_22 (zin _ rfl) ?_
  refine zj_isub (pc := 23) hc dX10_spreadsPage_23 h.1 ?_
  have h := h.2
  refine zj_bipush (pc := 24) hc dX10_spreadsPage_24 (by decide) (zin _ rfl) ?_
  refine zj_aload_n (pc := 26) hc dX10_spreadsPage_26 rfl ?_
  refine zg_9_7 (pc := 27) hc lk_X10_25 dX10_spreadsPage_27 ?_
  refine zj_sti (pc := 30) (st := [.inl 10, .inl ((M12.1 600) - 1)]) hc ks_X10_pagesOf st_X10_pagesOf lk_X10_151 (S_X10_pagesOf l G 583 M12 _ h) rfl ⟨Nat.le_of_ble_eq_true rfl, Nat.le_of_ble_eq_true rfl⟩ (Nat.le_of_ble_eq_true rfl) ⟨Nat.le_of_ble_eq_true rfl, Nat.le_of_ble_eq_true rfl⟩ dX10_spreadsPage_30 rfl (fun y13 M9 h => ?_)
  obtain ⟨hM9, h⟩ := h
  subst hM9
  refine zj_isub (pc := 33) hc dX10_spreadsPage_33 h.1 ?_
  have h := h.2
  refine zj_icmp_le (pc := 34) (tgt := 40) hc dX10_spreadsPage_34 (by decide) (fun hx14 => ?_) (fun hx14 => ?_)
  · have h := h.1 hx14
    refine zj_iconst (pc := 40) hc dX10_spreadsPage_40 (zin _ rfl) ?_
    refine zj_istore_n (pc := 41) hc dX10_spreadsPage_41 (by decide) ?_
    exact k42 M12 v1 y10 0 h
  · have h := h.2 hx14
    refine zj_bipush (pc := 37) hc dX10_spreadsPage_37 (by decide) (zin _ rfl) ?_
    exact zj_iret (pc := 39) hc hr hlk dX10_spreadsPage_39 (by decide) (by decide) h
set_option maxHeartbeats 4000000 in
set_option maxRecDepth 100000 in
theorem S_X10_edits (l : Launch) (G : zG) (r1 : Nat) (v2 : Int) (M : zMem) (Qr : Int → zMem → Prop) (h : T_X10_edits r1 v2 Qr M) : zMetI l yX10_edits cX10_edits 13 (some .int) 8 190 0 0 G [.inr 639, .inr r1, .inl v2] M Qr := by
  refine zmetI (by decide) (Nat.le_of_ble_eq_true rfl) [some (.inr 639), some (.inr r1), some (.inl v2), none, none, none, none, none, none, none, none, none, none] rfl ?_
  intro p e s m args below meth c hc hr hlk
  have k203 : ∀ (M : zMem) (r1 : Nat) (v2 : Int) (v9 : Int) (v12 : Int), T_X10_edits_203 r1 v2 v9 Qr v12 M → zJ p l e (zRoom 8 190 0 0) s m args below meth c G 13 0 0 (MQ below (zQi G (Qr)) args s 0 0 (zA G)) 203 [some (.inr 639), some (.inr r1), some (.inl v2), none, none, none, none, none, none, some (.inl v9), none, none, some (.inl v12)] [] M := by
    intro M r1 v2 v9 v12 h
    unfold T_X10_edits_203 at h
    refine zl1_use h (fun v12 M => zJ p l e (zRoom 8 190 0 0) s m args below meth c G 13 0 0 (MQ below (zQi G (Qr)) args s 0 0 (zA G)) 203 [some (.inr 639), some (.inr r1), some (.inl v2), none, none, none, none, none, none, some (.inl v9), none, none, some (.inl v12)] [] M) (fun X203 hX203 v12 M h => ?_)
    refine zj_iload (pc := 203) hc dX10_edits_203 rfl ?_
    refine zj_iload (pc := 205) hc dX10_edits_205 rfl ?_
    refine zj_icmp_ge (pc := 207) (tgt := 234) hc dX10_edits_207 (by decide) (fun hx1 => ?_) (fun hx1 => ?_)
    · have h := h.1 hx1
      refine zj_iconst (pc := 234) hc dX10_edits_234 (zin _ rfl) ?_
      exact zj_iret (pc := 235) hc hr hlk dX10_edits_235 (by decide) (by decide) h
    · have h := h.2 hx1
      refine zj_aload_n (pc := 210) hc dX10_edits_210 rfl ?_
      refine zg_9_7 (pc := 211) hc lk_X10_25 dX10_edits_211 ?_
      refine zj_aload_n (pc := 214) hc dX10_edits_214 rfl ?_
      refine zg_9_28 (pc := 215) hc lk_X10_239 dX10_edits_215 ?_
      refine zj_iload (pc := 218) hc dX10_edits_218 rfl ?_
      refine zj_iadd (pc := 220) hc dX10_edits_220 h.1 ?_
      have h := h.2
      refine zj_aload_n (pc := 221) hc dX10_edits_221 rfl ?_
      refine zj_iload_n (pc := 222) hc dX10_edits_222 rfl ?_
      refine zj_iload (pc := 223) hc dX10_edits_223 rfl ?_
      refine zj_iadd (pc := 225) hc dX10_edits_225 h.1 ?_
      have h := h.2
      refine zj_iald (pc := 226) hc dX10_edits_226 rfl h.1 ?_
      have h := h.2
      refine zj_iast (pc := 227) hc dX10_edits_227 alen_583 h.1 (fun M2 hM2 => ?_)
      have h := h.2 M2 hM2
      refine zj_iinc (pc := 228) hc dX10_edits_228 rfl (by decide) h.1 ?_
      have h := h.2
      refine zj_goto (pc := 231) (tgt := 203) hc dX10_edits_231 (by decide) ?_
      exact hX203 (v12 + 1) M2 h
  have k182 : ∀ (M : zMem) (r1 : Nat) (v2 : Int) (v6 : Int) (v9 : Int) (v10 : Int), T_X10_edits_182 r1 v2 v6 v9 v10 Qr M → zJ p l e (zRoom 8 190 0 0) s m args below meth c G 13 0 0 (MQ below (zQi G (Qr)) args s 0 0 (zA G)) 182 [some (.inr 639), some (.inr r1), some (.inl v2), none, none, none, some (.inl v6), none, none, some (.inl v9), some (.inl v10), none, none] [] M := by
    intro M r1 v2 v6 v9 v10 h
    unfold T_X10_edits_182 at h
    refine zj_aload_n (pc := 182) hc dX10_edits_182 rfl ?_
    refine zj_bipush (pc := 183) hc dX10_edits_183 (by decide) (zin _ rfl) ?_
    refine zj_iload (pc := 185) hc dX10_edits_185 rfl ?_
    refine zj_imul (pc := 187) hc dX10_edits_187 h.1 ?_
    have h := h.2
    refine zj_iload (pc := 188) hc dX10_edits_188 rfl ?_
    refine zj_iadd (pc := 190) hc dX10_edits_190 h.1 ?_
    have h := h.2
    refine zs_9_28 (pc := 191) hc lk_X10_239 dX10_edits_191 (fun M3 hM3 => ?_)
    have h := h M3 hM3
    refine zj_aload_n (pc := 194) hc dX10_edits_194 rfl ?_
    refine zj_iload (pc := 195) hc dX10_edits_195 rfl ?_
    refine zs_9_29 (pc := 197) hc lk_X10_242 dX10_edits_197 (fun M4 hM4 => ?_)
    have h := h M4 hM4
    refine zj_iconst (pc := 200) hc dX10_edits_200 (zin _ rfl) ?_
    refine zj_istore (pc := 201) hc dX10_edits_201 (by decide) ?_
    refine zj_mask (bs := [true, true, true, true, true, true, false, true, true, true, false, true, true]) ?_
    exact k203 M4 r1 v2 v9 0 h
  have k160 : ∀ (M : zMem) (r1 : Nat) (v2 : Int) (v5 : Int) (v6 : Int) (v8 : Int) (v9 : Int) (v10 : Int) (v11 : Int) (s0 : Int) (s1 : Int), T_X10_edits_160 r1 v2 v5 v6 v8 v9 v10 v11 s0 s1 Qr M → zJ p l e (zRoom 8 190 0 0) s m args below meth c G 13 0 0 (MQ below (zQi G (Qr)) args s 0 0 (zA G)) 160 [some (.inr 639), some (.inr r1), some (.inl v2), none, none, some (.inl v5), some (.inl v6), none, some (.inl v8), some (.inl v9), some (.inl v10), some (.inl v11), none] [.inl s1, .inl s0] M := by
    intro M r1 v2 v5 v6 v8 v9 v10 v11 s0 s1 h
    unfold T_X10_edits_160 at h
    refine zj_iadd (pc := 160) hc dX10_edits_160 h.1 ?_
    have h := h.2
    refine zj_bipush (pc := 161) hc dX10_edits_161 (by decide) (zin _ rfl) ?_
    refine zj_icmp_gt (pc := 163) (tgt := 236) hc dX10_edits_163 (by decide) (fun hx5 => ?_) (fun hx5 => ?_)
    · have h := h.1 hx5
      refine zj_aload_n (pc := 236) hc dX10_edits_236 rfl ?_
      refine zj_iload (pc := 237) hc dX10_edits_237 rfl ?_
      refine zj_vti (pc := 239) (st := []) hc ks_X10_spreadsPage iv_X10_spreadsPage lk_X10_245 (zrv_9 G M) (S_X10_spreadsPage l G v5 M _ h) rfl ⟨Nat.le_of_ble_eq_true rfl, Nat.le_of_ble_eq_true rfl⟩ (Nat.le_of_ble_eq_true rfl) ⟨Nat.le_of_ble_eq_true rfl, Nat.le_of_ble_eq_true rfl⟩ dX10_edits_239 rfl (fun y6 M7 h => ?_)
      exact zj_iret (pc := 242) hc hr hlk dX10_edits_242 (by decide) (by decide) h
    · have h := h.2 hx5
      refine zj_iload (pc := 166) hc dX10_edits_166 rfl ?_
      refine zj_aload_n (pc := 168) hc dX10_edits_168 rfl ?_
      refine zj_vti (pc := 169) (st := [.inl v11]) hc ks_X10_full iv_X10_full lk_X10_198 (zrv_9 G M) (S_X10_full l G M _ h) rfl ⟨Nat.le_of_ble_eq_true rfl, Nat.le_of_ble_eq_true rfl⟩ (Nat.le_of_ble_eq_true rfl) ⟨Nat.le_of_ble_eq_true rfl, Nat.le_of_ble_eq_true rfl⟩ dX10_edits_169 rfl (fun y8 M9 h => ?_)
      obtain ⟨hM9, h⟩ := h
      subst hM9
      refine zj_icmp_le (pc := 172) (tgt := 182) hc dX10_edits_172 (by decide) (fun hx9 => ?_) (fun hx9 => ?_)
      · have h := h.1 hx9
        refine zj_mask (bs := [true, true, true, true, true, false, true, true, false, true, true, false, true]) ?_
        exact k182 M r1 v2 v6 v9 v10 h
      · have h := h.2 hx9
        refine zj_iload (pc := 175) hc dX10_edits_175 rfl ?_
        refine zj_iload (pc := 177) hc dX10_edits_177 rfl ?_
        refine zj_icmp_gt (pc := 179) (tgt := 236) hc dX10_edits_179 (by decide) (fun hx10 => ?_) (fun hx10 => ?_)
        · have h := h.1 hx10
          refine zj_aload_n (pc := 236) hc dX10_edits_236 rfl ?_
          refine zj_iload (pc := 237) hc dX10_edits_237 rfl ?_
          refine zj_vti (pc := 239) (st := []) hc ks_X10_spreadsPage iv_X10_spreadsPage lk_X10_245 (zrv_9 G M) (S_X10_spreadsPage l G v5 M _ h) rfl ⟨Nat.le_of_ble_eq_true rfl, Nat.le_of_ble_eq_true rfl⟩ (Nat.le_of_ble_eq_true rfl) ⟨Nat.le_of_ble_eq_true rfl, Nat.le_of_ble_eq_true rfl⟩ dX10_edits_239 rfl (fun y11 M12 h => ?_)
          exact zj_iret (pc := 242) hc hr hlk dX10_edits_242 (by decide) (by decide) h
        · have h := h.2 hx10
          refine zj_mask (bs := [true, true, true, true, true, false, true, true, false, true, true, false, true]) ?_
          exact k182 M r1 v2 v6 v9 v10 h
  have k110 : ∀ (M : zMem) (r1 : Nat) (v2 : Int) (v4 : Int) (v5 : Int) (v6 : Int) (v8 : Int), T_X10_edits_110 r1 v2 v4 v5 v6 v8 Qr M → zJ p l e (zRoom 8 190 0 0) s m args below meth c G 13 0 0 (MQ below (zQi G (Qr)) args s 0 0 (zA G)) 110 [some (.inr 639), some (.inr r1), some (.inl v2), none, some (.inl v4), some (.inl v5), some (.inl v6), none, some (.inl v8), none, none, none, none] [] M := by
    intro M r1 v2 v4 v5 v6 v8 h
    unfold T_X10_edits_110 at h
    refine zj_aload_n (pc := 110) hc dX10_edits_110 rfl ?_
    refine zj_iload_n (pc := 111) hc dX10_edits_111 rfl ?_
    refine zj_iald (pc := 112) hc dX10_edits_112 rfl h.1 ?_
    have h := h.2
    refine zj_sti (pc := 113) (st := []) hc ks_X10_lengthOf st_X10_lengthOf lk_X10_159 (S_X10_lengthOf l G (M.2 r1 v2) M _ h) rfl ⟨Nat.le_of_ble_eq_true rfl, Nat.le_of_ble_eq_true rfl⟩ (Nat.le_of_ble_eq_true rfl) ⟨Nat.le_of_ble_eq_true rfl, Nat.le_of_ble_eq_true rfl⟩ dX10_edits_113 rfl (fun y13 M9 h => ?_)
    obtain ⟨hM9, h⟩ := h
    subst hM9
    refine zj_istore (pc := 116) hc dX10_edits_116 (by decide) ?_
    refine zj_aload_n (pc := 118) hc dX10_edits_118 rfl ?_
    refine zg_9_7 (pc := 119) hc lk_X10_25 dX10_edits_119 ?_
    refine zj_iload (pc := 122) hc dX10_edits_122 rfl ?_
    refine zj_sti (pc := 124) (st := []) hc ks_X10_endOf st_X10_endOf lk_X10_166 (S_X10_endOf l G 583 v6 M _ h) rfl ⟨Nat.le_of_ble_eq_true rfl, Nat.le_of_ble_eq_true rfl⟩ (Nat.le_of_ble_eq_true rfl) ⟨Nat.le_of_ble_eq_true rfl, Nat.le_of_ble_eq_true rfl⟩ dX10_edits_124 rfl (fun y14 M9 h => ?_)
    obtain ⟨hM9, h⟩ := h
    subst hM9
    refine zj_istore (pc := 127) hc dX10_edits_127 (by decide) ?_
    refine zj_aload_n (pc := 129) hc dX10_edits_129 rfl ?_
    refine zj_iconst (pc := 130) hc dX10_edits_130 (zin _ rfl) ?_
    refine zj_sipush (pc := 131) hc dX10_edits_131 (by decide) (zin _ rfl) ?_
    refine zj_vti (pc := 134) (st := []) hc ks_X10_plainOf iv_X10_plainOf lk_X10_195 (zrv_9 G M) (S_X10_plainOf l G 0 255 M _ h) rfl ⟨Nat.le_of_ble_eq_true rfl, Nat.le_of_ble_eq_true rfl⟩ (Nat.le_of_ble_eq_true rfl) ⟨Nat.le_of_ble_eq_true rfl, Nat.le_of_ble_eq_true rfl⟩ dX10_edits_134 rfl (fun y15 M9 h => ?_)
    obtain ⟨hM9, h⟩ := h
    subst hM9
    refine zj_istore (pc := 137) hc dX10_edits_137 (by decide) ?_
    refine zj_iload (pc := 139) hc dX10_edits_139 rfl ?_
    refine zj_iload (pc := 141) hc dX10_edits_141 rfl ?_
    refine zj_iadd (pc := 143) hc dX10_edits_143 h.1 ?_
    have h := h.2
    refine zj_iload (pc := 144) hc dX10_edits_144 rfl ?_
    refine zj_iconst (pc := 146) hc dX10_edits_146 (zin _ rfl) ?_
    refine zj_icmp_ne (pc := 147) (tgt := 154) hc dX10_edits_147 (by decide) (fun hx16 => ?_) (fun hx16 => ?_)
    · have h := h.1 hx16
      refine zj_aload_n (pc := 154) hc dX10_edits_154 rfl ?_
      refine zg_9_3 (pc := 155) hc lk_X10_13 dX10_edits_155 ?_
      refine zj_iconst (pc := 158) hc dX10_edits_158 (zin _ rfl) ?_
      refine zj_iald (pc := 159) hc dX10_edits_159 alen_579 h.1 ?_
      have h := h.2
      refine zj_mask (bs := [true, true, true, true, false, true, true, true, true, true, true, true, true]) ?_
      exact k160 M r1 v2 v5 v6 v8 y13 y14 y15 (y14 + y13) (M.2 579 0) h
    · have h := h.2 hx16
      refine zj_iconst (pc := 150) hc dX10_edits_150 (zin _ rfl) ?_
      refine zj_goto (pc := 151) (tgt := 160) hc dX10_edits_151 (by decide) ?_
      refine zj_mask (bs := [true, true, true, true, false, true, true, true, true, true, true, true, true]) ?_
      exact k160 M r1 v2 v5 v6 v8 y13 y14 y15 (y14 + y13) 0 h
  unfold T_X10_edits at h
  refine zj_aload_n (pc := 0) hc dX10_edits_0 rfl ?_
  refine zj_iload_n (pc := 1) hc dX10_edits_1 rfl ?_
  refine zj_iconst (pc := 2) hc dX10_edits_2 (zin _ rfl) ?_
  refine zj_iadd (pc := 3) hc dX10_edits_3 h.1 ?_
  have h := h.2
  refine zj_iald (pc := 4) hc dX10_edits_4 rfl h.1 ?_
  have h := h.2
  refine zj_istore_n (pc := 5) hc dX10_edits_5 (by decide) ?_
  refine zj_aload_n (pc := 6) hc dX10_edits_6 rfl ?_
  refine zj_iload_n (pc := 7) hc dX10_edits_7 rfl ?_
  refine zj_iald (pc := 8) hc dX10_edits_8 rfl h.1 ?_
  have h := h.2
  refine zj_sti (pc := 9) (st := []) hc ks_X10_kindOf st_X10_kindOf lk_X10_148 (S_X10_kindOf l G (M.2 r1 v2) M _ h) rfl ⟨Nat.le_of_ble_eq_true rfl, Nat.le_of_ble_eq_true rfl⟩ (Nat.le_of_ble_eq_true rfl) ⟨Nat.le_of_ble_eq_true rfl, Nat.le_of_ble_eq_true rfl⟩ dX10_edits_9 rfl (fun y17 M9 h => ?_)
  obtain ⟨hM9, h⟩ := h
  subst hM9
  refine zj_istore (pc := 12) hc dX10_edits_12 (by decide) ?_
  refine zj_aload_n (pc := 14) hc dX10_edits_14 rfl ?_
  refine zg_9_7 (pc := 15) hc lk_X10_25 dX10_edits_15 ?_
  refine zj_iload_n (pc := 18) hc dX10_edits_18 rfl ?_
  refine zj_sti (pc := 19) (st := []) hc ks_X10_placeFor st_X10_placeFor lk_X10_224 (S_X10_placeFor l G 583 (M.2 r1 (v2 + 1)) M _ h) rfl ⟨Nat.le_of_ble_eq_true rfl, Nat.le_of_ble_eq_true rfl⟩ (Nat.le_of_ble_eq_true rfl) ⟨Nat.le_of_ble_eq_true rfl, Nat.le_of_ble_eq_true rfl⟩ dX10_edits_19 rfl (fun y18 M9 h => ?_)
  obtain ⟨hM9, h⟩ := h
  subst hM9
  refine zj_istore (pc := 22) hc dX10_edits_22 (by decide) ?_
  refine zj_aload_n (pc := 24) hc dX10_edits_24 rfl ?_
  refine zg_9_7 (pc := 25) hc lk_X10_25 dX10_edits_25 ?_
  refine zj_iload (pc := 28) hc dX10_edits_28 rfl ?_
  refine zj_sti (pc := 30) (st := []) hc ks_X10_numberOf st_X10_numberOf lk_X10_183 (S_X10_numberOf l G 583 y18 M _ h) rfl ⟨Nat.le_of_ble_eq_true rfl, Nat.le_of_ble_eq_true rfl⟩ (Nat.le_of_ble_eq_true rfl) ⟨Nat.le_of_ble_eq_true rfl, Nat.le_of_ble_eq_true rfl⟩ dX10_edits_30 rfl (fun y19 M9 h => ?_)
  obtain ⟨hM9, h⟩ := h
  subst hM9
  refine zj_istore (pc := 33) hc dX10_edits_33 (by decide) ?_
  refine zj_aload_n (pc := 35) hc dX10_edits_35 rfl ?_
  refine zj_aload_n (pc := 36) hc dX10_edits_36 rfl ?_
  refine zg_9_7 (pc := 37) hc lk_X10_25 dX10_edits_37 ?_
  refine zj_iload (pc := 40) hc dX10_edits_40 rfl ?_
  refine zj_vtv (pc := 42) (st := []) hc ks_X10_laysAlone iv_X10_laysAlone lk_X10_227 (zrv_9 G M) (S_X10_laysAlone l G 583 y19 M _ h) rfl ⟨Nat.le_of_ble_eq_true rfl, Nat.le_of_ble_eq_true rfl⟩ (Nat.le_of_ble_eq_true rfl) ⟨Nat.le_of_ble_eq_true rfl, Nat.le_of_ble_eq_true rfl⟩ dX10_edits_42 rfl (fun M20 h => ?_)
  refine zj_aload_n (pc := 45) hc dX10_edits_45 rfl ?_
  refine zj_aload_n (pc := 46) hc dX10_edits_46 rfl ?_
  refine zj_iload_n (pc := 47) hc dX10_edits_47 rfl ?_
  refine zj_vti (pc := 48) (st := []) hc ks_X10_cant iv_X10_cant lk_X10_230 (zrv_9 G M20) (S_X10_cant l G r1 v2 M20 _ h) rfl ⟨Nat.le_of_ble_eq_true rfl, Nat.le_of_ble_eq_true rfl⟩ (Nat.le_of_ble_eq_true rfl) ⟨Nat.le_of_ble_eq_true rfl, Nat.le_of_ble_eq_true rfl⟩ dX10_edits_48 rfl (fun y21 M9 h => ?_)
  obtain ⟨hM9, h⟩ := h
  subst hM9
  refine zj_istore (pc := 51) hc dX10_edits_51 (by decide) ?_
  refine zj_iload (pc := 53) hc dX10_edits_53 rfl ?_
  refine zj_if_ge (pc := 55) (tgt := 61) hc dX10_edits_55 (by decide) (fun hx22 => ?_) (fun hx22 => ?_)
  · have h := h.1 hx22
    refine zj_aload_n (pc := 61) hc dX10_edits_61 rfl ?_
    refine zj_iconst (pc := 62) hc dX10_edits_62 (zin _ rfl) ?_
    refine zj_sipush (pc := 63) hc dX10_edits_63 (by decide) (zin _ rfl) ?_
    refine zj_vti (pc := 66) (st := []) hc ks_X10_plainOf iv_X10_plainOf lk_X10_195 (zrv_9 G M20) (S_X10_plainOf l G 0 255 M20 _ h) rfl ⟨Nat.le_of_ble_eq_true rfl, Nat.le_of_ble_eq_true rfl⟩ (Nat.le_of_ble_eq_true rfl) ⟨Nat.le_of_ble_eq_true rfl, Nat.le_of_ble_eq_true rfl⟩ dX10_edits_66 rfl (fun y23 M9 h => ?_)
    obtain ⟨hM9, h⟩ := h
    subst hM9
    refine zj_istore (pc := 69) hc dX10_edits_69 (by decide) ?_
    refine zj_aload_n (pc := 71) hc dX10_edits_71 rfl ?_
    refine zj_aload_n (pc := 72) hc dX10_edits_72 rfl ?_
    refine zj_iload_n (pc := 73) hc dX10_edits_73 rfl ?_
    refine zj_vtv (pc := 74) (st := []) hc ks_X10_does iv_X10_does lk_X10_173 (zrv_9 G M20) (S_X10_does l G r1 v2 M20 _ h) rfl ⟨Nat.le_of_ble_eq_true rfl, Nat.le_of_ble_eq_true rfl⟩ (Nat.le_of_ble_eq_true rfl) ⟨Nat.le_of_ble_eq_true rfl, Nat.le_of_ble_eq_true rfl⟩ dX10_edits_74 rfl (fun M24 h => ?_)
    refine zj_iload (pc := 77) hc dX10_edits_77 rfl ?_
    refine zj_iconst (pc := 79) hc dX10_edits_79 (zin _ rfl) ?_
    refine zj_icmp_ne (pc := 80) (tgt := 110) hc dX10_edits_80 (by decide) (fun hx25 => ?_) (fun hx25 => ?_)
    · have h := h.1 hx25
      refine zj_mask (bs := [true, true, true, false, true, true, true, false, true, true, true, true, true]) ?_
      exact k110 M24 r1 v2 y17 y18 y19 y23 h
    · have h := h.2 hx25
      refine zj_aload_n (pc := 83) hc dX10_edits_83 rfl ?_
      refine zj_vti (pc := 84) (st := []) hc ks_X10_recordMany iv_X10_recordMany lk_X10_233 (zrv_9 G M24) (S_X10_recordMany l G M24 _ h) rfl ⟨Nat.le_of_ble_eq_true rfl, Nat.le_of_ble_eq_true rfl⟩ (Nat.le_of_ble_eq_true rfl) ⟨Nat.le_of_ble_eq_true rfl, Nat.le_of_ble_eq_true rfl⟩ dX10_edits_84 rfl (fun y26 M9 h => ?_)
      obtain ⟨hM9, h⟩ := h
      subst hM9
      refine zj_if_ne (pc := 87) (tgt := 110) hc dX10_edits_87 (by decide) (fun hx27 => ?_) (fun hx27 => ?_)
      · have h := h.1 hx27
        refine zj_mask (bs := [true, true, true, false, true, true, true, false, true, true, true, true, true]) ?_
        exact k110 M24 r1 v2 y17 y18 y19 y23 h
      · have h := h.2 hx27
        refine zj_aload_n (pc := 90) hc dX10_edits_90 rfl ?_
        refine zg_9_7 (pc := 91) hc lk_X10_25 dX10_edits_91 ?_
        refine zj_iload (pc := 94) hc dX10_edits_94 rfl ?_
        refine zj_sti (pc := 96) (st := []) hc ks_X10_fenceOf st_X10_fenceOf lk_X10_155 (S_X10_fenceOf l G 583 y18 M24 _ h) rfl ⟨Nat.le_of_ble_eq_true rfl, Nat.le_of_ble_eq_true rfl⟩ (Nat.le_of_ble_eq_true rfl) ⟨Nat.le_of_ble_eq_true rfl, Nat.le_of_ble_eq_true rfl⟩ dX10_edits_96 rfl (fun y28 M9 h => ?_)
        obtain ⟨hM9, h⟩ := h
        subst hM9
        refine zj_if_eq (pc := 99) (tgt := 110) hc dX10_edits_99 (by decide) (fun hx29 => ?_) (fun hx29 => ?_)
        · have h := h.1 hx29
          refine zj_mask (bs := [true, true, true, false, true, true, true, false, true, true, true, true, true]) ?_
          exact k110 M24 r1 v2 y17 y18 y19 y23 h
        · have h := h.2 hx29
          refine zj_aload_n (pc := 102) hc dX10_edits_102 rfl ?_
          refine zj_iload (pc := 103) hc dX10_edits_103 rfl ?_
          refine zj_vtv (pc := 105) (st := []) hc ks_X10_goes iv_X10_goes lk_X10_236 (zrv_9 G M24) (S_X10_goes l G y18 M24 _ h) rfl ⟨Nat.le_of_ble_eq_true rfl, Nat.le_of_ble_eq_true rfl⟩ (Nat.le_of_ble_eq_true rfl) ⟨Nat.le_of_ble_eq_true rfl, Nat.le_of_ble_eq_true rfl⟩ dX10_edits_105 rfl (fun M30 h => ?_)
          refine zj_iconst (pc := 108) hc dX10_edits_108 (zin _ rfl) ?_
          exact zj_iret (pc := 109) hc hr hlk dX10_edits_109 (by decide) (by decide) h
  · have h := h.2 hx22
    refine zj_iload (pc := 58) hc dX10_edits_58 rfl ?_
    exact zj_iret (pc := 60) hc hr hlk dX10_edits_60 (by decide) (by decide) h
