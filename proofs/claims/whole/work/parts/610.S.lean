set_option maxHeartbeats 4000000 in
set_option maxRecDepth 100000 in
theorem S_X0_startAct (l : Launch) (G : zG) (M : zMem) (Qr : zMem → Prop) (h : T_X0_startAct Qr M) : zMetV l yX0_startAct cX0_startAct 1 none 0 0 0 0 G [.inr 127] M Qr := by
  refine zmetV (by decide) (Nat.le_of_ble_eq_true rfl) [some (.inr 127)] rfl ?_
  intro p e s m args below meth c hc hr hlk
  unfold T_X0_startAct at h
  refine zj_aload_n (pc := 0) hc dX0_startAct_0 rfl ?_
  refine zj_iconst (pc := 1) hc dX0_startAct_1 (zin _ rfl) ?_
  refine zs_1_3 (pc := 2) hc lk_X0_23 (Or.inl rfl) dX0_startAct_2 (fun M1 hM1 => ?_)
  have h := h M1 hM1
  refine zj_aload_n (pc := 5) hc dX0_startAct_5 rfl ?_
  refine zj_iconst (pc := 6) hc dX0_startAct_6 (zin _ rfl) ?_
  refine zs_1_4 (pc := 7) hc lk_X0_26 dX0_startAct_7 (fun M2 hM2 => ?_)
  have h := h M2 hM2
  exact zj_vret (pc := 10) hc hr hlk dX0_startAct_10 (by decide) (by decide) h
set_option maxHeartbeats 4000000 in
set_option maxRecDepth 100000 in
theorem S_X0_write (l : Launch) (G : zG) (v1 : Int) (v2 : Int) (M : zMem) (Qr : zMem → Prop) (h : T_X0_write v1 v2 Qr M) : zMetV l yX0_write cX0_write 3 none 0 0 0 0 G [.inr 127, .inl v1, .inl v2] M Qr := by
  refine zmetV (by decide) (Nat.le_of_ble_eq_true rfl) [some (.inr 127), some (.inl v1), some (.inl v2)] rfl ?_
  intro p e s m args below meth c hc hr hlk
  have k59 : ∀ (M : zMem) (v1 : Int) (v2 : Int), T_X0_write_59 v1 v2 Qr M → zJ p l e (zRoom 0 0 0 0) s m args below meth c G 3 0 0 (MQ below (zQv G (Qr)) args s 0 0 (zA G)) 59 [some (.inr 127), some (.inl v1), some (.inl v2)] [] M := by
    intro M v1 v2 h
    unfold T_X0_write_59 at h
    refine zj_aload_n (pc := 59) hc dX0_write_59 rfl ?_
    refine zg_1_0 (pc := 60) hc lk_X0_9 dX0_write_60 ?_
    refine zj_iload_n (pc := 63) hc dX0_write_63 rfl ?_
    refine zj_iload_n (pc := 64) hc dX0_write_64 rfl ?_
    refine zj_iast (pc := 65) hc dX0_write_65 alen_64 h.1 (fun M1 hM1 => ?_)
    have h := h.2 M1 hM1
    refine zj_aload_n (pc := 66) hc dX0_write_66 rfl ?_
    refine zj_dup (pc := 67) hc dX0_write_67 ?_
    refine zg_1_4 (pc := 68) hc lk_X0_26 dX0_write_68 ?_
    refine zj_iconst (pc := 71) hc dX0_write_71 (zin _ rfl) ?_
    refine zj_iadd (pc := 72) hc dX0_write_72 h.1 ?_
    have h := h.2
    refine zs_1_4 (pc := 73) hc lk_X0_26 dX0_write_73 (fun M2 hM2 => ?_)
    have h := h M2 hM2
    exact zj_vret (pc := 76) hc hr hlk dX0_write_76 (by decide) (by decide) h
  unfold T_X0_write at h
  refine zj_aload_n (pc := 0) hc dX0_write_0 rfl ?_
  refine zg_1_3 (pc := 1) hc lk_X0_23 dX0_write_1 ?_
  refine zj_if_ne (pc := 4) (tgt := 18) hc dX0_write_4 (by decide) (fun hx3 => ?_) (fun hx3 => ?_)
  · have h := h.1 hx3
    exact zj_vret (pc := 18) hc hr hlk dX0_write_18 (by decide) (by decide) h
  · have h := h.2 hx3
    refine zj_iload_n (pc := 7) hc dX0_write_7 rfl ?_
    refine zj_if_lt (pc := 8) (tgt := 18) hc dX0_write_8 (by decide) (fun hx4 => ?_) (fun hx4 => ?_)
    · have h := h.1 hx4
      exact zj_vret (pc := 18) hc hr hlk dX0_write_18 (by decide) (by decide) h
    · have h := h.2 hx4
      refine zj_iload_n (pc := 11) hc dX0_write_11 rfl ?_
      refine zj_sipush (pc := 12) hc dX0_write_12 (by decide) (zin _ rfl) ?_
      refine zj_icmp_lt (pc := 15) (tgt := 19) hc dX0_write_15 (by decide) (fun hx5 => ?_) (fun hx5 => ?_)
      · have h := h.1 hx5
        refine zj_aload_n (pc := 19) hc dX0_write_19 rfl ?_
        refine zg_1_1 (pc := 20) hc lk_X0_15 dX0_write_20 ?_
        refine zj_if_ne (pc := 23) (tgt := 42) hc dX0_write_23 (by decide) (fun hx6 => ?_) (fun hx6 => ?_)
        · have h := h.1 hx6
          refine zj_aload_n (pc := 42) hc dX0_write_42 rfl ?_
          refine zg_1_1 (pc := 43) hc lk_X0_15 dX0_write_43 ?_
          refine zj_if_le (pc := 46) (tgt := 59) hc dX0_write_46 (by decide) (fun hx7 => ?_) (fun hx7 => ?_)
          · have h := h.1 hx7
            exact k59 M v1 v2 h
          · have h := h.2 hx7
            refine zj_aload_n (pc := 49) hc dX0_write_49 rfl ?_
            refine zj_dup (pc := 50) hc dX0_write_50 ?_
            refine zg_1_1 (pc := 51) hc lk_X0_15 dX0_write_51 ?_
            refine zj_iconst (pc := 54) hc dX0_write_54 (zin _ rfl) ?_
            refine zj_isub (pc := 55) hc dX0_write_55 h.1 ?_
            have h := h.2
            refine zs_1_1 (pc := 56) hc lk_X0_15 dX0_write_56 (fun M8 hM8 => ?_)
            have h := h M8 hM8
            exact k59 M8 v1 v2 h
        · have h := h.2 hx6
          refine zj_aload_n (pc := 26) hc dX0_write_26 rfl ?_
          refine zj_iconst (pc := 27) hc dX0_write_27 (zin _ rfl) ?_
          refine zs_1_3 (pc := 28) hc lk_X0_23 (Or.inr rfl) dX0_write_28 (fun M9 hM9 => ?_)
          have h := h M9 hM9
          refine zj_aload_n (pc := 31) hc dX0_write_31 rfl ?_
          refine zj_iconst (pc := 32) hc dX0_write_32 (zin _ rfl) ?_
          refine zs_1_2 (pc := 33) hc lk_X0_19 (Or.inr rfl) dX0_write_33 (fun M10 hM10 => ?_)
          have h := h M10 hM10
          refine zj_aload_n (pc := 36) hc dX0_write_36 rfl ?_
          refine zj_iconst (pc := 37) hc dX0_write_37 (zin _ rfl) ?_
          refine zs_1_1 (pc := 38) hc lk_X0_15 dX0_write_38 (fun M11 hM11 => ?_)
          have h := h M11 hM11
          exact zj_vret (pc := 41) hc hr hlk dX0_write_41 (by decide) (by decide) h
      · have h := h.2 hx5
        exact zj_vret (pc := 18) hc hr hlk dX0_write_18 (by decide) (by decide) h
set_option maxHeartbeats 4000000 in
set_option maxRecDepth 100000 in
theorem S_X0_writeEntry (l : Launch) (G : zG) (v1 : Int) (r2 : Nat) (M : zMem) (Qr : zMem → Prop) (h : T_X0_writeEntry v1 r2 Qr M) : zMetV l yX0_writeEntry cX0_writeEntry 5 none 3 64 0 0 G [.inr 127, .inl v1, .inr r2] M Qr := by
  refine zmetV (by decide) (Nat.le_of_ble_eq_true rfl) [some (.inr 127), some (.inl v1), some (.inr r2), none, none] rfl ?_
  intro p e s m args below meth c hc hr hlk
  have k15 : ∀ (M : zMem) (v1 : Int) (r2 : Nat) (v3 : Int) (v4 : Int), T_X0_writeEntry_15 v1 r2 v3 Qr v4 M → zJ p l e (zRoom 3 64 0 0) s m args below meth c G 5 0 0 (MQ below (zQv G (Qr)) args s 0 0 (zA G)) 15 [some (.inr 127), some (.inl v1), some (.inr r2), some (.inl v3), some (.inl v4)] [] M := by
    intro M v1 r2 v3 v4 h
    unfold T_X0_writeEntry_15 at h
    refine zl1_use h (fun v4 M => zJ p l e (zRoom 3 64 0 0) s m args below meth c G 5 0 0 (MQ below (zQv G (Qr)) args s 0 0 (zA G)) 15 [some (.inr 127), some (.inl v1), some (.inr r2), some (.inl v3), some (.inl v4)] [] M) (fun X15 hX15 v4 M h => ?_)
    refine zj_iload (pc := 15) hc dX0_writeEntry_15 rfl ?_
    refine zj_iload_n (pc := 17) hc dX0_writeEntry_17 rfl ?_
    refine zj_icmp_ge (pc := 18) (tgt := 39) hc dX0_writeEntry_18 (by decide) (fun hx1 => ?_) (fun hx1 => ?_)
    · have h := h.1 hx1
      refine zj_aload_n (pc := 39) hc dX0_writeEntry_39 rfl ?_
      refine zj_iload_n (pc := 40) hc dX0_writeEntry_40 rfl ?_
      refine zj_aload_n (pc := 41) hc dX0_writeEntry_41 rfl ?_
      refine zj_iconst (pc := 42) hc dX0_writeEntry_42 (zin _ rfl) ?_
      refine zj_iald (pc := 43) hc dX0_writeEntry_43 rfl h.1 ?_
      have h := h.2
      refine zj_vtv (pc := 44) (st := []) hc ks_X0_write iv_X0_write lk_X0_38 (zrv_1 G M) (S_X0_write l G v1 (M.2 r2 0) M _ h) rfl ⟨Nat.le_of_ble_eq_true rfl, Nat.le_of_ble_eq_true rfl⟩ (Nat.le_of_ble_eq_true rfl) ⟨Nat.le_of_ble_eq_true rfl, Nat.le_of_ble_eq_true rfl⟩ dX0_writeEntry_44 rfl (fun M2 h => ?_)
      exact zj_vret (pc := 47) hc hr hlk dX0_writeEntry_47 (by decide) (by decide) h
    · have h := h.2 hx1
      refine zj_aload_n (pc := 21) hc dX0_writeEntry_21 rfl ?_
      refine zj_iload_n (pc := 22) hc dX0_writeEntry_22 rfl ?_
      refine zj_iload (pc := 23) hc dX0_writeEntry_23 rfl ?_
      refine zj_iadd (pc := 25) hc dX0_writeEntry_25 h.1 ?_
      have h := h.2
      refine zj_aload_n (pc := 26) hc dX0_writeEntry_26 rfl ?_
      refine zj_iload (pc := 27) hc dX0_writeEntry_27 rfl ?_
      refine zj_iald (pc := 29) hc dX0_writeEntry_29 rfl h.1 ?_
      have h := h.2
      refine zj_vtv (pc := 30) (st := []) hc ks_X0_write iv_X0_write lk_X0_38 (zrv_1 G M) (S_X0_write l G (v1 + v4) (M.2 r2 v4) M _ h) rfl ⟨Nat.le_of_ble_eq_true rfl, Nat.le_of_ble_eq_true rfl⟩ (Nat.le_of_ble_eq_true rfl) ⟨Nat.le_of_ble_eq_true rfl, Nat.le_of_ble_eq_true rfl⟩ dX0_writeEntry_30 rfl (fun M3 h => ?_)
      refine zj_iinc (pc := 33) hc dX0_writeEntry_33 rfl (by decide) h.1 ?_
      have h := h.2
      refine zj_goto (pc := 36) (tgt := 15) hc dX0_writeEntry_36 (by decide) ?_
      exact hX15 (v4 + 1) M3 h
  unfold T_X0_writeEntry at h
  refine zj_aload_n (pc := 0) hc dX0_writeEntry_0 rfl ?_
  refine zj_vtv (pc := 1) (st := []) hc ks_X0_startAct iv_X0_startAct lk_X0_29 (zrv_1 G M) (S_X0_startAct l G M _ h) rfl ⟨Nat.le_of_ble_eq_true rfl, Nat.le_of_ble_eq_true rfl⟩ (Nat.le_of_ble_eq_true rfl) ⟨Nat.le_of_ble_eq_true rfl, Nat.le_of_ble_eq_true rfl⟩ dX0_writeEntry_1 rfl (fun M4 h => ?_)
  refine zj_aload_n (pc := 4) hc dX0_writeEntry_4 rfl ?_
  refine zj_iconst (pc := 5) hc dX0_writeEntry_5 (zin _ rfl) ?_
  refine zj_aload_n (pc := 6) hc dX0_writeEntry_6 rfl ?_
  refine zj_alen (pc := 7) hc dX0_writeEntry_7 rfl h.1 ?_
  have h := h.2
  refine zj_sti (pc := 8) (st := []) hc ks_X2_sizeAt st_X2_sizeAt lk_X0_32 (S_X2_sizeAt l G r2 0 (alen r2) M4 _ h) rfl ⟨Nat.le_of_ble_eq_true rfl, Nat.le_of_ble_eq_true rfl⟩ (Nat.le_of_ble_eq_true rfl) ⟨Nat.le_of_ble_eq_true rfl, Nat.le_of_ble_eq_true rfl⟩ dX0_writeEntry_8 rfl (fun y5 M9 h => ?_)
  obtain ⟨hM9, h⟩ := h
  subst hM9
  refine zj_istore_n (pc := 11) hc dX0_writeEntry_11 (by decide) ?_
  refine zj_iconst (pc := 12) hc dX0_writeEntry_12 (zin _ rfl) ?_
  refine zj_istore (pc := 13) hc dX0_writeEntry_13 (by decide) ?_
  exact k15 M4 v1 r2 y5 1 h
set_option maxHeartbeats 4000000 in
set_option maxRecDepth 100000 in
theorem S_X0_copyIn (l : Launch) (G : zG) (r1 : Nat) (v2 : Int) (v3 : Int) (v4 : Int) (M : zMem) (Qr : zMem → Prop) (h : T_X0_copyIn r1 v2 v3 v4 Qr M) : zMetV l yX0_copyIn cX0_copyIn 6 none 1 22 0 0 G [.inr 127, .inr r1, .inl v2, .inl v3, .inl v4] M Qr := by
  refine zmetV (by decide) (Nat.le_of_ble_eq_true rfl) [some (.inr 127), some (.inr r1), some (.inl v2), some (.inl v3), some (.inl v4), none] rfl ?_
  intro p e s m args below meth c hc hr hlk
  have k3 : ∀ (M : zMem) (r1 : Nat) (v2 : Int) (v3 : Int) (v4 : Int) (v5 : Int), T_X0_copyIn_3 r1 v2 v3 v4 Qr v5 M → zJ p l e (zRoom 1 22 0 0) s m args below meth c G 6 0 0 (MQ below (zQv G (Qr)) args s 0 0 (zA G)) 3 [some (.inr 127), some (.inr r1), some (.inl v2), some (.inl v3), some (.inl v4), some (.inl v5)] [] M := by
    intro M r1 v2 v3 v4 v5 h
    unfold T_X0_copyIn_3 at h
    refine zl1_use h (fun v5 M => zJ p l e (zRoom 1 22 0 0) s m args below meth c G 6 0 0 (MQ below (zQv G (Qr)) args s 0 0 (zA G)) 3 [some (.inr 127), some (.inr r1), some (.inl v2), some (.inl v3), some (.inl v4), some (.inl v5)] [] M) (fun X3 hX3 v5 M h => ?_)
    refine zj_iload (pc := 3) hc dX0_copyIn_3 rfl ?_
    refine zj_iload (pc := 5) hc dX0_copyIn_5 rfl ?_
    refine zj_icmp_ge (pc := 7) (tgt := 39) hc dX0_copyIn_7 (by decide) (fun hx1 => ?_) (fun hx1 => ?_)
    · have h := h.1 hx1
      exact zj_vret (pc := 39) hc hr hlk dX0_copyIn_39 (by decide) (by decide) h
    · have h := h.2 hx1
      refine zj_iload_n (pc := 10) hc dX0_copyIn_10 rfl ?_
      refine zj_iload (pc := 11) hc dX0_copyIn_11 rfl ?_
      refine zj_iadd (pc := 13) hc dX0_copyIn_13 h.1 ?_
      have h := h.2
      refine zj_aload_n (pc := 14) hc dX0_copyIn_14 rfl ?_
      refine zj_alen (pc := 15) hc dX0_copyIn_15 rfl h.1 ?_
      have h := h.2
      refine zj_icmp_ge (pc := 16) (tgt := 39) hc dX0_copyIn_16 (by decide) (fun hx2 => ?_) (fun hx2 => ?_)
      · have h := h.1 hx2
        exact zj_vret (pc := 39) hc hr hlk dX0_copyIn_39 (by decide) (by decide) h
      · have h := h.2 hx2
        refine zj_aload_n (pc := 19) hc dX0_copyIn_19 rfl ?_
        refine zj_iload_n (pc := 20) hc dX0_copyIn_20 rfl ?_
        refine zj_iload (pc := 21) hc dX0_copyIn_21 rfl ?_
        refine zj_iadd (pc := 23) hc dX0_copyIn_23 h.1 ?_
        have h := h.2
        refine zj_aload_n (pc := 24) hc dX0_copyIn_24 rfl ?_
        refine zj_iload_n (pc := 25) hc dX0_copyIn_25 rfl ?_
        refine zj_iload (pc := 26) hc dX0_copyIn_26 rfl ?_
        refine zj_iadd (pc := 28) hc dX0_copyIn_28 h.1 ?_
        have h := h.2
        refine zj_iald (pc := 29) hc dX0_copyIn_29 rfl h.1 ?_
        have h := h.2
        refine zj_vtv (pc := 30) (st := []) hc ks_X0_write iv_X0_write lk_X0_38 (zrv_1 G M) (S_X0_write l G (v3 + v5) (M.2 r1 (v2 + v5)) M _ h) rfl ⟨Nat.le_of_ble_eq_true rfl, Nat.le_of_ble_eq_true rfl⟩ (Nat.le_of_ble_eq_true rfl) ⟨Nat.le_of_ble_eq_true rfl, Nat.le_of_ble_eq_true rfl⟩ dX0_copyIn_30 rfl (fun M3 h => ?_)
        refine zj_iinc (pc := 33) hc dX0_copyIn_33 rfl (by decide) h.1 ?_
        have h := h.2
        refine zj_goto (pc := 36) (tgt := 3) hc dX0_copyIn_36 (by decide) ?_
        exact hX3 (v5 + 1) M3 h
  unfold T_X0_copyIn at h
  refine zj_iconst (pc := 0) hc dX0_copyIn_0 (zin _ rfl) ?_
  refine zj_istore (pc := 1) hc dX0_copyIn_1 (by decide) ?_
  exact k3 M r1 v2 v3 v4 0 h
set_option maxHeartbeats 4000000 in
set_option maxRecDepth 100000 in
theorem S_X0_writeThroughJournal (l : Launch) (G : zG) (r1 : Nat) (r2 : Nat) (M : zMem) (Qr : zMem → Prop) (h : T_X0_writeThroughJournal r1 r2 Qr M) : zMetV l yX0_writeThroughJournal cX0_writeThroughJournal 7 none 2 47 0 0 G [.inr 127, .inr r1, .inr r2] M Qr := by
  refine zmetV (by decide) (Nat.le_of_ble_eq_true rfl) [some (.inr 127), some (.inr r1), some (.inr r2), none, none, none, none] rfl ?_
  intro p e s m args below meth c hc hr hlk
  have k162 : ∀ (M : zMem) (r1 : Nat) (r2 : Nat) (v3 : Int) (v6 : Int) (X130 : Int → zMem → Prop) (hX130 : ∀ (v6 : Int) (M : zMem), X130 v6 M → zJ p l e (zRoom 2 47 0 0) s m args below meth c G 7 0 0 (MQ below (zQv G (Qr)) args s 0 0 (zA G)) 130 [some (.inr 127), some (.inr r1), some (.inr r2), some (.inl v3), none, none, some (.inl v6)] [] M), T_X0_writeThroughJournal_162 r1 r2 v3 v6 X130 Qr M → zJ p l e (zRoom 2 47 0 0) s m args below meth c G 7 0 0 (MQ below (zQv G (Qr)) args s 0 0 (zA G)) 162 [some (.inr 127), some (.inr r1), some (.inr r2), some (.inl v3), none, none, some (.inl v6)] [] M := by
    intro M r1 r2 v3 v6 X130 hX130 h
    unfold T_X0_writeThroughJournal_162 at h
    refine zj_iinc (pc := 162) hc dX0_writeThroughJournal_162 rfl (by decide) h.1 ?_
    have h := h.2
    refine zj_goto (pc := 165) (tgt := 130) hc dX0_writeThroughJournal_165 (by decide) ?_
    exact hX130 (v6 + 1) M h
  have k130 : ∀ (M : zMem) (r1 : Nat) (r2 : Nat) (v3 : Int) (v6 : Int), T_X0_writeThroughJournal_130 r1 r2 v3 Qr v6 M → zJ p l e (zRoom 2 47 0 0) s m args below meth c G 7 0 0 (MQ below (zQv G (Qr)) args s 0 0 (zA G)) 130 [some (.inr 127), some (.inr r1), some (.inr r2), some (.inl v3), none, none, some (.inl v6)] [] M := by
    intro M r1 r2 v3 v6 h
    unfold T_X0_writeThroughJournal_130 at h
    refine zl1_use h (fun v6 M => zJ p l e (zRoom 2 47 0 0) s m args below meth c G 7 0 0 (MQ below (zQv G (Qr)) args s 0 0 (zA G)) 130 [some (.inr 127), some (.inr r1), some (.inr r2), some (.inl v3), none, none, some (.inl v6)] [] M) (fun X130 hX130 v6 M h => ?_)
    refine zj_iload (pc := 130) hc dX0_writeThroughJournal_130 rfl ?_
    refine zj_bipush (pc := 132) hc dX0_writeThroughJournal_132 (by decide) (zin _ rfl) ?_
    refine zj_icmp_ge (pc := 134) (tgt := 168) hc dX0_writeThroughJournal_134 (by decide) (fun hx1 => ?_) (fun hx1 => ?_)
    · have h := h.1 hx1
      refine zj_aload_n (pc := 168) hc dX0_writeThroughJournal_168 rfl ?_
      refine zj_aload_n (pc := 169) hc dX0_writeThroughJournal_169 rfl ?_
      refine zj_sipush (pc := 170) hc dX0_writeThroughJournal_170 (by decide) (zin _ rfl) ?_
      refine zj_sipush (pc := 173) hc dX0_writeThroughJournal_173 (by decide) (zin _ rfl) ?_
      refine zj_iload_n (pc := 176) hc dX0_writeThroughJournal_176 rfl ?_
      refine zj_vtv (pc := 177) (st := []) hc ks_X0_copyIn iv_X0_copyIn lk_X0_48 (zrv_1 G M) (S_X0_copyIn l G r1 640 640 v3 M _ h) rfl ⟨Nat.le_of_ble_eq_true rfl, Nat.le_of_ble_eq_true rfl⟩ (Nat.le_of_ble_eq_true rfl) ⟨Nat.le_of_ble_eq_true rfl, Nat.le_of_ble_eq_true rfl⟩ dX0_writeThroughJournal_177 rfl (fun M2 h => ?_)
      refine zj_aload_n (pc := 180) hc dX0_writeThroughJournal_180 rfl ?_
      refine zj_sipush (pc := 181) hc dX0_writeThroughJournal_181 (by decide) (zin _ rfl) ?_
      refine zj_iconst (pc := 184) hc dX0_writeThroughJournal_184 (zin _ rfl) ?_
      refine zj_vtv (pc := 185) (st := []) hc ks_X0_write iv_X0_write lk_X0_38 (zrv_1 G M2) (S_X0_write l G 661 0 M2 _ h) rfl ⟨Nat.le_of_ble_eq_true rfl, Nat.le_of_ble_eq_true rfl⟩ (Nat.le_of_ble_eq_true rfl) ⟨Nat.le_of_ble_eq_true rfl, Nat.le_of_ble_eq_true rfl⟩ dX0_writeThroughJournal_185 rfl (fun M3 h => ?_)
      exact zj_vret (pc := 188) hc hr hlk dX0_writeThroughJournal_188 (by decide) (by decide) h
    · have h := h.2 hx1
      refine zj_aload_n (pc := 137) hc dX0_writeThroughJournal_137 rfl ?_
      refine zj_iload (pc := 138) hc dX0_writeThroughJournal_138 rfl ?_
      refine zj_iald (pc := 140) hc dX0_writeThroughJournal_140 rfl h.1 ?_
      have h := h.2
      refine zj_iconst (pc := 141) hc dX0_writeThroughJournal_141 (zin _ rfl) ?_
      refine zj_icmp_ne (pc := 142) (tgt := 162) hc dX0_writeThroughJournal_142 (by decide) (fun hx4 => ?_) (fun hx4 => ?_)
      · have h := h.1 hx4
        exact k162 M r1 r2 v3 v6 X130 hX130 h
      · have h := h.2 hx4
        refine zj_aload_n (pc := 145) hc dX0_writeThroughJournal_145 rfl ?_
        refine zj_aload_n (pc := 146) hc dX0_writeThroughJournal_146 rfl ?_
        refine zj_iload (pc := 147) hc dX0_writeThroughJournal_147 rfl ?_
        refine zj_bipush (pc := 149) hc dX0_writeThroughJournal_149 (by decide) (zin _ rfl) ?_
        refine zj_imul (pc := 151) hc dX0_writeThroughJournal_151 h.1 ?_
        have h := h.2
        refine zj_iload (pc := 152) hc dX0_writeThroughJournal_152 rfl ?_
        refine zj_bipush (pc := 154) hc dX0_writeThroughJournal_154 (by decide) (zin _ rfl) ?_
        refine zj_imul (pc := 156) hc dX0_writeThroughJournal_156 h.1 ?_
        have h := h.2
        refine zj_bipush (pc := 157) hc dX0_writeThroughJournal_157 (by decide) (zin _ rfl) ?_
        refine zj_vtv (pc := 159) (st := []) hc ks_X0_copyIn iv_X0_copyIn lk_X0_48 (zrv_1 G M) (S_X0_copyIn l G r1 (v6 * 64) (v6 * 64) 64 M _ h) rfl ⟨Nat.le_of_ble_eq_true rfl, Nat.le_of_ble_eq_true rfl⟩ (Nat.le_of_ble_eq_true rfl) ⟨Nat.le_of_ble_eq_true rfl, Nat.le_of_ble_eq_true rfl⟩ dX0_writeThroughJournal_159 rfl (fun M5 h => ?_)
        exact k162 M5 r1 r2 v3 v6 X130 hX130 h
  have k102 : ∀ (M : zMem) (r1 : Nat) (r2 : Nat) (v3 : Int) (v5 : Int) (v6 : Int) (X60 : Int → Int → zMem → Prop) (hX60 : ∀ (v5 : Int) (v6 : Int) (M : zMem), X60 v5 v6 M → zJ p l e (zRoom 2 47 0 0) s m args below meth c G 7 0 0 (MQ below (zQv G (Qr)) args s 0 0 (zA G)) 60 [some (.inr 127), some (.inr r1), some (.inr r2), some (.inl v3), none, some (.inl v5), some (.inl v6)] [] M), T_X0_writeThroughJournal_102 r1 r2 v3 v5 v6 X60 Qr M → zJ p l e (zRoom 2 47 0 0) s m args below meth c G 7 0 0 (MQ below (zQv G (Qr)) args s 0 0 (zA G)) 102 [some (.inr 127), some (.inr r1), some (.inr r2), some (.inl v3), none, some (.inl v5), some (.inl v6)] [] M := by
    intro M r1 r2 v3 v5 v6 X60 hX60 h
    unfold T_X0_writeThroughJournal_102 at h
    refine zj_iinc (pc := 102) hc dX0_writeThroughJournal_102 rfl (by decide) h.1 ?_
    have h := h.2
    refine zj_goto (pc := 105) (tgt := 60) hc dX0_writeThroughJournal_105 (by decide) ?_
    exact hX60 v5 (v6 + 1) M h
  have k60 : ∀ (M : zMem) (r1 : Nat) (r2 : Nat) (v3 : Int) (v5 : Int) (v6 : Int), T_X0_writeThroughJournal_60 r1 r2 v3 Qr v5 v6 M → zJ p l e (zRoom 2 47 0 0) s m args below meth c G 7 0 0 (MQ below (zQv G (Qr)) args s 0 0 (zA G)) 60 [some (.inr 127), some (.inr r1), some (.inr r2), some (.inl v3), none, some (.inl v5), some (.inl v6)] [] M := by
    intro M r1 r2 v3 v5 v6 h
    unfold T_X0_writeThroughJournal_60 at h
    refine zl2_use h (fun v5 v6 M => zJ p l e (zRoom 2 47 0 0) s m args below meth c G 7 0 0 (MQ below (zQv G (Qr)) args s 0 0 (zA G)) 60 [some (.inr 127), some (.inr r1), some (.inr r2), some (.inl v3), none, some (.inl v5), some (.inl v6)] [] M) (fun X60 hX60 v5 v6 M h => ?_)
    refine zj_iload (pc := 60) hc dX0_writeThroughJournal_60 rfl ?_
    refine zj_bipush (pc := 62) hc dX0_writeThroughJournal_62 (by decide) (zin _ rfl) ?_
    refine zj_icmp_ge (pc := 64) (tgt := 108) hc dX0_writeThroughJournal_64 (by decide) (fun hx6 => ?_) (fun hx6 => ?_)
    · have h := h.1 hx6
      refine zj_aload_n (pc := 108) hc dX0_writeThroughJournal_108 rfl ?_
      refine zj_aload_n (pc := 109) hc dX0_writeThroughJournal_109 rfl ?_
      refine zj_sipush (pc := 110) hc dX0_writeThroughJournal_110 (by decide) (zin _ rfl) ?_
      refine zj_iload (pc := 113) hc dX0_writeThroughJournal_113 rfl ?_
      refine zj_iload_n (pc := 115) hc dX0_writeThroughJournal_115 rfl ?_
      refine zj_vtv (pc := 116) (st := []) hc ks_X0_copyIn iv_X0_copyIn lk_X0_48 (zrv_1 G M) (S_X0_copyIn l G r1 640 v5 v3 M _ h) rfl ⟨Nat.le_of_ble_eq_true rfl, Nat.le_of_ble_eq_true rfl⟩ (Nat.le_of_ble_eq_true rfl) ⟨Nat.le_of_ble_eq_true rfl, Nat.le_of_ble_eq_true rfl⟩ dX0_writeThroughJournal_116 rfl (fun M7 h => ?_)
      refine zj_aload_n (pc := 119) hc dX0_writeThroughJournal_119 rfl ?_
      refine zj_sipush (pc := 120) hc dX0_writeThroughJournal_120 (by decide) (zin _ rfl) ?_
      refine zj_iconst (pc := 123) hc dX0_writeThroughJournal_123 (zin _ rfl) ?_
      refine zj_vtv (pc := 124) (st := []) hc ks_X0_write iv_X0_write lk_X0_38 (zrv_1 G M7) (S_X0_write l G 661 1 M7 _ h) rfl ⟨Nat.le_of_ble_eq_true rfl, Nat.le_of_ble_eq_true rfl⟩ (Nat.le_of_ble_eq_true rfl) ⟨Nat.le_of_ble_eq_true rfl, Nat.le_of_ble_eq_true rfl⟩ dX0_writeThroughJournal_124 rfl (fun M8 h => ?_)
      refine zj_iconst (pc := 127) hc dX0_writeThroughJournal_127 (zin _ rfl) ?_
      refine zj_istore (pc := 128) hc dX0_writeThroughJournal_128 (by decide) ?_
      refine zj_mask (bs := [true, true, true, true, true, false, true]) ?_
      exact k130 M8 r1 r2 v3 0 h
    · have h := h.2 hx6
      refine zj_aload_n (pc := 67) hc dX0_writeThroughJournal_67 rfl ?_
      refine zj_iload (pc := 68) hc dX0_writeThroughJournal_68 rfl ?_
      refine zj_iald (pc := 70) hc dX0_writeThroughJournal_70 rfl h.1 ?_
      have h := h.2
      refine zj_iconst (pc := 71) hc dX0_writeThroughJournal_71 (zin _ rfl) ?_
      refine zj_icmp_ne (pc := 72) (tgt := 102) hc dX0_writeThroughJournal_72 (by decide) (fun hx9 => ?_) (fun hx9 => ?_)
      · have h := h.1 hx9
        exact k102 M r1 r2 v3 v5 v6 X60 hX60 h
      · have h := h.2 hx9
        refine zj_aload_n (pc := 75) hc dX0_writeThroughJournal_75 rfl ?_
        refine zj_iload (pc := 76) hc dX0_writeThroughJournal_76 rfl ?_
        refine zj_iload (pc := 78) hc dX0_writeThroughJournal_78 rfl ?_
        refine zj_vtv (pc := 80) (st := []) hc ks_X0_write iv_X0_write lk_X0_38 (zrv_1 G M) (S_X0_write l G v5 v6 M _ h) rfl ⟨Nat.le_of_ble_eq_true rfl, Nat.le_of_ble_eq_true rfl⟩ (Nat.le_of_ble_eq_true rfl) ⟨Nat.le_of_ble_eq_true rfl, Nat.le_of_ble_eq_true rfl⟩ dX0_writeThroughJournal_80 rfl (fun M10 h => ?_)
        refine zj_aload_n (pc := 83) hc dX0_writeThroughJournal_83 rfl ?_
        refine zj_aload_n (pc := 84) hc dX0_writeThroughJournal_84 rfl ?_
        refine zj_iload (pc := 85) hc dX0_writeThroughJournal_85 rfl ?_
        refine zj_bipush (pc := 87) hc dX0_writeThroughJournal_87 (by decide) (zin _ rfl) ?_
        refine zj_imul (pc := 89) hc dX0_writeThroughJournal_89 h.1 ?_
        have h := h.2
        refine zj_iload (pc := 90) hc dX0_writeThroughJournal_90 rfl ?_
        refine zj_iconst (pc := 92) hc dX0_writeThroughJournal_92 (zin _ rfl) ?_
        refine zj_iadd (pc := 93) hc dX0_writeThroughJournal_93 h.1 ?_
        have h := h.2
        refine zj_bipush (pc := 94) hc dX0_writeThroughJournal_94 (by decide) (zin _ rfl) ?_
        refine zj_vtv (pc := 96) (st := []) hc ks_X0_copyIn iv_X0_copyIn lk_X0_48 (zrv_1 G M10) (S_X0_copyIn l G r1 (v6 * 64) (v5 + 1) 64 M10 _ h) rfl ⟨Nat.le_of_ble_eq_true rfl, Nat.le_of_ble_eq_true rfl⟩ (Nat.le_of_ble_eq_true rfl) ⟨Nat.le_of_ble_eq_true rfl, Nat.le_of_ble_eq_true rfl⟩ dX0_writeThroughJournal_96 rfl (fun M11 h => ?_)
        refine zj_iinc (pc := 99) hc dX0_writeThroughJournal_99 rfl (by decide) h.1 ?_
        have h := h.2
        exact k102 M11 r1 r2 v3 (v5 + 65) v6 X60 hX60 h
  have k19 : ∀ (M : zMem) (r1 : Nat) (r2 : Nat) (v3 : Int) (v4 : Int) (v5 : Int), T_X0_writeThroughJournal_19 r1 r2 v3 Qr v4 v5 M → zJ p l e (zRoom 2 47 0 0) s m args below meth c G 7 0 0 (MQ below (zQv G (Qr)) args s 0 0 (zA G)) 19 [some (.inr 127), some (.inr r1), some (.inr r2), some (.inl v3), some (.inl v4), some (.inl v5), none] [] M := by
    intro M r1 r2 v3 v4 v5 h
    unfold T_X0_writeThroughJournal_19 at h
    refine zp2_use h (fun v4 v5 => zJ p l e (zRoom 2 47 0 0) s m args below meth c G 7 0 0 (MQ below (zQv G (Qr)) args s 0 0 (zA G)) 19 [some (.inr 127), some (.inr r1), some (.inr r2), some (.inl v3), some (.inl v4), some (.inl v5), none] [] M) (fun X19 hX19 v4 v5 h => ?_)
    refine zj_iload (pc := 19) hc dX0_writeThroughJournal_19 rfl ?_
    refine zj_bipush (pc := 21) hc dX0_writeThroughJournal_21 (by decide) (zin _ rfl) ?_
    refine zj_icmp_ge (pc := 23) (tgt := 41) hc dX0_writeThroughJournal_23 (by decide) (fun hx12 => ?_) (fun hx12 => ?_)
    · have h := h.1 hx12
      refine zj_sipush (pc := 41) hc dX0_writeThroughJournal_41 (by decide) (zin _ rfl) ?_
      refine zj_istore (pc := 44) hc dX0_writeThroughJournal_44 (by decide) ?_
      refine zj_aload_n (pc := 46) hc dX0_writeThroughJournal_46 rfl ?_
      refine zj_iload (pc := 47) hc dX0_writeThroughJournal_47 rfl ?_
      refine zj_iload (pc := 49) hc dX0_writeThroughJournal_49 rfl ?_
      refine zj_vtv (pc := 51) (st := []) hc ks_X0_write iv_X0_write lk_X0_38 (zrv_1 G M) (S_X0_write l G 662 v4 M _ h) rfl ⟨Nat.le_of_ble_eq_true rfl, Nat.le_of_ble_eq_true rfl⟩ (Nat.le_of_ble_eq_true rfl) ⟨Nat.le_of_ble_eq_true rfl, Nat.le_of_ble_eq_true rfl⟩ dX0_writeThroughJournal_51 rfl (fun M13 h => ?_)
      refine zj_iinc (pc := 54) hc dX0_writeThroughJournal_54 rfl (by decide) h.1 ?_
      have h := h.2
      refine zj_iconst (pc := 57) hc dX0_writeThroughJournal_57 (zin _ rfl) ?_
      refine zj_istore (pc := 58) hc dX0_writeThroughJournal_58 (by decide) ?_
      refine zj_mask (bs := [true, true, true, true, false, true, true]) ?_
      exact k60 M13 r1 r2 v3 (662 + 1) 0 h
    · have h := h.2 hx12
      refine zj_iload (pc := 26) hc dX0_writeThroughJournal_26 rfl ?_
      refine zj_aload_n (pc := 28) hc dX0_writeThroughJournal_28 rfl ?_
      refine zj_iload (pc := 29) hc dX0_writeThroughJournal_29 rfl ?_
      refine zj_iald (pc := 31) hc dX0_writeThroughJournal_31 rfl h.1 ?_
      have h := h.2
      refine zj_iadd (pc := 32) hc dX0_writeThroughJournal_32 h.1 ?_
      have h := h.2
      refine zj_istore (pc := 33) hc dX0_writeThroughJournal_33 (by decide) ?_
      refine zj_iinc (pc := 35) hc dX0_writeThroughJournal_35 rfl (by decide) h.1 ?_
      have h := h.2
      refine zj_goto (pc := 38) (tgt := 19) hc dX0_writeThroughJournal_38 (by decide) ?_
      exact hX19 (v4 + (M.2 r2 v5)) (v5 + 1) h
  unfold T_X0_writeThroughJournal at h
  refine zj_aload_n (pc := 0) hc dX0_writeThroughJournal_0 rfl ?_
  refine zj_vtv (pc := 1) (st := []) hc ks_X0_startAct iv_X0_startAct lk_X0_29 (zrv_1 G M) (S_X0_startAct l G M _ h) rfl ⟨Nat.le_of_ble_eq_true rfl, Nat.le_of_ble_eq_true rfl⟩ (Nat.le_of_ble_eq_true rfl) ⟨Nat.le_of_ble_eq_true rfl, Nat.le_of_ble_eq_true rfl⟩ dX0_writeThroughJournal_1 rfl (fun M14 h => ?_)
  refine zj_iconst (pc := 4) hc dX0_writeThroughJournal_4 (zin _ rfl) ?_
  refine zj_iconst (pc := 5) hc dX0_writeThroughJournal_5 (zin _ rfl) ?_
  refine zj_aload_n (pc := 6) hc dX0_writeThroughJournal_6 rfl ?_
  refine zj_sti (pc := 7) (st := [.inl 2, .inl 1]) hc ks_X4_inUse st_X4_inUse lk_X0_42 (S_X4_inUse l G r1 M14 _ h) rfl ⟨Nat.le_of_ble_eq_true rfl, Nat.le_of_ble_eq_true rfl⟩ (Nat.le_of_ble_eq_true rfl) ⟨Nat.le_of_ble_eq_true rfl, Nat.le_of_ble_eq_true rfl⟩ dX0_writeThroughJournal_7 rfl (fun y15 M9 h => ?_)
  obtain ⟨hM9, h⟩ := h
  subst hM9
  refine zj_imul (pc := 10) hc dX0_writeThroughJournal_10 h.1 ?_
  have h := h.2
  refine zj_iadd (pc := 11) hc dX0_writeThroughJournal_11 h.1 ?_
  have h := h.2
  refine zj_istore_n (pc := 12) hc dX0_writeThroughJournal_12 (by decide) ?_
  refine zj_iconst (pc := 13) hc dX0_writeThroughJournal_13 (zin _ rfl) ?_
  refine zj_istore (pc := 14) hc dX0_writeThroughJournal_14 (by decide) ?_
  refine zj_iconst (pc := 16) hc dX0_writeThroughJournal_16 (zin _ rfl) ?_
  refine zj_istore (pc := 17) hc dX0_writeThroughJournal_17 (by decide) ?_
  exact k19 M14 r1 r2 (1 + (2 * y15)) 0 0 h
set_option maxHeartbeats 4000000 in
set_option maxRecDepth 100000 in
theorem S_X0_clearBehindLogs (l : Launch) (G : zG) (M : zMem) (Qr : zMem → Prop) (h : T_X0_clearBehindLogs Qr M) : zMetV l yX0_clearBehindLogs cX0_clearBehindLogs 5 none 5 111 0 0 G [.inr 127] M Qr := by
  refine zmetV (by decide) (Nat.le_of_ble_eq_true rfl) [some (.inr 127), none, none, none, none] rfl ?_
  intro p e s m args below meth c hc hr hlk
  have k62 : ∀ (M : zMem) (v1 : Int) (v2 : Int) (v3 : Int) (v4 : Int) (X10 : Int → zMem → Prop) (hX10 : ∀ (v2 : Int) (M : zMem), X10 v2 M → zJ p l e (zRoom 5 111 0 0) s m args below meth c G 5 0 0 (MQ below (zQv G (Qr)) args s 0 0 (zA G)) 10 [some (.inr 127), some (.inl v1), some (.inl v2), none, none] [] M) (X34 : Int → zMem → Prop) (hX34 : ∀ (v4 : Int) (M : zMem), X34 v4 M → zJ p l e (zRoom 5 111 0 0) s m args below meth c G 5 0 0 (MQ below (zQv G (Qr)) args s 0 0 (zA G)) 34 [some (.inr 127), some (.inl v1), some (.inl v2), some (.inl v3), some (.inl v4)] [] M), T_X0_clearBehindLogs_62 v1 v2 v3 v4 X10 X34 Qr M → zJ p l e (zRoom 5 111 0 0) s m args below meth c G 5 0 0 (MQ below (zQv G (Qr)) args s 0 0 (zA G)) 62 [some (.inr 127), some (.inl v1), some (.inl v2), some (.inl v3), some (.inl v4)] [] M := by
    intro M v1 v2 v3 v4 X10 hX10 X34 hX34 h
    unfold T_X0_clearBehindLogs_62 at h
    refine zj_iinc (pc := 62) hc dX0_clearBehindLogs_62 rfl (by decide) h.1 ?_
    have h := h.2
    refine zj_goto (pc := 65) (tgt := 34) hc dX0_clearBehindLogs_65 (by decide) ?_
    exact hX34 (v4 + 1) M h
  have k34 : ∀ (M : zMem) (v1 : Int) (v2 : Int) (v3 : Int) (X10 : Int → zMem → Prop) (hX10 : ∀ (v2 : Int) (M : zMem), X10 v2 M → zJ p l e (zRoom 5 111 0 0) s m args below meth c G 5 0 0 (MQ below (zQv G (Qr)) args s 0 0 (zA G)) 10 [some (.inr 127), some (.inl v1), some (.inl v2), none, none] [] M) (v4 : Int), T_X0_clearBehindLogs_34 v1 v2 v3 X10 Qr v4 M → zJ p l e (zRoom 5 111 0 0) s m args below meth c G 5 0 0 (MQ below (zQv G (Qr)) args s 0 0 (zA G)) 34 [some (.inr 127), some (.inl v1), some (.inl v2), some (.inl v3), some (.inl v4)] [] M := by
    intro M v1 v2 v3 X10 hX10 v4 h
    unfold T_X0_clearBehindLogs_34 at h
    refine zl1_use h (fun v4 M => zJ p l e (zRoom 5 111 0 0) s m args below meth c G 5 0 0 (MQ below (zQv G (Qr)) args s 0 0 (zA G)) 34 [some (.inr 127), some (.inl v1), some (.inl v2), some (.inl v3), some (.inl v4)] [] M) (fun X34 hX34 v4 M h => ?_)
    refine zj_iload (pc := 34) hc dX0_clearBehindLogs_34 rfl ?_
    refine zj_iload_n (pc := 36) hc dX0_clearBehindLogs_36 rfl ?_
    refine zj_iconst (pc := 37) hc dX0_clearBehindLogs_37 (zin _ rfl) ?_
    refine zj_iadd (pc := 38) hc dX0_clearBehindLogs_38 h.1 ?_
    have h := h.2
    refine zj_bipush (pc := 39) hc dX0_clearBehindLogs_39 (by decide) (zin _ rfl) ?_
    refine zj_imul (pc := 41) hc dX0_clearBehindLogs_41 h.1 ?_
    have h := h.2
    refine zj_icmp_ge (pc := 42) (tgt := 68) hc dX0_clearBehindLogs_42 (by decide) (fun hx1 => ?_) (fun hx1 => ?_)
    · have h := h.1 hx1
      refine zj_iinc (pc := 68) hc dX0_clearBehindLogs_68 rfl (by decide) h.1 ?_
      have h := h.2
      refine zj_goto (pc := 71) (tgt := 10) hc dX0_clearBehindLogs_71 (by decide) ?_
      refine zj_mask (bs := [true, true, true, false, false]) ?_
      exact hX10 (v2 + 1) M h
    · have h := h.2 hx1
      refine zj_aload_n (pc := 45) hc dX0_clearBehindLogs_45 rfl ?_
      refine zg_1_0 (pc := 46) hc lk_X0_9 dX0_clearBehindLogs_46 ?_
      refine zj_iload (pc := 49) hc dX0_clearBehindLogs_49 rfl ?_
      refine zj_iald (pc := 51) hc dX0_clearBehindLogs_51 alen_64 h.1 ?_
      have h := h.2
      refine zj_if_eq (pc := 52) (tgt := 62) hc dX0_clearBehindLogs_52 (by decide) (fun hx2 => ?_) (fun hx2 => ?_)
      · have h := h.1 hx2
        exact k62 M v1 v2 v3 v4 X10 hX10 X34 hX34 h
      · have h := h.2 hx2
        refine zj_aload_n (pc := 55) hc dX0_clearBehindLogs_55 rfl ?_
        refine zj_iload (pc := 56) hc dX0_clearBehindLogs_56 rfl ?_
        refine zj_iconst (pc := 58) hc dX0_clearBehindLogs_58 (zin _ rfl) ?_
        refine zj_vtv (pc := 59) (st := []) hc ks_X0_write iv_X0_write lk_X0_38 (zrv_1 G M) (S_X0_write l G v4 0 M _ h) rfl ⟨Nat.le_of_ble_eq_true rfl, Nat.le_of_ble_eq_true rfl⟩ (Nat.le_of_ble_eq_true rfl) ⟨Nat.le_of_ble_eq_true rfl, Nat.le_of_ble_eq_true rfl⟩ dX0_clearBehindLogs_59 rfl (fun M3 h => ?_)
        exact k62 M3 v1 v2 v3 v4 X10 hX10 X34 hX34 h
  have k10 : ∀ (M : zMem) (v1 : Int) (v2 : Int), T_X0_clearBehindLogs_10 v1 Qr v2 M → zJ p l e (zRoom 5 111 0 0) s m args below meth c G 5 0 0 (MQ below (zQv G (Qr)) args s 0 0 (zA G)) 10 [some (.inr 127), some (.inl v1), some (.inl v2), none, none] [] M := by
    intro M v1 v2 h
    unfold T_X0_clearBehindLogs_10 at h
    refine zl1_use h (fun v2 M => zJ p l e (zRoom 5 111 0 0) s m args below meth c G 5 0 0 (MQ below (zQv G (Qr)) args s 0 0 (zA G)) 10 [some (.inr 127), some (.inl v1), some (.inl v2), none, none] [] M) (fun X10 hX10 v2 M h => ?_)
    refine zj_iload_n (pc := 10) hc dX0_clearBehindLogs_10 rfl ?_
    refine zj_iload_n (pc := 11) hc dX0_clearBehindLogs_11 rfl ?_
    refine zj_icmp_ge (pc := 12) (tgt := 74) hc dX0_clearBehindLogs_12 (by decide) (fun hx4 => ?_) (fun hx4 => ?_)
    · have h := h.1 hx4
      exact zj_vret (pc := 74) hc hr hlk dX0_clearBehindLogs_74 (by decide) (by decide) h
    · have h := h.2 hx4
      refine zj_aload_n (pc := 15) hc dX0_clearBehindLogs_15 rfl ?_
      refine zg_1_0 (pc := 16) hc lk_X0_9 dX0_clearBehindLogs_16 ?_
      refine zj_iload_n (pc := 19) hc dX0_clearBehindLogs_19 rfl ?_
      refine zj_sti (pc := 20) (st := []) hc ks_X4_pageAt st_X4_pageAt lk_X0_67 (S_X4_pageAt l G 64 v2 M _ h) rfl ⟨Nat.le_of_ble_eq_true rfl, Nat.le_of_ble_eq_true rfl⟩ (Nat.le_of_ble_eq_true rfl) ⟨Nat.le_of_ble_eq_true rfl, Nat.le_of_ble_eq_true rfl⟩ dX0_clearBehindLogs_20 rfl (fun y5 M9 h => ?_)
      obtain ⟨hM9, h⟩ := h
      subst hM9
      refine zj_istore_n (pc := 23) hc dX0_clearBehindLogs_23 (by decide) ?_
      refine zj_aload_n (pc := 24) hc dX0_clearBehindLogs_24 rfl ?_
      refine zg_1_0 (pc := 25) hc lk_X0_9 dX0_clearBehindLogs_25 ?_
      refine zj_iload_n (pc := 28) hc dX0_clearBehindLogs_28 rfl ?_
      refine zj_sti (pc := 29) (st := []) hc ks_X4_logEnd st_X4_logEnd lk_X0_71 (S_X4_logEnd l G 64 y5 M _ h) rfl ⟨Nat.le_of_ble_eq_true rfl, Nat.le_of_ble_eq_true rfl⟩ (Nat.le_of_ble_eq_true rfl) ⟨Nat.le_of_ble_eq_true rfl, Nat.le_of_ble_eq_true rfl⟩ dX0_clearBehindLogs_29 rfl (fun y6 M9 h => ?_)
      obtain ⟨hM9, h⟩ := h
      subst hM9
      refine zj_istore (pc := 32) hc dX0_clearBehindLogs_32 (by decide) ?_
      exact k34 M v1 v2 y5 X10 hX10 y6 h
  unfold T_X0_clearBehindLogs at h
  refine zj_aload_n (pc := 0) hc dX0_clearBehindLogs_0 rfl ?_
  refine zg_1_0 (pc := 1) hc lk_X0_9 dX0_clearBehindLogs_1 ?_
  refine zj_sti (pc := 4) (st := []) hc ks_X4_inUse st_X4_inUse lk_X0_42 (S_X4_inUse l G 64 M _ h) rfl ⟨Nat.le_of_ble_eq_true rfl, Nat.le_of_ble_eq_true rfl⟩ (Nat.le_of_ble_eq_true rfl) ⟨Nat.le_of_ble_eq_true rfl, Nat.le_of_ble_eq_true rfl⟩ dX0_clearBehindLogs_4 rfl (fun y7 M9 h => ?_)
  obtain ⟨hM9, h⟩ := h
  subst hM9
  refine zj_istore_n (pc := 7) hc dX0_clearBehindLogs_7 (by decide) ?_
  refine zj_iconst (pc := 8) hc dX0_clearBehindLogs_8 (zin _ rfl) ?_
  refine zj_istore_n (pc := 9) hc dX0_clearBehindLogs_9 (by decide) ?_
  exact k10 M y7 0 h
