set_option maxHeartbeats 4000000 in
set_option maxRecDepth 100000 in
theorem S_X4_packedSize (l : Launch) (G : zG) (r0 : Nat) (v1 : Int) (M : zMem) (Qr : Int → Prop) (h : T_X4_packedSize r0 v1 Qr M) : zMetI l yX4_packedSize cX4_packedSize 2 (some .int) 1 21 0 0 G [.inr r0, .inl v1] M (fun r9 M9 => M = M9 ∧ Qr r9) := by
  refine zmetI (by decide) (Nat.le_of_ble_eq_true rfl) [some (.inr r0), some (.inl v1)] rfl ?_
  intro p e s m args below meth c hc hr hlk
  unfold T_X4_packedSize at h
  refine zj_iconst (pc := 0) hc dX4_packedSize_0 (zin _ rfl) ?_
  refine zj_bipush (pc := 1) hc dX4_packedSize_1 (by decide) (zin _ rfl) ?_
  refine zj_aload_n (pc := 3) hc dX4_packedSize_3 rfl ?_
  refine zj_iload_n (pc := 4) hc dX4_packedSize_4 rfl ?_
  refine zj_bipush (pc := 5) hc dX4_packedSize_5 (by decide) (zin _ rfl) ?_
  refine zj_imul (pc := 7) hc dX4_packedSize_7 h.1 ?_
  have h := h.2
  refine zj_iconst (pc := 8) hc dX4_packedSize_8 (zin _ rfl) ?_
  refine zj_iadd (pc := 9) hc dX4_packedSize_9 h.1 ?_
  have h := h.2
  refine zj_iald (pc := 10) hc dX4_packedSize_10 rfl h.1 ?_
  have h := h.2
  refine zj_min (pc := 11) hc dX4_packedSize_11 lk_X4_26 st_min in_Math co_min (Nat.le_of_ble_eq_true rfl) (Nat.le_of_ble_eq_true rfl) ⟨Nat.le_of_ble_eq_true rfl, Nat.le_of_ble_eq_true rfl⟩ ?_
  refine zj_max (pc := 14) hc dX4_packedSize_14 lk_X4_32 st_max in_Math co_max (Nat.le_of_ble_eq_true rfl) (Nat.le_of_ble_eq_true rfl) ⟨Nat.le_of_ble_eq_true rfl, Nat.le_of_ble_eq_true rfl⟩ ?_
  exact zj_iret (pc := 17) hc hr hlk dX4_packedSize_17 (by decide) (by decide) ⟨rfl, h⟩
set_option maxHeartbeats 4000000 in
set_option maxRecDepth 100000 in
theorem S_X4_logStart (l : Launch) (G : zG) (r0 : Nat) (v1 : Int) (M : zMem) (Qr : Int → Prop) (h : T_X4_logStart r0 v1 Qr M) : zMetI l yX4_logStart cX4_logStart 2 (some .int) 2 42 0 0 G [.inr r0, .inl v1] M (fun r9 M9 => M = M9 ∧ Qr r9) := by
  refine zmetI (by decide) (Nat.le_of_ble_eq_true rfl) [some (.inr r0), some (.inl v1)] rfl ?_
  intro p e s m args below meth c hc hr hlk
  unfold T_X4_logStart at h
  refine zj_iload_n (pc := 0) hc dX4_logStart_0 rfl ?_
  refine zj_bipush (pc := 1) hc dX4_logStart_1 (by decide) (zin _ rfl) ?_
  refine zj_imul (pc := 3) hc dX4_logStart_3 h.1 ?_
  have h := h.2
  refine zj_iconst (pc := 4) hc dX4_logStart_4 (zin _ rfl) ?_
  refine zj_iadd (pc := 5) hc dX4_logStart_5 h.1 ?_
  have h := h.2
  refine zj_aload_n (pc := 6) hc dX4_logStart_6 rfl ?_
  refine zj_iload_n (pc := 7) hc dX4_logStart_7 rfl ?_
  refine zj_sti (pc := 8) (st := [.inl ((v1 * 64) + 2)]) hc ks_X4_packedSize st_X4_packedSize lk_X4_35 (S_X4_packedSize l G r0 v1 M _ h) rfl ⟨Nat.le_of_ble_eq_true rfl, Nat.le_of_ble_eq_true rfl⟩ (Nat.le_of_ble_eq_true rfl) ⟨Nat.le_of_ble_eq_true rfl, Nat.le_of_ble_eq_true rfl⟩ dX4_logStart_8 rfl (fun y1 M9 h => ?_)
  obtain ⟨hM9, h⟩ := h
  subst hM9
  refine zj_iadd (pc := 11) hc dX4_logStart_11 h.1 ?_
  have h := h.2
  exact zj_iret (pc := 12) hc hr hlk dX4_logStart_12 (by decide) (by decide) ⟨rfl, h⟩
set_option maxHeartbeats 4000000 in
set_option maxRecDepth 100000 in
theorem S_X4_placeBehind (l : Launch) (G : zG) (r0 : Nat) (v1 : Int) (v2 : Int) (M : zMem) (Qr : Int → Prop) (h : T_X4_placeBehind r0 v1 v2 Qr M) : zMetI l yX4_placeBehind cX4_placeBehind 7 (some .int) 3 64 0 0 G [.inr r0, .inl v1, .inl v2] M (fun r9 M9 => M = M9 ∧ Qr r9) := by
  refine zmetI (by decide) (Nat.le_of_ble_eq_true rfl) [some (.inr r0), some (.inl v1), some (.inl v2), none, none, none, none] rfl ?_
  intro p e s m args below meth c hc hr hlk
  have k17 : ∀ (r0 : Nat) (v2 : Int) (v4 : Int) (v3 : Int) (v5 : Int), T_X4_placeBehind_17 r0 v2 v4 Qr v3 v5 M → zJ p l e (zRoom 3 64 0 0) s m args below meth c G 7 0 0 (MQ below (zQi G (fun r9 M9 => M = M9 ∧ Qr r9)) args s 0 0 (zA G)) 17 [some (.inr r0), none, some (.inl v2), some (.inl v3), some (.inl v4), some (.inl v5), none] [] M := by
    intro r0 v2 v4 v3 v5 h
    unfold T_X4_placeBehind_17 at h
    refine zp2_use h (fun v3 v5 => zJ p l e (zRoom 3 64 0 0) s m args below meth c G 7 0 0 (MQ below (zQi G (fun r9 M9 => M = M9 ∧ Qr r9)) args s 0 0 (zA G)) 17 [some (.inr r0), none, some (.inl v2), some (.inl v3), some (.inl v4), some (.inl v5), none] [] M) (fun X17 hX17 v3 v5 h => ?_)
    refine zj_iload (pc := 17) hc dX4_placeBehind_17 rfl ?_
    refine zj_bipush (pc := 19) hc dX4_placeBehind_19 (by decide) (zin _ rfl) ?_
    refine zj_icmp_ge (pc := 21) (tgt := 58) hc dX4_placeBehind_21 (by decide) (fun hx1 => ?_) (fun hx1 => ?_)
    · have h := h.1 hx1
      refine zj_iload_n (pc := 58) hc dX4_placeBehind_58 rfl ?_
      exact zj_iret (pc := 59) hc hr hlk dX4_placeBehind_59 (by decide) (by decide) ⟨rfl, h⟩
    · have h := h.2 hx1
      refine zj_iload (pc := 24) hc dX4_placeBehind_24 rfl ?_
      refine zj_iload_n (pc := 26) hc dX4_placeBehind_26 rfl ?_
      refine zj_icmp_ge (pc := 27) (tgt := 58) hc dX4_placeBehind_27 (by decide) (fun hx2 => ?_) (fun hx2 => ?_)
      · have h := h.1 hx2
        refine zj_iload_n (pc := 58) hc dX4_placeBehind_58 rfl ?_
        exact zj_iret (pc := 59) hc hr hlk dX4_placeBehind_59 (by decide) (by decide) ⟨rfl, h⟩
      · have h := h.2 hx2
        refine zj_aload_n (pc := 30) hc dX4_placeBehind_30 rfl ?_
        refine zj_iload_n (pc := 31) hc dX4_placeBehind_31 rfl ?_
        refine zj_iload (pc := 32) hc dX4_placeBehind_32 rfl ?_
        refine zj_sti (pc := 34) (st := []) hc ks_X2_sizeAt st_X2_sizeAt lk_X4_45 (S_X2_sizeAt l G r0 v3 v4 M _ h) rfl ⟨Nat.le_of_ble_eq_true rfl, Nat.le_of_ble_eq_true rfl⟩ (Nat.le_of_ble_eq_true rfl) ⟨Nat.le_of_ble_eq_true rfl, Nat.le_of_ble_eq_true rfl⟩ dX4_placeBehind_34 rfl (fun y3 M9 h => ?_)
        obtain ⟨hM9, h⟩ := h
        subst hM9
        refine zj_istore (pc := 37) hc dX4_placeBehind_37 (by decide) ?_
        refine zj_iload (pc := 39) hc dX4_placeBehind_39 rfl ?_
        refine zj_if_ne (pc := 41) (tgt := 47) hc dX4_placeBehind_41 (by decide) (fun hx4 => ?_) (fun hx4 => ?_)
        · have h := h.1 hx4
          refine zj_iload_n (pc := 47) hc dX4_placeBehind_47 rfl ?_
          refine zj_iload (pc := 48) hc dX4_placeBehind_48 rfl ?_
          refine zj_iadd (pc := 50) hc dX4_placeBehind_50 h.1 ?_
          have h := h.2
          refine zj_istore_n (pc := 51) hc dX4_placeBehind_51 (by decide) ?_
          refine zj_iinc (pc := 52) hc dX4_placeBehind_52 rfl (by decide) h.1 ?_
          have h := h.2
          refine zj_goto (pc := 55) (tgt := 17) hc dX4_placeBehind_55 (by decide) ?_
          refine zj_mask (bs := [true, true, true, true, true, true, false]) ?_
          exact hX17 (v3 + y3) (v5 + 1) h
        · have h := h.2 hx4
          refine zj_goto (pc := 44) (tgt := 58) hc dX4_placeBehind_44 (by decide) ?_
          refine zj_iload_n (pc := 58) hc dX4_placeBehind_58 rfl ?_
          exact zj_iret (pc := 59) hc hr hlk dX4_placeBehind_59 (by decide) (by decide) ⟨rfl, h⟩
  unfold T_X4_placeBehind at h
  refine zj_aload_n (pc := 0) hc dX4_placeBehind_0 rfl ?_
  refine zj_iload_n (pc := 1) hc dX4_placeBehind_1 rfl ?_
  refine zj_sti (pc := 2) (st := []) hc ks_X4_logStart st_X4_logStart lk_X4_42 (S_X4_logStart l G r0 v1 M _ h) rfl ⟨Nat.le_of_ble_eq_true rfl, Nat.le_of_ble_eq_true rfl⟩ (Nat.le_of_ble_eq_true rfl) ⟨Nat.le_of_ble_eq_true rfl, Nat.le_of_ble_eq_true rfl⟩ dX4_placeBehind_2 rfl (fun y5 M9 h => ?_)
  obtain ⟨hM9, h⟩ := h
  subst hM9
  refine zj_istore_n (pc := 5) hc dX4_placeBehind_5 (by decide) ?_
  refine zj_iload_n (pc := 6) hc dX4_placeBehind_6 rfl ?_
  refine zj_iconst (pc := 7) hc dX4_placeBehind_7 (zin _ rfl) ?_
  refine zj_iadd (pc := 8) hc dX4_placeBehind_8 h.1 ?_
  have h := h.2
  refine zj_bipush (pc := 9) hc dX4_placeBehind_9 (by decide) (zin _ rfl) ?_
  refine zj_imul (pc := 11) hc dX4_placeBehind_11 h.1 ?_
  have h := h.2
  refine zj_istore (pc := 12) hc dX4_placeBehind_12 (by decide) ?_
  refine zj_iconst (pc := 14) hc dX4_placeBehind_14 (zin _ rfl) ?_
  refine zj_istore (pc := 15) hc dX4_placeBehind_15 (by decide) ?_
  refine zj_mask (bs := [true, false, true, true, true, true, true]) ?_
  exact k17 r0 v2 ((v1 + 1) * 64) y5 0 h
set_option maxHeartbeats 4000000 in
set_option maxRecDepth 100000 in
theorem S_X4_logEnd (l : Launch) (G : zG) (r0 : Nat) (v1 : Int) (M : zMem) (Qr : Int → Prop) (h : T_X4_logEnd r0 v1 Qr M) : zMetI l yX4_logEnd cX4_logEnd 2 (some .int) 4 90 0 0 G [.inr r0, .inl v1] M (fun r9 M9 => M = M9 ∧ Qr r9) := by
  refine zmetI (by decide) (Nat.le_of_ble_eq_true rfl) [some (.inr r0), some (.inl v1)] rfl ?_
  intro p e s m args below meth c hc hr hlk
  unfold T_X4_logEnd at h
  refine zj_aload_n (pc := 0) hc dX4_logEnd_0 rfl ?_
  refine zj_iload_n (pc := 1) hc dX4_logEnd_1 rfl ?_
  refine zj_bipush (pc := 2) hc dX4_logEnd_2 (by decide) (zin _ rfl) ?_
  refine zj_sti (pc := 4) (st := []) hc ks_X4_placeBehind st_X4_placeBehind lk_X4_38 (S_X4_placeBehind l G r0 v1 64 M _ h) rfl ⟨Nat.le_of_ble_eq_true rfl, Nat.le_of_ble_eq_true rfl⟩ (Nat.le_of_ble_eq_true rfl) ⟨Nat.le_of_ble_eq_true rfl, Nat.le_of_ble_eq_true rfl⟩ dX4_logEnd_4 rfl (fun y1 M9 h => ?_)
  obtain ⟨hM9, h⟩ := h
  subst hM9
  exact zj_iret (pc := 7) hc hr hlk dX4_logEnd_7 (by decide) (by decide) ⟨rfl, h⟩
set_option maxHeartbeats 4000000 in
set_option maxRecDepth 100000 in
theorem S_X4_entryCount (l : Launch) (G : zG) (r0 : Nat) (v1 : Int) (M : zMem) (Qr : Int → Prop) (h : T_X4_entryCount r0 v1 Qr M) : zMetI l yX4_entryCount cX4_entryCount 5 (some .int) 3 64 0 0 G [.inr r0, .inl v1] M (fun r9 M9 => M = M9 ∧ Qr r9) := by
  refine zmetI (by decide) (Nat.le_of_ble_eq_true rfl) [some (.inr r0), some (.inl v1), none, none, none] rfl ?_
  intro p e s m args below meth c hc hr hlk
  have k16 : ∀ (r0 : Nat) (v3 : Int) (v2 : Int) (v4 : Int), T_X4_entryCount_16 r0 v3 Qr v2 v4 M → zJ p l e (zRoom 3 64 0 0) s m args below meth c G 5 0 0 (MQ below (zQi G (fun r9 M9 => M = M9 ∧ Qr r9)) args s 0 0 (zA G)) 16 [some (.inr r0), none, some (.inl v2), some (.inl v3), some (.inl v4)] [] M := by
    intro r0 v3 v2 v4 h
    unfold T_X4_entryCount_16 at h
    refine zp2_use h (fun v2 v4 => zJ p l e (zRoom 3 64 0 0) s m args below meth c G 5 0 0 (MQ below (zQi G (fun r9 M9 => M = M9 ∧ Qr r9)) args s 0 0 (zA G)) 16 [some (.inr r0), none, some (.inl v2), some (.inl v3), some (.inl v4)] [] M) (fun X16 hX16 v2 v4 h => ?_)
    refine zj_iload (pc := 16) hc dX4_entryCount_16 rfl ?_
    refine zj_bipush (pc := 18) hc dX4_entryCount_18 (by decide) (zin _ rfl) ?_
    refine zj_icmp_ge (pc := 20) (tgt := 47) hc dX4_entryCount_20 (by decide) (fun hx1 => ?_) (fun hx1 => ?_)
    · have h := h.1 hx1
      refine zj_iload (pc := 47) hc dX4_entryCount_47 rfl ?_
      exact zj_iret (pc := 49) hc hr hlk dX4_entryCount_49 (by decide) (by decide) ⟨rfl, h⟩
    · have h := h.2 hx1
      refine zj_aload_n (pc := 23) hc dX4_entryCount_23 rfl ?_
      refine zj_iload_n (pc := 24) hc dX4_entryCount_24 rfl ?_
      refine zj_iload_n (pc := 25) hc dX4_entryCount_25 rfl ?_
      refine zj_sti (pc := 26) (st := []) hc ks_X2_sizeAt st_X2_sizeAt lk_X4_45 (S_X2_sizeAt l G r0 v2 v3 M _ h) rfl ⟨Nat.le_of_ble_eq_true rfl, Nat.le_of_ble_eq_true rfl⟩ (Nat.le_of_ble_eq_true rfl) ⟨Nat.le_of_ble_eq_true rfl, Nat.le_of_ble_eq_true rfl⟩ dX4_entryCount_26 rfl (fun y2 M9 h => ?_)
      obtain ⟨hM9, h⟩ := h
      subst hM9
      refine zj_if_le (pc := 29) (tgt := 47) hc dX4_entryCount_29 (by decide) (fun hx3 => ?_) (fun hx3 => ?_)
      · have h := h.1 hx3
        refine zj_iload (pc := 47) hc dX4_entryCount_47 rfl ?_
        exact zj_iret (pc := 49) hc hr hlk dX4_entryCount_49 (by decide) (by decide) ⟨rfl, h⟩
      · have h := h.2 hx3
        refine zj_iload_n (pc := 32) hc dX4_entryCount_32 rfl ?_
        refine zj_aload_n (pc := 33) hc dX4_entryCount_33 rfl ?_
        refine zj_iload_n (pc := 34) hc dX4_entryCount_34 rfl ?_
        refine zj_iald (pc := 35) hc dX4_entryCount_35 rfl h.1 ?_
        have h := h.2
        refine zj_sti (pc := 36) (st := [.inl v2]) hc ks_X2_sizeBy st_X2_sizeBy lk_X4_50 (S_X2_sizeBy l G (M.2 r0 v2) M _ h) rfl ⟨Nat.le_of_ble_eq_true rfl, Nat.le_of_ble_eq_true rfl⟩ (Nat.le_of_ble_eq_true rfl) ⟨Nat.le_of_ble_eq_true rfl, Nat.le_of_ble_eq_true rfl⟩ dX4_entryCount_36 rfl (fun y4 M9 h => ?_)
        obtain ⟨hM9, h⟩ := h
        subst hM9
        refine zj_iadd (pc := 39) hc dX4_entryCount_39 h.1 ?_
        have h := h.2
        refine zj_istore_n (pc := 40) hc dX4_entryCount_40 (by decide) ?_
        refine zj_iinc (pc := 41) hc dX4_entryCount_41 rfl (by decide) h.1 ?_
        have h := h.2
        refine zj_goto (pc := 44) (tgt := 16) hc dX4_entryCount_44 (by decide) ?_
        exact hX16 (v2 + y4) (v4 + 1) h
  unfold T_X4_entryCount at h
  refine zj_aload_n (pc := 0) hc dX4_entryCount_0 rfl ?_
  refine zj_iload_n (pc := 1) hc dX4_entryCount_1 rfl ?_
  refine zj_sti (pc := 2) (st := []) hc ks_X4_logStart st_X4_logStart lk_X4_42 (S_X4_logStart l G r0 v1 M _ h) rfl ⟨Nat.le_of_ble_eq_true rfl, Nat.le_of_ble_eq_true rfl⟩ (Nat.le_of_ble_eq_true rfl) ⟨Nat.le_of_ble_eq_true rfl, Nat.le_of_ble_eq_true rfl⟩ dX4_entryCount_2 rfl (fun y5 M9 h => ?_)
  obtain ⟨hM9, h⟩ := h
  subst hM9
  refine zj_istore_n (pc := 5) hc dX4_entryCount_5 (by decide) ?_
  refine zj_iload_n (pc := 6) hc dX4_entryCount_6 rfl ?_
  refine zj_iconst (pc := 7) hc dX4_entryCount_7 (zin _ rfl) ?_
  refine zj_iadd (pc := 8) hc dX4_entryCount_8 h.1 ?_
  have h := h.2
  refine zj_bipush (pc := 9) hc dX4_entryCount_9 (by decide) (zin _ rfl) ?_
  refine zj_imul (pc := 11) hc dX4_entryCount_11 h.1 ?_
  have h := h.2
  refine zj_istore_n (pc := 12) hc dX4_entryCount_12 (by decide) ?_
  refine zj_iconst (pc := 13) hc dX4_entryCount_13 (zin _ rfl) ?_
  refine zj_istore (pc := 14) hc dX4_entryCount_14 (by decide) ?_
  refine zj_mask (bs := [true, false, true, true, true]) ?_
  exact k16 r0 ((v1 + 1) * 64) y5 0 h
set_option maxHeartbeats 4000000 in
set_option maxRecDepth 100000 in
theorem S_X3_placeOf (l : Launch) (G : zG) (v1 : Int) (M : zMem) (Qr : Int → Prop) (h : T_X3_placeOf v1 Qr M) : zMetI l yX3_placeOf cX3_placeOf 3 (some .int) 0 0 0 0 G [.inr 511, .inl v1] M (fun r9 M9 => M = M9 ∧ Qr r9) := by
  refine zmetI (by decide) (Nat.le_of_ble_eq_true rfl) [some (.inr 511), some (.inl v1), none] rfl ?_
  intro p e s m args below meth c hc hr hlk
  have k2 : ∀ (v1 : Int) (v2 : Int), T_X3_placeOf_2 v1 Qr v2 M → zJ p l e (zRoom 0 0 0 0) s m args below meth c G 3 0 0 (MQ below (zQi G (fun r9 M9 => M = M9 ∧ Qr r9)) args s 0 0 (zA G)) 2 [some (.inr 511), some (.inl v1), some (.inl v2)] [] M := by
    intro v1 v2 h
    unfold T_X3_placeOf_2 at h
    refine zp1_use h (fun v2 => zJ p l e (zRoom 0 0 0 0) s m args below meth c G 3 0 0 (MQ below (zQi G (fun r9 M9 => M = M9 ∧ Qr r9)) args s 0 0 (zA G)) 2 [some (.inr 511), some (.inl v1), some (.inl v2)] [] M) (fun X2 hX2 v2 h => ?_)
    refine zj_iload_n (pc := 2) hc dX3_placeOf_2 rfl ?_
    refine zj_aload_n (pc := 3) hc dX3_placeOf_3 rfl ?_
    refine zg_7_0 (pc := 4) hc lk_X3_9 dX3_placeOf_4 ?_
    refine zj_icmp_ge (pc := 7) (tgt := 28) hc dX3_placeOf_7 (by decide) (fun hx1 => ?_) (fun hx1 => ?_)
    · have h := h.1 hx1
      refine zj_iconst (pc := 28) hc dX3_placeOf_28 (zin _ rfl) ?_
      exact zj_iret (pc := 29) hc hr hlk dX3_placeOf_29 (by decide) (by decide) ⟨rfl, h⟩
    · have h := h.2 hx1
      refine zj_aload_n (pc := 10) hc dX3_placeOf_10 rfl ?_
      refine zg_7_2 (pc := 11) hc lk_X3_18 dX3_placeOf_11 ?_
      refine zj_iload_n (pc := 14) hc dX3_placeOf_14 rfl ?_
      refine zj_iald (pc := 15) hc dX3_placeOf_15 alen_450 h.1 ?_
      have h := h.2
      refine zj_iload_n (pc := 16) hc dX3_placeOf_16 rfl ?_
      refine zj_icmp_ne (pc := 17) (tgt := 22) hc dX3_placeOf_17 (by decide) (fun hx2 => ?_) (fun hx2 => ?_)
      · have h := h.1 hx2
        refine zj_iinc (pc := 22) hc dX3_placeOf_22 rfl (by decide) h.1 ?_
        have h := h.2
        refine zj_goto (pc := 25) (tgt := 2) hc dX3_placeOf_25 (by decide) ?_
        exact hX2 (v2 + 1) h
      · have h := h.2 hx2
        refine zj_iload_n (pc := 20) hc dX3_placeOf_20 rfl ?_
        exact zj_iret (pc := 21) hc hr hlk dX3_placeOf_21 (by decide) (by decide) ⟨rfl, h⟩
  unfold T_X3_placeOf at h
  refine zj_iconst (pc := 0) hc dX3_placeOf_0 (zin _ rfl) ?_
  refine zj_istore_n (pc := 1) hc dX3_placeOf_1 (by decide) ?_
  exact k2 v1 0 h
set_option maxHeartbeats 4000000 in
set_option maxRecDepth 100000 in
theorem S_X3_holds (l : Launch) (G : zG) (v1 : Int) (M : zMem) (Qr : Int → Prop) (h : T_X3_holds v1 Qr M) : zMetI l yX3_holds cX3_holds 2 (some .boolean) 1 22 0 0 G [.inr 511, .inl v1] M (fun r9 M9 => M = M9 ∧ Qr r9) := by
  refine zmetI (by decide) (Nat.le_of_ble_eq_true rfl) [some (.inr 511), some (.inl v1)] rfl ?_
  intro p e s m args below meth c hc hr hlk
  unfold T_X3_holds at h
  refine zj_aload_n (pc := 0) hc dX3_holds_0 rfl ?_
  refine zj_iload_n (pc := 1) hc dX3_holds_1 rfl ?_
  refine zj_vti (pc := 2) (st := []) hc ks_X3_placeOf iv_X3_placeOf lk_X3_22 (zrv_7 G M) (S_X3_placeOf l G v1 M _ h) rfl ⟨Nat.le_of_ble_eq_true rfl, Nat.le_of_ble_eq_true rfl⟩ (Nat.le_of_ble_eq_true rfl) ⟨Nat.le_of_ble_eq_true rfl, Nat.le_of_ble_eq_true rfl⟩ dX3_holds_2 rfl (fun y1 M9 h => ?_)
  obtain ⟨hM9, h⟩ := h
  subst hM9
  refine zj_iconst (pc := 5) hc dX3_holds_5 (zin _ rfl) ?_
  refine zj_icmp_eq (pc := 6) (tgt := 13) hc dX3_holds_6 (by decide) (fun hx2 => ?_) (fun hx2 => ?_)
  · have h := h.1 hx2
    refine zj_iconst (pc := 13) hc dX3_holds_13 (zin _ rfl) ?_
    exact zj_zret (pc := 14) hc hr hlk dX3_holds_14 (by decide) (by decide) (Or.inl rfl) ⟨rfl, h⟩
  · have h := h.2 hx2
    refine zj_iconst (pc := 9) hc dX3_holds_9 (zin _ rfl) ?_
    refine zj_goto (pc := 10) (tgt := 14) hc dX3_holds_10 (by decide) ?_
    exact zj_zret (pc := 14) hc hr hlk dX3_holds_14 (by decide) (by decide) (Or.inr rfl) ⟨rfl, h⟩
set_option maxHeartbeats 4000000 in
set_option maxRecDepth 100000 in
theorem S_X3_giveUp (l : Launch) (G : zG) (v1 : Int) (M : zMem) (Qr : zMem → Prop) (h : T_X3_giveUp v1 Qr M) : zMetV l yX3_giveUp cX3_giveUp 2 none 1 26 0 0 G [.inr 511, .inl v1] M Qr := by
  refine zmetV (by decide) (Nat.le_of_ble_eq_true rfl) [some (.inr 511), some (.inl v1)] rfl ?_
  intro p e s m args below meth c hc hr hlk
  unfold T_X3_giveUp at h
  refine zj_iload_n (pc := 0) hc dX3_giveUp_0 rfl ?_
  refine zj_if_lt (pc := 1) (tgt := 45) hc dX3_giveUp_1 (by decide) (fun hx1 => ?_) (fun hx1 => ?_)
  · have h := h.1 hx1
    exact zj_vret (pc := 45) hc hr hlk dX3_giveUp_45 (by decide) (by decide) h
  · have h := h.2 hx1
    refine zj_iload_n (pc := 4) hc dX3_giveUp_4 rfl ?_
    refine zj_aload_n (pc := 5) hc dX3_giveUp_5 rfl ?_
    refine zg_7_0 (pc := 6) hc lk_X3_9 dX3_giveUp_6 ?_
    refine zj_icmp_ge (pc := 9) (tgt := 45) hc dX3_giveUp_9 (by decide) (fun hx2 => ?_) (fun hx2 => ?_)
    · have h := h.1 hx2
      exact zj_vret (pc := 45) hc hr hlk dX3_giveUp_45 (by decide) (by decide) h
    · have h := h.2 hx2
      refine zj_aload_n (pc := 12) hc dX3_giveUp_12 rfl ?_
      refine zg_7_2 (pc := 13) hc lk_X3_18 dX3_giveUp_13 ?_
      refine zj_iload_n (pc := 16) hc dX3_giveUp_16 rfl ?_
      refine zj_iconst (pc := 17) hc dX3_giveUp_17 (zin _ rfl) ?_
      refine zj_iadd (pc := 18) hc dX3_giveUp_18 h.1 ?_
      have h := h.2
      refine zj_aload_n (pc := 19) hc dX3_giveUp_19 rfl ?_
      refine zg_7_2 (pc := 20) hc lk_X3_18 dX3_giveUp_20 ?_
      refine zj_iload_n (pc := 23) hc dX3_giveUp_23 rfl ?_
      refine zj_aload_n (pc := 24) hc dX3_giveUp_24 rfl ?_
      refine zg_7_0 (pc := 25) hc lk_X3_9 dX3_giveUp_25 ?_
      refine zj_iconst (pc := 28) hc dX3_giveUp_28 (zin _ rfl) ?_
      refine zj_isub (pc := 29) hc dX3_giveUp_29 h.1 ?_
      have h := h.2
      refine zj_iload_n (pc := 30) hc dX3_giveUp_30 rfl ?_
      refine zj_isub (pc := 31) hc dX3_giveUp_31 h.1 ?_
      have h := h.2
      refine zj_copy (pc := 32) hc dX3_giveUp_32 lk_X3_33 na_copy st_copy in_System alen_450 alen_450 h.1 (Nat.le_of_ble_eq_true rfl) (Nat.le_of_ble_eq_true rfl) (fun M3 hM3 => ?_)
      have h := h.2 M3 hM3
      refine zj_aload_n (pc := 35) hc dX3_giveUp_35 rfl ?_
      refine zj_dup (pc := 36) hc dX3_giveUp_36 ?_
      refine zg_7_0 (pc := 37) hc lk_X3_9 dX3_giveUp_37 ?_
      refine zj_iconst (pc := 40) hc dX3_giveUp_40 (zin _ rfl) ?_
      refine zj_isub (pc := 41) hc dX3_giveUp_41 h.1 ?_
      have h := h.2
      refine zs_7_0 (pc := 42) hc lk_X3_9 dX3_giveUp_42 (fun M4 hM4 => ?_)
      have h := h M4 hM4
      exact zj_vret (pc := 45) hc hr hlk dX3_giveUp_45 (by decide) (by decide) h
set_option maxHeartbeats 4000000 in
set_option maxRecDepth 100000 in
theorem S_X3_shrinkTo (l : Launch) (G : zG) (v1 : Int) (M : zMem) (Qr : zMem → Prop) (h : T_X3_shrinkTo v1 Qr M) : zMetV l yX3_shrinkTo cX3_shrinkTo 3 none 2 47 0 0 G [.inr 511, .inl v1] M Qr := by
  refine zmetV (by decide) (Nat.le_of_ble_eq_true rfl) [some (.inr 511), some (.inl v1), none] rfl ?_
  intro p e s m args below meth c hc hr hlk
  have k2 : ∀ (M : zMem) (v1 : Int) (v2 : Int), T_X3_shrinkTo_2 v1 Qr v2 M → zJ p l e (zRoom 2 47 0 0) s m args below meth c G 3 0 0 (MQ below (zQv G (Qr)) args s 0 0 (zA G)) 2 [some (.inr 511), some (.inl v1), some (.inl v2)] [] M := by
    intro M v1 v2 h
    unfold T_X3_shrinkTo_2 at h
    refine zl1_use h (fun v2 M => zJ p l e (zRoom 2 47 0 0) s m args below meth c G 3 0 0 (MQ below (zQv G (Qr)) args s 0 0 (zA G)) 2 [some (.inr 511), some (.inl v1), some (.inl v2)] [] M) (fun X2 hX2 v2 M h => ?_)
    refine zj_iload_n (pc := 2) hc dX3_shrinkTo_2 rfl ?_
    refine zj_aload_n (pc := 3) hc dX3_shrinkTo_3 rfl ?_
    refine zg_7_2 (pc := 4) hc lk_X3_18 dX3_shrinkTo_4 ?_
    refine zj_alen (pc := 7) hc dX3_shrinkTo_7 alen_450 (by decide) ?_
    refine zj_icmp_ge (pc := 8) (tgt := 30) hc dX3_shrinkTo_8 (by decide) (fun hx1 => ?_) (fun hx1 => ?_)
    · have h := h.1 hx1
      exact zj_vret (pc := 30) hc hr hlk dX3_shrinkTo_30 (by decide) (by decide) h
    · have h := h.2 hx1
      refine zj_aload_n (pc := 11) hc dX3_shrinkTo_11 rfl ?_
      refine zg_7_0 (pc := 12) hc lk_X3_9 dX3_shrinkTo_12 ?_
      refine zj_iload_n (pc := 15) hc dX3_shrinkTo_15 rfl ?_
      refine zj_icmp_le (pc := 16) (tgt := 30) hc dX3_shrinkTo_16 (by decide) (fun hx2 => ?_) (fun hx2 => ?_)
      · have h := h.1 hx2
        exact zj_vret (pc := 30) hc hr hlk dX3_shrinkTo_30 (by decide) (by decide) h
      · have h := h.2 hx2
        refine zj_aload_n (pc := 19) hc dX3_shrinkTo_19 rfl ?_
        refine zj_iconst (pc := 20) hc dX3_shrinkTo_20 (zin _ rfl) ?_
        refine zj_vtv (pc := 21) (st := []) hc ks_X3_giveUp iv_X3_giveUp lk_X3_30 (zrv_7 G M) (S_X3_giveUp l G 0 M _ h) rfl ⟨Nat.le_of_ble_eq_true rfl, Nat.le_of_ble_eq_true rfl⟩ (Nat.le_of_ble_eq_true rfl) ⟨Nat.le_of_ble_eq_true rfl, Nat.le_of_ble_eq_true rfl⟩ dX3_shrinkTo_21 rfl (fun M3 h => ?_)
        refine zj_iinc (pc := 24) hc dX3_shrinkTo_24 rfl (by decide) h.1 ?_
        have h := h.2
        refine zj_goto (pc := 27) (tgt := 2) hc dX3_shrinkTo_27 (by decide) ?_
        exact hX2 (v2 + 1) M3 h
  unfold T_X3_shrinkTo at h
  refine zj_iconst (pc := 0) hc dX3_shrinkTo_0 (zin _ rfl) ?_
  refine zj_istore_n (pc := 1) hc dX3_shrinkTo_1 (by decide) ?_
  exact k2 M v1 0 h
set_option maxHeartbeats 4000000 in
set_option maxRecDepth 100000 in
theorem S_X3_hold (l : Launch) (G : zG) (v1 : Int) (v2 : Int) (M : zMem) (Qr : zMem → Prop) (h : T_X3_hold v1 v2 Qr M) : zMetV l yX3_hold cX3_hold 4 none 3 69 0 0 G [.inr 511, .inl v1, .inl v2] M Qr := by
  refine zmetV (by decide) (Nat.le_of_ble_eq_true rfl) [some (.inr 511), some (.inl v1), some (.inl v2), none] rfl ?_
  intro p e s m args below meth c hc hr hlk
  have k36 : ∀ (M : zMem) (v1 : Int), T_X3_hold_36 v1 Qr M → zJ p l e (zRoom 3 69 0 0) s m args below meth c G 4 0 0 (MQ below (zQv G (Qr)) args s 0 0 (zA G)) 36 [some (.inr 511), some (.inl v1), none, none] [] M := by
    intro M v1 h
    unfold T_X3_hold_36 at h
    refine zj_aload_n (pc := 36) hc dX3_hold_36 rfl ?_
    refine zg_7_0 (pc := 37) hc lk_X3_9 dX3_hold_37 ?_
    refine zj_aload_n (pc := 40) hc dX3_hold_40 rfl ?_
    refine zg_7_2 (pc := 41) hc lk_X3_18 dX3_hold_41 ?_
    refine zj_alen (pc := 44) hc dX3_hold_44 alen_450 (by decide) ?_
    refine zj_icmp_ge (pc := 45) (tgt := 68) hc dX3_hold_45 (by decide) (fun hx1 => ?_) (fun hx1 => ?_)
    · have h := h.1 hx1
      exact zj_vret (pc := 68) hc hr hlk dX3_hold_68 (by decide) (by decide) h
    · have h := h.2 hx1
      refine zj_aload_n (pc := 48) hc dX3_hold_48 rfl ?_
      refine zg_7_2 (pc := 49) hc lk_X3_18 dX3_hold_49 ?_
      refine zj_aload_n (pc := 52) hc dX3_hold_52 rfl ?_
      refine zg_7_0 (pc := 53) hc lk_X3_9 dX3_hold_53 ?_
      refine zj_iload_n (pc := 56) hc dX3_hold_56 rfl ?_
      refine zj_iast (pc := 57) hc dX3_hold_57 alen_450 h.1 (fun M2 hM2 => ?_)
      have h := h.2 M2 hM2
      refine zj_aload_n (pc := 58) hc dX3_hold_58 rfl ?_
      refine zj_dup (pc := 59) hc dX3_hold_59 ?_
      refine zg_7_0 (pc := 60) hc lk_X3_9 dX3_hold_60 ?_
      refine zj_iconst (pc := 63) hc dX3_hold_63 (zin _ rfl) ?_
      refine zj_iadd (pc := 64) hc dX3_hold_64 h.1 ?_
      have h := h.2
      refine zs_7_0 (pc := 65) hc lk_X3_9 dX3_hold_65 (fun M3 hM3 => ?_)
      have h := h M3 hM3
      exact zj_vret (pc := 68) hc hr hlk dX3_hold_68 (by decide) (by decide) h
  unfold T_X3_hold at h
  refine zj_aload_n (pc := 0) hc dX3_hold_0 rfl ?_
  refine zj_iload_n (pc := 1) hc dX3_hold_1 rfl ?_
  refine zj_vti (pc := 2) (st := []) hc ks_X3_placeOf iv_X3_placeOf lk_X3_22 (zrv_7 G M) (S_X3_placeOf l G v1 M _ h) rfl ⟨Nat.le_of_ble_eq_true rfl, Nat.le_of_ble_eq_true rfl⟩ (Nat.le_of_ble_eq_true rfl) ⟨Nat.le_of_ble_eq_true rfl, Nat.le_of_ble_eq_true rfl⟩ dX3_hold_2 rfl (fun y4 M9 h => ?_)
  obtain ⟨hM9, h⟩ := h
  subst hM9
  refine zj_istore_n (pc := 5) hc dX3_hold_5 (by decide) ?_
  refine zj_iload_n (pc := 6) hc dX3_hold_6 rfl ?_
  refine zj_iconst (pc := 7) hc dX3_hold_7 (zin _ rfl) ?_
  refine zj_icmp_ne (pc := 8) (tgt := 31) hc dX3_hold_8 (by decide) (fun hx5 => ?_) (fun hx5 => ?_)
  · have h := h.1 hx5
    refine zj_aload_n (pc := 31) hc dX3_hold_31 rfl ?_
    refine zj_iload_n (pc := 32) hc dX3_hold_32 rfl ?_
    refine zj_vtv (pc := 33) (st := []) hc ks_X3_giveUp iv_X3_giveUp lk_X3_30 (zrv_7 G M) (S_X3_giveUp l G y4 M _ h) rfl ⟨Nat.le_of_ble_eq_true rfl, Nat.le_of_ble_eq_true rfl⟩ (Nat.le_of_ble_eq_true rfl) ⟨Nat.le_of_ble_eq_true rfl, Nat.le_of_ble_eq_true rfl⟩ dX3_hold_33 rfl (fun M6 h => ?_)
    refine zj_mask (bs := [true, true, false, false]) ?_
    exact k36 M6 v1 h
  · have h := h.2 hx5
    refine zj_aload_n (pc := 11) hc dX3_hold_11 rfl ?_
    refine zj_dup (pc := 12) hc dX3_hold_12 ?_
    refine zg_7_1 (pc := 13) hc lk_X3_15 dX3_hold_13 ?_
    refine zj_iconst (pc := 16) hc dX3_hold_16 (zin _ rfl) ?_
    refine zj_iadd (pc := 17) hc dX3_hold_17 h.1 ?_
    have h := h.2
    refine zs_7_1 (pc := 18) hc lk_X3_15 dX3_hold_18 (fun M7 hM7 => ?_)
    have h := h M7 hM7
    refine zj_aload_n (pc := 21) hc dX3_hold_21 rfl ?_
    refine zj_iload_n (pc := 22) hc dX3_hold_22 rfl ?_
    refine zj_iconst (pc := 23) hc dX3_hold_23 (zin _ rfl) ?_
    refine zj_isub (pc := 24) hc dX3_hold_24 h.1 ?_
    have h := h.2
    refine zj_vtv (pc := 25) (st := []) hc ks_X3_shrinkTo iv_X3_shrinkTo lk_X3_26 (zrv_7 G M7) (S_X3_shrinkTo l G (v2 - 1) M7 _ h) rfl ⟨Nat.le_of_ble_eq_true rfl, Nat.le_of_ble_eq_true rfl⟩ (Nat.le_of_ble_eq_true rfl) ⟨Nat.le_of_ble_eq_true rfl, Nat.le_of_ble_eq_true rfl⟩ dX3_hold_25 rfl (fun M8 h => ?_)
    refine zj_goto (pc := 28) (tgt := 36) hc dX3_hold_28 (by decide) ?_
    refine zj_mask (bs := [true, true, false, false]) ?_
    exact k36 M8 v1 h
set_option maxHeartbeats 4000000 in
set_option maxRecDepth 100000 in
theorem S_X3_giveUpFree (l : Launch) (G : zG) (r1 : Nat) (M : zMem) (Qr : zMem → Prop) (h : T_X3_giveUpFree r1 Qr M) : zMetV l yX3_giveUpFree cX3_giveUpFree 3 none 2 47 0 0 G [.inr 511, .inr r1] M Qr := by
  refine zmetV (by decide) (Nat.le_of_ble_eq_true rfl) [some (.inr 511), some (.inr r1), none] rfl ?_
  intro p e s m args below meth c hc hr hlk
  have k29 : ∀ (M : zMem) (r1 : Nat) (v2 : Int) (X7 : Int → zMem → Prop) (hX7 : ∀ (v2 : Int) (M : zMem), X7 v2 M → zJ p l e (zRoom 2 47 0 0) s m args below meth c G 3 0 0 (MQ below (zQv G (Qr)) args s 0 0 (zA G)) 7 [some (.inr 511), some (.inr r1), some (.inl v2)] [] M), T_X3_giveUpFree_29 r1 v2 X7 Qr M → zJ p l e (zRoom 2 47 0 0) s m args below meth c G 3 0 0 (MQ below (zQv G (Qr)) args s 0 0 (zA G)) 29 [some (.inr 511), some (.inr r1), some (.inl v2)] [] M := by
    intro M r1 v2 X7 hX7 h
    unfold T_X3_giveUpFree_29 at h
    refine zj_iinc (pc := 29) hc dX3_giveUpFree_29 rfl (by decide) h.1 ?_
    have h := h.2
    refine zj_goto (pc := 32) (tgt := 7) hc dX3_giveUpFree_32 (by decide) ?_
    exact hX7 (v2 + (-1)) M h
  have k7 : ∀ (M : zMem) (r1 : Nat) (v2 : Int), T_X3_giveUpFree_7 r1 Qr v2 M → zJ p l e (zRoom 2 47 0 0) s m args below meth c G 3 0 0 (MQ below (zQv G (Qr)) args s 0 0 (zA G)) 7 [some (.inr 511), some (.inr r1), some (.inl v2)] [] M := by
    intro M r1 v2 h
    unfold T_X3_giveUpFree_7 at h
    refine zl1_use h (fun v2 M => zJ p l e (zRoom 2 47 0 0) s m args below meth c G 3 0 0 (MQ below (zQv G (Qr)) args s 0 0 (zA G)) 7 [some (.inr 511), some (.inr r1), some (.inl v2)] [] M) (fun X7 hX7 v2 M h => ?_)
    refine zj_iload_n (pc := 7) hc dX3_giveUpFree_7 rfl ?_
    refine zj_if_lt (pc := 8) (tgt := 35) hc dX3_giveUpFree_8 (by decide) (fun hx1 => ?_) (fun hx1 => ?_)
    · have h := h.1 hx1
      exact zj_vret (pc := 35) hc hr hlk dX3_giveUpFree_35 (by decide) (by decide) h
    · have h := h.2 hx1
      refine zj_aload_n (pc := 11) hc dX3_giveUpFree_11 rfl ?_
      refine zj_aload_n (pc := 12) hc dX3_giveUpFree_12 rfl ?_
      refine zg_7_2 (pc := 13) hc lk_X3_18 dX3_giveUpFree_13 ?_
      refine zj_iload_n (pc := 16) hc dX3_giveUpFree_16 rfl ?_
      refine zj_iald (pc := 17) hc dX3_giveUpFree_17 alen_450 h.1 ?_
      have h := h.2
      refine zj_sti (pc := 18) (st := []) hc ks_X4_isUsed st_X4_isUsed lk_X3_39 (S_X4_isUsed l G r1 (M.2 450 v2) M _ h) rfl ⟨Nat.le_of_ble_eq_true rfl, Nat.le_of_ble_eq_true rfl⟩ (Nat.le_of_ble_eq_true rfl) ⟨Nat.le_of_ble_eq_true rfl, Nat.le_of_ble_eq_true rfl⟩ dX3_giveUpFree_18 rfl (fun y2 M9 h => ?_)
      obtain ⟨hM9, h⟩ := h
      subst hM9
      refine zj_if_ne (pc := 21) (tgt := 29) hc dX3_giveUpFree_21 (by decide) (fun hx3 => ?_) (fun hx3 => ?_)
      · have h := h.1 hx3
        exact k29 M r1 v2 X7 hX7 h
      · have h := h.2 hx3
        refine zj_aload_n (pc := 24) hc dX3_giveUpFree_24 rfl ?_
        refine zj_iload_n (pc := 25) hc dX3_giveUpFree_25 rfl ?_
        refine zj_vtv (pc := 26) (st := []) hc ks_X3_giveUp iv_X3_giveUp lk_X3_30 (zrv_7 G M) (S_X3_giveUp l G v2 M _ h) rfl ⟨Nat.le_of_ble_eq_true rfl, Nat.le_of_ble_eq_true rfl⟩ (Nat.le_of_ble_eq_true rfl) ⟨Nat.le_of_ble_eq_true rfl, Nat.le_of_ble_eq_true rfl⟩ dX3_giveUpFree_26 rfl (fun M4 h => ?_)
        exact k29 M4 r1 v2 X7 hX7 h
  unfold T_X3_giveUpFree at h
  refine zj_aload_n (pc := 0) hc dX3_giveUpFree_0 rfl ?_
  refine zg_7_0 (pc := 1) hc lk_X3_9 dX3_giveUpFree_1 ?_
  refine zj_iconst (pc := 4) hc dX3_giveUpFree_4 (zin _ rfl) ?_
  refine zj_isub (pc := 5) hc dX3_giveUpFree_5 h.1 ?_
  have h := h.2
  refine zj_istore_n (pc := 6) hc dX3_giveUpFree_6 (by decide) ?_
  exact k7 M r1 ((M.1 448) - 1) h
