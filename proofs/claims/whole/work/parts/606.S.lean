set_option maxHeartbeats 4000000 in
set_option maxRecDepth 100000 in
theorem S_X8_sizeOf (l : Launch) (G : zG) {o : Nat} (ho : o = 3 ∨ o = 5) (v1 : Int) (M : zMem) (Qr : Int → Prop) (h : T_X8_sizeOf o v1 Qr M) : zMetI l yX8_sizeOf cX8_sizeOf 2 (some .int) 1 20 0 0 G [.inr (64 * o + 63), .inl v1] M (fun r9 M9 => M = M9 ∧ Qr r9) := by
  refine zmetI (by decide) (Nat.le_of_ble_eq_true rfl) [some (.inr (64 * o + 63)), some (.inl v1)] rfl ?_
  intro p e s m args below meth c hc hr hlk
  unfold T_X8_sizeOf at h
  refine zj_iload_n (pc := 0) hc dX8_sizeOf_0 rfl ?_
  refine zj_sni (pc := 1) (st := []) hc ks_X9_isByte st_X9_isByte (nw_X8_74) (S_X9_isByte l G v1 M _ h) rfl ⟨Nat.le_of_ble_eq_true rfl, Nat.le_of_ble_eq_true rfl⟩ (Nat.le_of_ble_eq_true rfl) ⟨Nat.le_of_ble_eq_true rfl, Nat.le_of_ble_eq_true rfl⟩ dX8_sizeOf_1 rfl (fun y1 M9 h => ?_)
  obtain ⟨hM9, h⟩ := h
  subst hM9
  refine zj_if_eq (pc := 4) (tgt := 16) hc dX8_sizeOf_4 (by decide) (fun hx2 => ?_) (fun hx2 => ?_)
  · have h := h.1 hx2
    refine zj_iconst (pc := 16) hc dX8_sizeOf_16 (zin _ rfl) ?_
    exact zj_iret (pc := 17) hc hr hlk dX8_sizeOf_17 (by decide) (by decide) ⟨rfl, h⟩
  · have h := h.2 hx2
    refine zj_aload_n (pc := 7) hc dX8_sizeOf_7 rfl ?_
    refine zgv_X8_2 (pc := 8) ho hc lk_X8_22 dX8_sizeOf_8 ?_
    refine zj_iload_n (pc := 11) hc dX8_sizeOf_11 rfl ?_
    refine zj_iald (pc := 12) hc dX8_sizeOf_12 (alenv_X8_2 ho) h.1 ?_
    have h := h.2
    refine zj_goto (pc := 13) (tgt := 17) hc dX8_sizeOf_13 (by decide) ?_
    exact zj_iret (pc := 17) hc hr hlk dX8_sizeOf_17 (by decide) (by decide) ⟨rfl, h⟩
set_option maxHeartbeats 4000000 in
set_option maxRecDepth 100000 in
theorem S_X8_byteOf (l : Launch) (G : zG) {o : Nat} (ho : o = 3 ∨ o = 5) (v1 : Int) (v2 : Int) (M : zMem) (Qr : Int → Prop) (h : T_X8_byteOf o v1 v2 Qr M) : zMetI l yX8_byteOf cX8_byteOf 3 (some .int) 2 41 0 0 G [.inr (64 * o + 63), .inl v1, .inl v2] M (fun r9 M9 => M = M9 ∧ Qr r9) := by
  refine zmetI (by decide) (Nat.le_of_ble_eq_true rfl) [some (.inr (64 * o + 63)), some (.inl v1), some (.inl v2)] rfl ?_
  intro p e s m args below meth c hc hr hlk
  unfold T_X8_byteOf at h
  refine zj_iload_n (pc := 0) hc dX8_byteOf_0 rfl ?_
  refine zj_if_lt (pc := 1) (tgt := 27) hc dX8_byteOf_1 (by decide) (fun hx1 => ?_) (fun hx1 => ?_)
  · have h := h.1 hx1
    refine zj_iconst (pc := 27) hc dX8_byteOf_27 (zin _ rfl) ?_
    exact zj_iret (pc := 28) hc hr hlk dX8_byteOf_28 (by decide) (by decide) ⟨rfl, h⟩
  · have h := h.2 hx1
    refine zj_iload_n (pc := 4) hc dX8_byteOf_4 rfl ?_
    refine zj_aload_n (pc := 5) hc dX8_byteOf_5 rfl ?_
    refine zj_iload_n (pc := 6) hc dX8_byteOf_6 rfl ?_
    refine zj_vti (pc := 7) (st := [.inl v2]) hc ks_X8_sizeOf iv_X8_sizeOf lk_X8_95 (zrvv_X8 G M ho) (S_X8_sizeOf l G ho v1 M _ h) rfl ⟨Nat.le_of_ble_eq_true rfl, Nat.le_of_ble_eq_true rfl⟩ (Nat.le_of_ble_eq_true rfl) ⟨Nat.le_of_ble_eq_true rfl, Nat.le_of_ble_eq_true rfl⟩ dX8_byteOf_7 rfl (fun y2 M9 h => ?_)
    obtain ⟨hM9, h⟩ := h
    subst hM9
    refine zj_icmp_ge (pc := 10) (tgt := 27) hc dX8_byteOf_10 (by decide) (fun hx3 => ?_) (fun hx3 => ?_)
    · have h := h.1 hx3
      refine zj_iconst (pc := 27) hc dX8_byteOf_27 (zin _ rfl) ?_
      exact zj_iret (pc := 28) hc hr hlk dX8_byteOf_28 (by decide) (by decide) ⟨rfl, h⟩
    · have h := h.2 hx3
      refine zj_aload_n (pc := 13) hc dX8_byteOf_13 rfl ?_
      refine zgv_X8_3 (pc := 14) ho hc lk_X8_25 dX8_byteOf_14 ?_
      refine zj_iload_n (pc := 17) hc dX8_byteOf_17 rfl ?_
      refine zj_bipush (pc := 18) hc dX8_byteOf_18 (by decide) (zin _ rfl) ?_
      refine zj_imul (pc := 20) hc dX8_byteOf_20 h.1 ?_
      have h := h.2
      refine zj_iload_n (pc := 21) hc dX8_byteOf_21 rfl ?_
      refine zj_iadd (pc := 22) hc dX8_byteOf_22 h.1 ?_
      have h := h.2
      refine zj_iald (pc := 23) hc dX8_byteOf_23 (alenv_X8_3 ho) h.1 ?_
      have h := h.2
      refine zj_goto (pc := 24) (tgt := 28) hc dX8_byteOf_24 (by decide) ?_
      exact zj_iret (pc := 28) hc hr hlk dX8_byteOf_28 (by decide) (by decide) ⟨rfl, h⟩
set_option maxHeartbeats 4000000 in
set_option maxRecDepth 100000 in
theorem S_X8_countIn (l : Launch) (G : zG) {o : Nat} (ho : o = 3 ∨ o = 5) (v1 : Int) (v2 : Int) (M : zMem) (Qr : Int → Prop) (h : T_X8_countIn o v1 v2 Qr M) : zMetI l yX8_countIn cX8_countIn 5 (some .int) 0 0 0 0 G [.inr (64 * o + 63), .inl v1, .inl v2] M (fun r9 M9 => M = M9 ∧ Qr r9) := by
  refine zmetI (by decide) (Nat.le_of_ble_eq_true rfl) [some (.inr (64 * o + 63)), some (.inl v1), some (.inl v2), none, none] rfl ?_
  intro p e s m args below meth c hc hr hlk
  have k25 : ∀ (v2 : Int) (v3 : Int) (v4 : Int) (X5 : Int → Int → Prop) (hX5 : ∀ (v3 : Int) (v4 : Int), X5 v3 v4 → zJ p l e (zRoom 0 0 0 0) s m args below meth c G 5 0 0 (MQ below (zQi G (fun r9 M9 => M = M9 ∧ Qr r9)) args s 0 0 (zA G)) 5 [some (.inr (64 * o + 63)), none, some (.inl v2), some (.inl v3), some (.inl v4)] [] M), T_X8_countIn_25 o v2 v3 v4 X5 Qr M → zJ p l e (zRoom 0 0 0 0) s m args below meth c G 5 0 0 (MQ below (zQi G (fun r9 M9 => M = M9 ∧ Qr r9)) args s 0 0 (zA G)) 25 [some (.inr (64 * o + 63)), none, some (.inl v2), some (.inl v3), some (.inl v4)] [] M := by
    intro v2 v3 v4 X5 hX5 h
    unfold T_X8_countIn_25 at h
    refine zj_iinc (pc := 25) hc dX8_countIn_25 rfl (by decide) h.1 ?_
    have h := h.2
    refine zj_goto (pc := 28) (tgt := 5) hc dX8_countIn_28 (by decide) ?_
    exact hX5 v3 (v4 + 1) h
  have k5 : ∀ (v2 : Int) (v3 : Int) (v4 : Int), T_X8_countIn_5 o v2 Qr v3 v4 M → zJ p l e (zRoom 0 0 0 0) s m args below meth c G 5 0 0 (MQ below (zQi G (fun r9 M9 => M = M9 ∧ Qr r9)) args s 0 0 (zA G)) 5 [some (.inr (64 * o + 63)), none, some (.inl v2), some (.inl v3), some (.inl v4)] [] M := by
    intro v2 v3 v4 h
    unfold T_X8_countIn_5 at h
    refine zp2_use h (fun v3 v4 => zJ p l e (zRoom 0 0 0 0) s m args below meth c G 5 0 0 (MQ below (zQi G (fun r9 M9 => M = M9 ∧ Qr r9)) args s 0 0 (zA G)) 5 [some (.inr (64 * o + 63)), none, some (.inl v2), some (.inl v3), some (.inl v4)] [] M) (fun X5 hX5 v3 v4 h => ?_)
    refine zj_iload (pc := 5) hc dX8_countIn_5 rfl ?_
    refine zj_iload_n (pc := 7) hc dX8_countIn_7 rfl ?_
    refine zj_icmp_ge (pc := 8) (tgt := 31) hc dX8_countIn_8 (by decide) (fun hx1 => ?_) (fun hx1 => ?_)
    · have h := h.1 hx1
      refine zj_iload_n (pc := 31) hc dX8_countIn_31 rfl ?_
      exact zj_iret (pc := 32) hc hr hlk dX8_countIn_32 (by decide) (by decide) ⟨rfl, h⟩
    · have h := h.2 hx1
      refine zj_aload_n (pc := 11) hc dX8_countIn_11 rfl ?_
      refine zgv_X8_2 (pc := 12) ho hc lk_X8_22 dX8_countIn_12 ?_
      refine zj_iload (pc := 15) hc dX8_countIn_15 rfl ?_
      refine zj_iald (pc := 17) hc dX8_countIn_17 (alenv_X8_2 ho) h.1 ?_
      have h := h.2
      refine zj_iconst (pc := 18) hc dX8_countIn_18 (zin _ rfl) ?_
      refine zj_icmp_eq (pc := 19) (tgt := 25) hc dX8_countIn_19 (by decide) (fun hx2 => ?_) (fun hx2 => ?_)
      · have h := h.1 hx2
        exact k25 v2 v3 v4 X5 hX5 h
      · have h := h.2 hx2
        refine zj_iinc (pc := 22) hc dX8_countIn_22 rfl (by decide) h.1 ?_
        have h := h.2
        exact k25 v2 (v3 + 1) v4 X5 hX5 h
  unfold T_X8_countIn at h
  refine zj_iconst (pc := 0) hc dX8_countIn_0 (zin _ rfl) ?_
  refine zj_istore_n (pc := 1) hc dX8_countIn_1 (by decide) ?_
  refine zj_iload_n (pc := 2) hc dX8_countIn_2 rfl ?_
  refine zj_istore (pc := 3) hc dX8_countIn_3 (by decide) ?_
  refine zj_mask (bs := [true, false, true, true, true]) ?_
  exact k5 v2 0 v1 h
set_option maxHeartbeats 4000000 in
set_option maxRecDepth 100000 in
theorem S_X8_plainSize (l : Launch) (G : zG) {o : Nat} (ho : o = 3 ∨ o = 5) (v1 : Int) (v2 : Int) (M : zMem) (Qr : Int → Prop) (h : T_X8_plainSize o v1 v2 Qr M) : zMetI l yX8_plainSize cX8_plainSize 5 (some .int) 0 0 0 0 G [.inr (64 * o + 63), .inl v1, .inl v2] M (fun r9 M9 => M = M9 ∧ Qr r9) := by
  refine zmetI (by decide) (Nat.le_of_ble_eq_true rfl) [some (.inr (64 * o + 63)), some (.inl v1), some (.inl v2), none, none] rfl ?_
  intro p e s m args below meth c hc hr hlk
  have k34 : ∀ (v2 : Int) (v3 : Int) (v4 : Int) (X5 : Int → Int → Prop) (hX5 : ∀ (v3 : Int) (v4 : Int), X5 v3 v4 → zJ p l e (zRoom 0 0 0 0) s m args below meth c G 5 0 0 (MQ below (zQi G (fun r9 M9 => M = M9 ∧ Qr r9)) args s 0 0 (zA G)) 5 [some (.inr (64 * o + 63)), none, some (.inl v2), some (.inl v3), some (.inl v4)] [] M), T_X8_plainSize_34 o v2 v3 v4 X5 Qr M → zJ p l e (zRoom 0 0 0 0) s m args below meth c G 5 0 0 (MQ below (zQi G (fun r9 M9 => M = M9 ∧ Qr r9)) args s 0 0 (zA G)) 34 [some (.inr (64 * o + 63)), none, some (.inl v2), some (.inl v3), some (.inl v4)] [] M := by
    intro v2 v3 v4 X5 hX5 h
    unfold T_X8_plainSize_34 at h
    refine zj_iinc (pc := 34) hc dX8_plainSize_34 rfl (by decide) h.1 ?_
    have h := h.2
    refine zj_goto (pc := 37) (tgt := 5) hc dX8_plainSize_37 (by decide) ?_
    exact hX5 v3 (v4 + 1) h
  have k5 : ∀ (v2 : Int) (v3 : Int) (v4 : Int), T_X8_plainSize_5 o v2 Qr v3 v4 M → zJ p l e (zRoom 0 0 0 0) s m args below meth c G 5 0 0 (MQ below (zQi G (fun r9 M9 => M = M9 ∧ Qr r9)) args s 0 0 (zA G)) 5 [some (.inr (64 * o + 63)), none, some (.inl v2), some (.inl v3), some (.inl v4)] [] M := by
    intro v2 v3 v4 h
    unfold T_X8_plainSize_5 at h
    refine zp2_use h (fun v3 v4 => zJ p l e (zRoom 0 0 0 0) s m args below meth c G 5 0 0 (MQ below (zQi G (fun r9 M9 => M = M9 ∧ Qr r9)) args s 0 0 (zA G)) 5 [some (.inr (64 * o + 63)), none, some (.inl v2), some (.inl v3), some (.inl v4)] [] M) (fun X5 hX5 v3 v4 h => ?_)
    refine zj_iload (pc := 5) hc dX8_plainSize_5 rfl ?_
    refine zj_iload_n (pc := 7) hc dX8_plainSize_7 rfl ?_
    refine zj_icmp_ge (pc := 8) (tgt := 40) hc dX8_plainSize_8 (by decide) (fun hx1 => ?_) (fun hx1 => ?_)
    · have h := h.1 hx1
      refine zj_iload_n (pc := 40) hc dX8_plainSize_40 rfl ?_
      exact zj_iret (pc := 41) hc hr hlk dX8_plainSize_41 (by decide) (by decide) ⟨rfl, h⟩
    · have h := h.2 hx1
      refine zj_aload_n (pc := 11) hc dX8_plainSize_11 rfl ?_
      refine zgv_X8_2 (pc := 12) ho hc lk_X8_22 dX8_plainSize_12 ?_
      refine zj_iload (pc := 15) hc dX8_plainSize_15 rfl ?_
      refine zj_iald (pc := 17) hc dX8_plainSize_17 (alenv_X8_2 ho) h.1 ?_
      have h := h.2
      refine zj_iconst (pc := 18) hc dX8_plainSize_18 (zin _ rfl) ?_
      refine zj_icmp_eq (pc := 19) (tgt := 34) hc dX8_plainSize_19 (by decide) (fun hx2 => ?_) (fun hx2 => ?_)
      · have h := h.1 hx2
        exact k34 v2 v3 v4 X5 hX5 h
      · have h := h.2 hx2
        refine zj_iload_n (pc := 22) hc dX8_plainSize_22 rfl ?_
        refine zj_iconst (pc := 23) hc dX8_plainSize_23 (zin _ rfl) ?_
        refine zj_aload_n (pc := 24) hc dX8_plainSize_24 rfl ?_
        refine zgv_X8_2 (pc := 25) ho hc lk_X8_22 dX8_plainSize_25 ?_
        refine zj_iload (pc := 28) hc dX8_plainSize_28 rfl ?_
        refine zj_iald (pc := 30) hc dX8_plainSize_30 (alenv_X8_2 ho) h.1 ?_
        have h := h.2
        refine zj_iadd (pc := 31) hc dX8_plainSize_31 h.1 ?_
        have h := h.2
        refine zj_iadd (pc := 32) hc dX8_plainSize_32 h.1 ?_
        have h := h.2
        refine zj_istore_n (pc := 33) hc dX8_plainSize_33 (by decide) ?_
        exact k34 v2 (v3 + (2 + (M.2 (64 * o + 2) v4))) v4 X5 hX5 h
  unfold T_X8_plainSize at h
  refine zj_iconst (pc := 0) hc dX8_plainSize_0 (zin _ rfl) ?_
  refine zj_istore_n (pc := 1) hc dX8_plainSize_1 (by decide) ?_
  refine zj_iload_n (pc := 2) hc dX8_plainSize_2 rfl ?_
  refine zj_istore (pc := 3) hc dX8_plainSize_3 (by decide) ?_
  refine zj_mask (bs := [true, false, true, true, true]) ?_
  exact k5 v2 0 v1 h
set_option maxHeartbeats 4000000 in
set_option maxRecDepth 100000 in
theorem S_X8_lowestIn (l : Launch) (G : zG) {o : Nat} (ho : o = 3 ∨ o = 5) (v1 : Int) (v2 : Int) (M : zMem) (Qr : Int → Prop) (h : T_X8_lowestIn o v1 v2 Qr M) : zMetI l yX8_lowestIn cX8_lowestIn 4 (some .int) 0 0 0 0 G [.inr (64 * o + 63), .inl v1, .inl v2] M (fun r9 M9 => M = M9 ∧ Qr r9) := by
  refine zmetI (by decide) (Nat.le_of_ble_eq_true rfl) [some (.inr (64 * o + 63)), some (.inl v1), some (.inl v2), none] rfl ?_
  intro p e s m args below meth c hc hr hlk
  have k2 : ∀ (v2 : Int) (v3 : Int), T_X8_lowestIn_2 o v2 Qr v3 M → zJ p l e (zRoom 0 0 0 0) s m args below meth c G 4 0 0 (MQ below (zQi G (fun r9 M9 => M = M9 ∧ Qr r9)) args s 0 0 (zA G)) 2 [some (.inr (64 * o + 63)), none, some (.inl v2), some (.inl v3)] [] M := by
    intro v2 v3 h
    unfold T_X8_lowestIn_2 at h
    refine zp1_use h (fun v3 => zJ p l e (zRoom 0 0 0 0) s m args below meth c G 4 0 0 (MQ below (zQi G (fun r9 M9 => M = M9 ∧ Qr r9)) args s 0 0 (zA G)) 2 [some (.inr (64 * o + 63)), none, some (.inl v2), some (.inl v3)] [] M) (fun X2 hX2 v3 h => ?_)
    refine zj_iload_n (pc := 2) hc dX8_lowestIn_2 rfl ?_
    refine zj_iload_n (pc := 3) hc dX8_lowestIn_3 rfl ?_
    refine zj_icmp_ge (pc := 4) (tgt := 25) hc dX8_lowestIn_4 (by decide) (fun hx1 => ?_) (fun hx1 => ?_)
    · have h := h.1 hx1
      refine zj_iconst (pc := 25) hc dX8_lowestIn_25 (zin _ rfl) ?_
      exact zj_iret (pc := 26) hc hr hlk dX8_lowestIn_26 (by decide) (by decide) ⟨rfl, h⟩
    · have h := h.2 hx1
      refine zj_aload_n (pc := 7) hc dX8_lowestIn_7 rfl ?_
      refine zgv_X8_2 (pc := 8) ho hc lk_X8_22 dX8_lowestIn_8 ?_
      refine zj_iload_n (pc := 11) hc dX8_lowestIn_11 rfl ?_
      refine zj_iald (pc := 12) hc dX8_lowestIn_12 (alenv_X8_2 ho) h.1 ?_
      have h := h.2
      refine zj_iconst (pc := 13) hc dX8_lowestIn_13 (zin _ rfl) ?_
      refine zj_icmp_eq (pc := 14) (tgt := 19) hc dX8_lowestIn_14 (by decide) (fun hx2 => ?_) (fun hx2 => ?_)
      · have h := h.1 hx2
        refine zj_iinc (pc := 19) hc dX8_lowestIn_19 rfl (by decide) h.1 ?_
        have h := h.2
        refine zj_goto (pc := 22) (tgt := 2) hc dX8_lowestIn_22 (by decide) ?_
        exact hX2 (v3 + 1) h
      · have h := h.2 hx2
        refine zj_iload_n (pc := 17) hc dX8_lowestIn_17 rfl ?_
        exact zj_iret (pc := 18) hc hr hlk dX8_lowestIn_18 (by decide) (by decide) ⟨rfl, h⟩
  unfold T_X8_lowestIn at h
  refine zj_iload_n (pc := 0) hc dX8_lowestIn_0 rfl ?_
  refine zj_istore_n (pc := 1) hc dX8_lowestIn_1 (by decide) ?_
  refine zj_mask (bs := [true, false, true, true]) ?_
  exact k2 v2 v1 h
set_option maxHeartbeats 4000000 in
set_option maxRecDepth 100000 in
theorem S_X8_cutOf (l : Launch) (G : zG) {o : Nat} (ho : o = 3 ∨ o = 5) (v1 : Int) (v2 : Int) (M : zMem) (Qr : Int → Prop) (h : T_X8_cutOf o v1 v2 Qr M) : zMetI l yX8_cutOf cX8_cutOf 6 (some .int) 1 24 0 0 G [.inr (64 * o + 63), .inl v1, .inl v2] M (fun r9 M9 => M = M9 ∧ Qr r9) := by
  refine zmetI (by decide) (Nat.le_of_ble_eq_true rfl) [some (.inr (64 * o + 63)), some (.inl v1), some (.inl v2), none, none, none] rfl ?_
  intro p e s m args below meth c hc hr hlk
  have k44 : ∀ (v2 : Int) (v3 : Int) (v4 : Int) (v5 : Int) (X15 : Int → Int → Prop) (hX15 : ∀ (v4 : Int) (v5 : Int), X15 v4 v5 → zJ p l e (zRoom 1 24 0 0) s m args below meth c G 6 0 0 (MQ below (zQi G (fun r9 M9 => M = M9 ∧ Qr r9)) args s 0 0 (zA G)) 15 [some (.inr (64 * o + 63)), none, some (.inl v2), some (.inl v3), some (.inl v4), some (.inl v5)] [] M), T_X8_cutOf_44 o v2 v3 v4 v5 X15 Qr M → zJ p l e (zRoom 1 24 0 0) s m args below meth c G 6 0 0 (MQ below (zQi G (fun r9 M9 => M = M9 ∧ Qr r9)) args s 0 0 (zA G)) 44 [some (.inr (64 * o + 63)), none, some (.inl v2), some (.inl v3), some (.inl v4), some (.inl v5)] [] M := by
    intro v2 v3 v4 v5 X15 hX15 h
    unfold T_X8_cutOf_44 at h
    refine zj_iinc (pc := 44) hc dX8_cutOf_44 rfl (by decide) h.1 ?_
    have h := h.2
    refine zj_goto (pc := 47) (tgt := 15) hc dX8_cutOf_47 (by decide) ?_
    exact hX15 v4 (v5 + 1) h
  have k15 : ∀ (v2 : Int) (v3 : Int) (v4 : Int) (v5 : Int), T_X8_cutOf_15 o v2 v3 Qr v4 v5 M → zJ p l e (zRoom 1 24 0 0) s m args below meth c G 6 0 0 (MQ below (zQi G (fun r9 M9 => M = M9 ∧ Qr r9)) args s 0 0 (zA G)) 15 [some (.inr (64 * o + 63)), none, some (.inl v2), some (.inl v3), some (.inl v4), some (.inl v5)] [] M := by
    intro v2 v3 v4 v5 h
    unfold T_X8_cutOf_15 at h
    refine zp2_use h (fun v4 v5 => zJ p l e (zRoom 1 24 0 0) s m args below meth c G 6 0 0 (MQ below (zQi G (fun r9 M9 => M = M9 ∧ Qr r9)) args s 0 0 (zA G)) 15 [some (.inr (64 * o + 63)), none, some (.inl v2), some (.inl v3), some (.inl v4), some (.inl v5)] [] M) (fun X15 hX15 v4 v5 h => ?_)
    refine zj_iload (pc := 15) hc dX8_cutOf_15 rfl ?_
    refine zj_iload_n (pc := 17) hc dX8_cutOf_17 rfl ?_
    refine zj_icmp_ge (pc := 18) (tgt := 50) hc dX8_cutOf_18 (by decide) (fun hx1 => ?_) (fun hx1 => ?_)
    · have h := h.1 hx1
      refine zj_iload_n (pc := 50) hc dX8_cutOf_50 rfl ?_
      exact zj_iret (pc := 51) hc hr hlk dX8_cutOf_51 (by decide) (by decide) ⟨rfl, h⟩
    · have h := h.2 hx1
      refine zj_aload_n (pc := 21) hc dX8_cutOf_21 rfl ?_
      refine zgv_X8_2 (pc := 22) ho hc lk_X8_22 dX8_cutOf_22 ?_
      refine zj_iload (pc := 25) hc dX8_cutOf_25 rfl ?_
      refine zj_iald (pc := 27) hc dX8_cutOf_27 (alenv_X8_2 ho) h.1 ?_
      have h := h.2
      refine zj_iconst (pc := 28) hc dX8_cutOf_28 (zin _ rfl) ?_
      refine zj_icmp_eq (pc := 29) (tgt := 44) hc dX8_cutOf_29 (by decide) (fun hx2 => ?_) (fun hx2 => ?_)
      · have h := h.1 hx2
        exact k44 v2 v3 v4 v5 X15 hX15 h
      · have h := h.2 hx2
        refine zj_iload (pc := 32) hc dX8_cutOf_32 rfl ?_
        refine zj_iload_n (pc := 34) hc dX8_cutOf_34 rfl ?_
        refine zj_icmp_ne (pc := 35) (tgt := 41) hc dX8_cutOf_35 (by decide) (fun hx3 => ?_) (fun hx3 => ?_)
        · have h := h.1 hx3
          refine zj_iinc (pc := 41) hc dX8_cutOf_41 rfl (by decide) h.1 ?_
          have h := h.2
          exact k44 v2 v3 (v4 + 1) v5 X15 hX15 h
        · have h := h.2 hx3
          refine zj_iload (pc := 38) hc dX8_cutOf_38 rfl ?_
          exact zj_iret (pc := 40) hc hr hlk dX8_cutOf_40 (by decide) (by decide) ⟨rfl, h⟩
  unfold T_X8_cutOf at h
  refine zj_aload_n (pc := 0) hc dX8_cutOf_0 rfl ?_
  refine zj_iload_n (pc := 1) hc dX8_cutOf_1 rfl ?_
  refine zj_iload_n (pc := 2) hc dX8_cutOf_2 rfl ?_
  refine zj_vti (pc := 3) (st := []) hc ks_X8_countIn iv_X8_countIn lk_X8_98 (zrvv_X8 G M ho) (S_X8_countIn l G ho v1 v2 M _ h) rfl ⟨Nat.le_of_ble_eq_true rfl, Nat.le_of_ble_eq_true rfl⟩ (Nat.le_of_ble_eq_true rfl) ⟨Nat.le_of_ble_eq_true rfl, Nat.le_of_ble_eq_true rfl⟩ dX8_cutOf_3 rfl (fun y4 M9 h => ?_)
  obtain ⟨hM9, h⟩ := h
  subst hM9
  refine zj_iconst (pc := 6) hc dX8_cutOf_6 (zin _ rfl) ?_
  refine zj_idiv (pc := 7) hc dX8_cutOf_7 (by decide) ?_
  refine zj_istore_n (pc := 8) hc dX8_cutOf_8 (by decide) ?_
  refine zj_iconst (pc := 9) hc dX8_cutOf_9 (zin _ rfl) ?_
  refine zj_istore (pc := 10) hc dX8_cutOf_10 (by decide) ?_
  refine zj_iload_n (pc := 12) hc dX8_cutOf_12 rfl ?_
  refine zj_istore (pc := 13) hc dX8_cutOf_13 (by decide) ?_
  refine zj_mask (bs := [true, false, true, true, true, true]) ?_
  exact k15 v2 (Int.tdiv y4 2) 0 v1 h
set_option maxHeartbeats 4000000 in
set_option maxRecDepth 100000 in
theorem S_X8_layOut (l : Launch) (G : zG) {o : Nat} (ho : o = 3 ∨ o = 5) (v1 : Int) (v2 : Int) (M : zMem) (Qr : Int → zMem → Prop) (h : T_X8_layOut o v1 v2 Qr M) : zMetI l yX8_layOut cX8_layOut 6 (some .int) 1 26 0 0 G [.inr (64 * o + 63), .inl v1, .inl v2] M Qr := by
  refine zmetI (by decide) (Nat.le_of_ble_eq_true rfl) [some (.inr (64 * o + 63)), some (.inl v1), some (.inl v2), none, none, none] rfl ?_
  intro p e s m args below meth c hc hr hlk
  have k86 : ∀ (M : zMem) (v2 : Int) (v3 : Int) (v4 : Int) (X5 : Int → Int → zMem → Prop) (hX5 : ∀ (v3 : Int) (v4 : Int) (M : zMem), X5 v3 v4 M → zJ p l e (zRoom 1 26 0 0) s m args below meth c G 6 0 0 (MQ below (zQi G (Qr)) args s 0 0 (zA G)) 5 [some (.inr (64 * o + 63)), none, some (.inl v2), some (.inl v3), some (.inl v4), none] [] M), T_X8_layOut_86 o v2 v3 v4 X5 Qr M → zJ p l e (zRoom 1 26 0 0) s m args below meth c G 6 0 0 (MQ below (zQi G (Qr)) args s 0 0 (zA G)) 86 [some (.inr (64 * o + 63)), none, some (.inl v2), some (.inl v3), some (.inl v4), none] [] M := by
    intro M v2 v3 v4 X5 hX5 h
    unfold T_X8_layOut_86 at h
    refine zj_iinc (pc := 86) hc dX8_layOut_86 rfl (by decide) h.1 ?_
    have h := h.2
    refine zj_goto (pc := 89) (tgt := 5) hc dX8_layOut_89 (by decide) ?_
    exact hX5 v3 (v4 + 1) M h
  have k5 : ∀ (M : zMem) (v2 : Int) (v3 : Int) (v4 : Int), T_X8_layOut_5 o v2 Qr v3 v4 M → zJ p l e (zRoom 1 26 0 0) s m args below meth c G 6 0 0 (MQ below (zQi G (Qr)) args s 0 0 (zA G)) 5 [some (.inr (64 * o + 63)), none, some (.inl v2), some (.inl v3), some (.inl v4), none] [] M := by
    intro M v2 v3 v4 h
    unfold T_X8_layOut_5 at h
    refine zl2_use h (fun v3 v4 M => zJ p l e (zRoom 1 26 0 0) s m args below meth c G 6 0 0 (MQ below (zQi G (Qr)) args s 0 0 (zA G)) 5 [some (.inr (64 * o + 63)), none, some (.inl v2), some (.inl v3), some (.inl v4), none] [] M) (fun X5 hX5 v3 v4 M h => ?_)
    refine zj_iload (pc := 5) hc dX8_layOut_5 rfl ?_
    refine zj_iload_n (pc := 7) hc dX8_layOut_7 rfl ?_
    refine zj_icmp_ge (pc := 8) (tgt := 92) hc dX8_layOut_8 (by decide) (fun hx1 => ?_) (fun hx1 => ?_)
    · have h := h.1 hx1
      refine zj_iload_n (pc := 92) hc dX8_layOut_92 rfl ?_
      exact zj_iret (pc := 93) hc hr hlk dX8_layOut_93 (by decide) (by decide) h
    · have h := h.2 hx1
      refine zj_aload_n (pc := 11) hc dX8_layOut_11 rfl ?_
      refine zgv_X8_2 (pc := 12) ho hc lk_X8_22 dX8_layOut_12 ?_
      refine zj_iload (pc := 15) hc dX8_layOut_15 rfl ?_
      refine zj_iald (pc := 17) hc dX8_layOut_17 (alenv_X8_2 ho) h.1 ?_
      have h := h.2
      refine zj_istore (pc := 18) hc dX8_layOut_18 (by decide) ?_
      refine zj_iload (pc := 20) hc dX8_layOut_20 rfl ?_
      refine zj_iconst (pc := 22) hc dX8_layOut_22 (zin _ rfl) ?_
      refine zj_icmp_eq (pc := 23) (tgt := 86) hc dX8_layOut_23 (by decide) (fun hx2 => ?_) (fun hx2 => ?_)
      · have h := h.1 hx2
        refine zj_mask (bs := [true, true, true, true, true, false]) ?_
        exact k86 M v2 v3 v4 X5 hX5 h
      · have h := h.2 hx2
        refine zj_iload_n (pc := 26) hc dX8_layOut_26 rfl ?_
        refine zj_iconst (pc := 27) hc dX8_layOut_27 (zin _ rfl) ?_
        refine zj_iadd (pc := 28) hc dX8_layOut_28 h.1 ?_
        have h := h.2
        refine zj_iload (pc := 29) hc dX8_layOut_29 rfl ?_
        refine zj_iadd (pc := 31) hc dX8_layOut_31 h.1 ?_
        have h := h.2
        refine zj_aload_n (pc := 32) hc dX8_layOut_32 rfl ?_
        refine zgv_X8_1 (pc := 33) ho hc lk_X8_18 dX8_layOut_33 ?_
        refine zj_alen (pc := 36) hc dX8_layOut_36 (alenv_X8_1 ho) (by decide) ?_
        refine zj_icmp_gt (pc := 37) (tgt := 86) hc dX8_layOut_37 (by decide) (fun hx3 => ?_) (fun hx3 => ?_)
        · have h := h.1 hx3
          refine zj_mask (bs := [true, true, true, true, true, false]) ?_
          exact k86 M v2 v3 v4 X5 hX5 h
        · have h := h.2 hx3
          refine zj_aload_n (pc := 40) hc dX8_layOut_40 rfl ?_
          refine zgv_X8_1 (pc := 41) ho hc lk_X8_18 dX8_layOut_41 ?_
          refine zj_iload_n (pc := 44) hc dX8_layOut_44 rfl ?_
          refine zj_iload (pc := 45) hc dX8_layOut_45 rfl ?_
          refine zj_iast (pc := 47) hc dX8_layOut_47 (alenv_X8_1 ho) h.1 (fun M4 hM4 => ?_)
          have h := h.2 M4 hM4
          refine zj_aload_n (pc := 48) hc dX8_layOut_48 rfl ?_
          refine zgv_X8_1 (pc := 49) ho hc lk_X8_18 dX8_layOut_49 ?_
          refine zj_iload_n (pc := 52) hc dX8_layOut_52 rfl ?_
          refine zj_iconst (pc := 53) hc dX8_layOut_53 (zin _ rfl) ?_
          refine zj_iadd (pc := 54) hc dX8_layOut_54 h.1 ?_
          have h := h.2
          refine zj_iload (pc := 55) hc dX8_layOut_55 rfl ?_
          refine zj_iast (pc := 57) hc dX8_layOut_57 (alenv_X8_1 ho) h.1 (fun M5 hM5 => ?_)
          have h := h.2 M5 hM5
          refine zj_aload_n (pc := 58) hc dX8_layOut_58 rfl ?_
          refine zgv_X8_3 (pc := 59) ho hc lk_X8_25 dX8_layOut_59 ?_
          refine zj_iload (pc := 62) hc dX8_layOut_62 rfl ?_
          refine zj_bipush (pc := 64) hc dX8_layOut_64 (by decide) (zin _ rfl) ?_
          refine zj_imul (pc := 66) hc dX8_layOut_66 h.1 ?_
          have h := h.2
          refine zj_aload_n (pc := 67) hc dX8_layOut_67 rfl ?_
          refine zgv_X8_1 (pc := 68) ho hc lk_X8_18 dX8_layOut_68 ?_
          refine zj_iload_n (pc := 71) hc dX8_layOut_71 rfl ?_
          refine zj_iconst (pc := 72) hc dX8_layOut_72 (zin _ rfl) ?_
          refine zj_iadd (pc := 73) hc dX8_layOut_73 h.1 ?_
          have h := h.2
          refine zj_iload (pc := 74) hc dX8_layOut_74 rfl ?_
          refine zj_copy (pc := 76) hc dX8_layOut_76 lk_X8_78 na_copy st_copy in_System (alenv_X8_3 ho) (alenv_X8_1 ho) h.1 (Nat.le_of_ble_eq_true rfl) (Nat.le_of_ble_eq_true rfl) (fun M6 hM6 => ?_)
          have h := h.2 M6 hM6
          refine zj_iload_n (pc := 79) hc dX8_layOut_79 rfl ?_
          refine zj_iconst (pc := 80) hc dX8_layOut_80 (zin _ rfl) ?_
          refine zj_iload (pc := 81) hc dX8_layOut_81 rfl ?_
          refine zj_iadd (pc := 83) hc dX8_layOut_83 h.1 ?_
          have h := h.2
          refine zj_iadd (pc := 84) hc dX8_layOut_84 h.1 ?_
          have h := h.2
          refine zj_istore_n (pc := 85) hc dX8_layOut_85 (by decide) ?_
          refine zj_mask (bs := [true, true, true, true, true, false]) ?_
          exact k86 M6 v2 (v3 + (2 + (M.2 (64 * o + 2) v4))) v4 X5 hX5 h
  unfold T_X8_layOut at h
  refine zj_iconst (pc := 0) hc dX8_layOut_0 (zin _ rfl) ?_
  refine zj_istore_n (pc := 1) hc dX8_layOut_1 (by decide) ?_
  refine zj_iload_n (pc := 2) hc dX8_layOut_2 rfl ?_
  refine zj_istore (pc := 3) hc dX8_layOut_3 (by decide) ?_
  refine zj_mask (bs := [true, false, true, true, true, true]) ?_
  exact k5 M v2 0 v1 h
set_option maxHeartbeats 4000000 in
set_option maxRecDepth 100000 in
theorem S_X1_begin (l : Launch) (G : zG) (r1 : Nat) (r2 : Nat) (r3 : Nat) (M : zMem) (Qr : zMem → Prop) (h : T_X1_begin r1 r2 r3 Qr M) : zMetV l yX1_begin cX1_begin 4 none 1 26 0 0 G [.inr 191, .inr r1, .inr r2, .inr r3] M Qr := by
  refine zmetV (by decide) (Nat.le_of_ble_eq_true rfl) [some (.inr 191), some (.inr r1), some (.inr r2), some (.inr r3)] rfl ?_
  intro p e s m args below meth c hc hr hlk
  unfold T_X1_begin at h
  refine zj_aload_n (pc := 0) hc dX1_begin_0 rfl ?_
  refine zj_iconst (pc := 1) hc dX1_begin_1 (zin _ rfl) ?_
  refine zj_aload_n (pc := 2) hc dX1_begin_2 rfl ?_
  refine zg_2_0 (pc := 3) hc lk_X1_9 dX1_begin_3 ?_
  refine zj_iconst (pc := 6) hc dX1_begin_6 (zin _ rfl) ?_
  refine zj_sipush (pc := 7) hc dX1_begin_7 (by decide) (zin _ rfl) ?_
  refine zj_copy (pc := 10) hc dX1_begin_10 lk_X1_41 na_copy st_copy in_System rfl alen_128 h.1 (Nat.le_of_ble_eq_true rfl) (Nat.le_of_ble_eq_true rfl) (fun M1 hM1 => ?_)
  have h := h.2 M1 hM1
  refine zj_aload_n (pc := 13) hc dX1_begin_13 rfl ?_
  refine zj_iconst (pc := 14) hc dX1_begin_14 (zin _ rfl) ?_
  refine zj_aload_n (pc := 15) hc dX1_begin_15 rfl ?_
  refine zg_2_1 (pc := 16) hc lk_X1_15 dX1_begin_16 ?_
  refine zj_iconst (pc := 19) hc dX1_begin_19 (zin _ rfl) ?_
  refine zj_iconst (pc := 20) hc dX1_begin_20 (zin _ rfl) ?_
  refine zj_copy (pc := 21) hc dX1_begin_21 lk_X1_41 na_copy st_copy in_System rfl alen_129 h.1 (Nat.le_of_ble_eq_true rfl) (Nat.le_of_ble_eq_true rfl) (fun M2 hM2 => ?_)
  have h := h.2 M2 hM2
  refine zj_aload_n (pc := 24) hc dX1_begin_24 rfl ?_
  refine zj_iconst (pc := 25) hc dX1_begin_25 (zin _ rfl) ?_
  refine zj_aload_n (pc := 26) hc dX1_begin_26 rfl ?_
  refine zg_2_5 (pc := 27) hc lk_X1_32 dX1_begin_27 ?_
  refine zj_iconst (pc := 30) hc dX1_begin_30 (zin _ rfl) ?_
  refine zj_aload_n (pc := 31) hc dX1_begin_31 rfl ?_
  refine zg_2_5 (pc := 32) hc lk_X1_32 dX1_begin_32 ?_
  refine zj_alen (pc := 35) hc dX1_begin_35 alen_133 (by decide) ?_
  refine zj_copy (pc := 36) hc dX1_begin_36 lk_X1_41 na_copy st_copy in_System rfl alen_133 h.1 (Nat.le_of_ble_eq_true rfl) (Nat.le_of_ble_eq_true rfl) (fun M3 hM3 => ?_)
  have h := h.2 M3 hM3
  refine zj_aload_n (pc := 39) hc dX1_begin_39 rfl ?_
  refine zg_2_2 (pc := 40) hc lk_X1_18 dX1_begin_40 ?_
  refine zj_iconst (pc := 43) hc dX1_begin_43 (zin _ rfl) ?_
  refine zj_stv (pc := 44) (st := []) hc ks_J7_fill_53178 st_J7_fill_53178 lk_X1_47 (S_J7_fill_53178 l G 130 0 M3 _ h) rfl ⟨Nat.le_of_ble_eq_true rfl, Nat.le_of_ble_eq_true rfl⟩ (Nat.le_of_ble_eq_true rfl) ⟨Nat.le_of_ble_eq_true rfl, Nat.le_of_ble_eq_true rfl⟩ dX1_begin_44 rfl (fun M4 h => ?_)
  exact zj_vret (pc := 47) hc hr hlk dX1_begin_47 (by decide) (by decide) h
set_option maxHeartbeats 4000000 in
set_option maxRecDepth 100000 in
theorem S_X1_full (l : Launch) (G : zG) (M : zMem) (Qr : Int → Prop) (h : T_X1_full Qr M) : zMetI l yX1_full cX1_full 1 (some .int) 0 0 0 0 G [.inr 191] M (fun r9 M9 => M = M9 ∧ Qr r9) := by
  refine zmetI (by decide) (Nat.le_of_ble_eq_true rfl) [some (.inr 191)] rfl ?_
  intro p e s m args below meth c hc hr hlk
  unfold T_X1_full at h
  refine zj_bipush (pc := 0) hc dX1_full_0 (by decide) (zin _ rfl) ?_
  refine zj_aload_n (pc := 2) hc dX1_full_2 rfl ?_
  refine zg_2_1 (pc := 3) hc lk_X1_15 dX1_full_3 ?_
  refine zj_iconst (pc := 6) hc dX1_full_6 (zin _ rfl) ?_
  refine zj_iald (pc := 7) hc dX1_full_7 alen_129 h.1 ?_
  have h := h.2
  refine zj_isub (pc := 8) hc dX1_full_8 h.1 ?_
  have h := h.2
  exact zj_iret (pc := 9) hc hr hlk dX1_full_9 (by decide) (by decide) ⟨rfl, h⟩
set_option maxHeartbeats 4000000 in
set_option maxRecDepth 100000 in
theorem S_X1_removeFromDirectory (l : Launch) (G : zG) (v1 : Int) (M : zMem) (Qr : zMem → Prop) (h : T_X1_removeFromDirectory v1 Qr M) : zMetV l yX1_removeFromDirectory cX1_removeFromDirectory 4 none 1 26 0 0 G [.inr 191, .inl v1] M Qr := by
  refine zmetV (by decide) (Nat.le_of_ble_eq_true rfl) [some (.inr 191), some (.inl v1), none, none] rfl ?_
  intro p e s m args below meth c hc hr hlk
  unfold T_X1_removeFromDirectory at h
  refine zj_aload_n (pc := 0) hc dX1_removeFromDirectory_0 rfl ?_
  refine zg_2_0 (pc := 1) hc lk_X1_9 dX1_removeFromDirectory_1 ?_
  refine zj_sti (pc := 4) (st := []) hc ks_X4_inUse st_X4_inUse lk_X1_162 (S_X4_inUse l G 128 M _ h) rfl ⟨Nat.le_of_ble_eq_true rfl, Nat.le_of_ble_eq_true rfl⟩ (Nat.le_of_ble_eq_true rfl) ⟨Nat.le_of_ble_eq_true rfl, Nat.le_of_ble_eq_true rfl⟩ dX1_removeFromDirectory_4 rfl (fun y1 M9 h => ?_)
  obtain ⟨hM9, h⟩ := h
  subst hM9
  refine zj_istore_n (pc := 7) hc dX1_removeFromDirectory_7 (by decide) ?_
  refine zj_iload_n (pc := 8) hc dX1_removeFromDirectory_8 rfl ?_
  refine zj_if_lt (pc := 9) (tgt := 17) hc dX1_removeFromDirectory_9 (by decide) (fun hx2 => ?_) (fun hx2 => ?_)
  · have h := h.1 hx2
    exact zj_vret (pc := 17) hc hr hlk dX1_removeFromDirectory_17 (by decide) (by decide) h
  · have h := h.2 hx2
    refine zj_iload_n (pc := 12) hc dX1_removeFromDirectory_12 rfl ?_
    refine zj_iload_n (pc := 13) hc dX1_removeFromDirectory_13 rfl ?_
    refine zj_icmp_lt (pc := 14) (tgt := 18) hc dX1_removeFromDirectory_14 (by decide) (fun hx3 => ?_) (fun hx3 => ?_)
    · have h := h.1 hx3
      refine zj_sipush (pc := 18) hc dX1_removeFromDirectory_18 (by decide) (zin _ rfl) ?_
      refine zj_iconst (pc := 21) hc dX1_removeFromDirectory_21 (zin _ rfl) ?_
      refine zj_iload_n (pc := 22) hc dX1_removeFromDirectory_22 rfl ?_
      refine zj_imul (pc := 23) hc dX1_removeFromDirectory_23 h.1 ?_
      have h := h.2
      refine zj_iadd (pc := 24) hc dX1_removeFromDirectory_24 h.1 ?_
      have h := h.2
      refine zj_istore_n (pc := 25) hc dX1_removeFromDirectory_25 (by decide) ?_
      refine zj_aload_n (pc := 26) hc dX1_removeFromDirectory_26 rfl ?_
      refine zg_2_0 (pc := 27) hc lk_X1_9 dX1_removeFromDirectory_27 ?_
      refine zj_iload_n (pc := 30) hc dX1_removeFromDirectory_30 rfl ?_
      refine zj_iconst (pc := 31) hc dX1_removeFromDirectory_31 (zin _ rfl) ?_
      refine zj_iadd (pc := 32) hc dX1_removeFromDirectory_32 h.1 ?_
      have h := h.2
      refine zj_aload_n (pc := 33) hc dX1_removeFromDirectory_33 rfl ?_
      refine zg_2_0 (pc := 34) hc lk_X1_9 dX1_removeFromDirectory_34 ?_
      refine zj_iload_n (pc := 37) hc dX1_removeFromDirectory_37 rfl ?_
      refine zj_iconst (pc := 38) hc dX1_removeFromDirectory_38 (zin _ rfl) ?_
      refine zj_iload_n (pc := 39) hc dX1_removeFromDirectory_39 rfl ?_
      refine zj_iconst (pc := 40) hc dX1_removeFromDirectory_40 (zin _ rfl) ?_
      refine zj_isub (pc := 41) hc dX1_removeFromDirectory_41 h.1 ?_
      have h := h.2
      refine zj_iload_n (pc := 42) hc dX1_removeFromDirectory_42 rfl ?_
      refine zj_isub (pc := 43) hc dX1_removeFromDirectory_43 h.1 ?_
      have h := h.2
      refine zj_imul (pc := 44) hc dX1_removeFromDirectory_44 h.1 ?_
      have h := h.2
      refine zj_copy (pc := 45) hc dX1_removeFromDirectory_45 lk_X1_41 na_copy st_copy in_System alen_128 alen_128 h.1 (Nat.le_of_ble_eq_true rfl) (Nat.le_of_ble_eq_true rfl) (fun M4 hM4 => ?_)
      have h := h.2 M4 hM4
      refine zj_aload_n (pc := 48) hc dX1_removeFromDirectory_48 rfl ?_
      refine zg_2_0 (pc := 49) hc lk_X1_9 dX1_removeFromDirectory_49 ?_
      refine zj_sipush (pc := 52) hc dX1_removeFromDirectory_52 (by decide) (zin _ rfl) ?_
      refine zj_iload_n (pc := 55) hc dX1_removeFromDirectory_55 rfl ?_
      refine zj_iconst (pc := 56) hc dX1_removeFromDirectory_56 (zin _ rfl) ?_
      refine zj_isub (pc := 57) hc dX1_removeFromDirectory_57 h.1 ?_
      have h := h.2
      refine zj_iast (pc := 58) hc dX1_removeFromDirectory_58 alen_128 h.1 (fun M5 hM5 => ?_)
      have h := h.2 M5 hM5
      exact zj_vret (pc := 59) hc hr hlk dX1_removeFromDirectory_59 (by decide) (by decide) h
    · have h := h.2 hx3
      exact zj_vret (pc := 17) hc hr hlk dX1_removeFromDirectory_17 (by decide) (by decide) h
