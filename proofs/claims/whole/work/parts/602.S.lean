set_option maxHeartbeats 4000000 in
set_option maxRecDepth 100000 in
theorem S_X8_countIn (l : Launch) (G : zG) {o : Nat} (ho : o = 3 ∨ o = 5) (v1 : Int) (v2 : Int) (M : zMem) (Qr : Int → Prop) (h : T_X8_countIn o v1 v2 Qr M) : zMetI l yX8_countIn cX8_countIn 5 (some .int) 0 0 0 0 G [.inr (64 * o + 63), .inl v1, .inl v2] M (fun r9 M9 => M = M9 ∧ Qr r9) := by
  refine zmetI (by decide) (Nat.le_of_ble_eq_true rfl) [some (.inr (64 * o + 63)), some (.inl v1), some (.inl v2), none, none] rfl ?_
  intro p e s m args below meth c hc hr hlk
  have k25 : ∀ (v2 : Int) (v3 : Int) (v4 : Int) (X5 : Int → Int → Prop) (hX5 : ∀ (v3 : Int) (v4 : Int), X5 v3 v4 → zJ p l e (zRoom 0 0 0 0) s m args below meth c G 5 0 0 (MQ below (zQi G (fun r9 M9 => M = M9 ∧ Qr r9)) args s 0 0 (zA G)) 5 [some (.inr (64 * o + 63)), none, some (.inl v2), some (.inl v3), some (.inl v4)] [] M), T_X8_countIn_25 o v2 v3 v4 X5 Qr M → zJ p l e (zRoom 0 0 0 0) s m args below meth c G 5 0 0 (MQ below (zQi G (fun r9 M9 => M = M9 ∧ Qr r9)) args s 0 0 (zA G)) 25 [some (.inr (64 * o + 63)), none, some (.inl v2), some (.inl v3), some (.inl v4)] [] M := by
    intro v2 v3 v4 X5 hX5 h
    unfold T_X8_countIn_25 at h
    refine zj_iinc (pc := 25) hc dX8_countIn_25 rfl (by decide) h.1 ?_
    have h := h.2
    refine zj_goto (pc := 28) (tgt := 5) hc dX8_countIn_28 (by decide) ?_
    exact hX5 v3 (v4 + 1) h
  have k5 : ∀ (v2 : Int) (v3 : Int) (v4 : Int), T_X8_countIn_5 o v2 Qr v3 v4 M → zJ p l e (zRoom 0 0 0 0) s m args below meth c G 5 0 0 (MQ below (zQi G (fun r9 M9 => M = M9 ∧ Qr r9)) args s 0 0 (zA G)) 5 [some (.inr (64 * o + 63)), none, some (.inl v2), some (.inl v3), some (.inl v4)] [] M := by
    intro v2 v3 v4 h
    unfold T_X8_countIn_5 at h
    refine zp2_use h (fun v3 v4 => zJ p l e (zRoom 0 0 0 0) s m args below meth c G 5 0 0 (MQ below (zQi G (fun r9 M9 => M = M9 ∧ Qr r9)) args s 0 0 (zA G)) 5 [some (.inr (64 * o + 63)), none, some (.inl v2), some (.inl v3), some (.inl v4)] [] M) (fun X5 hX5 v3 v4 h => ?_)
    refine zj_iload (pc := 5) hc dX8_countIn_5 rfl ?_
    refine zj_iload_n (pc := 7) hc dX8_countIn_7 rfl ?_
    refine zj_icmp_ge (pc := 8) (tgt := 31) hc dX8_countIn_8 (by decide) (fun hx1 => ?_) (fun hx1 => ?_)
    · have h := h.1 hx1
      refine zj_iload_n (pc := 31) hc dX8_countIn_31 rfl ?_
      exact zj_iret (pc := 32) hc hr hlk dX8_countIn_32 (by decide) (by decide) ⟨rfl, h⟩
    · have h := h.2 hx1
      refine zj_aload_n (pc := 11) hc dX8_countIn_11 rfl ?_
      refine zgv_X8_2 (pc := 12) ho hc lk_X8_22 dX8_countIn_12 ?_
      refine zj_iload (pc := 15) hc dX8_countIn_15 rfl ?_
      refine zj_iald (pc := 17) hc dX8_countIn_17 (alenv_X8_2 ho) h.1 ?_
      have h := h.2
      refine zj_iconst (pc := 18) hc dX8_countIn_18 (zin _ rfl) ?_
      refine zj_icmp_eq (pc := 19) (tgt := 25) hc dX8_countIn_19 (by decide) (fun hx2 => ?_) (fun hx2 => ?_)
      · have h := h.1 hx2
        exact k25 v2 v3 v4 X5 hX5 h
      · have h := h.2 hx2
        refine zj_iinc (pc := 22) hc dX8_countIn_22 rfl (by decide) h.1 ?_
        have h := h.2
        exact k25 v2 (v3 + 1) v4 X5 hX5 h
  unfold T_X8_countIn at h
  refine zj_iconst (pc := 0) hc dX8_countIn_0 (zin _ rfl) ?_
  refine zj_istore_n (pc := 1) hc dX8_countIn_1 (by decide) ?_
  refine zj_iload_n (pc := 2) hc dX8_countIn_2 rfl ?_
  refine zj_istore (pc := 3) hc dX8_countIn_3 (by decide) ?_
  refine zj_mask (bs := [true, false, true, true, true]) ?_
  exact k5 v2 0 v1 h
set_option maxHeartbeats 4000000 in
set_option maxRecDepth 100000 in
theorem S_X8_plainSize (l : Launch) (G : zG) {o : Nat} (ho : o = 3 ∨ o = 5) (v1 : Int) (v2 : Int) (M : zMem) (Qr : Int → Prop) (h : T_X8_plainSize o v1 v2 Qr M) : zMetI l yX8_plainSize cX8_plainSize 5 (some .int) 0 0 0 0 G [.inr (64 * o + 63), .inl v1, .inl v2] M (fun r9 M9 => M = M9 ∧ Qr r9) := by
  refine zmetI (by decide) (Nat.le_of_ble_eq_true rfl) [some (.inr (64 * o + 63)), some (.inl v1), some (.inl v2), none, none] rfl ?_
  intro p e s m args below meth c hc hr hlk
  have k34 : ∀ (v2 : Int) (v3 : Int) (v4 : Int) (X5 : Int → Int → Prop) (hX5 : ∀ (v3 : Int) (v4 : Int), X5 v3 v4 → zJ p l e (zRoom 0 0 0 0) s m args below meth c G 5 0 0 (MQ below (zQi G (fun r9 M9 => M = M9 ∧ Qr r9)) args s 0 0 (zA G)) 5 [some (.inr (64 * o + 63)), none, some (.inl v2), some (.inl v3), some (.inl v4)] [] M), T_X8_plainSize_34 o v2 v3 v4 X5 Qr M → zJ p l e (zRoom 0 0 0 0) s m args below meth c G 5 0 0 (MQ below (zQi G (fun r9 M9 => M = M9 ∧ Qr r9)) args s 0 0 (zA G)) 34 [some (.inr (64 * o + 63)), none, some (.inl v2), some (.inl v3), some (.inl v4)] [] M := by
    intro v2 v3 v4 X5 hX5 h
    unfold T_X8_plainSize_34 at h
    refine zj_iinc (pc := 34) hc dX8_plainSize_34 rfl (by decide) h.1 ?_
    have h := h.2
    refine zj_goto (pc := 37) (tgt := 5) hc dX8_plainSize_37 (by decide) ?_
    exact hX5 v3 (v4 + 1) h
  have k5 : ∀ (v2 : Int) (v3 : Int) (v4 : Int), T_X8_plainSize_5 o v2 Qr v3 v4 M → zJ p l e (zRoom 0 0 0 0) s m args below meth c G 5 0 0 (MQ below (zQi G (fun r9 M9 => M = M9 ∧ Qr r9)) args s 0 0 (zA G)) 5 [some (.inr (64 * o + 63)), none, some (.inl v2), some (.inl v3), some (.inl v4)] [] M := by
    intro v2 v3 v4 h
    unfold T_X8_plainSize_5 at h
    refine zp2_use h (fun v3 v4 => zJ p l e (zRoom 0 0 0 0) s m args below meth c G 5 0 0 (MQ below (zQi G (fun r9 M9 => M = M9 ∧ Qr r9)) args s 0 0 (zA G)) 5 [some (.inr (64 * o + 63)), none, some (.inl v2), some (.inl v3), some (.inl v4)] [] M) (fun X5 hX5 v3 v4 h => ?_)
    refine zj_iload (pc := 5) hc dX8_plainSize_5 rfl ?_
    refine zj_iload_n (pc := 7) hc dX8_plainSize_7 rfl ?_
    refine zj_icmp_ge (pc := 8) (tgt := 40) hc dX8_plainSize_8 (by decide) (fun hx1 => ?_) (fun hx1 => ?_)
    · have h := h.1 hx1
      refine zj_iload_n (pc := 40) hc dX8_plainSize_40 rfl ?_
      exact zj_iret (pc := 41) hc hr hlk dX8_plainSize_41 (by decide) (by decide) ⟨rfl, h⟩
    · have h := h.2 hx1
      refine zj_aload_n (pc := 11) hc dX8_plainSize_11 rfl ?_
      refine zgv_X8_2 (pc := 12) ho hc lk_X8_22 dX8_plainSize_12 ?_
      refine zj_iload (pc := 15) hc dX8_plainSize_15 rfl ?_
      refine zj_iald (pc := 17) hc dX8_plainSize_17 (alenv_X8_2 ho) h.1 ?_
      have h := h.2
      refine zj_iconst (pc := 18) hc dX8_plainSize_18 (zin _ rfl) ?_
      refine zj_icmp_eq (pc := 19) (tgt := 34) hc dX8_plainSize_19 (by decide) (fun hx2 => ?_) (fun hx2 => ?_)
      · have h := h.1 hx2
        exact k34 v2 v3 v4 X5 hX5 h
      · have h := h.2 hx2
        refine zj_iload_n (pc := 22) hc dX8_plainSize_22 rfl ?_
        refine zj_iconst (pc := 23) hc dX8_plainSize_23 (zin _ rfl) ?_
        refine zj_aload_n (pc := 24) hc dX8_plainSize_24 rfl ?_
        refine zgv_X8_2 (pc := 25) ho hc lk_X8_22 dX8_plainSize_25 ?_
        refine zj_iload (pc := 28) hc dX8_plainSize_28 rfl ?_
        refine zj_iald (pc := 30) hc dX8_plainSize_30 (alenv_X8_2 ho) h.1 ?_
        have h := h.2
        refine zj_iadd (pc := 31) hc dX8_plainSize_31 h.1 ?_
        have h := h.2
        refine zj_iadd (pc := 32) hc dX8_plainSize_32 h.1 ?_
        have h := h.2
        refine zj_istore_n (pc := 33) hc dX8_plainSize_33 (by decide) ?_
        exact k34 v2 (v3 + (2 + (M.2 (64 * o + 2) v4))) v4 X5 hX5 h
  unfold T_X8_plainSize at h
  refine zj_iconst (pc := 0) hc dX8_plainSize_0 (zin _ rfl) ?_
  refine zj_istore_n (pc := 1) hc dX8_plainSize_1 (by decide) ?_
  refine zj_iload_n (pc := 2) hc dX8_plainSize_2 rfl ?_
  refine zj_istore (pc := 3) hc dX8_plainSize_3 (by decide) ?_
  refine zj_mask (bs := [true, false, true, true, true]) ?_
  exact k5 v2 0 v1 h
set_option maxHeartbeats 4000000 in
set_option maxRecDepth 100000 in
theorem S_X8_lowestIn (l : Launch) (G : zG) {o : Nat} (ho : o = 3 ∨ o = 5) (v1 : Int) (v2 : Int) (M : zMem) (Qr : Int → Prop) (h : T_X8_lowestIn o v1 v2 Qr M) : zMetI l yX8_lowestIn cX8_lowestIn 4 (some .int) 0 0 0 0 G [.inr (64 * o + 63), .inl v1, .inl v2] M (fun r9 M9 => M = M9 ∧ Qr r9) := by
  refine zmetI (by decide) (Nat.le_of_ble_eq_true rfl) [some (.inr (64 * o + 63)), some (.inl v1), some (.inl v2), none] rfl ?_
  intro p e s m args below meth c hc hr hlk
  have k2 : ∀ (v2 : Int) (v3 : Int), T_X8_lowestIn_2 o v2 Qr v3 M → zJ p l e (zRoom 0 0 0 0) s m args below meth c G 4 0 0 (MQ below (zQi G (fun r9 M9 => M = M9 ∧ Qr r9)) args s 0 0 (zA G)) 2 [some (.inr (64 * o + 63)), none, some (.inl v2), some (.inl v3)] [] M := by
    intro v2 v3 h
    unfold T_X8_lowestIn_2 at h
    refine zp1_use h (fun v3 => zJ p l e (zRoom 0 0 0 0) s m args below meth c G 4 0 0 (MQ below (zQi G (fun r9 M9 => M = M9 ∧ Qr r9)) args s 0 0 (zA G)) 2 [some (.inr (64 * o + 63)), none, some (.inl v2), some (.inl v3)] [] M) (fun X2 hX2 v3 h => ?_)
    refine zj_iload_n (pc := 2) hc dX8_lowestIn_2 rfl ?_
    refine zj_iload_n (pc := 3) hc dX8_lowestIn_3 rfl ?_
    refine zj_icmp_ge (pc := 4) (tgt := 25) hc dX8_lowestIn_4 (by decide) (fun hx1 => ?_) (fun hx1 => ?_)
    · have h := h.1 hx1
      refine zj_iconst (pc := 25) hc dX8_lowestIn_25 (zin _ rfl) ?_
      exact zj_iret (pc := 26) hc hr hlk dX8_lowestIn_26 (by decide) (by decide) ⟨rfl, h⟩
    · have h := h.2 hx1
      refine zj_aload_n (pc := 7) hc dX8_lowestIn_7 rfl ?_
      refine zgv_X8_2 (pc := 8) ho hc lk_X8_22 dX8_lowestIn_8 ?_
      refine zj_iload_n (pc := 11) hc dX8_lowestIn_11 rfl ?_
      refine zj_iald (pc := 12) hc dX8_lowestIn_12 (alenv_X8_2 ho) h.1 ?_
      have h := h.2
      refine zj_iconst (pc := 13) hc dX8_lowestIn_13 (zin _ rfl) ?_
      refine zj_icmp_eq (pc := 14) (tgt := 19) hc dX8_lowestIn_14 (by decide) (fun hx2 => ?_) (fun hx2 => ?_)
      · have h := h.1 hx2
        refine zj_iinc (pc := 19) hc dX8_lowestIn_19 rfl (by decide) h.1 ?_
        have h := h.2
        refine zj_goto (pc := 22) (tgt := 2) hc dX8_lowestIn_22 (by decide) ?_
        exact hX2 (v3 + 1) h
      · have h := h.2 hx2
        refine zj_iload_n (pc := 17) hc dX8_lowestIn_17 rfl ?_
        exact zj_iret (pc := 18) hc hr hlk dX8_lowestIn_18 (by decide) (by decide) ⟨rfl, h⟩
  unfold T_X8_lowestIn at h
  refine zj_iload_n (pc := 0) hc dX8_lowestIn_0 rfl ?_
  refine zj_istore_n (pc := 1) hc dX8_lowestIn_1 (by decide) ?_
  refine zj_mask (bs := [true, false, true, true]) ?_
  exact k2 v2 v1 h
set_option maxHeartbeats 4000000 in
set_option maxRecDepth 100000 in
theorem S_X8_cutOf (l : Launch) (G : zG) {o : Nat} (ho : o = 3 ∨ o = 5) (v1 : Int) (v2 : Int) (M : zMem) (Qr : Int → Prop) (h : T_X8_cutOf o v1 v2 Qr M) : zMetI l yX8_cutOf cX8_cutOf 6 (some .int) 1 24 0 0 G [.inr (64 * o + 63), .inl v1, .inl v2] M (fun r9 M9 => M = M9 ∧ Qr r9) := by
  refine zmetI (by decide) (Nat.le_of_ble_eq_true rfl) [some (.inr (64 * o + 63)), some (.inl v1), some (.inl v2), none, none, none] rfl ?_
  intro p e s m args below meth c hc hr hlk
  have k44 : ∀ (v2 : Int) (v3 : Int) (v4 : Int) (v5 : Int) (X15 : Int → Int → Prop) (hX15 : ∀ (v4 : Int) (v5 : Int), X15 v4 v5 → zJ p l e (zRoom 1 24 0 0) s m args below meth c G 6 0 0 (MQ below (zQi G (fun r9 M9 => M = M9 ∧ Qr r9)) args s 0 0 (zA G)) 15 [some (.inr (64 * o + 63)), none, some (.inl v2), some (.inl v3), some (.inl v4), some (.inl v5)] [] M), T_X8_cutOf_44 o v2 v3 v4 v5 X15 Qr M → zJ p l e (zRoom 1 24 0 0) s m args below meth c G 6 0 0 (MQ below (zQi G (fun r9 M9 => M = M9 ∧ Qr r9)) args s 0 0 (zA G)) 44 [some (.inr (64 * o + 63)), none, some (.inl v2), some (.inl v3), some (.inl v4), some (.inl v5)] [] M := by
    intro v2 v3 v4 v5 X15 hX15 h
    unfold T_X8_cutOf_44 at h
    refine zj_iinc (pc := 44) hc dX8_cutOf_44 rfl (by decide) h.1 ?_
    have h := h.2
    refine zj_goto (pc := 47) (tgt := 15) hc dX8_cutOf_47 (by decide) ?_
    exact hX15 v4 (v5 + 1) h
  have k15 : ∀ (v2 : Int) (v3 : Int) (v4 : Int) (v5 : Int), T_X8_cutOf_15 o v2 v3 Qr v4 v5 M → zJ p l e (zRoom 1 24 0 0) s m args below meth c G 6 0 0 (MQ below (zQi G (fun r9 M9 => M = M9 ∧ Qr r9)) args s 0 0 (zA G)) 15 [some (.inr (64 * o + 63)), none, some (.inl v2), some (.inl v3), some (.inl v4), some (.inl v5)] [] M := by
    intro v2 v3 v4 v5 h
    unfold T_X8_cutOf_15 at h
    refine zp2_use h (fun v4 v5 => zJ p l e (zRoom 1 24 0 0) s m args below meth c G 6 0 0 (MQ below (zQi G (fun r9 M9 => M = M9 ∧ Qr r9)) args s 0 0 (zA G)) 15 [some (.inr (64 * o + 63)), none, some (.inl v2), some (.inl v3), some (.inl v4), some (.inl v5)] [] M) (fun X15 hX15 v4 v5 h => ?_)
    refine zj_iload (pc := 15) hc dX8_cutOf_15 rfl ?_
    refine zj_iload_n (pc := 17) hc dX8_cutOf_17 rfl ?_
    refine zj_icmp_ge (pc := 18) (tgt := 50) hc dX8_cutOf_18 (by decide) (fun hx1 => ?_) (fun hx1 => ?_)
    · have h := h.1 hx1
      refine zj_iload_n (pc := 50) hc dX8_cutOf_50 rfl ?_
      exact zj_iret (pc := 51) hc hr hlk dX8_cutOf_51 (by decide) (by decide) ⟨rfl, h⟩
    · have h := h.2 hx1
      refine zj_aload_n (pc := 21) hc dX8_cutOf_21 rfl ?_
      refine zgv_X8_2 (pc := 22) ho hc lk_X8_22 dX8_cutOf_22 ?_
      refine zj_iload (pc := 25) hc dX8_cutOf_25 rfl ?_
      refine zj_iald (pc := 27) hc dX8_cutOf_27 (alenv_X8_2 ho) h.1 ?_
      have h := h.2
      refine zj_iconst (pc := 28) hc dX8_cutOf_28 (zin _ rfl) ?_
      refine zj_icmp_eq (pc := 29) (tgt := 44) hc dX8_cutOf_29 (by decide) (fun hx2 => ?_) (fun hx2 => ?_)
      · have h := h.1 hx2
        exact k44 v2 v3 v4 v5 X15 hX15 h
      · have h := h.2 hx2
        refine zj_iload (pc := 32) hc dX8_cutOf_32 rfl ?_
        refine zj_iload_n (pc := 34) hc dX8_cutOf_34 rfl ?_
        refine zj_icmp_ne (pc := 35) (tgt := 41) hc dX8_cutOf_35 (by decide) (fun hx3 => ?_) (fun hx3 => ?_)
        · have h := h.1 hx3
          refine zj_iinc (pc := 41) hc dX8_cutOf_41 rfl (by decide) h.1 ?_
          have h := h.2
          exact k44 v2 v3 (v4 + 1) v5 X15 hX15 h
        · have h := h.2 hx3
          refine zj_iload (pc := 38) hc dX8_cutOf_38 rfl ?_
          exact zj_iret (pc := 40) hc hr hlk dX8_cutOf_40 (by decide) (by decide) ⟨rfl, h⟩
  unfold T_X8_cutOf at h
  refine zj_aload_n (pc := 0) hc dX8_cutOf_0 rfl ?_
  refine zj_iload_n (pc := 1) hc dX8_cutOf_1 rfl ?_
  refine zj_iload_n (pc := 2) hc dX8_cutOf_2 rfl ?_
  refine zj_vti (pc := 3) (st := []) hc ks_X8_countIn iv_X8_countIn lk_X8_98 (zrvv_X8 G M ho) (S_X8_countIn l G ho v1 v2 M _ h) rfl ⟨Nat.le_of_ble_eq_true rfl, Nat.le_of_ble_eq_true rfl⟩ (Nat.le_of_ble_eq_true rfl) ⟨Nat.le_of_ble_eq_true rfl, Nat.le_of_ble_eq_true rfl⟩ dX8_cutOf_3 rfl (fun y4 M9 h => ?_)
  obtain ⟨hM9, h⟩ := h
  subst hM9
  refine zj_iconst (pc := 6) hc dX8_cutOf_6 (zin _ rfl) ?_
  refine zj_idiv (pc := 7) hc dX8_cutOf_7 (by decide) ?_
  refine zj_istore_n (pc := 8) hc dX8_cutOf_8 (by decide) ?_
  refine zj_iconst (pc := 9) hc dX8_cutOf_9 (zin _ rfl) ?_
  refine zj_istore (pc := 10) hc dX8_cutOf_10 (by decide) ?_
  refine zj_iload_n (pc := 12) hc dX8_cutOf_12 rfl ?_
  refine zj_istore (pc := 13) hc dX8_cutOf_13 (by decide) ?_
  refine zj_mask (bs := [true, false, true, true, true, true]) ?_
  exact k15 v2 (Int.tdiv y4 2) 0 v1 h
set_option maxHeartbeats 4000000 in
set_option maxRecDepth 100000 in
theorem S_X8_layOut (l : Launch) (G : zG) {o : Nat} (ho : o = 3 ∨ o = 5) (v1 : Int) (v2 : Int) (M : zMem) (Qr : Int → zMem → Prop) (h : T_X8_layOut o v1 v2 Qr M) : zMetI l yX8_layOut cX8_layOut 6 (some .int) 1 26 0 0 G [.inr (64 * o + 63), .inl v1, .inl v2] M Qr := by
  refine zmetI (by decide) (Nat.le_of_ble_eq_true rfl) [some (.inr (64 * o + 63)), some (.inl v1), some (.inl v2), none, none, none] rfl ?_
  intro p e s m args below meth c hc hr hlk
  have k86 : ∀ (M : zMem) (v2 : Int) (v3 : Int) (v4 : Int) (X5 : Int → Int → zMem → Prop) (hX5 : ∀ (v3 : Int) (v4 : Int) (M : zMem), X5 v3 v4 M → zJ p l e (zRoom 1 26 0 0) s m args below meth c G 6 0 0 (MQ below (zQi G (Qr)) args s 0 0 (zA G)) 5 [some (.inr (64 * o + 63)), none, some (.inl v2), some (.inl v3), some (.inl v4), none] [] M), T_X8_layOut_86 o v2 v3 v4 X5 Qr M → zJ p l e (zRoom 1 26 0 0) s m args below meth c G 6 0 0 (MQ below (zQi G (Qr)) args s 0 0 (zA G)) 86 [some (.inr (64 * o + 63)), none, some (.inl v2), some (.inl v3), some (.inl v4), none] [] M := by
    intro M v2 v3 v4 X5 hX5 h
    unfold T_X8_layOut_86 at h
    refine zj_iinc (pc := 86) hc dX8_layOut_86 rfl (by decide) h.1 ?_
    have h := h.2
    refine zj_goto (pc := 89) (tgt := 5) hc dX8_layOut_89 (by decide) ?_
    exact hX5 v3 (v4 + 1) M h
  have k5 : ∀ (M : zMem) (v2 : Int) (v3 : Int) (v4 : Int), T_X8_layOut_5 o v2 Qr v3 v4 M → zJ p l e (zRoom 1 26 0 0) s m args below meth c G 6 0 0 (MQ below (zQi G (Qr)) args s 0 0 (zA G)) 5 [some (.inr (64 * o + 63)), none, some (.inl v2), some (.inl v3), some (.inl v4), none] [] M := by
    intro M v2 v3 v4 h
    unfold T_X8_layOut_5 at h
    refine zl2_use h (fun v3 v4 M => zJ p l e (zRoom 1 26 0 0) s m args below meth c G 6 0 0 (MQ below (zQi G (Qr)) args s 0 0 (zA G)) 5 [some (.inr (64 * o + 63)), none, some (.inl v2), some (.inl v3), some (.inl v4), none] [] M) (fun X5 hX5 v3 v4 M h => ?_)
    refine zj_iload (pc := 5) hc dX8_layOut_5 rfl ?_
    refine zj_iload_n (pc := 7) hc dX8_layOut_7 rfl ?_
    refine zj_icmp_ge (pc := 8) (tgt := 92) hc dX8_layOut_8 (by decide) (fun hx1 => ?_) (fun hx1 => ?_)
    · have h := h.1 hx1
      refine zj_iload_n (pc := 92) hc dX8_layOut_92 rfl ?_
      exact zj_iret (pc := 93) hc hr hlk dX8_layOut_93 (by decide) (by decide) h
    · have h := h.2 hx1
      refine zj_aload_n (pc := 11) hc dX8_layOut_11 rfl ?_
      refine zgv_X8_2 (pc := 12) ho hc lk_X8_22 dX8_layOut_12 ?_
      refine zj_iload (pc := 15) hc dX8_layOut_15 rfl ?_
      refine zj_iald (pc := 17) hc dX8_layOut_17 (alenv_X8_2 ho) h.1 ?_
      have h := h.2
      refine zj_istore (pc := 18) hc dX8_layOut_18 (by decide) ?_
      refine zj_iload (pc := 20) hc dX8_layOut_20 rfl ?_
      refine zj_iconst (pc := 22) hc dX8_layOut_22 (zin _ rfl) ?_
      refine zj_icmp_eq (pc := 23) (tgt := 86) hc dX8_layOut_23 (by decide) (fun hx2 => ?_) (fun hx2 => ?_)
      · have h := h.1 hx2
        refine zj_mask (bs := [true, true, true, true, true, false]) ?_
        exact k86 M v2 v3 v4 X5 hX5 h
      · have h := h.2 hx2
        refine zj_iload_n (pc := 26) hc dX8_layOut_26 rfl ?_
        refine zj_iconst (pc := 27) hc dX8_layOut_27 (zin _ rfl) ?_
        refine zj_iadd (pc := 28) hc dX8_layOut_28 h.1 ?_
        have h := h.2
        refine zj_iload (pc := 29) hc dX8_layOut_29 rfl ?_
        refine zj_iadd (pc := 31) hc dX8_layOut_31 h.1 ?_
        have h := h.2
        refine zj_aload_n (pc := 32) hc dX8_layOut_32 rfl ?_
        refine zgv_X8_1 (pc := 33) ho hc lk_X8_18 dX8_layOut_33 ?_
        refine zj_alen (pc := 36) hc dX8_layOut_36 (alenv_X8_1 ho) (by decide) ?_
        refine zj_icmp_gt (pc := 37) (tgt := 86) hc dX8_layOut_37 (by decide) (fun hx3 => ?_) (fun hx3 => ?_)
        · have h := h.1 hx3
          refine zj_mask (bs := [true, true, true, true, true, false]) ?_
          exact k86 M v2 v3 v4 X5 hX5 h
        · have h := h.2 hx3
          refine zj_aload_n (pc := 40) hc dX8_layOut_40 rfl ?_
          refine zgv_X8_1 (pc := 41) ho hc lk_X8_18 dX8_layOut_41 ?_
          refine zj_iload_n (pc := 44) hc dX8_layOut_44 rfl ?_
          refine zj_iload (pc := 45) hc dX8_layOut_45 rfl ?_
          refine zj_iast (pc := 47) hc dX8_layOut_47 (alenv_X8_1 ho) h.1 (fun M4 hM4 => ?_)
          have h := h.2 M4 hM4
          refine zj_aload_n (pc := 48) hc dX8_layOut_48 rfl ?_
          refine zgv_X8_1 (pc := 49) ho hc lk_X8_18 dX8_layOut_49 ?_
          refine zj_iload_n (pc := 52) hc dX8_layOut_52 rfl ?_
          refine zj_iconst (pc := 53) hc dX8_layOut_53 (zin _ rfl) ?_
          refine zj_iadd (pc := 54) hc dX8_layOut_54 h.1 ?_
          have h := h.2
          refine zj_iload (pc := 55) hc dX8_layOut_55 rfl ?_
          refine zj_iast (pc := 57) hc dX8_layOut_57 (alenv_X8_1 ho) h.1 (fun M5 hM5 => ?_)
          have h := h.2 M5 hM5
          refine zj_aload_n (pc := 58) hc dX8_layOut_58 rfl ?_
          refine zgv_X8_3 (pc := 59) ho hc lk_X8_25 dX8_layOut_59 ?_
          refine zj_iload (pc := 62) hc dX8_layOut_62 rfl ?_
          refine zj_bipush (pc := 64) hc dX8_layOut_64 (by decide) (zin _ rfl) ?_
          refine zj_imul (pc := 66) hc dX8_layOut_66 h.1 ?_
          have h := h.2
          refine zj_aload_n (pc := 67) hc dX8_layOut_67 rfl ?_
          refine zgv_X8_1 (pc := 68) ho hc lk_X8_18 dX8_layOut_68 ?_
          refine zj_iload_n (pc := 71) hc dX8_layOut_71 rfl ?_
          refine zj_iconst (pc := 72) hc dX8_layOut_72 (zin _ rfl) ?_
          refine zj_iadd (pc := 73) hc dX8_layOut_73 h.1 ?_
          have h := h.2
          refine zj_iload (pc := 74) hc dX8_layOut_74 rfl ?_
          refine zj_copy (pc := 76) hc dX8_layOut_76 lk_X8_78 na_copy st_copy in_System (alenv_X8_3 ho) (alenv_X8_1 ho) h.1 (Nat.le_of_ble_eq_true rfl) (Nat.le_of_ble_eq_true rfl) (fun M6 hM6 => ?_)
          have h := h.2 M6 hM6
          refine zj_iload_n (pc := 79) hc dX8_layOut_79 rfl ?_
          refine zj_iconst (pc := 80) hc dX8_layOut_80 (zin _ rfl) ?_
          refine zj_iload (pc := 81) hc dX8_layOut_81 rfl ?_
          refine zj_iadd (pc := 83) hc dX8_layOut_83 h.1 ?_
          have h := h.2
          refine zj_iadd (pc := 84) hc dX8_layOut_84 h.1 ?_
          have h := h.2
          refine zj_istore_n (pc := 85) hc dX8_layOut_85 (by decide) ?_
          refine zj_mask (bs := [true, true, true, true, true, false]) ?_
          exact k86 M6 v2 (v3 + (2 + (M.2 (64 * o + 2) v4))) v4 X5 hX5 h
  unfold T_X8_layOut at h
  refine zj_iconst (pc := 0) hc dX8_layOut_0 (zin _ rfl) ?_
  refine zj_istore_n (pc := 1) hc dX8_layOut_1 (by decide) ?_
  refine zj_iload_n (pc := 2) hc dX8_layOut_2 rfl ?_
  refine zj_istore (pc := 3) hc dX8_layOut_3 (by decide) ?_
  refine zj_mask (bs := [true, false, true, true, true, true]) ?_
  exact k5 M v2 0 v1 h
set_option maxHeartbeats 4000000 in
set_option maxRecDepth 100000 in
theorem S_X1_begin (l : Launch) (G : zG) (r1 : Nat) (r2 : Nat) (r3 : Nat) (M : zMem) (Qr : zMem → Prop) (h : T_X1_begin r1 r2 r3 Qr M) : zMetV l yX1_begin cX1_begin 4 none 1 26 0 0 G [.inr 191, .inr r1, .inr r2, .inr r3] M Qr := by
  refine zmetV (by decide) (Nat.le_of_ble_eq_true rfl) [some (.inr 191), some (.inr r1), some (.inr r2), some (.inr r3)] rfl ?_
  intro p e s m args below meth c hc hr hlk
  unfold T_X1_begin at h
  refine zj_aload_n (pc := 0) hc dX1_begin_0 rfl ?_
  refine zj_iconst (pc := 1) hc dX1_begin_1 (zin _ rfl) ?_
  refine zj_aload_n (pc := 2) hc dX1_begin_2 rfl ?_
  refine zg_2_0 (pc := 3) hc lk_X1_9 dX1_begin_3 ?_
  refine zj_iconst (pc := 6) hc dX1_begin_6 (zin _ rfl) ?_
  refine zj_sipush (pc := 7) hc dX1_begin_7 (by decide) (zin _ rfl) ?_
  refine zj_copy (pc := 10) hc dX1_begin_10 lk_X1_41 na_copy st_copy in_System rfl alen_128 h.1 (Nat.le_of_ble_eq_true rfl) (Nat.le_of_ble_eq_true rfl) (fun M1 hM1 => ?_)
  have h := h.2 M1 hM1
  refine zj_aload_n (pc := 13) hc dX1_begin_13 rfl ?_
  refine zj_iconst (pc := 14) hc dX1_begin_14 (zin _ rfl) ?_
  refine zj_aload_n (pc := 15) hc dX1_begin_15 rfl ?_
  refine zg_2_1 (pc := 16) hc lk_X1_15 dX1_begin_16 ?_
  refine zj_iconst (pc := 19) hc dX1_begin_19 (zin _ rfl) ?_
  refine zj_iconst (pc := 20) hc dX1_begin_20 (zin _ rfl) ?_
  refine zj_copy (pc := 21) hc dX1_begin_21 lk_X1_41 na_copy st_copy in_System rfl alen_129 h.1 (Nat.le_of_ble_eq_true rfl) (Nat.le_of_ble_eq_true rfl) (fun M2 hM2 => ?_)
  have h := h.2 M2 hM2
  refine zj_aload_n (pc := 24) hc dX1_begin_24 rfl ?_
  refine zj_iconst (pc := 25) hc dX1_begin_25 (zin _ rfl) ?_
  refine zj_aload_n (pc := 26) hc dX1_begin_26 rfl ?_
  refine zg_2_5 (pc := 27) hc lk_X1_32 dX1_begin_27 ?_
  refine zj_iconst (pc := 30) hc dX1_begin_30 (zin _ rfl) ?_
  refine zj_aload_n (pc := 31) hc dX1_begin_31 rfl ?_
  refine zg_2_5 (pc := 32) hc lk_X1_32 dX1_begin_32 ?_
  refine zj_alen (pc := 35) hc dX1_begin_35 alen_133 (by decide) ?_
  refine zj_copy (pc := 36) hc dX1_begin_36 lk_X1_41 na_copy st_copy in_System rfl alen_133 h.1 (Nat.le_of_ble_eq_true rfl) (Nat.le_of_ble_eq_true rfl) (fun M3 hM3 => ?_)
  have h := h.2 M3 hM3
  refine zj_aload_n (pc := 39) hc dX1_begin_39 rfl ?_
  refine zg_2_2 (pc := 40) hc lk_X1_18 dX1_begin_40 ?_
  refine zj_iconst (pc := 43) hc dX1_begin_43 (zin _ rfl) ?_
  refine zj_stv (pc := 44) (st := []) hc ks_J7_fill_53178 st_J7_fill_53178 lk_X1_47 (S_J7_fill_53178 l G 130 0 M3 _ h) rfl ⟨Nat.le_of_ble_eq_true rfl, Nat.le_of_ble_eq_true rfl⟩ (Nat.le_of_ble_eq_true rfl) ⟨Nat.le_of_ble_eq_true rfl, Nat.le_of_ble_eq_true rfl⟩ dX1_begin_44 rfl (fun M4 h => ?_)
  exact zj_vret (pc := 47) hc hr hlk dX1_begin_47 (by decide) (by decide) h
set_option maxHeartbeats 4000000 in
set_option maxRecDepth 100000 in
theorem S_X1_full (l : Launch) (G : zG) (M : zMem) (Qr : Int → Prop) (h : T_X1_full Qr M) : zMetI l yX1_full cX1_full 1 (some .int) 0 0 0 0 G [.inr 191] M (fun r9 M9 => M = M9 ∧ Qr r9) := by
  refine zmetI (by decide) (Nat.le_of_ble_eq_true rfl) [some (.inr 191)] rfl ?_
  intro p e s m args below meth c hc hr hlk
  unfold T_X1_full at h
  refine zj_bipush (pc := 0) hc dX1_full_0 (by decide) (zin _ rfl) ?_
  refine zj_aload_n (pc := 2) hc dX1_full_2 rfl ?_
  refine zg_2_1 (pc := 3) hc lk_X1_15 dX1_full_3 ?_
  refine zj_iconst (pc := 6) hc dX1_full_6 (zin _ rfl) ?_
  refine zj_iald (pc := 7) hc dX1_full_7 alen_129 h.1 ?_
  have h := h.2
  refine zj_isub (pc := 8) hc dX1_full_8 h.1 ?_
  have h := h.2
  exact zj_iret (pc := 9) hc hr hlk dX1_full_9 (by decide) (by decide) ⟨rfl, h⟩
set_option maxHeartbeats 4000000 in
set_option maxRecDepth 100000 in
theorem S_X1_removeFromDirectory (l : Launch) (G : zG) (v1 : Int) (M : zMem) (Qr : zMem → Prop) (h : T_X1_removeFromDirectory v1 Qr M) : zMetV l yX1_removeFromDirectory cX1_removeFromDirectory 4 none 1 26 0 0 G [.inr 191, .inl v1] M Qr := by
  refine zmetV (by decide) (Nat.le_of_ble_eq_true rfl) [some (.inr 191), some (.inl v1), none, none] rfl ?_
  intro p e s m args below meth c hc hr hlk
  unfold T_X1_removeFromDirectory at h
  refine zj_aload_n (pc := 0) hc dX1_removeFromDirectory_0 rfl ?_
  refine zg_2_0 (pc := 1) hc lk_X1_9 dX1_removeFromDirectory_1 ?_
  refine zj_sti (pc := 4) (st := []) hc ks_X4_inUse st_X4_inUse lk_X1_162 (S_X4_inUse l G 128 M _ h) rfl ⟨Nat.le_of_ble_eq_true rfl, Nat.le_of_ble_eq_true rfl⟩ (Nat.le_of_ble_eq_true rfl) ⟨Nat.le_of_ble_eq_true rfl, Nat.le_of_ble_eq_true rfl⟩ dX1_removeFromDirectory_4 rfl (fun y1 M9 h => ?_)
  obtain ⟨hM9, h⟩ := h
  subst hM9
  refine zj_istore_n (pc := 7) hc dX1_removeFromDirectory_7 (by decide) ?_
  refine zj_iload_n (pc := 8) hc dX1_removeFromDirectory_8 rfl ?_
  refine zj_if_lt (pc := 9) (tgt := 17) hc dX1_removeFromDirectory_9 (by decide) (fun hx2 => ?_) (fun hx2 => ?_)
  · have h := h.1 hx2
    exact zj_vret (pc := 17) hc hr hlk dX1_removeFromDirectory_17 (by decide) (by decide) h
  · have h := h.2 hx2
    refine zj_iload_n (pc := 12) hc dX1_removeFromDirectory_12 rfl ?_
    refine zj_iload_n (pc := 13) hc dX1_removeFromDirectory_13 rfl ?_
    refine zj_icmp_lt (pc := 14) (tgt := 18) hc dX1_removeFromDirectory_14 (by decide) (fun hx3 => ?_) (fun hx3 => ?_)
    · have h := h.1 hx3
      refine zj_sipush (pc := 18) hc dX1_removeFromDirectory_18 (by decide) (zin _ rfl) ?_
      refine zj_iconst (pc := 21) hc dX1_removeFromDirectory_21 (zin _ rfl) ?_
      refine zj_iload_n (pc := 22) hc dX1_removeFromDirectory_22 rfl ?_
      refine zj_imul (pc := 23) hc dX1_removeFromDirectory_23 h.1 ?_
      have h := h.2
      refine zj_iadd (pc := 24) hc dX1_removeFromDirectory_24 h.1 ?_
      have h := h.2
      refine zj_istore_n (pc := 25) hc dX1_removeFromDirectory_25 (by decide) ?_
      refine zj_aload_n (pc := 26) hc dX1_removeFromDirectory_26 rfl ?_
      refine zg_2_0 (pc := 27) hc lk_X1_9 dX1_removeFromDirectory_27 ?_
      refine zj_iload_n (pc := 30) hc dX1_removeFromDirectory_30 rfl ?_
      refine zj_iconst (pc := 31) hc dX1_removeFromDirectory_31 (zin _ rfl) ?_
      refine zj_iadd (pc := 32) hc dX1_removeFromDirectory_32 h.1 ?_
      have h := h.2
      refine zj_aload_n (pc := 33) hc dX1_removeFromDirectory_33 rfl ?_
      refine zg_2_0 (pc := 34) hc lk_X1_9 dX1_removeFromDirectory_34 ?_
      refine zj_iload_n (pc := 37) hc dX1_removeFromDirectory_37 rfl ?_
      refine zj_iconst (pc := 38) hc dX1_removeFromDirectory_38 (zin _ rfl) ?_
      refine zj_iload_n (pc := 39) hc dX1_removeFromDirectory_39 rfl ?_
      refine zj_iconst (pc := 40) hc dX1_removeFromDirectory_40 (zin _ rfl) ?_
      refine zj_isub (pc := 41) hc dX1_removeFromDirectory_41 h.1 ?_
      have h := h.2
      refine zj_iload_n (pc := 42) hc dX1_removeFromDirectory_42 rfl ?_
      refine zj_isub (pc := 43) hc dX1_removeFromDirectory_43 h.1 ?_
      have h := h.2
      refine zj_imul (pc := 44) hc dX1_removeFromDirectory_44 h.1 ?_
      have h := h.2
      refine zj_copy (pc := 45) hc dX1_removeFromDirectory_45 lk_X1_41 na_copy st_copy in_System alen_128 alen_128 h.1 (Nat.le_of_ble_eq_true rfl) (Nat.le_of_ble_eq_true rfl) (fun M4 hM4 => ?_)
      have h := h.2 M4 hM4
      refine zj_aload_n (pc := 48) hc dX1_removeFromDirectory_48 rfl ?_
      refine zg_2_0 (pc := 49) hc lk_X1_9 dX1_removeFromDirectory_49 ?_
      refine zj_sipush (pc := 52) hc dX1_removeFromDirectory_52 (by decide) (zin _ rfl) ?_
      refine zj_iload_n (pc := 55) hc dX1_removeFromDirectory_55 rfl ?_
      refine zj_iconst (pc := 56) hc dX1_removeFromDirectory_56 (zin _ rfl) ?_
      refine zj_isub (pc := 57) hc dX1_removeFromDirectory_57 h.1 ?_
      have h := h.2
      refine zj_iast (pc := 58) hc dX1_removeFromDirectory_58 alen_128 h.1 (fun M5 hM5 => ?_)
      have h := h.2 M5 hM5
      exact zj_vret (pc := 59) hc hr hlk dX1_removeFromDirectory_59 (by decide) (by decide) h
    · have h := h.2 hx3
      exact zj_vret (pc := 17) hc hr hlk dX1_removeFromDirectory_17 (by decide) (by decide) h
set_option maxHeartbeats 4000000 in
set_option maxRecDepth 100000 in
theorem S_X1_insertIntoDirectory (l : Launch) (G : zG) (v1 : Int) (v2 : Int) (M : zMem) (Qr : Int → zMem → Prop) (h : T_X1_insertIntoDirectory v1 v2 Qr M) : zMetI l yX1_insertIntoDirectory cX1_insertIntoDirectory 6 (some .boolean) 3 66 0 0 G [.inr 191, .inl v1, .inl v2] M Qr := by
  refine zmetI (by decide) (Nat.le_of_ble_eq_true rfl) [some (.inr 191), some (.inl v1), some (.inl v2), none, none, none] rfl ?_
  intro p e s m args below meth c hc hr hlk
  unfold T_X1_insertIntoDirectory at h
  refine zj_aload_n (pc := 0) hc dX1_insertIntoDirectory_0 rfl ?_
  refine zg_2_0 (pc := 1) hc lk_X1_9 dX1_insertIntoDirectory_1 ?_
  refine zj_sti (pc := 4) (st := []) hc ks_X4_inUse st_X4_inUse lk_X1_162 (S_X4_inUse l G 128 M _ h) rfl ⟨Nat.le_of_ble_eq_true rfl, Nat.le_of_ble_eq_true rfl⟩ (Nat.le_of_ble_eq_true rfl) ⟨Nat.le_of_ble_eq_true rfl, Nat.le_of_ble_eq_true rfl⟩ dX1_insertIntoDirectory_4 rfl (fun y1 M9 h => ?_)
  obtain ⟨hM9, h⟩ := h
  subst hM9
  refine zj_istore_n (pc := 7) hc dX1_insertIntoDirectory_7 (by decide) ?_
  refine zj_aload_n (pc := 8) hc dX1_insertIntoDirectory_8 rfl ?_
  refine zg_2_0 (pc := 9) hc lk_X1_9 dX1_insertIntoDirectory_9 ?_
  refine zj_sti (pc := 12) (st := []) hc ks_X4_lowestFree st_X4_lowestFree lk_X1_166 (S_X4_lowestFree l G 128 M _ h) rfl ⟨Nat.le_of_ble_eq_true rfl, Nat.le_of_ble_eq_true rfl⟩ (Nat.le_of_ble_eq_true rfl) ⟨Nat.le_of_ble_eq_true rfl, Nat.le_of_ble_eq_true rfl⟩ dX1_insertIntoDirectory_12 rfl (fun y2 M9 h => ?_)
  obtain ⟨hM9, h⟩ := h
  subst hM9
  refine zj_istore (pc := 15) hc dX1_insertIntoDirectory_15 (by decide) ?_
  refine zj_iload (pc := 17) hc dX1_insertIntoDirectory_17 rfl ?_
  refine zj_iconst (pc := 19) hc dX1_insertIntoDirectory_19 (zin _ rfl) ?_
  refine zj_icmp_eq (pc := 20) (tgt := 38) hc dX1_insertIntoDirectory_20 (by decide) (fun hx3 => ?_) (fun hx3 => ?_)
  · have h := h.1 hx3
    refine zj_iconst (pc := 38) hc dX1_insertIntoDirectory_38 (zin _ rfl) ?_
    exact zj_zret (pc := 39) hc hr hlk dX1_insertIntoDirectory_39 (by decide) (by decide) (Or.inl rfl) h
  · have h := h.2 hx3
    refine zj_iload_n (pc := 23) hc dX1_insertIntoDirectory_23 rfl ?_
    refine zj_bipush (pc := 24) hc dX1_insertIntoDirectory_24 (by decide) (zin _ rfl) ?_
    refine zj_icmp_ge (pc := 26) (tgt := 38) hc dX1_insertIntoDirectory_26 (by decide) (fun hx4 => ?_) (fun hx4 => ?_)
    · have h := h.1 hx4
      refine zj_iconst (pc := 38) hc dX1_insertIntoDirectory_38 (zin _ rfl) ?_
      exact zj_zret (pc := 39) hc hr hlk dX1_insertIntoDirectory_39 (by decide) (by decide) (Or.inl rfl) h
    · have h := h.2 hx4
      refine zj_iload_n (pc := 29) hc dX1_insertIntoDirectory_29 rfl ?_
      refine zj_if_lt (pc := 30) (tgt := 38) hc dX1_insertIntoDirectory_30 (by decide) (fun hx5 => ?_) (fun hx5 => ?_)
      · have h := h.1 hx5
        refine zj_iconst (pc := 38) hc dX1_insertIntoDirectory_38 (zin _ rfl) ?_
        exact zj_zret (pc := 39) hc hr hlk dX1_insertIntoDirectory_39 (by decide) (by decide) (Or.inl rfl) h
      · have h := h.2 hx5
        refine zj_iload_n (pc := 33) hc dX1_insertIntoDirectory_33 rfl ?_
        refine zj_iload_n (pc := 34) hc dX1_insertIntoDirectory_34 rfl ?_
        refine zj_icmp_le (pc := 35) (tgt := 40) hc dX1_insertIntoDirectory_35 (by decide) (fun hx6 => ?_) (fun hx6 => ?_)
        · have h := h.1 hx6
          refine zj_sipush (pc := 40) hc dX1_insertIntoDirectory_40 (by decide) (zin _ rfl) ?_
          refine zj_iconst (pc := 43) hc dX1_insertIntoDirectory_43 (zin _ rfl) ?_
          refine zj_iload_n (pc := 44) hc dX1_insertIntoDirectory_44 rfl ?_
          refine zj_imul (pc := 45) hc dX1_insertIntoDirectory_45 h.1 ?_
          have h := h.2
          refine zj_iadd (pc := 46) hc dX1_insertIntoDirectory_46 h.1 ?_
          have h := h.2
          refine zj_istore (pc := 47) hc dX1_insertIntoDirectory_47 (by decide) ?_
          refine zj_aload_n (pc := 49) hc dX1_insertIntoDirectory_49 rfl ?_
          refine zg_2_0 (pc := 50) hc lk_X1_9 dX1_insertIntoDirectory_50 ?_
          refine zj_iload (pc := 53) hc dX1_insertIntoDirectory_53 rfl ?_
          refine zj_aload_n (pc := 55) hc dX1_insertIntoDirectory_55 rfl ?_
          refine zg_2_0 (pc := 56) hc lk_X1_9 dX1_insertIntoDirectory_56 ?_
          refine zj_iload (pc := 59) hc dX1_insertIntoDirectory_59 rfl ?_
          refine zj_iconst (pc := 61) hc dX1_insertIntoDirectory_61 (zin _ rfl) ?_
          refine zj_iadd (pc := 62) hc dX1_insertIntoDirectory_62 h.1 ?_
          have h := h.2
          refine zj_iconst (pc := 63) hc dX1_insertIntoDirectory_63 (zin _ rfl) ?_
          refine zj_iload_n (pc := 64) hc dX1_insertIntoDirectory_64 rfl ?_
          refine zj_iload_n (pc := 65) hc dX1_insertIntoDirectory_65 rfl ?_
          refine zj_isub (pc := 66) hc dX1_insertIntoDirectory_66 h.1 ?_
          have h := h.2
          refine zj_imul (pc := 67) hc dX1_insertIntoDirectory_67 h.1 ?_
          have h := h.2
          refine zj_copy (pc := 68) hc dX1_insertIntoDirectory_68 lk_X1_41 na_copy st_copy in_System alen_128 alen_128 h.1 (Nat.le_of_ble_eq_true rfl) (Nat.le_of_ble_eq_true rfl) (fun M7 hM7 => ?_)
          have h := h.2 M7 hM7
          refine zj_aload_n (pc := 71) hc dX1_insertIntoDirectory_71 rfl ?_
          refine zg_2_0 (pc := 72) hc lk_X1_9 dX1_insertIntoDirectory_72 ?_
          refine zj_iload (pc := 75) hc dX1_insertIntoDirectory_75 rfl ?_
          refine zj_iload (pc := 77) hc dX1_insertIntoDirectory_77 rfl ?_
          refine zj_iast (pc := 79) hc dX1_insertIntoDirectory_79 alen_128 h.1 (fun M8 hM8 => ?_)
          have h := h.2 M8 hM8
          refine zj_aload_n (pc := 80) hc dX1_insertIntoDirectory_80 rfl ?_
          refine zg_2_0 (pc := 81) hc lk_X1_9 dX1_insertIntoDirectory_81 ?_
          refine zj_iload (pc := 84) hc dX1_insertIntoDirectory_84 rfl ?_
          refine zj_iconst (pc := 86) hc dX1_insertIntoDirectory_86 (zin _ rfl) ?_
          refine zj_iadd (pc := 87) hc dX1_insertIntoDirectory_87 h.1 ?_
          have h := h.2
          refine zj_iload_n (pc := 88) hc dX1_insertIntoDirectory_88 rfl ?_
          refine zj_iast (pc := 89) hc dX1_insertIntoDirectory_89 alen_128 h.1 (fun M9 hM9 => ?_)
          have h := h.2 M9 hM9
          refine zj_aload_n (pc := 90) hc dX1_insertIntoDirectory_90 rfl ?_
          refine zg_2_0 (pc := 91) hc lk_X1_9 dX1_insertIntoDirectory_91 ?_
          refine zj_sipush (pc := 94) hc dX1_insertIntoDirectory_94 (by decide) (zin _ rfl) ?_
          refine zj_iload_n (pc := 97) hc dX1_insertIntoDirectory_97 rfl ?_
          refine zj_iconst (pc := 98) hc dX1_insertIntoDirectory_98 (zin _ rfl) ?_
          refine zj_iadd (pc := 99) hc dX1_insertIntoDirectory_99 h.1 ?_
          have h := h.2
          refine zj_iast (pc := 100) hc dX1_insertIntoDirectory_100 alen_128 h.1 (fun M10 hM10 => ?_)
          have h := h.2 M10 hM10
          refine zj_iconst (pc := 101) hc dX1_insertIntoDirectory_101 (zin _ rfl) ?_
          exact zj_zret (pc := 102) hc hr hlk dX1_insertIntoDirectory_102 (by decide) (by decide) (Or.inr rfl) h
        · have h := h.2 hx6
          refine zj_iconst (pc := 38) hc dX1_insertIntoDirectory_38 (zin _ rfl) ?_
          exact zj_zret (pc := 39) hc hr hlk dX1_insertIntoDirectory_39 (by decide) (by decide) (Or.inl rfl) h
set_option maxHeartbeats 4000000 in
set_option maxRecDepth 100000 in
theorem S_X1_fitsWith (l : Launch) (G : zG) (v1 : Int) (M : zMem) (Qr : Int → Prop) (h : T_X1_fitsWith v1 Qr M) : zMetI l yX1_fitsWith cX1_fitsWith 2 (some .boolean) 0 0 0 0 G [.inr 191, .inl v1] M (fun r9 M9 => M = M9 ∧ Qr r9) := by
  refine zmetI (by decide) (Nat.le_of_ble_eq_true rfl) [some (.inr 191), some (.inl v1)] rfl ?_
  intro p e s m args below meth c hc hr hlk
  unfold T_X1_fitsWith at h
  refine zj_iconst (pc := 0) hc dX1_fitsWith_0 (zin _ rfl) ?_
  refine zj_iload_n (pc := 1) hc dX1_fitsWith_1 rfl ?_
  refine zj_iadd (pc := 2) hc dX1_fitsWith_2 h.1 ?_
  have h := h.2
  refine zj_aload_n (pc := 3) hc dX1_fitsWith_3 rfl ?_
  refine zg_2_5 (pc := 4) hc lk_X1_32 dX1_fitsWith_4 ?_
  refine zj_iconst (pc := 7) hc dX1_fitsWith_7 (zin _ rfl) ?_
  refine zj_iald (pc := 8) hc dX1_fitsWith_8 alen_133 h.1 ?_
  have h := h.2
  refine zj_iadd (pc := 9) hc dX1_fitsWith_9 h.1 ?_
  have h := h.2
  refine zj_bipush (pc := 10) hc dX1_fitsWith_10 (by decide) (zin _ rfl) ?_
  refine zj_icmp_gt (pc := 12) (tgt := 19) hc dX1_fitsWith_12 (by decide) (fun hx1 => ?_) (fun hx1 => ?_)
  · have h := h.1 hx1
    refine zj_iconst (pc := 19) hc dX1_fitsWith_19 (zin _ rfl) ?_
    exact zj_zret (pc := 20) hc hr hlk dX1_fitsWith_20 (by decide) (by decide) (Or.inl rfl) ⟨rfl, h⟩
  · have h := h.2 hx1
    refine zj_iconst (pc := 15) hc dX1_fitsWith_15 (zin _ rfl) ?_
    refine zj_goto (pc := 16) (tgt := 20) hc dX1_fitsWith_16 (by decide) ?_
    exact zj_zret (pc := 20) hc hr hlk dX1_fitsWith_20 (by decide) (by decide) (Or.inr rfl) ⟨rfl, h⟩
set_option maxHeartbeats 4000000 in
set_option maxRecDepth 100000 in
theorem S_X1_learnFromTry (l : Launch) (G : zG) (v1 : Int) (M : zMem) (Qr : zMem → Prop) (h : T_X1_learnFromTry v1 Qr M) : zMetV l yX1_learnFromTry cX1_learnFromTry 2 none 1 21 0 0 G [.inr 191, .inl v1] M Qr := by
  refine zmetV (by decide) (Nat.le_of_ble_eq_true rfl) [some (.inr 191), some (.inl v1)] rfl ?_
  intro p e s m args below meth c hc hr hlk
  have k109 : ∀ (M : zMem), T_X1_learnFromTry_109 Qr M → zJ p l e (zRoom 1 21 0 0) s m args below meth c G 2 0 0 (MQ below (zQv G (Qr)) args s 0 0 (zA G)) 109 [some (.inr 191), none] [] M := by
    intro M h
    unfold T_X1_learnFromTry_109 at h
    refine zj_aload_n (pc := 109) hc dX1_learnFromTry_109 rfl ?_
    refine zg_2_1 (pc := 110) hc lk_X1_15 dX1_learnFromTry_110 ?_
    refine zj_iconst (pc := 113) hc dX1_learnFromTry_113 (zin _ rfl) ?_
    refine zj_iald (pc := 114) hc dX1_learnFromTry_114 alen_129 h.1 ?_
    have h := h.2
    refine zj_iconst (pc := 115) hc dX1_learnFromTry_115 (zin _ rfl) ?_
    refine zj_icmp_lt (pc := 116) (tgt := 149) hc dX1_learnFromTry_116 (by decide) (fun hx1 => ?_) (fun hx1 => ?_)
    · have h := h.1 hx1
      refine zj_aload_n (pc := 149) hc dX1_learnFromTry_149 rfl ?_
      refine zg_2_1 (pc := 150) hc lk_X1_15 dX1_learnFromTry_150 ?_
      refine zj_iconst (pc := 153) hc dX1_learnFromTry_153 (zin _ rfl) ?_
      refine zj_iconst (pc := 154) hc dX1_learnFromTry_154 (zin _ rfl) ?_
      refine zj_iast (pc := 155) hc dX1_learnFromTry_155 alen_129 h.1 (fun M2 hM2 => ?_)
      have h := h.2 M2 hM2
      refine zj_aload_n (pc := 156) hc dX1_learnFromTry_156 rfl ?_
      refine zg_2_1 (pc := 157) hc lk_X1_15 dX1_learnFromTry_157 ?_
      refine zj_iconst (pc := 160) hc dX1_learnFromTry_160 (zin _ rfl) ?_
      refine zj_iconst (pc := 161) hc dX1_learnFromTry_161 (zin _ rfl) ?_
      refine zj_iast (pc := 162) hc dX1_learnFromTry_162 alen_129 h.1 (fun M3 hM3 => ?_)
      have h := h.2 M3 hM3
      exact zj_vret (pc := 163) hc hr hlk dX1_learnFromTry_163 (by decide) (by decide) h
    · have h := h.2 hx1
      refine zj_aload_n (pc := 119) hc dX1_learnFromTry_119 rfl ?_
      refine zg_2_1 (pc := 120) hc lk_X1_15 dX1_learnFromTry_120 ?_
      refine zj_iconst (pc := 123) hc dX1_learnFromTry_123 (zin _ rfl) ?_
      refine zj_iconst (pc := 124) hc dX1_learnFromTry_124 (zin _ rfl) ?_
      refine zj_aload_n (pc := 125) hc dX1_learnFromTry_125 rfl ?_
      refine zg_2_1 (pc := 126) hc lk_X1_15 dX1_learnFromTry_126 ?_
      refine zj_iconst (pc := 129) hc dX1_learnFromTry_129 (zin _ rfl) ?_
      refine zj_iald (pc := 130) hc dX1_learnFromTry_130 alen_129 h.1 ?_
      have h := h.2
      refine zj_aload_n (pc := 131) hc dX1_learnFromTry_131 rfl ?_
      refine zg_2_5 (pc := 132) hc lk_X1_32 dX1_learnFromTry_132 ?_
      refine zj_iconst (pc := 135) hc dX1_learnFromTry_135 (zin _ rfl) ?_
      refine zj_iald (pc := 136) hc dX1_learnFromTry_136 alen_133 h.1 ?_
      have h := h.2
      refine zj_isub (pc := 137) hc dX1_learnFromTry_137 h.1 ?_
      have h := h.2
      refine zj_max (pc := 138) hc dX1_learnFromTry_138 lk_X1_150 st_max in_Math co_max (Nat.le_of_ble_eq_true rfl) (Nat.le_of_ble_eq_true rfl) ⟨Nat.le_of_ble_eq_true rfl, Nat.le_of_ble_eq_true rfl⟩ ?_
      refine zj_iast (pc := 141) hc dX1_learnFromTry_141 alen_129 h.1 (fun M4 hM4 => ?_)
      have h := h.2 M4 hM4
      refine zj_aload_n (pc := 142) hc dX1_learnFromTry_142 rfl ?_
      refine zg_2_1 (pc := 143) hc lk_X1_15 dX1_learnFromTry_143 ?_
      refine zj_iconst (pc := 146) hc dX1_learnFromTry_146 (zin _ rfl) ?_
      refine zj_iconst (pc := 147) hc dX1_learnFromTry_147 (zin _ rfl) ?_
      refine zj_iast (pc := 148) hc dX1_learnFromTry_148 alen_129 h.1 (fun M5 hM5 => ?_)
      have h := h.2 M5 hM5
      refine zj_aload_n (pc := 149) hc dX1_learnFromTry_149 rfl ?_
      refine zg_2_1 (pc := 150) hc lk_X1_15 dX1_learnFromTry_150 ?_
      refine zj_iconst (pc := 153) hc dX1_learnFromTry_153 (zin _ rfl) ?_
      refine zj_iconst (pc := 154) hc dX1_learnFromTry_154 (zin _ rfl) ?_
      refine zj_iast (pc := 155) hc dX1_learnFromTry_155 alen_129 h.1 (fun M6 hM6 => ?_)
      have h := h.2 M6 hM6
      refine zj_aload_n (pc := 156) hc dX1_learnFromTry_156 rfl ?_
      refine zg_2_1 (pc := 157) hc lk_X1_15 dX1_learnFromTry_157 ?_
      refine zj_iconst (pc := 160) hc dX1_learnFromTry_160 (zin _ rfl) ?_
      refine zj_iconst (pc := 161) hc dX1_learnFromTry_161 (zin _ rfl) ?_
      refine zj_iast (pc := 162) hc dX1_learnFromTry_162 alen_129 h.1 (fun M7 hM7 => ?_)
      have h := h.2 M7 hM7
      exact zj_vret (pc := 163) hc hr hlk dX1_learnFromTry_163 (by decide) (by decide) h
  have k24 : ∀ (M : zMem), T_X1_learnFromTry_24 Qr M → zJ p l e (zRoom 1 21 0 0) s m args below meth c G 2 0 0 (MQ below (zQv G (Qr)) args s 0 0 (zA G)) 24 [some (.inr 191), none] [] M := by
    intro M h
    unfold T_X1_learnFromTry_24 at h
    refine zj_aload_n (pc := 24) hc dX1_learnFromTry_24 rfl ?_
    refine zg_2_1 (pc := 25) hc lk_X1_15 dX1_learnFromTry_25 ?_
    refine zj_iconst (pc := 28) hc dX1_learnFromTry_28 (zin _ rfl) ?_
    refine zj_iald (pc := 29) hc dX1_learnFromTry_29 alen_129 h.1 ?_
    have h := h.2
    refine zj_aload_n (pc := 30) hc dX1_learnFromTry_30 rfl ?_
    refine zg_2_5 (pc := 31) hc lk_X1_32 dX1_learnFromTry_31 ?_
    refine zj_iconst (pc := 34) hc dX1_learnFromTry_34 (zin _ rfl) ?_
    refine zj_iald (pc := 35) hc dX1_learnFromTry_35 alen_133 h.1 ?_
    have h := h.2
    refine zj_icmp_ge (pc := 36) (tgt := 40) hc dX1_learnFromTry_36 (by decide) (fun hx8 => ?_) (fun hx8 => ?_)
    · have h := h.1 hx8
      refine zj_aload_n (pc := 40) hc dX1_learnFromTry_40 rfl ?_
      refine zg_2_1 (pc := 41) hc lk_X1_15 dX1_learnFromTry_41 ?_
      refine zj_iconst (pc := 44) hc dX1_learnFromTry_44 (zin _ rfl) ?_
      refine zj_iald (pc := 45) hc dX1_learnFromTry_45 alen_129 h.1 ?_
      have h := h.2
      refine zj_bipush (pc := 46) hc dX1_learnFromTry_46 (by decide) (zin _ rfl) ?_
      refine zj_imul (pc := 48) hc dX1_learnFromTry_48 h.1 ?_
      have h := h.2
      refine zj_aload_n (pc := 49) hc dX1_learnFromTry_49 rfl ?_
      refine zg_2_5 (pc := 50) hc lk_X1_32 dX1_learnFromTry_50 ?_
      refine zj_iconst (pc := 53) hc dX1_learnFromTry_53 (zin _ rfl) ?_
      refine zj_iald (pc := 54) hc dX1_learnFromTry_54 alen_133 h.1 ?_
      have h := h.2
      refine zj_aload_n (pc := 55) hc dX1_learnFromTry_55 rfl ?_
      refine zg_2_1 (pc := 56) hc lk_X1_15 dX1_learnFromTry_56 ?_
      refine zj_iconst (pc := 59) hc dX1_learnFromTry_59 (zin _ rfl) ?_
      refine zj_iald (pc := 60) hc dX1_learnFromTry_60 alen_129 h.1 ?_
      have h := h.2
      refine zj_imul (pc := 61) hc dX1_learnFromTry_61 h.1 ?_
      have h := h.2
      refine zj_icmp_le (pc := 62) (tgt := 99) hc dX1_learnFromTry_62 (by decide) (fun hx9 => ?_) (fun hx9 => ?_)
      · have h := h.1 hx9
        refine zj_aload_n (pc := 99) hc dX1_learnFromTry_99 rfl ?_
        refine zg_2_1 (pc := 100) hc lk_X1_15 dX1_learnFromTry_100 ?_
        refine zj_iconst (pc := 103) hc dX1_learnFromTry_103 (zin _ rfl) ?_
        refine zj_dup2 (pc := 104) hc dX1_learnFromTry_104 ?_
        refine zj_iald (pc := 105) hc dX1_learnFromTry_105 alen_129 h.1 ?_
        have h := h.2
        refine zj_iconst (pc := 106) hc dX1_learnFromTry_106 (zin _ rfl) ?_
        refine zj_iadd (pc := 107) hc dX1_learnFromTry_107 h.1 ?_
        have h := h.2
        refine zj_iast (pc := 108) hc dX1_learnFromTry_108 alen_129 h.1 (fun M10 hM10 => ?_)
        have h := h.2 M10 hM10
        exact k109 M10 h
      · have h := h.2 hx9
        refine zj_aload_n (pc := 65) hc dX1_learnFromTry_65 rfl ?_
        refine zg_2_1 (pc := 66) hc lk_X1_15 dX1_learnFromTry_66 ?_
        refine zj_iconst (pc := 69) hc dX1_learnFromTry_69 (zin _ rfl) ?_
        refine zj_bipush (pc := 70) hc dX1_learnFromTry_70 (by decide) (zin _ rfl) ?_
        refine zj_aload_n (pc := 72) hc dX1_learnFromTry_72 rfl ?_
        refine zg_2_1 (pc := 73) hc lk_X1_15 dX1_learnFromTry_73 ?_
        refine zj_iconst (pc := 76) hc dX1_learnFromTry_76 (zin _ rfl) ?_
        refine zj_iald (pc := 77) hc dX1_learnFromTry_77 alen_129 h.1 ?_
        have h := h.2
        refine zj_aload_n (pc := 78) hc dX1_learnFromTry_78 rfl ?_
        refine zg_2_5 (pc := 79) hc lk_X1_32 dX1_learnFromTry_79 ?_
        refine zj_iconst (pc := 82) hc dX1_learnFromTry_82 (zin _ rfl) ?_
        refine zj_iald (pc := 83) hc dX1_learnFromTry_83 alen_133 h.1 ?_
        have h := h.2
        refine zj_iadd (pc := 84) hc dX1_learnFromTry_84 h.1 ?_
        have h := h.2
        refine zj_min (pc := 85) hc dX1_learnFromTry_85 lk_X1_145 st_min in_Math co_min (Nat.le_of_ble_eq_true rfl) (Nat.le_of_ble_eq_true rfl) ⟨Nat.le_of_ble_eq_true rfl, Nat.le_of_ble_eq_true rfl⟩ ?_
        refine zj_iast (pc := 88) hc dX1_learnFromTry_88 alen_129 h.1 (fun M11 hM11 => ?_)
        have h := h.2 M11 hM11
        refine zj_aload_n (pc := 89) hc dX1_learnFromTry_89 rfl ?_
        refine zg_2_1 (pc := 90) hc lk_X1_15 dX1_learnFromTry_90 ?_
        refine zj_iconst (pc := 93) hc dX1_learnFromTry_93 (zin _ rfl) ?_
        refine zj_iconst (pc := 94) hc dX1_learnFromTry_94 (zin _ rfl) ?_
        refine zj_iast (pc := 95) hc dX1_learnFromTry_95 alen_129 h.1 (fun M12 hM12 => ?_)
        have h := h.2 M12 hM12
        refine zj_goto (pc := 96) (tgt := 109) hc dX1_learnFromTry_96 (by decide) ?_
        exact k109 M12 h
    · have h := h.2 hx8
      exact zj_vret (pc := 39) hc hr hlk dX1_learnFromTry_39 (by decide) (by decide) h
  unfold T_X1_learnFromTry at h
  refine zj_aload_n (pc := 0) hc dX1_learnFromTry_0 rfl ?_
  refine zg_2_1 (pc := 1) hc lk_X1_15 dX1_learnFromTry_1 ?_
  refine zj_iconst (pc := 4) hc dX1_learnFromTry_4 (zin _ rfl) ?_
  refine zj_dup2 (pc := 5) hc dX1_learnFromTry_5 ?_
  refine zj_iald (pc := 6) hc dX1_learnFromTry_6 alen_129 h.1 ?_
  have h := h.2
  refine zj_iconst (pc := 7) hc dX1_learnFromTry_7 (zin _ rfl) ?_
  refine zj_iadd (pc := 8) hc dX1_learnFromTry_8 h.1 ?_
  have h := h.2
  refine zj_iast (pc := 9) hc dX1_learnFromTry_9 alen_129 h.1 (fun M13 hM13 => ?_)
  have h := h.2 M13 hM13
  refine zj_iload_n (pc := 10) hc dX1_learnFromTry_10 rfl ?_
  refine zj_if_ne (pc := 11) (tgt := 24) hc dX1_learnFromTry_11 (by decide) (fun hx14 => ?_) (fun hx14 => ?_)
  · have h := h.1 hx14
    refine zj_mask (bs := [true, false]) ?_
    exact k24 M13 h
  · have h := h.2 hx14
    refine zj_aload_n (pc := 14) hc dX1_learnFromTry_14 rfl ?_
    refine zg_2_1 (pc := 15) hc lk_X1_15 dX1_learnFromTry_15 ?_
    refine zj_iconst (pc := 18) hc dX1_learnFromTry_18 (zin _ rfl) ?_
    refine zj_dup2 (pc := 19) hc dX1_learnFromTry_19 ?_
    refine zj_iald (pc := 20) hc dX1_learnFromTry_20 alen_129 h.1 ?_
    have h := h.2
    refine zj_iconst (pc := 21) hc dX1_learnFromTry_21 (zin _ rfl) ?_
    refine zj_iadd (pc := 22) hc dX1_learnFromTry_22 h.1 ?_
    have h := h.2
    refine zj_iast (pc := 23) hc dX1_learnFromTry_23 alen_129 h.1 (fun M15 hM15 => ?_)
    have h := h.2 M15 hM15
    refine zj_mask (bs := [true, false]) ?_
    exact k24 M15 h
set_option maxHeartbeats 4000000 in
set_option maxRecDepth 100000 in
theorem S_X1_tryShape (l : Launch) (G : zG) (v1 : Int) (v2 : Int) (M : zMem) (Qr : Int → zMem → Prop) (h : T_X1_tryShape v1 v2 Qr M) : zMetI l yX1_tryShape cX1_tryShape 6 (some .boolean) 3 81 0 0 G [.inr 191, .inl v1, .inl v2] M Qr := by
  refine zmetI (by decide) (Nat.le_of_ble_eq_true rfl) [some (.inr 191), some (.inl v1), some (.inl v2), none, none, none] rfl ?_
  intro p e s m args below meth c hc hr hlk
  have k41 : ∀ (M : zMem) (v1 : Int) (v2 : Int) (v3 : Int), T_X1_tryShape_41 v1 v2 v3 Qr M → zJ p l e (zRoom 3 81 0 0) s m args below meth c G 6 0 0 (MQ below (zQi G (Qr)) args s 0 0 (zA G)) 41 [some (.inr 191), some (.inl v1), some (.inl v2), some (.inl v3), none, none] [] M := by
    intro M v1 v2 v3 h
    unfold T_X1_tryShape_41 at h
    refine zj_aload_n (pc := 41) hc dX1_tryShape_41 rfl ?_
    refine zg_2_4 (pc := 42) hc lk_X1_28 dX1_tryShape_42 ?_
    refine zj_iload_n (pc := 45) hc dX1_tryShape_45 rfl ?_
    refine zj_iload_n (pc := 46) hc dX1_tryShape_46 rfl ?_
    refine zj_vti (pc := 47) (st := []) hc ks_X8_layOut iv_X8_layOut lk_X1_122 (zrv_3 G M) (S_X8_layOut l G (Or.inl rfl) v1 v2 M _ h) rfl ⟨Nat.le_of_ble_eq_true rfl, Nat.le_of_ble_eq_true rfl⟩ (Nat.le_of_ble_eq_true rfl) ⟨Nat.le_of_ble_eq_true rfl, Nat.le_of_ble_eq_true rfl⟩ dX1_tryShape_47 rfl (fun y1 M2 h => ?_)
    refine zj_istore (pc := 50) hc dX1_tryShape_50 (by decide) ?_
    refine zj_aload_n (pc := 52) hc dX1_tryShape_52 rfl ?_
    refine zj_aload_n (pc := 53) hc dX1_tryShape_53 rfl ?_
    refine zg_2_4 (pc := 54) hc lk_X1_28 dX1_tryShape_54 ?_
    refine zg_3_0 (pc := 57) hc lk_X1_125 dX1_tryShape_57 ?_
    refine zj_aload_n (pc := 60) hc dX1_tryShape_60 rfl ?_
    refine zg_2_4 (pc := 61) hc lk_X1_28 dX1_tryShape_61 ?_
    refine zg_3_1 (pc := 64) hc lk_X1_129 dX1_tryShape_64 ?_
    refine zj_iload (pc := 67) hc dX1_tryShape_67 rfl ?_
    refine zj_vti (pc := 69) (st := [.inr 191]) hc ks_X6_packBest iv_X6_packBest lk_X1_132 (zrv_4 G M2) (S_X6_packBest l G (Or.inl rfl) 193 y1 M2 _ h) rfl ⟨Nat.le_of_ble_eq_true rfl, Nat.le_of_ble_eq_true rfl⟩ (Nat.le_of_ble_eq_true rfl) ⟨Nat.le_of_ble_eq_true rfl, Nat.le_of_ble_eq_true rfl⟩ dX1_tryShape_69 rfl (fun y3 M4 h => ?_)
    refine zs_2_7 (pc := 72) hc lk_X1_38 dX1_tryShape_72 (fun M5 hM5 => ?_)
    have h := h M5 hM5
    refine zj_iload_n (pc := 75) hc dX1_tryShape_75 rfl ?_
    refine zj_if_ne (pc := 76) (tgt := 90) hc dX1_tryShape_76 (by decide) (fun hx6 => ?_) (fun hx6 => ?_)
    · have h := h.1 hx6
      refine zj_iconst (pc := 90) hc dX1_tryShape_90 (zin _ rfl) ?_
      refine zj_goto (pc := 91) (tgt := 95) hc dX1_tryShape_91 (by decide) ?_
      refine zj_istore (pc := 95) hc dX1_tryShape_95 (by decide) ?_
      refine zj_aload_n (pc := 97) hc dX1_tryShape_97 rfl ?_
      refine zj_iload (pc := 98) hc dX1_tryShape_98 rfl ?_
      refine zj_vtv (pc := 100) (st := []) hc ks_X1_learnFromTry iv_X1_learnFromTry lk_X1_141 (zrv_2 G M5) (S_X1_learnFromTry l G 1 M5 _ h) rfl ⟨Nat.le_of_ble_eq_true rfl, Nat.le_of_ble_eq_true rfl⟩ (Nat.le_of_ble_eq_true rfl) ⟨Nat.le_of_ble_eq_true rfl, Nat.le_of_ble_eq_true rfl⟩ dX1_tryShape_100 rfl (fun M7 h => ?_)
      refine zj_iload (pc := 103) hc dX1_tryShape_103 rfl ?_
      exact zj_zret (pc := 105) hc hr hlk dX1_tryShape_105 (by decide) (by decide) (Or.inr rfl) h
    · have h := h.2 hx6
      refine zj_aload_n (pc := 79) hc dX1_tryShape_79 rfl ?_
      refine zj_aload_n (pc := 80) hc dX1_tryShape_80 rfl ?_
      refine zg_2_7 (pc := 81) hc lk_X1_38 dX1_tryShape_81 ?_
      refine zj_vti (pc := 84) (st := []) hc ks_X1_fitsWith iv_X1_fitsWith lk_X1_137 (zrv_2 G M5) (S_X1_fitsWith l G (M5.1 135) M5 _ h) rfl ⟨Nat.le_of_ble_eq_true rfl, Nat.le_of_ble_eq_true rfl⟩ (Nat.le_of_ble_eq_true rfl) ⟨Nat.le_of_ble_eq_true rfl, Nat.le_of_ble_eq_true rfl⟩ dX1_tryShape_84 rfl (fun y8 M9 h => ?_)
      obtain ⟨hM9, h⟩ := h
      subst hM9
      refine zj_if_eq (pc := 87) (tgt := 94) hc dX1_tryShape_87 (by decide) (fun hx9 => ?_) (fun hx9 => ?_)
      · have h := h.1 hx9
        refine zj_iconst (pc := 94) hc dX1_tryShape_94 (zin _ rfl) ?_
        refine zj_istore (pc := 95) hc dX1_tryShape_95 (by decide) ?_
        refine zj_aload_n (pc := 97) hc dX1_tryShape_97 rfl ?_
        refine zj_iload (pc := 98) hc dX1_tryShape_98 rfl ?_
        refine zj_vtv (pc := 100) (st := []) hc ks_X1_learnFromTry iv_X1_learnFromTry lk_X1_141 (zrv_2 G M5) (S_X1_learnFromTry l G 0 M5 _ h) rfl ⟨Nat.le_of_ble_eq_true rfl, Nat.le_of_ble_eq_true rfl⟩ (Nat.le_of_ble_eq_true rfl) ⟨Nat.le_of_ble_eq_true rfl, Nat.le_of_ble_eq_true rfl⟩ dX1_tryShape_100 rfl (fun M10 h => ?_)
        refine zj_iload (pc := 103) hc dX1_tryShape_103 rfl ?_
        exact zj_zret (pc := 105) hc hr hlk dX1_tryShape_105 (by decide) (by decide) (Or.inl rfl) h
      · have h := h.2 hx9
        refine zj_iconst (pc := 90) hc dX1_tryShape_90 (zin _ rfl) ?_
        refine zj_goto (pc := 91) (tgt := 95) hc dX1_tryShape_91 (by decide) ?_
        refine zj_istore (pc := 95) hc dX1_tryShape_95 (by decide) ?_
        refine zj_aload_n (pc := 97) hc dX1_tryShape_97 rfl ?_
        refine zj_iload (pc := 98) hc dX1_tryShape_98 rfl ?_
        refine zj_vtv (pc := 100) (st := []) hc ks_X1_learnFromTry iv_X1_learnFromTry lk_X1_141 (zrv_2 G M5) (S_X1_learnFromTry l G 1 M5 _ h) rfl ⟨Nat.le_of_ble_eq_true rfl, Nat.le_of_ble_eq_true rfl⟩ (Nat.le_of_ble_eq_true rfl) ⟨Nat.le_of_ble_eq_true rfl, Nat.le_of_ble_eq_true rfl⟩ dX1_tryShape_100 rfl (fun M11 h => ?_)
        refine zj_iload (pc := 103) hc dX1_tryShape_103 rfl ?_
        exact zj_zret (pc := 105) hc hr hlk dX1_tryShape_105 (by decide) (by decide) (Or.inr rfl) h
  have k18 : ∀ (M : zMem) (v1 : Int) (v2 : Int) (s0 : Int), T_X1_tryShape_18 v1 v2 s0 Qr M → zJ p l e (zRoom 3 81 0 0) s m args below meth c G 6 0 0 (MQ below (zQi G (Qr)) args s 0 0 (zA G)) 18 [some (.inr 191), some (.inl v1), some (.inl v2), none, none, none] [.inl s0] M := by
    intro M v1 v2 s0 h
    unfold T_X1_tryShape_18 at h
    refine zj_istore_n (pc := 18) hc dX1_tryShape_18 (by decide) ?_
    refine zj_iload_n (pc := 19) hc dX1_tryShape_19 rfl ?_
    refine zj_if_ne (pc := 20) (tgt := 41) hc dX1_tryShape_20 (by decide) (fun hx12 => ?_) (fun hx12 => ?_)
    · have h := h.1 hx12
      exact k41 M v1 v2 s0 h
    · have h := h.2 hx12
      refine zj_aload_n (pc := 23) hc dX1_tryShape_23 rfl ?_
      refine zg_2_4 (pc := 24) hc lk_X1_28 dX1_tryShape_24 ?_
      refine zj_iload_n (pc := 27) hc dX1_tryShape_27 rfl ?_
      refine zj_iload_n (pc := 28) hc dX1_tryShape_28 rfl ?_
      refine zj_vti (pc := 29) (st := []) hc ks_X8_plainSize iv_X8_plainSize lk_X1_75 (zrv_3 G M) (S_X8_plainSize l G (Or.inl rfl) v1 v2 M _ h) rfl ⟨Nat.le_of_ble_eq_true rfl, Nat.le_of_ble_eq_true rfl⟩ (Nat.le_of_ble_eq_true rfl) ⟨Nat.le_of_ble_eq_true rfl, Nat.le_of_ble_eq_true rfl⟩ dX1_tryShape_29 rfl (fun y13 M9 h => ?_)
      obtain ⟨hM9, h⟩ := h
      subst hM9
      refine zj_aload_n (pc := 32) hc dX1_tryShape_32 rfl ?_
      refine zj_vti (pc := 33) (st := [.inl y13]) hc ks_X1_full iv_X1_full lk_X1_96 (zrv_2 G M) (S_X1_full l G M _ h) rfl ⟨Nat.le_of_ble_eq_true rfl, Nat.le_of_ble_eq_true rfl⟩ (Nat.le_of_ble_eq_true rfl) ⟨Nat.le_of_ble_eq_true rfl, Nat.le_of_ble_eq_true rfl⟩ dX1_tryShape_33 rfl (fun y14 M9 h => ?_)
      obtain ⟨hM9, h⟩ := h
      subst hM9
      refine zj_icmp_le (pc := 36) (tgt := 41) hc dX1_tryShape_36 (by decide) (fun hx15 => ?_) (fun hx15 => ?_)
      · have h := h.1 hx15
        exact k41 M v1 v2 s0 h
      · have h := h.2 hx15
        refine zj_iconst (pc := 39) hc dX1_tryShape_39 (zin _ rfl) ?_
        exact zj_zret (pc := 40) hc hr hlk dX1_tryShape_40 (by decide) (by decide) (Or.inl rfl) h
  unfold T_X1_tryShape at h
  refine zj_aload_n (pc := 0) hc dX1_tryShape_0 rfl ?_
  refine zg_2_4 (pc := 1) hc lk_X1_28 dX1_tryShape_1 ?_
  refine zj_iload_n (pc := 4) hc dX1_tryShape_4 rfl ?_
  refine zj_iload_n (pc := 5) hc dX1_tryShape_5 rfl ?_
  refine zj_vti (pc := 6) (st := []) hc ks_X8_countIn iv_X8_countIn lk_X1_119 (zrv_3 G M) (S_X8_countIn l G (Or.inl rfl) v1 v2 M _ h) rfl ⟨Nat.le_of_ble_eq_true rfl, Nat.le_of_ble_eq_true rfl⟩ (Nat.le_of_ble_eq_true rfl) ⟨Nat.le_of_ble_eq_true rfl, Nat.le_of_ble_eq_true rfl⟩ dX1_tryShape_6 rfl (fun y16 M9 h => ?_)
  obtain ⟨hM9, h⟩ := h
  subst hM9
  refine zj_iconst (pc := 9) hc dX1_tryShape_9 (zin _ rfl) ?_
  refine zj_icmp_gt (pc := 10) (tgt := 17) hc dX1_tryShape_10 (by decide) (fun hx17 => ?_) (fun hx17 => ?_)
  · have h := h.1 hx17
    refine zj_iconst (pc := 17) hc dX1_tryShape_17 (zin _ rfl) ?_
    exact k18 M v1 v2 0 h
  · have h := h.2 hx17
    refine zj_iconst (pc := 13) hc dX1_tryShape_13 (zin _ rfl) ?_
    refine zj_goto (pc := 14) (tgt := 18) hc dX1_tryShape_14 (by decide) ?_
    exact k18 M v1 v2 1 h
set_option maxHeartbeats 4000000 in
set_option maxRecDepth 100000 in
theorem S_X1_writeBlock (l : Launch) (G : zG) (v1 : Int) (M : zMem) (Qr : zMem → Prop) (h : T_X1_writeBlock v1 Qr M) : zMetV l yX1_writeBlock cX1_writeBlock 4 none 2 46 0 0 G [.inr 191, .inl v1] M Qr := by
  refine zmetV (by decide) (Nat.le_of_ble_eq_true rfl) [some (.inr 191), some (.inl v1), none, none] rfl ?_
  intro p e s m args below meth c hc hr hlk
  unfold T_X1_writeBlock at h
  refine zj_iload_n (pc := 0) hc dX1_writeBlock_0 rfl ?_
  refine zj_bipush (pc := 1) hc dX1_writeBlock_1 (by decide) (zin _ rfl) ?_
  refine zj_imul (pc := 3) hc dX1_writeBlock_3 h.1 ?_
  have h := h.2
  refine zj_istore_n (pc := 4) hc dX1_writeBlock_4 (by decide) ?_
  refine zj_aload_n (pc := 5) hc dX1_writeBlock_5 rfl ?_
  refine zg_2_7 (pc := 6) hc lk_X1_38 dX1_writeBlock_6 ?_
  refine zj_bipush (pc := 9) hc dX1_writeBlock_9 (by decide) (zin _ rfl) ?_
  refine zj_min (pc := 11) hc dX1_writeBlock_11 lk_X1_145 st_min in_Math co_min (Nat.le_of_ble_eq_true rfl) (Nat.le_of_ble_eq_true rfl) ⟨Nat.le_of_ble_eq_true rfl, Nat.le_of_ble_eq_true rfl⟩ ?_
  refine zj_istore_n (pc := 14) hc dX1_writeBlock_14 (by decide) ?_
  refine zj_aload_n (pc := 15) hc dX1_writeBlock_15 rfl ?_
  refine zg_2_0 (pc := 16) hc lk_X1_9 dX1_writeBlock_16 ?_
  refine zj_iload_n (pc := 19) hc dX1_writeBlock_19 rfl ?_
  refine zj_iload_n (pc := 20) hc dX1_writeBlock_20 rfl ?_
  refine zj_bipush (pc := 21) hc dX1_writeBlock_21 (by decide) (zin _ rfl) ?_
  refine zj_iadd (pc := 23) hc dX1_writeBlock_23 h.1 ?_
  have h := h.2
  refine zj_iconst (pc := 24) hc dX1_writeBlock_24 (zin _ rfl) ?_
  refine zj_stv (pc := 25) (st := []) hc ks_J7_fill_fda19 st_J7_fill_fda19 lk_X1_153 (S_J7_fill_fda19 l G 128 (v1 * 64) ((v1 * 64) + 64) 0 M _ h) rfl ⟨Nat.le_of_ble_eq_true rfl, Nat.le_of_ble_eq_true rfl⟩ (Nat.le_of_ble_eq_true rfl) ⟨Nat.le_of_ble_eq_true rfl, Nat.le_of_ble_eq_true rfl⟩ dX1_writeBlock_25 rfl (fun M1 h => ?_)
  refine zj_aload_n (pc := 28) hc dX1_writeBlock_28 rfl ?_
  refine zg_2_0 (pc := 29) hc lk_X1_9 dX1_writeBlock_29 ?_
  refine zj_iload_n (pc := 32) hc dX1_writeBlock_32 rfl ?_
  refine zj_aload_n (pc := 33) hc dX1_writeBlock_33 rfl ?_
  refine zg_2_4 (pc := 34) hc lk_X1_28 dX1_writeBlock_34 ?_
  refine zg_3_0 (pc := 37) hc lk_X1_125 dX1_writeBlock_37 ?_
  refine zg_4_3 (pc := 40) hc lk_X1_156 dX1_writeBlock_40 ?_
  refine zj_iast (pc := 43) hc dX1_writeBlock_43 alen_128 h.1 (fun M2 hM2 => ?_)
  have h := h.2 M2 hM2
  refine zj_aload_n (pc := 44) hc dX1_writeBlock_44 rfl ?_
  refine zg_2_0 (pc := 45) hc lk_X1_9 dX1_writeBlock_45 ?_
  refine zj_iload_n (pc := 48) hc dX1_writeBlock_48 rfl ?_
  refine zj_iconst (pc := 49) hc dX1_writeBlock_49 (zin _ rfl) ?_
  refine zj_iadd (pc := 50) hc dX1_writeBlock_50 h.1 ?_
  have h := h.2
  refine zj_iload_n (pc := 51) hc dX1_writeBlock_51 rfl ?_
  refine zj_iast (pc := 52) hc dX1_writeBlock_52 alen_128 h.1 (fun M3 hM3 => ?_)
  have h := h.2 M3 hM3
  refine zj_aload_n (pc := 53) hc dX1_writeBlock_53 rfl ?_
  refine zg_2_4 (pc := 54) hc lk_X1_28 dX1_writeBlock_54 ?_
  refine zg_3_0 (pc := 57) hc lk_X1_125 dX1_writeBlock_57 ?_
  refine zg_4_0 (pc := 60) hc lk_X1_159 dX1_writeBlock_60 ?_
  refine zj_iconst (pc := 63) hc dX1_writeBlock_63 (zin _ rfl) ?_
  refine zj_aload_n (pc := 64) hc dX1_writeBlock_64 rfl ?_
  refine zg_2_0 (pc := 65) hc lk_X1_9 dX1_writeBlock_65 ?_
  refine zj_iload_n (pc := 68) hc dX1_writeBlock_68 rfl ?_
  refine zj_iconst (pc := 69) hc dX1_writeBlock_69 (zin _ rfl) ?_
  refine zj_iadd (pc := 70) hc dX1_writeBlock_70 h.1 ?_
  have h := h.2
  refine zj_iload_n (pc := 71) hc dX1_writeBlock_71 rfl ?_
  refine zj_copy (pc := 72) hc dX1_writeBlock_72 lk_X1_41 na_copy st_copy in_System alen_256 alen_128 h.1 (Nat.le_of_ble_eq_true rfl) (Nat.le_of_ble_eq_true rfl) (fun M4 hM4 => ?_)
  have h := h.2 M4 hM4
  refine zj_aload_n (pc := 75) hc dX1_writeBlock_75 rfl ?_
  refine zg_2_2 (pc := 76) hc lk_X1_18 dX1_writeBlock_76 ?_
  refine zj_iload_n (pc := 79) hc dX1_writeBlock_79 rfl ?_
  refine zj_iconst (pc := 80) hc dX1_writeBlock_80 (zin _ rfl) ?_
  refine zj_iast (pc := 81) hc dX1_writeBlock_81 alen_130 h.1 (fun M5 hM5 => ?_)
  have h := h.2 M5 hM5
  exact zj_vret (pc := 82) hc hr hlk dX1_writeBlock_82 (by decide) (by decide) h
set_option maxHeartbeats 4000000 in
set_option maxRecDepth 100000 in
theorem S_X1_spread (l : Launch) (G : zG) (v1 : Int) (M : zMem) (Qr : Int → zMem → Prop) (h : T_X1_spread v1 Qr M) : zMetI l yX1_spread cX1_spread 7 (some .int) 4 106 0 0 G [.inr 191, .inl v1] M Qr := by
  refine zmetI (by decide) (Nat.le_of_ble_eq_true rfl) [some (.inr 191), some (.inl v1), none, none, none, none, none] rfl ?_
  intro p e s m args below meth c hc hr hlk
  have k142 : ∀ (M : zMem) (v2 : Int), T_X1_spread_142 v2 Qr M → zJ p l e (zRoom 4 106 0 0) s m args below meth c G 7 0 0 (MQ below (zQi G (Qr)) args s 0 0 (zA G)) 142 [none, none, some (.inl v2), none, none, none, none] [] M := by
    intro M v2 h
    unfold T_X1_spread_142 at h
    refine zj_iload_n (pc := 142) hc dX1_spread_142 rfl ?_
    refine zj_iconst (pc := 143) hc dX1_spread_143 (zin _ rfl) ?_
    refine zj_icmp_ne (pc := 144) (tgt := 151) hc dX1_spread_144 (by decide) (fun hx1 => ?_) (fun hx1 => ?_)
    · have h := h.1 hx1
      refine zj_bipush (pc := 151) hc dX1_spread_151 (by decide) (zin _ rfl) ?_
      refine zj_iload_n (pc := 153) hc dX1_spread_153 rfl ?_
      refine zj_iadd (pc := 154) hc dX1_spread_154 h.1 ?_
      have h := h.2
      exact zj_iret (pc := 155) hc hr hlk dX1_spread_155 (by decide) (by decide) h
    · have h := h.2 hx1
      refine zj_iconst (pc := 147) hc dX1_spread_147 (zin _ rfl) ?_
      refine zj_goto (pc := 148) (tgt := 155) hc dX1_spread_148 (by decide) ?_
      exact zj_iret (pc := 155) hc hr hlk dX1_spread_155 (by decide) (by decide) h
  have k136 : ∀ (M : zMem) (v1 : Int) (v2 : Int) (v3 : Int) (v4 : Int) (v5 : Int) (X19 : Int → Int → Int → Int → zMem → Prop) (hX19 : ∀ (v2 : Int) (v3 : Int) (v4 : Int) (v5 : Int) (M : zMem), X19 v2 v3 v4 v5 M → zJ p l e (zRoom 4 106 0 0) s m args below meth c G 7 0 0 (MQ below (zQi G (Qr)) args s 0 0 (zA G)) 19 [some (.inr 191), some (.inl v1), some (.inl v2), some (.inl v3), some (.inl v4), some (.inl v5), none] [] M), T_X1_spread_136 v1 v2 v3 v4 v5 X19 Qr M → zJ p l e (zRoom 4 106 0 0) s m args below meth c G 7 0 0 (MQ below (zQi G (Qr)) args s 0 0 (zA G)) 136 [some (.inr 191), some (.inl v1), some (.inl v2), some (.inl v3), some (.inl v4), some (.inl v5), none] [] M := by
    intro M v1 v2 v3 v4 v5 X19 hX19 h
    unfold T_X1_spread_136 at h
    refine zj_iinc (pc := 136) hc dX1_spread_136 rfl (by decide) h.1 ?_
    have h := h.2
    refine zj_goto (pc := 139) (tgt := 19) hc dX1_spread_139 (by decide) ?_
    exact hX19 v2 v3 v4 (v5 + 1) M h
  have k80 : ∀ (M : zMem) (v1 : Int) (v2 : Int) (v4 : Int) (v5 : Int) (v6 : Int) (X19 : Int → Int → Int → Int → zMem → Prop) (hX19 : ∀ (v2 : Int) (v3 : Int) (v4 : Int) (v5 : Int) (M : zMem), X19 v2 v3 v4 v5 M → zJ p l e (zRoom 4 106 0 0) s m args below meth c G 7 0 0 (MQ below (zQi G (Qr)) args s 0 0 (zA G)) 19 [some (.inr 191), some (.inl v1), some (.inl v2), some (.inl v3), some (.inl v4), some (.inl v5), none] [] M), T_X1_spread_80 v1 v2 v4 v5 v6 X19 Qr M → zJ p l e (zRoom 4 106 0 0) s m args below meth c G 7 0 0 (MQ below (zQi G (Qr)) args s 0 0 (zA G)) 80 [some (.inr 191), some (.inl v1), some (.inl v2), none, some (.inl v4), some (.inl v5), some (.inl v6)] [] M := by
    intro M v1 v2 v4 v5 v6 X19 hX19 h
    unfold T_X1_spread_80 at h
    refine zj_aload_n (pc := 80) hc dX1_spread_80 rfl ?_
    refine zj_aload_n (pc := 81) hc dX1_spread_81 rfl ?_
    refine zg_2_0 (pc := 82) hc lk_X1_9 dX1_spread_82 ?_
    refine zj_iload_n (pc := 85) hc dX1_spread_85 rfl ?_
    refine zj_iload_n (pc := 86) hc dX1_spread_86 rfl ?_
    refine zj_iadd (pc := 87) hc dX1_spread_87 h.1 ?_
    have h := h.2
    refine zj_sti (pc := 88) (st := [.inr 191]) hc ks_X4_pageAt st_X4_pageAt lk_X1_65 (S_X4_pageAt l G 128 (v1 + v2) M _ h) rfl ⟨Nat.le_of_ble_eq_true rfl, Nat.le_of_ble_eq_true rfl⟩ (Nat.le_of_ble_eq_true rfl) ⟨Nat.le_of_ble_eq_true rfl, Nat.le_of_ble_eq_true rfl⟩ dX1_spread_88 rfl (fun y2 M9 h => ?_)
    obtain ⟨hM9, h⟩ := h
    subst hM9
    refine zj_vtv (pc := 91) (st := []) hc ks_X1_writeBlock iv_X1_writeBlock lk_X1_113 (zrv_2 G M) (S_X1_writeBlock l G y2 M _ h) rfl ⟨Nat.le_of_ble_eq_true rfl, Nat.le_of_ble_eq_true rfl⟩ (Nat.le_of_ble_eq_true rfl) ⟨Nat.le_of_ble_eq_true rfl, Nat.le_of_ble_eq_true rfl⟩ dX1_spread_91 rfl (fun M3 h => ?_)
    refine zj_iinc (pc := 94) hc dX1_spread_94 rfl (by decide) h.1 ?_
    have h := h.2
    refine zj_iload (pc := 97) hc dX1_spread_97 rfl ?_
    refine zj_istore_n (pc := 99) hc dX1_spread_99 (by decide) ?_
    refine zj_iinc (pc := 100) hc dX1_spread_100 rfl (by decide) h.1 ?_
    have h := h.2
    refine zj_goto (pc := 103) (tgt := 136) hc dX1_spread_103 (by decide) ?_
    refine zj_mask (bs := [true, true, true, true, true, true, false]) ?_
    exact k136 M3 v1 (v2 + 1) v6 (v4 + (-1)) v5 X19 hX19 h
  have k19 : ∀ (M : zMem) (v1 : Int) (v2 : Int) (v3 : Int) (v4 : Int) (v5 : Int), T_X1_spread_19 v1 Qr v2 v3 v4 v5 M → zJ p l e (zRoom 4 106 0 0) s m args below meth c G 7 0 0 (MQ below (zQi G (Qr)) args s 0 0 (zA G)) 19 [some (.inr 191), some (.inl v1), some (.inl v2), some (.inl v3), some (.inl v4), some (.inl v5), none] [] M := by
    intro M v1 v2 v3 v4 v5 h
    unfold T_X1_spread_19 at h
    refine zl4_use h (fun v2 v3 v4 v5 M => zJ p l e (zRoom 4 106 0 0) s m args below meth c G 7 0 0 (MQ below (zQi G (Qr)) args s 0 0 (zA G)) 19 [some (.inr 191), some (.inl v1), some (.inl v2), some (.inl v3), some (.inl v4), some (.inl v5), none] [] M) (fun X19 hX19 v2 v3 v4 v5 M h => ?_)
    refine zj_iload (pc := 19) hc dX1_spread_19 rfl ?_
    refine zj_sipush (pc := 21) hc dX1_spread_21 (by decide) (zin _ rfl) ?_
    refine zj_icmp_ge (pc := 24) (tgt := 142) hc dX1_spread_24 (by decide) (fun hx4 => ?_) (fun hx4 => ?_)
    · have h := h.1 hx4
      refine zj_mask (bs := [false, false, true, false, false, false, true]) ?_
      exact k142 M v2 h
    · have h := h.2 hx4
      refine zj_iload (pc := 27) hc dX1_spread_27 rfl ?_
      refine zj_if_le (pc := 29) (tgt := 142) hc dX1_spread_29 (by decide) (fun hx5 => ?_) (fun hx5 => ?_)
      · have h := h.1 hx5
        refine zj_mask (bs := [false, false, true, false, false, false, true]) ?_
        exact k142 M v2 h
      · have h := h.2 hx5
        refine zj_aload_n (pc := 32) hc dX1_spread_32 rfl ?_
        refine zg_2_6 (pc := 33) hc lk_X1_35 dX1_spread_33 ?_
        refine zj_iload (pc := 36) hc dX1_spread_36 rfl ?_
        refine zj_iconst (pc := 38) hc dX1_spread_38 (zin _ rfl) ?_
        refine zj_isub (pc := 39) hc dX1_spread_39 h.1 ?_
        have h := h.2
        refine zj_iald (pc := 40) hc dX1_spread_40 alen_134 h.1 ?_
        have h := h.2
        refine zj_istore (pc := 41) hc dX1_spread_41 (by decide) ?_
        refine zj_aload_n (pc := 43) hc dX1_spread_43 rfl ?_
        refine zj_iload_n (pc := 44) hc dX1_spread_44 rfl ?_
        refine zj_iload (pc := 45) hc dX1_spread_45 rfl ?_
        refine zj_vti (pc := 47) (st := []) hc ks_X1_tryShape iv_X1_tryShape lk_X1_103 (zrv_2 G M) (S_X1_tryShape l G v3 (M.2 134 (v4 - 1)) M _ h) rfl ⟨Nat.le_of_ble_eq_true rfl, Nat.le_of_ble_eq_true rfl⟩ (Nat.le_of_ble_eq_true rfl) ⟨Nat.le_of_ble_eq_true rfl, Nat.le_of_ble_eq_true rfl⟩ dX1_spread_47 rfl (fun y6 M7 h => ?_)
        refine zj_if_eq (pc := 50) (tgt := 106) hc dX1_spread_50 (by decide) (fun hx8 => ?_) (fun hx8 => ?_)
        · have h := h.1 hx8
          refine zj_iload (pc := 106) hc dX1_spread_106 rfl ?_
          refine zj_aload_n (pc := 108) hc dX1_spread_108 rfl ?_
          refine zg_2_6 (pc := 109) hc lk_X1_35 dX1_spread_109 ?_
          refine zj_alen (pc := 112) hc dX1_spread_112 alen_134 (by decide) ?_
          refine zj_icmp_ge (pc := 113) (tgt := 136) hc dX1_spread_113 (by decide) (fun hx9 => ?_) (fun hx9 => ?_)
          · have h := h.1 hx9
            refine zj_mask (bs := [true, true, true, true, true, true, false]) ?_
            exact k136 M7 v1 v2 v3 v4 v5 X19 hX19 h
          · have h := h.2 hx9
            refine zj_aload_n (pc := 116) hc dX1_spread_116 rfl ?_
            refine zg_2_6 (pc := 117) hc lk_X1_35 dX1_spread_117 ?_
            refine zj_iload (pc := 120) hc dX1_spread_120 rfl ?_
            refine zj_aload_n (pc := 122) hc dX1_spread_122 rfl ?_
            refine zg_2_4 (pc := 123) hc lk_X1_28 dX1_spread_123 ?_
            refine zj_iload_n (pc := 126) hc dX1_spread_126 rfl ?_
            refine zj_iload (pc := 127) hc dX1_spread_127 rfl ?_
            refine zj_vti (pc := 129) (st := [.inl v4, .inr 134]) hc ks_X8_cutOf iv_X8_cutOf lk_X1_116 (zrv_3 G M7) (S_X8_cutOf l G (Or.inl rfl) v3 (M.2 134 (v4 - 1)) M7 _ h) rfl ⟨Nat.le_of_ble_eq_true rfl, Nat.le_of_ble_eq_true rfl⟩ (Nat.le_of_ble_eq_true rfl) ⟨Nat.le_of_ble_eq_true rfl, Nat.le_of_ble_eq_true rfl⟩ dX1_spread_129 rfl (fun y10 M9 h => ?_)
            obtain ⟨hM9, h⟩ := h
            subst hM9
            refine zj_iast (pc := 132) hc dX1_spread_132 alen_134 h.1 (fun M11 hM11 => ?_)
            have h := h.2 M11 hM11
            refine zj_iinc (pc := 133) hc dX1_spread_133 rfl (by decide) h.1 ?_
            have h := h.2
            refine zj_mask (bs := [true, true, true, true, true, true, false]) ?_
            exact k136 M11 v1 v2 v3 (v4 + 1) v5 X19 hX19 h
        · have h := h.2 hx8
          refine zj_iload_n (pc := 53) hc dX1_spread_53 rfl ?_
          refine zj_if_le (pc := 54) (tgt := 80) hc dX1_spread_54 (by decide) (fun hx12 => ?_) (fun hx12 => ?_)
          · have h := h.1 hx12
            refine zj_mask (bs := [true, true, true, false, true, true, true]) ?_
            exact k80 M7 v1 v2 v4 v5 (M.2 134 (v4 - 1)) X19 hX19 h
          · have h := h.2 hx12
            refine zj_aload_n (pc := 57) hc dX1_spread_57 rfl ?_
            refine zj_iload_n (pc := 58) hc dX1_spread_58 rfl ?_
            refine zj_iload_n (pc := 59) hc dX1_spread_59 rfl ?_
            refine zj_iadd (pc := 60) hc dX1_spread_60 h.1 ?_
            have h := h.2
            refine zj_aload_n (pc := 61) hc dX1_spread_61 rfl ?_
            refine zg_2_4 (pc := 62) hc lk_X1_28 dX1_spread_62 ?_
            refine zj_iload_n (pc := 65) hc dX1_spread_65 rfl ?_
            refine zj_iload (pc := 66) hc dX1_spread_66 rfl ?_
            refine zj_vti (pc := 68) (st := [.inl (v1 + v2), .inr 191]) hc ks_X8_lowestIn iv_X8_lowestIn lk_X1_107 (zrv_3 G M7) (S_X8_lowestIn l G (Or.inl rfl) v3 (M.2 134 (v4 - 1)) M7 _ h) rfl ⟨Nat.le_of_ble_eq_true rfl, Nat.le_of_ble_eq_true rfl⟩ (Nat.le_of_ble_eq_true rfl) ⟨Nat.le_of_ble_eq_true rfl, Nat.le_of_ble_eq_true rfl⟩ dX1_spread_68 rfl (fun y13 M9 h => ?_)
            obtain ⟨hM9, h⟩ := h
            subst hM9
            refine zj_vti (pc := 71) (st := []) hc ks_X1_insertIntoDirectory iv_X1_insertIntoDirectory lk_X1_110 (zrv_2 G M7) (S_X1_insertIntoDirectory l G (v1 + v2) y13 M7 _ h) rfl ⟨Nat.le_of_ble_eq_true rfl, Nat.le_of_ble_eq_true rfl⟩ (Nat.le_of_ble_eq_true rfl) ⟨Nat.le_of_ble_eq_true rfl, Nat.le_of_ble_eq_true rfl⟩ dX1_spread_71 rfl (fun y14 M15 h => ?_)
            refine zj_if_ne (pc := 74) (tgt := 80) hc dX1_spread_74 (by decide) (fun hx16 => ?_) (fun hx16 => ?_)
            · have h := h.1 hx16
              refine zj_mask (bs := [true, true, true, false, true, true, true]) ?_
              exact k80 M15 v1 v2 v4 v5 (M.2 134 (v4 - 1)) X19 hX19 h
            · have h := h.2 hx16
              refine zj_bipush (pc := 77) hc dX1_spread_77 (by decide) (zin _ rfl) ?_
              exact zj_iret (pc := 79) hc hr hlk dX1_spread_79 (by decide) (by decide) h
  unfold T_X1_spread at h
  refine zj_iconst (pc := 0) hc dX1_spread_0 (zin _ rfl) ?_
  refine zj_istore_n (pc := 1) hc dX1_spread_1 (by decide) ?_
  refine zj_iconst (pc := 2) hc dX1_spread_2 (zin _ rfl) ?_
  refine zj_istore_n (pc := 3) hc dX1_spread_3 (by decide) ?_
  refine zj_iconst (pc := 4) hc dX1_spread_4 (zin _ rfl) ?_
  refine zj_istore (pc := 5) hc dX1_spread_5 (by decide) ?_
  refine zj_aload_n (pc := 7) hc dX1_spread_7 rfl ?_
  refine zg_2_6 (pc := 8) hc lk_X1_35 dX1_spread_8 ?_
  refine zj_iconst (pc := 11) hc dX1_spread_11 (zin _ rfl) ?_
  refine zj_sipush (pc := 12) hc dX1_spread_12 (by decide) (zin _ rfl) ?_
  refine zj_iast (pc := 15) hc dX1_spread_15 alen_134 h.1 (fun M17 hM17 => ?_)
  have h := h.2 M17 hM17
  refine zj_iconst (pc := 16) hc dX1_spread_16 (zin _ rfl) ?_
  refine zj_istore (pc := 17) hc dX1_spread_17 (by decide) ?_
  exact k19 M17 v1 0 0 1 0 h
set_option maxHeartbeats 4000000 in
set_option maxRecDepth 100000 in
theorem S_X1_edit (l : Launch) (G : zG) (r1 : Nat) (v2 : Int) (M : zMem) (Qr : Int → zMem → Prop) (h : T_X1_edit r1 v2 Qr M) : zMetI l yX1_edit cX1_edit 13 (some .int) 5 132 0 0 G [.inr 191, .inr r1, .inl v2] M Qr := by
  refine zmetI (by decide) (Nat.le_of_ble_eq_true rfl) [some (.inr 191), some (.inr r1), some (.inl v2), none, none, none, none, none, none, none, none, none, none] rfl ?_
  intro p e s m args below meth c hc hr hlk
  have k229 : ∀ (M : zMem) (r1 : Nat) (v2 : Int) (v3 : Int) (v10 : Int), T_X1_edit_229 r1 v2 v3 v10 Qr M → zJ p l e (zRoom 5 132 0 0) s m args below meth c G 13 0 0 (MQ below (zQi G (Qr)) args s 0 0 (zA G)) 229 [some (.inr 191), some (.inr r1), some (.inl v2), some (.inl v3), none, none, none, none, none, none, some (.inl v10), none, none] [] M := by
    intro M r1 v2 v3 v10 h
    unfold T_X1_edit_229 at h
    refine zj_aload_n (pc := 229) hc dX1_edit_229 rfl ?_
    refine zj_iload_n (pc := 230) hc dX1_edit_230 rfl ?_
    refine zj_aload_n (pc := 231) hc dX1_edit_231 rfl ?_
    refine zg_2_0 (pc := 232) hc lk_X1_9 dX1_edit_232 ?_
    refine zj_iload (pc := 235) hc dX1_edit_235 rfl ?_
    refine zj_iload_n (pc := 237) hc dX1_edit_237 rfl ?_
    refine zj_copy (pc := 238) hc dX1_edit_238 lk_X1_41 na_copy st_copy in_System rfl alen_128 h.1 (Nat.le_of_ble_eq_true rfl) (Nat.le_of_ble_eq_true rfl) (fun M1 hM1 => ?_)
    have h := h.2 M1 hM1
    refine zj_aload_n (pc := 241) hc dX1_edit_241 rfl ?_
    refine zj_iload (pc := 242) hc dX1_edit_242 rfl ?_
    refine zs_2_3 (pc := 244) hc lk_X1_21 dX1_edit_244 (fun M2 hM2 => ?_)
    have h := h M2 hM2
    refine zj_iconst (pc := 247) hc dX1_edit_247 (zin _ rfl) ?_
    exact zj_iret (pc := 248) hc hr hlk dX1_edit_248 (by decide) (by decide) h
  have k206 : ∀ (M : zMem) (r1 : Nat) (v2 : Int) (v3 : Int) (v4 : Int) (v7 : Int) (v8 : Int) (v10 : Int) (s0 : Int), T_X1_edit_206 r1 v2 v3 v4 v7 v8 v10 s0 Qr M → zJ p l e (zRoom 5 132 0 0) s m args below meth c G 13 0 0 (MQ below (zQi G (Qr)) args s 0 0 (zA G)) 206 [some (.inr 191), some (.inr r1), some (.inl v2), some (.inl v3), some (.inl v4), none, none, some (.inl v7), some (.inl v8), none, some (.inl v10), none, none] [.inl s0] M := by
    intro M r1 v2 v3 v4 v7 v8 v10 s0 h
    unfold T_X1_edit_206 at h
    refine zj_istore (pc := 206) hc dX1_edit_206 (by decide) ?_
    refine zj_iload (pc := 208) hc dX1_edit_208 rfl ?_
    refine zj_if_eq (pc := 210) (tgt := 249) hc dX1_edit_210 (by decide) (fun hx3 => ?_) (fun hx3 => ?_)
    · have h := h.1 hx3
      refine zj_aload_n (pc := 249) hc dX1_edit_249 rfl ?_
      refine zj_iload (pc := 250) hc dX1_edit_250 rfl ?_
      refine zj_vti (pc := 252) (st := []) hc ks_X1_spread iv_X1_spread lk_X1_100 (zrv_2 G M) (S_X1_spread l G v4 M _ h) rfl ⟨Nat.le_of_ble_eq_true rfl, Nat.le_of_ble_eq_true rfl⟩ (Nat.le_of_ble_eq_true rfl) ⟨Nat.le_of_ble_eq_true rfl, Nat.le_of_ble_eq_true rfl⟩ dX1_edit_252 rfl (fun y4 M5 h => ?_)
      exact zj_iret (pc := 255) hc hr hlk dX1_edit_255 (by decide) (by decide) h
    · have h := h.2 hx3
      refine zj_iload (pc := 213) hc dX1_edit_213 rfl ?_
      refine zj_aload_n (pc := 215) hc dX1_edit_215 rfl ?_
      refine zj_vti (pc := 216) (st := [.inl v8]) hc ks_X1_full iv_X1_full lk_X1_96 (zrv_2 G M) (S_X1_full l G M _ h) rfl ⟨Nat.le_of_ble_eq_true rfl, Nat.le_of_ble_eq_true rfl⟩ (Nat.le_of_ble_eq_true rfl) ⟨Nat.le_of_ble_eq_true rfl, Nat.le_of_ble_eq_true rfl⟩ dX1_edit_216 rfl (fun y6 M9 h => ?_)
      obtain ⟨hM9, h⟩ := h
      subst hM9
      refine zj_icmp_le (pc := 219) (tgt := 229) hc dX1_edit_219 (by decide) (fun hx7 => ?_) (fun hx7 => ?_)
      · have h := h.1 hx7
        refine zj_mask (bs := [true, true, true, true, false, true, true, false, false, true, true, true, false]) ?_
        exact k229 M r1 v2 v3 v10 h
      · have h := h.2 hx7
        refine zj_iload (pc := 222) hc dX1_edit_222 rfl ?_
        refine zj_iload (pc := 224) hc dX1_edit_224 rfl ?_
        refine zj_icmp_gt (pc := 226) (tgt := 249) hc dX1_edit_226 (by decide) (fun hx8 => ?_) (fun hx8 => ?_)
        · have h := h.1 hx8
          refine zj_aload_n (pc := 249) hc dX1_edit_249 rfl ?_
          refine zj_iload (pc := 250) hc dX1_edit_250 rfl ?_
          refine zj_vti (pc := 252) (st := []) hc ks_X1_spread iv_X1_spread lk_X1_100 (zrv_2 G M) (S_X1_spread l G v4 M _ h) rfl ⟨Nat.le_of_ble_eq_true rfl, Nat.le_of_ble_eq_true rfl⟩ (Nat.le_of_ble_eq_true rfl) ⟨Nat.le_of_ble_eq_true rfl, Nat.le_of_ble_eq_true rfl⟩ dX1_edit_252 rfl (fun y9 M10 h => ?_)
          exact zj_iret (pc := 255) hc hr hlk dX1_edit_255 (by decide) (by decide) h
        · have h := h.2 hx8
          refine zj_mask (bs := [true, true, true, true, false, true, true, false, false, true, true, true, false]) ?_
          exact k229 M r1 v2 v3 v10 h
  have k198 : ∀ (M : zMem) (r1 : Nat) (v2 : Int) (v3 : Int) (v4 : Int) (v7 : Int) (v8 : Int) (v10 : Int) (s0 : Int) (s1 : Int), T_X1_edit_198 r1 v2 v3 v4 v7 v8 v10 s0 s1 Qr M → zJ p l e (zRoom 5 132 0 0) s m args below meth c G 13 0 0 (MQ below (zQi G (Qr)) args s 0 0 (zA G)) 198 [some (.inr 191), some (.inr r1), some (.inl v2), some (.inl v3), some (.inl v4), none, none, some (.inl v7), some (.inl v8), none, some (.inl v10), none, none] [.inl s1, .inl s0] M := by
    intro M r1 v2 v3 v4 v7 v8 v10 s0 s1 h
    unfold T_X1_edit_198 at h
    refine zj_icmp_lt (pc := 198) (tgt := 205) hc dX1_edit_198 (by decide) (fun hx11 => ?_) (fun hx11 => ?_)
    · have h := h.1 hx11
      refine zj_iconst (pc := 205) hc dX1_edit_205 (zin _ rfl) ?_
      exact k206 M r1 v2 v3 v4 v7 v8 v10 0 h
    · have h := h.2 hx11
      refine zj_iconst (pc := 201) hc dX1_edit_201 (zin _ rfl) ?_
      refine zj_goto (pc := 202) (tgt := 206) hc dX1_edit_202 (by decide) ?_
      exact k206 M r1 v2 v3 v4 v7 v8 v10 1 h
  have k156 : ∀ (M : zMem) (r1 : Nat) (v2 : Int) (v3 : Int) (v4 : Int) (v5 : Int) (v7 : Int) (v8 : Int) (v9 : Int), T_X1_edit_156 r1 v2 v3 v4 v5 v7 v8 v9 Qr M → zJ p l e (zRoom 5 132 0 0) s m args below meth c G 13 0 0 (MQ below (zQi G (Qr)) args s 0 0 (zA G)) 156 [some (.inr 191), some (.inr r1), some (.inl v2), some (.inl v3), some (.inl v4), some (.inl v5), none, some (.inl v7), some (.inl v8), some (.inl v9), none, none, none] [] M := by
    intro M r1 v2 v3 v4 v5 v7 v8 v9 h
    unfold T_X1_edit_156 at h
    refine zj_aload_n (pc := 156) hc dX1_edit_156 rfl ?_
    refine zg_2_0 (pc := 157) hc lk_X1_9 dX1_edit_157 ?_
    refine zj_iload (pc := 160) hc dX1_edit_160 rfl ?_
    refine zj_sti (pc := 162) (st := []) hc ks_X4_logEnd st_X4_logEnd lk_X1_93 (S_X4_logEnd l G 128 v5 M _ h) rfl ⟨Nat.le_of_ble_eq_true rfl, Nat.le_of_ble_eq_true rfl⟩ (Nat.le_of_ble_eq_true rfl) ⟨Nat.le_of_ble_eq_true rfl, Nat.le_of_ble_eq_true rfl⟩ dX1_edit_162 rfl (fun y12 M9 h => ?_)
    obtain ⟨hM9, h⟩ := h
    subst hM9
    refine zj_istore (pc := 165) hc dX1_edit_165 (by decide) ?_
    refine zj_iload (pc := 167) hc dX1_edit_167 rfl ?_
    refine zj_iconst (pc := 169) hc dX1_edit_169 (zin _ rfl) ?_
    refine zj_iadd (pc := 170) hc dX1_edit_170 h.1 ?_
    have h := h.2
    refine zj_bipush (pc := 171) hc dX1_edit_171 (by decide) (zin _ rfl) ?_
    refine zj_imul (pc := 173) hc dX1_edit_173 h.1 ?_
    have h := h.2
    refine zj_iload (pc := 174) hc dX1_edit_174 rfl ?_
    refine zj_isub (pc := 176) hc dX1_edit_176 h.1 ?_
    have h := h.2
    refine zj_iload_n (pc := 177) hc dX1_edit_177 rfl ?_
    refine zj_isub (pc := 178) hc dX1_edit_178 h.1 ?_
    have h := h.2
    refine zj_istore (pc := 179) hc dX1_edit_179 (by decide) ?_
    refine zj_iload (pc := 181) hc dX1_edit_181 rfl ?_
    refine zj_iload (pc := 183) hc dX1_edit_183 rfl ?_
    refine zj_if_eq (pc := 185) (tgt := 192) hc dX1_edit_185 (by decide) (fun hx13 => ?_) (fun hx13 => ?_)
    · have h := h.1 hx13
      refine zj_aload_n (pc := 192) hc dX1_edit_192 rfl ?_
      refine zg_2_5 (pc := 193) hc lk_X1_32 dX1_edit_193 ?_
      refine zj_iconst (pc := 196) hc dX1_edit_196 (zin _ rfl) ?_
      refine zj_iald (pc := 197) hc dX1_edit_197 alen_133 h.1 ?_
      have h := h.2
      refine zj_mask (bs := [true, true, true, true, true, false, true, true, true, false, true, false, true]) ?_
      exact k198 M r1 v2 v3 v4 v7 v8 y12 ((((v5 + 1) * 64) - y12) - v3) (M.2 133 0) h
    · have h := h.2 hx13
      refine zj_iconst (pc := 188) hc dX1_edit_188 (zin _ rfl) ?_
      refine zj_goto (pc := 189) (tgt := 198) hc dX1_edit_189 (by decide) ?_
      refine zj_mask (bs := [true, true, true, true, true, false, true, true, true, false, true, false, true]) ?_
      exact k198 M r1 v2 v3 v4 v7 v8 y12 ((((v5 + 1) * 64) - y12) - v3) 0 h
  have k124 : ∀ (M : zMem) (r1 : Nat) (v2 : Int) (v3 : Int) (v4 : Int) (v5 : Int) (v7 : Int) (v8 : Int) (s0 : Int), T_X1_edit_124 r1 v2 v3 v4 v5 v7 v8 s0 Qr M → zJ p l e (zRoom 5 132 0 0) s m args below meth c G 13 0 0 (MQ below (zQi G (Qr)) args s 0 0 (zA G)) 124 [some (.inr 191), some (.inr r1), some (.inl v2), some (.inl v3), some (.inl v4), some (.inl v5), none, some (.inl v7), some (.inl v8), none, none, none, none] [.inl s0] M := by
    intro M r1 v2 v3 v4 v5 v7 v8 s0 h
    unfold T_X1_edit_124 at h
    refine zj_istore (pc := 124) hc dX1_edit_124 (by decide) ?_
    refine zj_iload (pc := 126) hc dX1_edit_126 rfl ?_
    refine zj_if_eq (pc := 128) (tgt := 156) hc dX1_edit_128 (by decide) (fun hx14 => ?_) (fun hx14 => ?_)
    · have h := h.1 hx14
      exact k156 M r1 v2 v3 v4 v5 v7 v8 s0 h
    · have h := h.2 hx14
      refine zj_iload (pc := 131) hc dX1_edit_131 rfl ?_
      refine zj_if_ne (pc := 133) (tgt := 156) hc dX1_edit_133 (by decide) (fun hx15 => ?_) (fun hx15 => ?_)
      · have h := h.1 hx15
        exact k156 M r1 v2 v3 v4 v5 v7 v8 s0 h
      · have h := h.2 hx15
        refine zj_aload_n (pc := 136) hc dX1_edit_136 rfl ?_
        refine zg_2_0 (pc := 137) hc lk_X1_9 dX1_edit_137 ?_
        refine zj_iload (pc := 140) hc dX1_edit_140 rfl ?_
        refine zj_sti (pc := 142) (st := []) hc ks_X4_fenceAt st_X4_fenceAt lk_X1_86 (S_X4_fenceAt l G 128 v4 M _ h) rfl ⟨Nat.le_of_ble_eq_true rfl, Nat.le_of_ble_eq_true rfl⟩ (Nat.le_of_ble_eq_true rfl) ⟨Nat.le_of_ble_eq_true rfl, Nat.le_of_ble_eq_true rfl⟩ dX1_edit_142 rfl (fun y16 M9 h => ?_)
        obtain ⟨hM9, h⟩ := h
        subst hM9
        refine zj_if_eq (pc := 145) (tgt := 156) hc dX1_edit_145 (by decide) (fun hx17 => ?_) (fun hx17 => ?_)
        · have h := h.1 hx17
          exact k156 M r1 v2 v3 v4 v5 v7 v8 s0 h
        · have h := h.2 hx17
          refine zj_aload_n (pc := 148) hc dX1_edit_148 rfl ?_
          refine zj_iload (pc := 149) hc dX1_edit_149 rfl ?_
          refine zj_vtv (pc := 151) (st := []) hc ks_X1_removeFromDirectory iv_X1_removeFromDirectory lk_X1_89 (zrv_2 G M) (S_X1_removeFromDirectory l G v4 M _ h) rfl ⟨Nat.le_of_ble_eq_true rfl, Nat.le_of_ble_eq_true rfl⟩ (Nat.le_of_ble_eq_true rfl) ⟨Nat.le_of_ble_eq_true rfl, Nat.le_of_ble_eq_true rfl⟩ dX1_edit_151 rfl (fun M18 h => ?_)
          refine zj_iconst (pc := 154) hc dX1_edit_154 (zin _ rfl) ?_
          exact zj_iret (pc := 155) hc hr hlk dX1_edit_155 (by decide) (by decide) h
  unfold T_X1_edit at h
  refine zj_aload_n (pc := 0) hc dX1_edit_0 rfl ?_
  refine zj_iload_n (pc := 1) hc dX1_edit_1 rfl ?_
  refine zj_aload_n (pc := 2) hc dX1_edit_2 rfl ?_
  refine zj_alen (pc := 3) hc dX1_edit_3 rfl h.1 ?_
  have h := h.2
  refine zj_sti (pc := 4) (st := []) hc ks_X2_sizeAt st_X2_sizeAt lk_X1_53 (S_X2_sizeAt l G r1 v2 (alen r1) M _ h) rfl ⟨Nat.le_of_ble_eq_true rfl, Nat.le_of_ble_eq_true rfl⟩ (Nat.le_of_ble_eq_true rfl) ⟨Nat.le_of_ble_eq_true rfl, Nat.le_of_ble_eq_true rfl⟩ dX1_edit_4 rfl (fun y19 M9 h => ?_)
  obtain ⟨hM9, h⟩ := h
  subst hM9
  refine zj_istore_n (pc := 7) hc dX1_edit_7 (by decide) ?_
  refine zj_iload_n (pc := 8) hc dX1_edit_8 rfl ?_
  refine zj_if_ne (pc := 9) (tgt := 15) hc dX1_edit_9 (by decide) (fun hx20 => ?_) (fun hx20 => ?_)
  · have h := h.1 hx20
    refine zj_aload_n (pc := 15) hc dX1_edit_15 rfl ?_
    refine zg_2_0 (pc := 16) hc lk_X1_9 dX1_edit_16 ?_
    refine zj_aload_n (pc := 19) hc dX1_edit_19 rfl ?_
    refine zj_iload_n (pc := 20) hc dX1_edit_20 rfl ?_
    refine zj_iconst (pc := 21) hc dX1_edit_21 (zin _ rfl) ?_
    refine zj_iadd (pc := 22) hc dX1_edit_22 h.1 ?_
    have h := h.2
    refine zj_iald (pc := 23) hc dX1_edit_23 rfl h.1 ?_
    have h := h.2
    refine zj_sti (pc := 24) (st := []) hc ks_X4_orderFor st_X4_orderFor lk_X1_59 (S_X4_orderFor l G 128 (M.2 r1 (v2 + 1)) M _ h) rfl ⟨Nat.le_of_ble_eq_true rfl, Nat.le_of_ble_eq_true rfl⟩ (Nat.le_of_ble_eq_true rfl) ⟨Nat.le_of_ble_eq_true rfl, Nat.le_of_ble_eq_true rfl⟩ dX1_edit_24 rfl (fun y21 M9 h => ?_)
    obtain ⟨hM9, h⟩ := h
    subst hM9
    refine zj_istore (pc := 27) hc dX1_edit_27 (by decide) ?_
    refine zj_aload_n (pc := 29) hc dX1_edit_29 rfl ?_
    refine zg_2_0 (pc := 30) hc lk_X1_9 dX1_edit_30 ?_
    refine zj_iload (pc := 33) hc dX1_edit_33 rfl ?_
    refine zj_sti (pc := 35) (st := []) hc ks_X4_pageAt st_X4_pageAt lk_X1_65 (S_X4_pageAt l G 128 y21 M _ h) rfl ⟨Nat.le_of_ble_eq_true rfl, Nat.le_of_ble_eq_true rfl⟩ (Nat.le_of_ble_eq_true rfl) ⟨Nat.le_of_ble_eq_true rfl, Nat.le_of_ble_eq_true rfl⟩ dX1_edit_35 rfl (fun y22 M9 h => ?_)
    obtain ⟨hM9, h⟩ := h
    subst hM9
    refine zj_istore (pc := 38) hc dX1_edit_38 (by decide) ?_
    refine zj_aload_n (pc := 40) hc dX1_edit_40 rfl ?_
    refine zg_2_4 (pc := 41) hc lk_X1_28 dX1_edit_41 ?_
    refine zj_aload_n (pc := 44) hc dX1_edit_44 rfl ?_
    refine zg_2_0 (pc := 45) hc lk_X1_9 dX1_edit_45 ?_
    refine zj_iload (pc := 48) hc dX1_edit_48 rfl ?_
    refine zj_bipush (pc := 50) hc dX1_edit_50 (by decide) (zin _ rfl) ?_
    refine zj_vtv (pc := 52) (st := []) hc ks_X8_loadOnly iv_X8_loadOnly lk_X1_68 (zrv_3 G M) (S_X8_loadOnly l G (Or.inl rfl) 128 y22 64 M _ h) rfl ⟨Nat.le_of_ble_eq_true rfl, Nat.le_of_ble_eq_true rfl⟩ (Nat.le_of_ble_eq_true rfl) ⟨Nat.le_of_ble_eq_true rfl, Nat.le_of_ble_eq_true rfl⟩ dX1_edit_52 rfl (fun M23 h => ?_)
    refine zj_aload_n (pc := 55) hc dX1_edit_55 rfl ?_
    refine zg_2_4 (pc := 56) hc lk_X1_28 dX1_edit_56 ?_
    refine zj_aload_n (pc := 59) hc dX1_edit_59 rfl ?_
    refine zj_iload_n (pc := 60) hc dX1_edit_60 rfl ?_
    refine zj_vti (pc := 61) (st := []) hc ks_X8_refusalOf iv_X8_refusalOf lk_X1_72 (zrv_3 G M23) (S_X8_refusalOf l G (Or.inl rfl) r1 v2 M23 _ h) rfl ⟨Nat.le_of_ble_eq_true rfl, Nat.le_of_ble_eq_true rfl⟩ (Nat.le_of_ble_eq_true rfl) ⟨Nat.le_of_ble_eq_true rfl, Nat.le_of_ble_eq_true rfl⟩ dX1_edit_61 rfl (fun y24 M9 h => ?_)
    obtain ⟨hM9, h⟩ := h
    subst hM9
    refine zj_istore (pc := 64) hc dX1_edit_64 (by decide) ?_
    refine zj_iload (pc := 66) hc dX1_edit_66 rfl ?_
    refine zj_if_eq (pc := 68) (tgt := 74) hc dX1_edit_68 (by decide) (fun hx25 => ?_) (fun hx25 => ?_)
    · have h := h.1 hx25
      refine zj_aload_n (pc := 74) hc dX1_edit_74 rfl ?_
      refine zg_2_4 (pc := 75) hc lk_X1_28 dX1_edit_75 ?_
      refine zj_iconst (pc := 78) hc dX1_edit_78 (zin _ rfl) ?_
      refine zj_sipush (pc := 79) hc dX1_edit_79 (by decide) (zin _ rfl) ?_
      refine zj_vti (pc := 82) (st := []) hc ks_X8_plainSize iv_X8_plainSize lk_X1_75 (zrv_3 G M23) (S_X8_plainSize l G (Or.inl rfl) 0 256 M23 _ h) rfl ⟨Nat.le_of_ble_eq_true rfl, Nat.le_of_ble_eq_true rfl⟩ (Nat.le_of_ble_eq_true rfl) ⟨Nat.le_of_ble_eq_true rfl, Nat.le_of_ble_eq_true rfl⟩ dX1_edit_82 rfl (fun y26 M9 h => ?_)
      obtain ⟨hM9, h⟩ := h
      subst hM9
      refine zj_istore (pc := 85) hc dX1_edit_85 (by decide) ?_
      refine zj_aload_n (pc := 87) hc dX1_edit_87 rfl ?_
      refine zg_2_4 (pc := 88) hc lk_X1_28 dX1_edit_88 ?_
      refine zj_aload_n (pc := 91) hc dX1_edit_91 rfl ?_
      refine zj_iload_n (pc := 92) hc dX1_edit_92 rfl ?_
      refine zj_vtv (pc := 93) (st := []) hc ks_X8_apply iv_X8_apply lk_X1_79 (zrv_3 G M23) (S_X8_apply l G (Or.inl rfl) r1 v2 M23 _ h) rfl ⟨Nat.le_of_ble_eq_true rfl, Nat.le_of_ble_eq_true rfl⟩ (Nat.le_of_ble_eq_true rfl) ⟨Nat.le_of_ble_eq_true rfl, Nat.le_of_ble_eq_true rfl⟩ dX1_edit_93 rfl (fun M27 h => ?_)
      refine zj_aload_n (pc := 96) hc dX1_edit_96 rfl ?_
      refine zg_2_4 (pc := 97) hc lk_X1_28 dX1_edit_97 ?_
      refine zj_iconst (pc := 100) hc dX1_edit_100 (zin _ rfl) ?_
      refine zj_sipush (pc := 101) hc dX1_edit_101 (by decide) (zin _ rfl) ?_
      refine zj_vti (pc := 104) (st := []) hc ks_X8_plainSize iv_X8_plainSize lk_X1_75 (zrv_3 G M27) (S_X8_plainSize l G (Or.inl rfl) 0 256 M27 _ h) rfl ⟨Nat.le_of_ble_eq_true rfl, Nat.le_of_ble_eq_true rfl⟩ (Nat.le_of_ble_eq_true rfl) ⟨Nat.le_of_ble_eq_true rfl, Nat.le_of_ble_eq_true rfl⟩ dX1_edit_104 rfl (fun y28 M9 h => ?_)
      obtain ⟨hM9, h⟩ := h
      subst hM9
      refine zj_istore (pc := 107) hc dX1_edit_107 (by decide) ?_
      refine zj_aload_n (pc := 109) hc dX1_edit_109 rfl ?_
      refine zj_iload_n (pc := 110) hc dX1_edit_110 rfl ?_
      refine zj_iald (pc := 111) hc dX1_edit_111 rfl h.1 ?_
      have h := h.2
      refine zj_sti (pc := 112) (st := []) hc ks_X2_kindOf st_X2_kindOf lk_X1_82 (S_X2_kindOf l G (M27.2 r1 v2) M27 _ h) rfl ⟨Nat.le_of_ble_eq_true rfl, Nat.le_of_ble_eq_true rfl⟩ (Nat.le_of_ble_eq_true rfl) ⟨Nat.le_of_ble_eq_true rfl, Nat.le_of_ble_eq_true rfl⟩ dX1_edit_112 rfl (fun y29 M9 h => ?_)
      obtain ⟨hM9, h⟩ := h
      subst hM9
      refine zj_iconst (pc := 115) hc dX1_edit_115 (zin _ rfl) ?_
      refine zj_icmp_ne (pc := 116) (tgt := 123) hc dX1_edit_116 (by decide) (fun hx30 => ?_) (fun hx30 => ?_)
      · have h := h.1 hx30
        refine zj_iconst (pc := 123) hc dX1_edit_123 (zin _ rfl) ?_
        refine zj_mask (bs := [true, true, true, true, true, true, false, true, true, true, true, true, true]) ?_
        exact k124 M27 r1 v2 y19 y21 y22 y26 y28 0 h
      · have h := h.2 hx30
        refine zj_iconst (pc := 119) hc dX1_edit_119 (zin _ rfl) ?_
        refine zj_goto (pc := 120) (tgt := 124) hc dX1_edit_120 (by decide) ?_
        refine zj_mask (bs := [true, true, true, true, true, true, false, true, true, true, true, true, true]) ?_
        exact k124 M27 r1 v2 y19 y21 y22 y26 y28 1 h
    · have h := h.2 hx25
      refine zj_iload (pc := 71) hc dX1_edit_71 rfl ?_
      exact zj_iret (pc := 73) hc hr hlk dX1_edit_73 (by decide) (by decide) h
  · have h := h.2 hx20
    refine zj_bipush (pc := 12) hc dX1_edit_12 (by decide) (zin _ rfl) ?_
    exact zj_iret (pc := 14) hc hr hlk dX1_edit_14 (by decide) (by decide) h
