set_option maxHeartbeats 4000000 in
set_option maxRecDepth 100000 in
theorem S_J7_rangeCheck_23922 (l : Launch) (G : zG) (v0 : Int) (v1 : Int) (v2 : Int) (M : zMem) (Qr : zMem → Prop) (h : T_J7_rangeCheck_23922 v0 v1 v2 Qr M) : zMetV l yJ7_rangeCheck_23922 cJ7_rangeCheck_23922 3 none 0 0 0 0 G [.inl v0, .inl v1, .inl v2] M Qr := by
  refine zmetV (by decide) (Nat.le_of_ble_eq_true rfl) [some (.inl v0), some (.inl v1), some (.inl v2)] rfl ?_
  intro p e s m args below meth c hc hr hlk
  unfold T_J7_rangeCheck_23922 at h
  refine zj_iload_n (pc := 0) hc dJ7_rangeCheck_23922_0 rfl ?_
  refine zj_iload_n (pc := 1) hc dJ7_rangeCheck_23922_1 rfl ?_
  refine zj_icmp_le (pc := 2) (tgt := 46) hc dJ7_rangeCheck_23922_2 (by decide) (fun hx1 => ?_) (fun hx1 => ?_)
  · have h := h.1 hx1
    refine zj_iload_n (pc := 46) hc dJ7_rangeCheck_23922_46 rfl ?_
    refine zj_if_ge (pc := 47) (tgt := 59) hc dJ7_rangeCheck_23922_47 (by decide) (fun hx2 => ?_) (fun hx2 => ?_)
    · have h := h.1 hx2
      refine zj_iload_n (pc := 59) hc dJ7_rangeCheck_23922_59 rfl ?_
      refine zj_iload_n (pc := 60) hc dJ7_rangeCheck_23922_60 rfl ?_
      refine zj_icmp_le (pc := 61) (tgt := 73) hc dJ7_rangeCheck_23922_61 (by decide) (fun hx3 => ?_) (fun hx3 => ?_)
      · have h := h.1 hx3
        exact zj_vret (pc := 73) hc hr hlk dJ7_rangeCheck_23922_73 (by decide) (by decide) h
      · have h := h.2 hx3
        exact h.elim
    · have h := h.2 hx2
      exact h.elim
  · have h := h.2 hx1
    exact h.elim
set_option maxHeartbeats 4000000 in
set_option maxRecDepth 100000 in
theorem S_J7_fill_53178 (l : Launch) (G : zG) (r0 : Nat) (v1 : Int) (M : zMem) (Qr : zMem → Prop) (h : T_J7_fill_53178 r0 v1 Qr M) : zMetV l yJ7_fill_53178 cJ7_fill_53178 4 none 0 0 0 0 G [.inr r0, .inl v1] M Qr := by
  refine zmetV (by decide) (Nat.le_of_ble_eq_true rfl) [some (.inr r0), some (.inl v1), none, none] rfl ?_
  intro p e s m args below meth c hc hr hlk
  have k5 : ∀ (M : zMem) (r0 : Nat) (v1 : Int) (v3 : Int) (v2 : Int), T_J7_fill_53178_5 r0 v1 v3 Qr v2 M → zJ p l e (zRoom 0 0 0 0) s m args below meth c G 4 0 0 (MQ below (zQv G (Qr)) args s 0 0 (zA G)) 5 [some (.inr r0), some (.inl v1), some (.inl v2), some (.inl v3)] [] M := by
    intro M r0 v1 v3 v2 h
    unfold T_J7_fill_53178_5 at h
    refine zl1_use h (fun v2 M => zJ p l e (zRoom 0 0 0 0) s m args below meth c G 4 0 0 (MQ below (zQv G (Qr)) args s 0 0 (zA G)) 5 [some (.inr r0), some (.inl v1), some (.inl v2), some (.inl v3)] [] M) (fun X5 hX5 v2 M h => ?_)
    refine zj_iload_n (pc := 5) hc dJ7_fill_53178_5 rfl ?_
    refine zj_iload_n (pc := 6) hc dJ7_fill_53178_6 rfl ?_
    refine zj_icmp_ge (pc := 7) (tgt := 20) hc dJ7_fill_53178_7 (by decide) (fun hx1 => ?_) (fun hx1 => ?_)
    · have h := h.1 hx1
      exact zj_vret (pc := 20) hc hr hlk dJ7_fill_53178_20 (by decide) (by decide) h
    · have h := h.2 hx1
      refine zj_aload_n (pc := 10) hc dJ7_fill_53178_10 rfl ?_
      refine zj_iload_n (pc := 11) hc dJ7_fill_53178_11 rfl ?_
      refine zj_iload_n (pc := 12) hc dJ7_fill_53178_12 rfl ?_
      refine zj_iast (pc := 13) hc dJ7_fill_53178_13 rfl h.1 (fun M2 hM2 => ?_)
      have h := h.2 M2 hM2
      refine zj_iinc (pc := 14) hc dJ7_fill_53178_14 rfl (by decide) h.1 ?_
      have h := h.2
      refine zj_goto (pc := 17) (tgt := 5) hc dJ7_fill_53178_17 (by decide) ?_
      exact hX5 (v2 + 1) M2 h
  unfold T_J7_fill_53178 at h
  refine zj_iconst (pc := 0) hc dJ7_fill_53178_0 (zin _ rfl) ?_
  refine zj_istore_n (pc := 1) hc dJ7_fill_53178_1 (by decide) ?_
  refine zj_aload_n (pc := 2) hc dJ7_fill_53178_2 rfl ?_
  refine zj_alen (pc := 3) hc dJ7_fill_53178_3 rfl h.1 ?_
  have h := h.2
  refine zj_istore_n (pc := 4) hc dJ7_fill_53178_4 (by decide) ?_
  exact k5 M r0 v1 (alen r0) 0 h
set_option maxHeartbeats 4000000 in
set_option maxRecDepth 100000 in
theorem S_J7_fill_fda19 (l : Launch) (G : zG) (r0 : Nat) (v1 : Int) (v2 : Int) (v3 : Int) (M : zMem) (Qr : zMem → Prop) (h : T_J7_fill_fda19 r0 v1 v2 v3 Qr M) : zMetV l yJ7_fill_fda19 cJ7_fill_fda19 5 none 1 22 0 0 G [.inr r0, .inl v1, .inl v2, .inl v3] M Qr := by
  refine zmetV (by decide) (Nat.le_of_ble_eq_true rfl) [some (.inr r0), some (.inl v1), some (.inl v2), some (.inl v3), none] rfl ?_
  intro p e s m args below meth c hc hr hlk
  have k10 : ∀ (M : zMem) (r0 : Nat) (v2 : Int) (v3 : Int) (v4 : Int), T_J7_fill_fda19_10 r0 v2 v3 Qr v4 M → zJ p l e (zRoom 1 22 0 0) s m args below meth c G 5 0 0 (MQ below (zQv G (Qr)) args s 0 0 (zA G)) 10 [some (.inr r0), none, some (.inl v2), some (.inl v3), some (.inl v4)] [] M := by
    intro M r0 v2 v3 v4 h
    unfold T_J7_fill_fda19_10 at h
    refine zl1_use h (fun v4 M => zJ p l e (zRoom 1 22 0 0) s m args below meth c G 5 0 0 (MQ below (zQv G (Qr)) args s 0 0 (zA G)) 10 [some (.inr r0), none, some (.inl v2), some (.inl v3), some (.inl v4)] [] M) (fun X10 hX10 v4 M h => ?_)
    refine zj_iload (pc := 10) hc dJ7_fill_fda19_10 rfl ?_
    refine zj_iload_n (pc := 12) hc dJ7_fill_fda19_12 rfl ?_
    refine zj_icmp_ge (pc := 13) (tgt := 27) hc dJ7_fill_fda19_13 (by decide) (fun hx1 => ?_) (fun hx1 => ?_)
    · have h := h.1 hx1
      exact zj_vret (pc := 27) hc hr hlk dJ7_fill_fda19_27 (by decide) (by decide) h
    · have h := h.2 hx1
      refine zj_aload_n (pc := 16) hc dJ7_fill_fda19_16 rfl ?_
      refine zj_iload (pc := 17) hc dJ7_fill_fda19_17 rfl ?_
      refine zj_iload_n (pc := 19) hc dJ7_fill_fda19_19 rfl ?_
      refine zj_iast (pc := 20) hc dJ7_fill_fda19_20 rfl h.1 (fun M2 hM2 => ?_)
      have h := h.2 M2 hM2
      refine zj_iinc (pc := 21) hc dJ7_fill_fda19_21 rfl (by decide) h.1 ?_
      have h := h.2
      refine zj_goto (pc := 24) (tgt := 10) hc dJ7_fill_fda19_24 (by decide) ?_
      exact hX10 (v4 + 1) M2 h
  unfold T_J7_fill_fda19 at h
  refine zj_aload_n (pc := 0) hc dJ7_fill_fda19_0 rfl ?_
  refine zj_alen (pc := 1) hc dJ7_fill_fda19_1 rfl h.1 ?_
  have h := h.2
  refine zj_iload_n (pc := 2) hc dJ7_fill_fda19_2 rfl ?_
  refine zj_iload_n (pc := 3) hc dJ7_fill_fda19_3 rfl ?_
  refine zj_stv (pc := 4) (st := []) hc ks_J7_rangeCheck_23922 st_J7_rangeCheck_23922 lk_J7_13 (S_J7_rangeCheck_23922 l G (alen r0) v1 v2 M _ h) rfl ⟨Nat.le_of_ble_eq_true rfl, Nat.le_of_ble_eq_true rfl⟩ (Nat.le_of_ble_eq_true rfl) ⟨Nat.le_of_ble_eq_true rfl, Nat.le_of_ble_eq_true rfl⟩ dJ7_fill_fda19_4 rfl (fun M3 h => ?_)
  refine zj_iload_n (pc := 7) hc dJ7_fill_fda19_7 rfl ?_
  refine zj_istore (pc := 8) hc dJ7_fill_fda19_8 (by decide) ?_
  refine zj_mask (bs := [true, false, true, true, true]) ?_
  exact k10 M3 r0 v2 v3 v1 h
set_option maxHeartbeats 4000000 in
set_option maxRecDepth 100000 in
theorem S_X2_kindOf (l : Launch) (G : zG) (v0 : Int) (M : zMem) (Qr : Int → Prop) (h : T_X2_kindOf v0 Qr M) : zMetI l yX2_kindOf cX2_kindOf 1 (some .int) 0 0 0 0 G [.inl v0] M (fun r9 M9 => M = M9 ∧ Qr r9) := by
  refine zmetI (by decide) (Nat.le_of_ble_eq_true rfl) [some (.inl v0)] rfl ?_
  intro p e s m args below meth c hc hr hlk
  unfold T_X2_kindOf at h
  refine zj_iload_n (pc := 0) hc dX2_kindOf_0 rfl ?_
  refine zj_iconst (pc := 1) hc dX2_kindOf_1 (zin _ rfl) ?_
  refine zj_ishr (pc := 2) hc dX2_kindOf_2 ?_
  exact zj_iret (pc := 3) hc hr hlk dX2_kindOf_3 (by decide) (by decide) ⟨rfl, h⟩
set_option maxHeartbeats 4000000 in
set_option maxRecDepth 100000 in
theorem S_X2_numberOf (l : Launch) (G : zG) (v0 : Int) (M : zMem) (Qr : Int → Prop) (h : T_X2_numberOf v0 Qr M) : zMetI l yX2_numberOf cX2_numberOf 1 (some .int) 0 0 0 0 G [.inl v0] M (fun r9 M9 => M = M9 ∧ Qr r9) := by
  refine zmetI (by decide) (Nat.le_of_ble_eq_true rfl) [some (.inl v0)] rfl ?_
  intro p e s m args below meth c hc hr hlk
  unfold T_X2_numberOf at h
  refine zj_iload_n (pc := 0) hc dX2_numberOf_0 rfl ?_
  refine zj_bipush (pc := 1) hc dX2_numberOf_1 (by decide) (zin _ rfl) ?_
  refine zj_iand (pc := 3) hc dX2_numberOf_3 ?_
  exact zj_iret (pc := 4) hc hr hlk dX2_numberOf_4 (by decide) (by decide) ⟨rfl, h⟩
set_option maxHeartbeats 4000000 in
set_option maxRecDepth 100000 in
theorem S_X2_sizeBy (l : Launch) (G : zG) (v0 : Int) (M : zMem) (Qr : Int → Prop) (h : T_X2_sizeBy v0 Qr M) : zMetI l yX2_sizeBy cX2_sizeBy 2 (some .int) 1 20 0 0 G [.inl v0] M (fun r9 M9 => M = M9 ∧ Qr r9) := by
  refine zmetI (by decide) (Nat.le_of_ble_eq_true rfl) [some (.inl v0), none] rfl ?_
  intro p e s m args below meth c hc hr hlk
  unfold T_X2_sizeBy at h
  refine zj_iload_n (pc := 0) hc dX2_sizeBy_0 rfl ?_
  refine zj_sti (pc := 1) (st := []) hc ks_X2_numberOf st_X2_numberOf lk_X2_9 (S_X2_numberOf l G v0 M _ h) rfl ⟨Nat.le_of_ble_eq_true rfl, Nat.le_of_ble_eq_true rfl⟩ (Nat.le_of_ble_eq_true rfl) ⟨Nat.le_of_ble_eq_true rfl, Nat.le_of_ble_eq_true rfl⟩ dX2_sizeBy_1 rfl (fun y1 M9 h => ?_)
  obtain ⟨hM9, h⟩ := h
  subst hM9
  refine zj_istore_n (pc := 4) hc dX2_sizeBy_4 (by decide) ?_
  refine zj_iload_n (pc := 5) hc dX2_sizeBy_5 rfl ?_
  refine zj_sti (pc := 6) (st := []) hc ks_X2_kindOf st_X2_kindOf lk_X2_15 (S_X2_kindOf l G v0 M _ h) rfl ⟨Nat.le_of_ble_eq_true rfl, Nat.le_of_ble_eq_true rfl⟩ (Nat.le_of_ble_eq_true rfl) ⟨Nat.le_of_ble_eq_true rfl, Nat.le_of_ble_eq_true rfl⟩ dX2_sizeBy_6 rfl (fun y2 M9 h => ?_)
  obtain ⟨hM9, h⟩ := h
  subst hM9
  by_cases hx3 : y2 < 1 ∨ 4 < y2
  · have h := h.2.2.2.2 hx3
    refine zj_tableOut (pc := 9) (tgt := 95) hc dX2_sizeBy_9 hx3 (by decide) ?_
    refine zj_iconst (pc := 95) hc dX2_sizeBy_95 (zin _ rfl) ?_
    exact zj_iret (pc := 96) hc hr hlk dX2_sizeBy_96 (by decide) (by decide) ⟨rfl, h⟩
  · have hx3 : y2 = 1 ∨ y2 = 2 ∨ y2 = 3 ∨ y2 = 4 := by omega
    rcases hx3 with hx3 | hx3 | hx3 | hx3
    · have h := h.1 hx3
      refine zj_tableIn (pc := 9) (tgt := 40) (off := 31) hc dX2_sizeBy_9 (by rw [hx3]; decide) (by rw [hx3]; rfl) (by decide) ?_
      refine zj_iload_n (pc := 40) hc dX2_sizeBy_40 rfl ?_
      refine zj_bipush (pc := 41) hc dX2_sizeBy_41 (by decide) (zin _ rfl) ?_
      refine zj_icmp_gt (pc := 43) (tgt := 52) hc dX2_sizeBy_43 (by decide) (fun hx4 => ?_) (fun hx4 => ?_)
      · have h := h.1 hx4
        refine zj_iconst (pc := 52) hc dX2_sizeBy_52 (zin _ rfl) ?_
        exact zj_iret (pc := 53) hc hr hlk dX2_sizeBy_53 (by decide) (by decide) ⟨rfl, h⟩
      · have h := h.2 hx4
        refine zj_iconst (pc := 46) hc dX2_sizeBy_46 (zin _ rfl) ?_
        refine zj_iload_n (pc := 47) hc dX2_sizeBy_47 rfl ?_
        refine zj_iadd (pc := 48) hc dX2_sizeBy_48 h.1 ?_
        have h := h.2
        refine zj_goto (pc := 49) (tgt := 53) hc dX2_sizeBy_49 (by decide) ?_
        exact zj_iret (pc := 53) hc hr hlk dX2_sizeBy_53 (by decide) (by decide) ⟨rfl, h⟩
    · have h := h.2.1 hx3
      refine zj_tableIn (pc := 9) (tgt := 54) (off := 45) hc dX2_sizeBy_9 (by rw [hx3]; decide) (by rw [hx3]; rfl) (by decide) ?_
      refine zj_iload_n (pc := 54) hc dX2_sizeBy_54 rfl ?_
      refine zj_if_ne (pc := 55) (tgt := 62) hc dX2_sizeBy_55 (by decide) (fun hx5 => ?_) (fun hx5 => ?_)
      · have h := h.1 hx5
        refine zj_iconst (pc := 62) hc dX2_sizeBy_62 (zin _ rfl) ?_
        exact zj_iret (pc := 63) hc hr hlk dX2_sizeBy_63 (by decide) (by decide) ⟨rfl, h⟩
      · have h := h.2 hx5
        refine zj_iconst (pc := 58) hc dX2_sizeBy_58 (zin _ rfl) ?_
        refine zj_goto (pc := 59) (tgt := 63) hc dX2_sizeBy_59 (by decide) ?_
        exact zj_iret (pc := 63) hc hr hlk dX2_sizeBy_63 (by decide) (by decide) ⟨rfl, h⟩
    · have h := h.2.2.1 hx3
      refine zj_tableIn (pc := 9) (tgt := 64) (off := 55) hc dX2_sizeBy_9 (by rw [hx3]; decide) (by rw [hx3]; rfl) (by decide) ?_
      refine zj_iload_n (pc := 64) hc dX2_sizeBy_64 rfl ?_
      refine zj_bipush (pc := 65) hc dX2_sizeBy_65 (by decide) (zin _ rfl) ?_
      refine zj_icmp_ge (pc := 67) (tgt := 74) hc dX2_sizeBy_67 (by decide) (fun hx6 => ?_) (fun hx6 => ?_)
      · have h := h.1 hx6
        refine zj_iconst (pc := 74) hc dX2_sizeBy_74 (zin _ rfl) ?_
        exact zj_iret (pc := 75) hc hr hlk dX2_sizeBy_75 (by decide) (by decide) ⟨rfl, h⟩
      · have h := h.2 hx6
        refine zj_iconst (pc := 70) hc dX2_sizeBy_70 (zin _ rfl) ?_
        refine zj_goto (pc := 71) (tgt := 75) hc dX2_sizeBy_71 (by decide) ?_
        exact zj_iret (pc := 75) hc hr hlk dX2_sizeBy_75 (by decide) (by decide) ⟨rfl, h⟩
    · have h := h.2.2.2.1 hx3
      refine zj_tableIn (pc := 9) (tgt := 76) (off := 67) hc dX2_sizeBy_9 (by rw [hx3]; decide) (by rw [hx3]; rfl) (by decide) ?_
      refine zj_iload_n (pc := 76) hc dX2_sizeBy_76 rfl ?_
      refine zj_iconst (pc := 77) hc dX2_sizeBy_77 (zin _ rfl) ?_
      refine zj_icmp_lt (pc := 78) (tgt := 93) hc dX2_sizeBy_78 (by decide) (fun hx7 => ?_) (fun hx7 => ?_)
      · have h := h.1 hx7
        refine zj_iconst (pc := 93) hc dX2_sizeBy_93 (zin _ rfl) ?_
        exact zj_iret (pc := 94) hc hr hlk dX2_sizeBy_94 (by decide) (by decide) ⟨rfl, h⟩
      · have h := h.2 hx7
        refine zj_iload_n (pc := 81) hc dX2_sizeBy_81 rfl ?_
        refine zj_bipush (pc := 82) hc dX2_sizeBy_82 (by decide) (zin _ rfl) ?_
        refine zj_icmp_gt (pc := 84) (tgt := 93) hc dX2_sizeBy_84 (by decide) (fun hx8 => ?_) (fun hx8 => ?_)
        · have h := h.1 hx8
          refine zj_iconst (pc := 93) hc dX2_sizeBy_93 (zin _ rfl) ?_
          exact zj_iret (pc := 94) hc hr hlk dX2_sizeBy_94 (by decide) (by decide) ⟨rfl, h⟩
        · have h := h.2 hx8
          refine zj_iconst (pc := 87) hc dX2_sizeBy_87 (zin _ rfl) ?_
          refine zj_iload_n (pc := 88) hc dX2_sizeBy_88 rfl ?_
          refine zj_iadd (pc := 89) hc dX2_sizeBy_89 h.1 ?_
          have h := h.2
          refine zj_goto (pc := 90) (tgt := 94) hc dX2_sizeBy_90 (by decide) ?_
          exact zj_iret (pc := 94) hc hr hlk dX2_sizeBy_94 (by decide) (by decide) ⟨rfl, h⟩
set_option maxHeartbeats 4000000 in
set_option maxRecDepth 100000 in
theorem S_X2_sizeAt (l : Launch) (G : zG) (r0 : Nat) (v1 : Int) (v2 : Int) (M : zMem) (Qr : Int → Prop) (h : T_X2_sizeAt r0 v1 v2 Qr M) : zMetI l yX2_sizeAt cX2_sizeAt 4 (some .int) 2 41 0 0 G [.inr r0, .inl v1, .inl v2] M (fun r9 M9 => M = M9 ∧ Qr r9) := by
  refine zmetI (by decide) (Nat.le_of_ble_eq_true rfl) [some (.inr r0), some (.inl v1), some (.inl v2), none] rfl ?_
  intro p e s m args below meth c hc hr hlk
  unfold T_X2_sizeAt at h
  refine zj_iload_n (pc := 0) hc dX2_sizeAt_0 rfl ?_
  refine zj_if_lt (pc := 1) (tgt := 15) hc dX2_sizeAt_1 (by decide) (fun hx1 => ?_) (fun hx1 => ?_)
  · have h := h.1 hx1
    refine zj_iconst (pc := 15) hc dX2_sizeAt_15 (zin _ rfl) ?_
    exact zj_iret (pc := 16) hc hr hlk dX2_sizeAt_16 (by decide) (by decide) ⟨rfl, h⟩
  · have h := h.2 hx1
    refine zj_iload_n (pc := 4) hc dX2_sizeAt_4 rfl ?_
    refine zj_iload_n (pc := 5) hc dX2_sizeAt_5 rfl ?_
    refine zj_icmp_ge (pc := 6) (tgt := 15) hc dX2_sizeAt_6 (by decide) (fun hx2 => ?_) (fun hx2 => ?_)
    · have h := h.1 hx2
      refine zj_iconst (pc := 15) hc dX2_sizeAt_15 (zin _ rfl) ?_
      exact zj_iret (pc := 16) hc hr hlk dX2_sizeAt_16 (by decide) (by decide) ⟨rfl, h⟩
    · have h := h.2 hx2
      refine zj_iload_n (pc := 9) hc dX2_sizeAt_9 rfl ?_
      refine zj_aload_n (pc := 10) hc dX2_sizeAt_10 rfl ?_
      refine zj_alen (pc := 11) hc dX2_sizeAt_11 rfl h.1 ?_
      have h := h.2
      refine zj_icmp_le (pc := 12) (tgt := 17) hc dX2_sizeAt_12 (by decide) (fun hx3 => ?_) (fun hx3 => ?_)
      · have h := h.1 hx3
        refine zj_aload_n (pc := 17) hc dX2_sizeAt_17 rfl ?_
        refine zj_iload_n (pc := 18) hc dX2_sizeAt_18 rfl ?_
        refine zj_iald (pc := 19) hc dX2_sizeAt_19 rfl h.1 ?_
        have h := h.2
        refine zj_sti (pc := 20) (st := []) hc ks_X2_sizeBy st_X2_sizeBy lk_X2_18 (S_X2_sizeBy l G (M.2 r0 v1) M _ h) rfl ⟨Nat.le_of_ble_eq_true rfl, Nat.le_of_ble_eq_true rfl⟩ (Nat.le_of_ble_eq_true rfl) ⟨Nat.le_of_ble_eq_true rfl, Nat.le_of_ble_eq_true rfl⟩ dX2_sizeAt_20 rfl (fun y4 M9 h => ?_)
        obtain ⟨hM9, h⟩ := h
        subst hM9
        refine zj_istore_n (pc := 23) hc dX2_sizeAt_23 (by decide) ?_
        refine zj_iload_n (pc := 24) hc dX2_sizeAt_24 rfl ?_
        refine zj_iload_n (pc := 25) hc dX2_sizeAt_25 rfl ?_
        refine zj_iadd (pc := 26) hc dX2_sizeAt_26 h.1 ?_
        have h := h.2
        refine zj_iload_n (pc := 27) hc dX2_sizeAt_27 rfl ?_
        refine zj_icmp_gt (pc := 28) (tgt := 35) hc dX2_sizeAt_28 (by decide) (fun hx5 => ?_) (fun hx5 => ?_)
        · have h := h.1 hx5
          refine zj_iconst (pc := 35) hc dX2_sizeAt_35 (zin _ rfl) ?_
          exact zj_iret (pc := 36) hc hr hlk dX2_sizeAt_36 (by decide) (by decide) ⟨rfl, h⟩
        · have h := h.2 hx5
          refine zj_iload_n (pc := 31) hc dX2_sizeAt_31 rfl ?_
          refine zj_goto (pc := 32) (tgt := 36) hc dX2_sizeAt_32 (by decide) ?_
          exact zj_iret (pc := 36) hc hr hlk dX2_sizeAt_36 (by decide) (by decide) ⟨rfl, h⟩
      · have h := h.2 hx3
        refine zj_iconst (pc := 15) hc dX2_sizeAt_15 (zin _ rfl) ?_
        exact zj_iret (pc := 16) hc hr hlk dX2_sizeAt_16 (by decide) (by decide) ⟨rfl, h⟩
set_option maxHeartbeats 4000000 in
set_option maxRecDepth 100000 in
theorem S_X4_inUse (l : Launch) (G : zG) (r0 : Nat) (M : zMem) (Qr : Int → Prop) (h : T_X4_inUse r0 Qr M) : zMetI l yX4_inUse cX4_inUse 2 (some .int) 0 0 0 0 G [.inr r0] M (fun r9 M9 => M = M9 ∧ Qr r9) := by
  refine zmetI (by decide) (Nat.le_of_ble_eq_true rfl) [some (.inr r0), none] rfl ?_
  intro p e s m args below meth c hc hr hlk
  unfold T_X4_inUse at h
  refine zj_aload_n (pc := 0) hc dX4_inUse_0 rfl ?_
  refine zj_sipush (pc := 1) hc dX4_inUse_1 (by decide) (zin _ rfl) ?_
  refine zj_iald (pc := 4) hc dX4_inUse_4 rfl h.1 ?_
  have h := h.2
  refine zj_istore_n (pc := 5) hc dX4_inUse_5 (by decide) ?_
  refine zj_iload_n (pc := 6) hc dX4_inUse_6 rfl ?_
  refine zj_if_lt (pc := 7) (tgt := 20) hc dX4_inUse_7 (by decide) (fun hx1 => ?_) (fun hx1 => ?_)
  · have h := h.1 hx1
    refine zj_iconst (pc := 20) hc dX4_inUse_20 (zin _ rfl) ?_
    exact zj_iret (pc := 21) hc hr hlk dX4_inUse_21 (by decide) (by decide) ⟨rfl, h⟩
  · have h := h.2 hx1
    refine zj_iload_n (pc := 10) hc dX4_inUse_10 rfl ?_
    refine zj_bipush (pc := 11) hc dX4_inUse_11 (by decide) (zin _ rfl) ?_
    refine zj_icmp_gt (pc := 13) (tgt := 20) hc dX4_inUse_13 (by decide) (fun hx2 => ?_) (fun hx2 => ?_)
    · have h := h.1 hx2
      refine zj_iconst (pc := 20) hc dX4_inUse_20 (zin _ rfl) ?_
      exact zj_iret (pc := 21) hc hr hlk dX4_inUse_21 (by decide) (by decide) ⟨rfl, h⟩
    · have h := h.2 hx2
      refine zj_iload_n (pc := 16) hc dX4_inUse_16 rfl ?_
      refine zj_goto (pc := 17) (tgt := 21) hc dX4_inUse_17 (by decide) ?_
      exact zj_iret (pc := 21) hc hr hlk dX4_inUse_21 (by decide) (by decide) ⟨rfl, h⟩
set_option maxHeartbeats 4000000 in
set_option maxRecDepth 100000 in
theorem S_X4_pageAt (l : Launch) (G : zG) (r0 : Nat) (v1 : Int) (M : zMem) (Qr : Int → Prop) (h : T_X4_pageAt r0 v1 Qr M) : zMetI l yX4_pageAt cX4_pageAt 3 (some .int) 0 0 0 0 G [.inr r0, .inl v1] M (fun r9 M9 => M = M9 ∧ Qr r9) := by
  refine zmetI (by decide) (Nat.le_of_ble_eq_true rfl) [some (.inr r0), some (.inl v1), none] rfl ?_
  intro p e s m args below meth c hc hr hlk
  have k23 : ∀ (s0 : Int), T_X4_pageAt_23 s0 Qr M → zJ p l e (zRoom 0 0 0 0) s m args below meth c G 3 0 0 (MQ below (zQi G (fun r9 M9 => M = M9 ∧ Qr r9)) args s 0 0 (zA G)) 23 [none, none, none] [.inl s0] M := by
    intro s0 h
    unfold T_X4_pageAt_23 at h
    refine zj_istore_n (pc := 23) hc dX4_pageAt_23 (by decide) ?_
    refine zj_iload_n (pc := 24) hc dX4_pageAt_24 rfl ?_
    refine zj_if_lt (pc := 25) (tgt := 38) hc dX4_pageAt_25 (by decide) (fun hx1 => ?_) (fun hx1 => ?_)
    · have h := h.1 hx1
      refine zj_iconst (pc := 38) hc dX4_pageAt_38 (zin _ rfl) ?_
      exact zj_iret (pc := 39) hc hr hlk dX4_pageAt_39 (by decide) (by decide) ⟨rfl, h⟩
    · have h := h.2 hx1
      refine zj_iload_n (pc := 28) hc dX4_pageAt_28 rfl ?_
      refine zj_bipush (pc := 29) hc dX4_pageAt_29 (by decide) (zin _ rfl) ?_
      refine zj_icmp_ge (pc := 31) (tgt := 38) hc dX4_pageAt_31 (by decide) (fun hx2 => ?_) (fun hx2 => ?_)
      · have h := h.1 hx2
        refine zj_iconst (pc := 38) hc dX4_pageAt_38 (zin _ rfl) ?_
        exact zj_iret (pc := 39) hc hr hlk dX4_pageAt_39 (by decide) (by decide) ⟨rfl, h⟩
      · have h := h.2 hx2
        refine zj_iload_n (pc := 34) hc dX4_pageAt_34 rfl ?_
        refine zj_goto (pc := 35) (tgt := 39) hc dX4_pageAt_35 (by decide) ?_
        exact zj_iret (pc := 39) hc hr hlk dX4_pageAt_39 (by decide) (by decide) ⟨rfl, h⟩
  have k22 : T_X4_pageAt_22 Qr M → zJ p l e (zRoom 0 0 0 0) s m args below meth c G 3 0 0 (MQ below (zQi G (fun r9 M9 => M = M9 ∧ Qr r9)) args s 0 0 (zA G)) 22 [none, none, none] [] M := by
    intro h
    unfold T_X4_pageAt_22 at h
    refine zj_iconst (pc := 22) hc dX4_pageAt_22 (zin _ rfl) ?_
    exact k23 0 h
  unfold T_X4_pageAt at h
  refine zj_iload_n (pc := 0) hc dX4_pageAt_0 rfl ?_
  refine zj_if_lt (pc := 1) (tgt := 22) hc dX4_pageAt_1 (by decide) (fun hx3 => ?_) (fun hx3 => ?_)
  · have h := h.1 hx3
    refine zj_mask (bs := [false, false, true]) ?_
    exact k22 h
  · have h := h.2 hx3
    refine zj_iload_n (pc := 4) hc dX4_pageAt_4 rfl ?_
    refine zj_bipush (pc := 5) hc dX4_pageAt_5 (by decide) (zin _ rfl) ?_
    refine zj_icmp_ge (pc := 7) (tgt := 22) hc dX4_pageAt_7 (by decide) (fun hx4 => ?_) (fun hx4 => ?_)
    · have h := h.1 hx4
      refine zj_mask (bs := [false, false, true]) ?_
      exact k22 h
    · have h := h.2 hx4
      refine zj_aload_n (pc := 10) hc dX4_pageAt_10 rfl ?_
      refine zj_sipush (pc := 11) hc dX4_pageAt_11 (by decide) (zin _ rfl) ?_
      refine zj_iconst (pc := 14) hc dX4_pageAt_14 (zin _ rfl) ?_
      refine zj_iload_n (pc := 15) hc dX4_pageAt_15 rfl ?_
      refine zj_imul (pc := 16) hc dX4_pageAt_16 h.1 ?_
      have h := h.2
      refine zj_iadd (pc := 17) hc dX4_pageAt_17 h.1 ?_
      have h := h.2
      refine zj_iald (pc := 18) hc dX4_pageAt_18 rfl h.1 ?_
      have h := h.2
      refine zj_goto (pc := 19) (tgt := 23) hc dX4_pageAt_19 (by decide) ?_
      refine zj_mask (bs := [false, false, true]) ?_
      exact k23 (M.2 r0 (641 + (2 * v1))) h
set_option maxHeartbeats 4000000 in
set_option maxRecDepth 100000 in
theorem S_X4_fenceAt (l : Launch) (G : zG) (r0 : Nat) (v1 : Int) (M : zMem) (Qr : Int → Prop) (h : T_X4_fenceAt r0 v1 Qr M) : zMetI l yX4_fenceAt cX4_fenceAt 2 (some .int) 0 0 0 0 G [.inr r0, .inl v1] M (fun r9 M9 => M = M9 ∧ Qr r9) := by
  refine zmetI (by decide) (Nat.le_of_ble_eq_true rfl) [some (.inr r0), some (.inl v1)] rfl ?_
  intro p e s m args below meth c hc hr hlk
  unfold T_X4_fenceAt at h
  refine zj_iload_n (pc := 0) hc dX4_fenceAt_0 rfl ?_
  refine zj_if_lt (pc := 1) (tgt := 22) hc dX4_fenceAt_1 (by decide) (fun hx1 => ?_) (fun hx1 => ?_)
  · have h := h.1 hx1
    refine zj_iconst (pc := 22) hc dX4_fenceAt_22 (zin _ rfl) ?_
    exact zj_iret (pc := 23) hc hr hlk dX4_fenceAt_23 (by decide) (by decide) ⟨rfl, h⟩
  · have h := h.2 hx1
    refine zj_iload_n (pc := 4) hc dX4_fenceAt_4 rfl ?_
    refine zj_bipush (pc := 5) hc dX4_fenceAt_5 (by decide) (zin _ rfl) ?_
    refine zj_icmp_ge (pc := 7) (tgt := 22) hc dX4_fenceAt_7 (by decide) (fun hx2 => ?_) (fun hx2 => ?_)
    · have h := h.1 hx2
      refine zj_iconst (pc := 22) hc dX4_fenceAt_22 (zin _ rfl) ?_
      exact zj_iret (pc := 23) hc hr hlk dX4_fenceAt_23 (by decide) (by decide) ⟨rfl, h⟩
    · have h := h.2 hx2
      refine zj_aload_n (pc := 10) hc dX4_fenceAt_10 rfl ?_
      refine zj_sipush (pc := 11) hc dX4_fenceAt_11 (by decide) (zin _ rfl) ?_
      refine zj_iconst (pc := 14) hc dX4_fenceAt_14 (zin _ rfl) ?_
      refine zj_iload_n (pc := 15) hc dX4_fenceAt_15 rfl ?_
      refine zj_imul (pc := 16) hc dX4_fenceAt_16 h.1 ?_
      have h := h.2
      refine zj_iadd (pc := 17) hc dX4_fenceAt_17 h.1 ?_
      have h := h.2
      refine zj_iald (pc := 18) hc dX4_fenceAt_18 rfl h.1 ?_
      have h := h.2
      refine zj_goto (pc := 19) (tgt := 23) hc dX4_fenceAt_19 (by decide) ?_
      exact zj_iret (pc := 23) hc hr hlk dX4_fenceAt_23 (by decide) (by decide) ⟨rfl, h⟩
set_option maxHeartbeats 4000000 in
set_option maxRecDepth 100000 in
theorem S_X4_orderFor (l : Launch) (G : zG) (r0 : Nat) (v1 : Int) (M : zMem) (Qr : Int → Prop) (h : T_X4_orderFor r0 v1 Qr M) : zMetI l yX4_orderFor cX4_orderFor 5 (some .int) 1 21 0 0 G [.inr r0, .inl v1] M (fun r9 M9 => M = M9 ∧ Qr r9) := by
  refine zmetI (by decide) (Nat.le_of_ble_eq_true rfl) [some (.inr r0), some (.inl v1), none, none, none] rfl ?_
  intro p e s m args below meth c hc hr hlk
  have k29 : ∀ (r0 : Nat) (v1 : Int) (v2 : Int) (v3 : Int) (v4 : Int) (X10 : Int → Int → Prop) (hX10 : ∀ (v2 : Int) (v4 : Int), X10 v2 v4 → zJ p l e (zRoom 1 21 0 0) s m args below meth c G 5 0 0 (MQ below (zQi G (fun r9 M9 => M = M9 ∧ Qr r9)) args s 0 0 (zA G)) 10 [some (.inr r0), some (.inl v1), some (.inl v2), some (.inl v3), some (.inl v4)] [] M), T_X4_orderFor_29 r0 v1 v2 v3 v4 X10 Qr M → zJ p l e (zRoom 1 21 0 0) s m args below meth c G 5 0 0 (MQ below (zQi G (fun r9 M9 => M = M9 ∧ Qr r9)) args s 0 0 (zA G)) 29 [some (.inr r0), some (.inl v1), some (.inl v2), some (.inl v3), some (.inl v4)] [] M := by
    intro r0 v1 v2 v3 v4 X10 hX10 h
    unfold T_X4_orderFor_29 at h
    refine zj_iinc (pc := 29) hc dX4_orderFor_29 rfl (by decide) h.1 ?_
    have h := h.2
    refine zj_goto (pc := 32) (tgt := 10) hc dX4_orderFor_32 (by decide) ?_
    exact hX10 v2 (v4 + 1) h
  have k10 : ∀ (r0 : Nat) (v1 : Int) (v3 : Int) (v2 : Int) (v4 : Int), T_X4_orderFor_10 r0 v1 v3 Qr v2 v4 M → zJ p l e (zRoom 1 21 0 0) s m args below meth c G 5 0 0 (MQ below (zQi G (fun r9 M9 => M = M9 ∧ Qr r9)) args s 0 0 (zA G)) 10 [some (.inr r0), some (.inl v1), some (.inl v2), some (.inl v3), some (.inl v4)] [] M := by
    intro r0 v1 v3 v2 v4 h
    unfold T_X4_orderFor_10 at h
    refine zp2_use h (fun v2 v4 => zJ p l e (zRoom 1 21 0 0) s m args below meth c G 5 0 0 (MQ below (zQi G (fun r9 M9 => M = M9 ∧ Qr r9)) args s 0 0 (zA G)) 10 [some (.inr r0), some (.inl v1), some (.inl v2), some (.inl v3), some (.inl v4)] [] M) (fun X10 hX10 v2 v4 h => ?_)
    refine zj_iload (pc := 10) hc dX4_orderFor_10 rfl ?_
    refine zj_iload_n (pc := 12) hc dX4_orderFor_12 rfl ?_
    refine zj_icmp_ge (pc := 13) (tgt := 35) hc dX4_orderFor_13 (by decide) (fun hx1 => ?_) (fun hx1 => ?_)
    · have h := h.1 hx1
      refine zj_iload_n (pc := 35) hc dX4_orderFor_35 rfl ?_
      exact zj_iret (pc := 36) hc hr hlk dX4_orderFor_36 (by decide) (by decide) ⟨rfl, h⟩
    · have h := h.2 hx1
      refine zj_aload_n (pc := 16) hc dX4_orderFor_16 rfl ?_
      refine zj_iload (pc := 17) hc dX4_orderFor_17 rfl ?_
      refine zj_sti (pc := 19) (st := []) hc ks_X4_fenceAt st_X4_fenceAt lk_X4_15 (S_X4_fenceAt l G r0 v4 M _ h) rfl ⟨Nat.le_of_ble_eq_true rfl, Nat.le_of_ble_eq_true rfl⟩ (Nat.le_of_ble_eq_true rfl) ⟨Nat.le_of_ble_eq_true rfl, Nat.le_of_ble_eq_true rfl⟩ dX4_orderFor_19 rfl (fun y2 M9 h => ?_)
      obtain ⟨hM9, h⟩ := h
      subst hM9
      refine zj_iload_n (pc := 22) hc dX4_orderFor_22 rfl ?_
      refine zj_icmp_gt (pc := 23) (tgt := 29) hc dX4_orderFor_23 (by decide) (fun hx3 => ?_) (fun hx3 => ?_)
      · have h := h.1 hx3
        exact k29 r0 v1 v2 v3 v4 X10 hX10 h
      · have h := h.2 hx3
        refine zj_iload (pc := 26) hc dX4_orderFor_26 rfl ?_
        refine zj_istore_n (pc := 28) hc dX4_orderFor_28 (by decide) ?_
        exact k29 r0 v1 v4 v3 v4 X10 hX10 h
  unfold T_X4_orderFor at h
  refine zj_iconst (pc := 0) hc dX4_orderFor_0 (zin _ rfl) ?_
  refine zj_istore_n (pc := 1) hc dX4_orderFor_1 (by decide) ?_
  refine zj_aload_n (pc := 2) hc dX4_orderFor_2 rfl ?_
  refine zj_sti (pc := 3) (st := []) hc ks_X4_inUse st_X4_inUse lk_X4_9 (S_X4_inUse l G r0 M _ h) rfl ⟨Nat.le_of_ble_eq_true rfl, Nat.le_of_ble_eq_true rfl⟩ (Nat.le_of_ble_eq_true rfl) ⟨Nat.le_of_ble_eq_true rfl, Nat.le_of_ble_eq_true rfl⟩ dX4_orderFor_3 rfl (fun y4 M9 h => ?_)
  obtain ⟨hM9, h⟩ := h
  subst hM9
  refine zj_istore_n (pc := 6) hc dX4_orderFor_6 (by decide) ?_
  refine zj_iconst (pc := 7) hc dX4_orderFor_7 (zin _ rfl) ?_
  refine zj_istore (pc := 8) hc dX4_orderFor_8 (by decide) ?_
  exact k10 r0 v1 y4 0 1 h
set_option maxHeartbeats 4000000 in
set_option maxRecDepth 100000 in
theorem S_X4_isUsed (l : Launch) (G : zG) (r0 : Nat) (v1 : Int) (M : zMem) (Qr : Int → Prop) (h : T_X4_isUsed r0 v1 Qr M) : zMetI l yX4_isUsed cX4_isUsed 4 (some .boolean) 1 22 0 0 G [.inr r0, .inl v1] M (fun r9 M9 => M = M9 ∧ Qr r9) := by
  refine zmetI (by decide) (Nat.le_of_ble_eq_true rfl) [some (.inr r0), some (.inl v1), none, none] rfl ?_
  intro p e s m args below meth c hc hr hlk
  have k7 : ∀ (r0 : Nat) (v1 : Int) (v2 : Int) (v3 : Int), T_X4_isUsed_7 r0 v1 v2 Qr v3 M → zJ p l e (zRoom 1 22 0 0) s m args below meth c G 4 0 0 (MQ below (zQi G (fun r9 M9 => M = M9 ∧ Qr r9)) args s 0 0 (zA G)) 7 [some (.inr r0), some (.inl v1), some (.inl v2), some (.inl v3)] [] M := by
    intro r0 v1 v2 v3 h
    unfold T_X4_isUsed_7 at h
    refine zp1_use h (fun v3 => zJ p l e (zRoom 1 22 0 0) s m args below meth c G 4 0 0 (MQ below (zQi G (fun r9 M9 => M = M9 ∧ Qr r9)) args s 0 0 (zA G)) 7 [some (.inr r0), some (.inl v1), some (.inl v2), some (.inl v3)] [] M) (fun X7 hX7 v3 h => ?_)
    refine zj_iload_n (pc := 7) hc dX4_isUsed_7 rfl ?_
    refine zj_iload_n (pc := 8) hc dX4_isUsed_8 rfl ?_
    refine zj_icmp_ge (pc := 9) (tgt := 29) hc dX4_isUsed_9 (by decide) (fun hx1 => ?_) (fun hx1 => ?_)
    · have h := h.1 hx1
      refine zj_iconst (pc := 29) hc dX4_isUsed_29 (zin _ rfl) ?_
      exact zj_zret (pc := 30) hc hr hlk dX4_isUsed_30 (by decide) (by decide) (Or.inl rfl) ⟨rfl, h⟩
    · have h := h.2 hx1
      refine zj_aload_n (pc := 12) hc dX4_isUsed_12 rfl ?_
      refine zj_iload_n (pc := 13) hc dX4_isUsed_13 rfl ?_
      refine zj_sti (pc := 14) (st := []) hc ks_X4_pageAt st_X4_pageAt lk_X4_19 (S_X4_pageAt l G r0 v3 M _ h) rfl ⟨Nat.le_of_ble_eq_true rfl, Nat.le_of_ble_eq_true rfl⟩ (Nat.le_of_ble_eq_true rfl) ⟨Nat.le_of_ble_eq_true rfl, Nat.le_of_ble_eq_true rfl⟩ dX4_isUsed_14 rfl (fun y2 M9 h => ?_)
      obtain ⟨hM9, h⟩ := h
      subst hM9
      refine zj_iload_n (pc := 17) hc dX4_isUsed_17 rfl ?_
      refine zj_icmp_ne (pc := 18) (tgt := 23) hc dX4_isUsed_18 (by decide) (fun hx3 => ?_) (fun hx3 => ?_)
      · have h := h.1 hx3
        refine zj_iinc (pc := 23) hc dX4_isUsed_23 rfl (by decide) h.1 ?_
        have h := h.2
        refine zj_goto (pc := 26) (tgt := 7) hc dX4_isUsed_26 (by decide) ?_
        exact hX7 (v3 + 1) h
      · have h := h.2 hx3
        refine zj_iconst (pc := 21) hc dX4_isUsed_21 (zin _ rfl) ?_
        exact zj_zret (pc := 22) hc hr hlk dX4_isUsed_22 (by decide) (by decide) (Or.inr rfl) ⟨rfl, h⟩
  unfold T_X4_isUsed at h
  refine zj_aload_n (pc := 0) hc dX4_isUsed_0 rfl ?_
  refine zj_sti (pc := 1) (st := []) hc ks_X4_inUse st_X4_inUse lk_X4_9 (S_X4_inUse l G r0 M _ h) rfl ⟨Nat.le_of_ble_eq_true rfl, Nat.le_of_ble_eq_true rfl⟩ (Nat.le_of_ble_eq_true rfl) ⟨Nat.le_of_ble_eq_true rfl, Nat.le_of_ble_eq_true rfl⟩ dX4_isUsed_1 rfl (fun y4 M9 h => ?_)
  obtain ⟨hM9, h⟩ := h
  subst hM9
  refine zj_istore_n (pc := 4) hc dX4_isUsed_4 (by decide) ?_
  refine zj_iconst (pc := 5) hc dX4_isUsed_5 (zin _ rfl) ?_
  refine zj_istore_n (pc := 6) hc dX4_isUsed_6 (by decide) ?_
  exact k7 r0 v1 y4 0 h
set_option maxHeartbeats 4000000 in
set_option maxRecDepth 100000 in
theorem S_X4_lowestFree (l : Launch) (G : zG) (r0 : Nat) (M : zMem) (Qr : Int → Prop) (h : T_X4_lowestFree r0 Qr M) : zMetI l yX4_lowestFree cX4_lowestFree 2 (some .int) 2 45 0 0 G [.inr r0] M (fun r9 M9 => M = M9 ∧ Qr r9) := by
  refine zmetI (by decide) (Nat.le_of_ble_eq_true rfl) [some (.inr r0), none] rfl ?_
  intro p e s m args below meth c hc hr hlk
  have k2 : ∀ (r0 : Nat) (v1 : Int), T_X4_lowestFree_2 r0 Qr v1 M → zJ p l e (zRoom 2 45 0 0) s m args below meth c G 2 0 0 (MQ below (zQi G (fun r9 M9 => M = M9 ∧ Qr r9)) args s 0 0 (zA G)) 2 [some (.inr r0), some (.inl v1)] [] M := by
    intro r0 v1 h
    unfold T_X4_lowestFree_2 at h
    refine zp1_use h (fun v1 => zJ p l e (zRoom 2 45 0 0) s m args below meth c G 2 0 0 (MQ below (zQi G (fun r9 M9 => M = M9 ∧ Qr r9)) args s 0 0 (zA G)) 2 [some (.inr r0), some (.inl v1)] [] M) (fun X2 hX2 v1 h => ?_)
    refine zj_iload_n (pc := 2) hc dX4_lowestFree_2 rfl ?_
    refine zj_bipush (pc := 3) hc dX4_lowestFree_3 (by decide) (zin _ rfl) ?_
    refine zj_icmp_ge (pc := 5) (tgt := 24) hc dX4_lowestFree_5 (by decide) (fun hx1 => ?_) (fun hx1 => ?_)
    · have h := h.1 hx1
      refine zj_iconst (pc := 24) hc dX4_lowestFree_24 (zin _ rfl) ?_
      exact zj_iret (pc := 25) hc hr hlk dX4_lowestFree_25 (by decide) (by decide) ⟨rfl, h⟩
    · have h := h.2 hx1
      refine zj_aload_n (pc := 8) hc dX4_lowestFree_8 rfl ?_
      refine zj_iload_n (pc := 9) hc dX4_lowestFree_9 rfl ?_
      refine zj_sti (pc := 10) (st := []) hc ks_X4_isUsed st_X4_isUsed lk_X4_22 (S_X4_isUsed l G r0 v1 M _ h) rfl ⟨Nat.le_of_ble_eq_true rfl, Nat.le_of_ble_eq_true rfl⟩ (Nat.le_of_ble_eq_true rfl) ⟨Nat.le_of_ble_eq_true rfl, Nat.le_of_ble_eq_true rfl⟩ dX4_lowestFree_10 rfl (fun y2 M9 h => ?_)
      obtain ⟨hM9, h⟩ := h
      subst hM9
      refine zj_if_ne (pc := 13) (tgt := 18) hc dX4_lowestFree_13 (by decide) (fun hx3 => ?_) (fun hx3 => ?_)
      · have h := h.1 hx3
        refine zj_iinc (pc := 18) hc dX4_lowestFree_18 rfl (by decide) h.1 ?_
        have h := h.2
        refine zj_goto (pc := 21) (tgt := 2) hc dX4_lowestFree_21 (by decide) ?_
        exact hX2 (v1 + 1) h
      · have h := h.2 hx3
        refine zj_iload_n (pc := 16) hc dX4_lowestFree_16 rfl ?_
        exact zj_iret (pc := 17) hc hr hlk dX4_lowestFree_17 (by decide) (by decide) ⟨rfl, h⟩
  unfold T_X4_lowestFree at h
  refine zj_iconst (pc := 0) hc dX4_lowestFree_0 (zin _ rfl) ?_
  refine zj_istore_n (pc := 1) hc dX4_lowestFree_1 (by decide) ?_
  exact k2 r0 0 h
set_option maxHeartbeats 4000000 in
set_option maxRecDepth 100000 in
theorem S_X4_packedSize (l : Launch) (G : zG) (r0 : Nat) (v1 : Int) (M : zMem) (Qr : Int → Prop) (h : T_X4_packedSize r0 v1 Qr M) : zMetI l yX4_packedSize cX4_packedSize 2 (some .int) 1 21 0 0 G [.inr r0, .inl v1] M (fun r9 M9 => M = M9 ∧ Qr r9) := by
  refine zmetI (by decide) (Nat.le_of_ble_eq_true rfl) [some (.inr r0), some (.inl v1)] rfl ?_
  intro p e s m args below meth c hc hr hlk
  unfold T_X4_packedSize at h
  refine zj_iconst (pc := 0) hc dX4_packedSize_0 (zin _ rfl) ?_
  refine zj_bipush (pc := 1) hc dX4_packedSize_1 (by decide) (zin _ rfl) ?_
  refine zj_aload_n (pc := 3) hc dX4_packedSize_3 rfl ?_
  refine zj_iload_n (pc := 4) hc dX4_packedSize_4 rfl ?_
  refine zj_bipush (pc := 5) hc dX4_packedSize_5 (by decide) (zin _ rfl) ?_
  refine zj_imul (pc := 7) hc dX4_packedSize_7 h.1 ?_
  have h := h.2
  refine zj_iconst (pc := 8) hc dX4_packedSize_8 (zin _ rfl) ?_
  refine zj_iadd (pc := 9) hc dX4_packedSize_9 h.1 ?_
  have h := h.2
  refine zj_iald (pc := 10) hc dX4_packedSize_10 rfl h.1 ?_
  have h := h.2
  refine zj_min (pc := 11) hc dX4_packedSize_11 lk_X4_26 st_min in_Math co_min (Nat.le_of_ble_eq_true rfl) (Nat.le_of_ble_eq_true rfl) ⟨Nat.le_of_ble_eq_true rfl, Nat.le_of_ble_eq_true rfl⟩ ?_
  refine zj_max (pc := 14) hc dX4_packedSize_14 lk_X4_32 st_max in_Math co_max (Nat.le_of_ble_eq_true rfl) (Nat.le_of_ble_eq_true rfl) ⟨Nat.le_of_ble_eq_true rfl, Nat.le_of_ble_eq_true rfl⟩ ?_
  exact zj_iret (pc := 17) hc hr hlk dX4_packedSize_17 (by decide) (by decide) ⟨rfl, h⟩
set_option maxHeartbeats 4000000 in
set_option maxRecDepth 100000 in
theorem S_X4_logStart (l : Launch) (G : zG) (r0 : Nat) (v1 : Int) (M : zMem) (Qr : Int → Prop) (h : T_X4_logStart r0 v1 Qr M) : zMetI l yX4_logStart cX4_logStart 2 (some .int) 2 42 0 0 G [.inr r0, .inl v1] M (fun r9 M9 => M = M9 ∧ Qr r9) := by
  refine zmetI (by decide) (Nat.le_of_ble_eq_true rfl) [some (.inr r0), some (.inl v1)] rfl ?_
  intro p e s m args below meth c hc hr hlk
  unfold T_X4_logStart at h
  refine zj_iload_n (pc := 0) hc dX4_logStart_0 rfl ?_
  refine zj_bipush (pc := 1) hc dX4_logStart_1 (by decide) (zin _ rfl) ?_
  refine zj_imul (pc := 3) hc dX4_logStart_3 h.1 ?_
  have h := h.2
  refine zj_iconst (pc := 4) hc dX4_logStart_4 (zin _ rfl) ?_
  refine zj_iadd (pc := 5) hc dX4_logStart_5 h.1 ?_
  have h := h.2
  refine zj_aload_n (pc := 6) hc dX4_logStart_6 rfl ?_
  refine zj_iload_n (pc := 7) hc dX4_logStart_7 rfl ?_
  refine zj_sti (pc := 8) (st := [.inl ((v1 * 64) + 2)]) hc ks_X4_packedSize st_X4_packedSize lk_X4_35 (S_X4_packedSize l G r0 v1 M _ h) rfl ⟨Nat.le_of_ble_eq_true rfl, Nat.le_of_ble_eq_true rfl⟩ (Nat.le_of_ble_eq_true rfl) ⟨Nat.le_of_ble_eq_true rfl, Nat.le_of_ble_eq_true rfl⟩ dX4_logStart_8 rfl (fun y1 M9 h => ?_)
  obtain ⟨hM9, h⟩ := h
  subst hM9
  refine zj_iadd (pc := 11) hc dX4_logStart_11 h.1 ?_
  have h := h.2
  exact zj_iret (pc := 12) hc hr hlk dX4_logStart_12 (by decide) (by decide) ⟨rfl, h⟩
set_option maxHeartbeats 4000000 in
set_option maxRecDepth 100000 in
theorem S_X4_placeBehind (l : Launch) (G : zG) (r0 : Nat) (v1 : Int) (v2 : Int) (M : zMem) (Qr : Int → Prop) (h : T_X4_placeBehind r0 v1 v2 Qr M) : zMetI l yX4_placeBehind cX4_placeBehind 7 (some .int) 3 64 0 0 G [.inr r0, .inl v1, .inl v2] M (fun r9 M9 => M = M9 ∧ Qr r9) := by
  refine zmetI (by decide) (Nat.le_of_ble_eq_true rfl) [some (.inr r0), some (.inl v1), some (.inl v2), none, none, none, none] rfl ?_
  intro p e s m args below meth c hc hr hlk
  have k17 : ∀ (r0 : Nat) (v2 : Int) (v4 : Int) (v3 : Int) (v5 : Int), T_X4_placeBehind_17 r0 v2 v4 Qr v3 v5 M → zJ p l e (zRoom 3 64 0 0) s m args below meth c G 7 0 0 (MQ below (zQi G (fun r9 M9 => M = M9 ∧ Qr r9)) args s 0 0 (zA G)) 17 [some (.inr r0), none, some (.inl v2), some (.inl v3), some (.inl v4), some (.inl v5), none] [] M := by
    intro r0 v2 v4 v3 v5 h
    unfold T_X4_placeBehind_17 at h
    refine zp2_use h (fun v3 v5 => zJ p l e (zRoom 3 64 0 0) s m args below meth c G 7 0 0 (MQ below (zQi G (fun r9 M9 => M = M9 ∧ Qr r9)) args s 0 0 (zA G)) 17 [some (.inr r0), none, some (.inl v2), some (.inl v3), some (.inl v4), some (.inl v5), none] [] M) (fun X17 hX17 v3 v5 h => ?_)
    refine zj_iload (pc := 17) hc dX4_placeBehind_17 rfl ?_
    refine zj_bipush (pc := 19) hc dX4_placeBehind_19 (by decide) (zin _ rfl) ?_
    refine zj_icmp_ge (pc := 21) (tgt := 58) hc dX4_placeBehind_21 (by decide) (fun hx1 => ?_) (fun hx1 => ?_)
    · have h := h.1 hx1
      refine zj_iload_n (pc := 58) hc dX4_placeBehind_58 rfl ?_
      exact zj_iret (pc := 59) hc hr hlk dX4_placeBehind_59 (by decide) (by decide) ⟨rfl, h⟩
    · have h := h.2 hx1
      refine zj_iload (pc := 24) hc dX4_placeBehind_24 rfl ?_
      refine zj_iload_n (pc := 26) hc dX4_placeBehind_26 rfl ?_
      refine zj_icmp_ge (pc := 27) (tgt := 58) hc dX4_placeBehind_27 (by decide) (fun hx2 => ?_) (fun hx2 => ?_)
      · have h := h.1 hx2
        refine zj_iload_n (pc := 58) hc dX4_placeBehind_58 rfl ?_
        exact zj_iret (pc := 59) hc hr hlk dX4_placeBehind_59 (by decide) (by decide) ⟨rfl, h⟩
      · have h := h.2 hx2
        refine zj_aload_n (pc := 30) hc dX4_placeBehind_30 rfl ?_
        refine zj_iload_n (pc := 31) hc dX4_placeBehind_31 rfl ?_
        refine zj_iload (pc := 32) hc dX4_placeBehind_32 rfl ?_
        refine zj_sti (pc := 34) (st := []) hc ks_X2_sizeAt st_X2_sizeAt lk_X4_45 (S_X2_sizeAt l G r0 v3 v4 M _ h) rfl ⟨Nat.le_of_ble_eq_true rfl, Nat.le_of_ble_eq_true rfl⟩ (Nat.le_of_ble_eq_true rfl) ⟨Nat.le_of_ble_eq_true rfl, Nat.le_of_ble_eq_true rfl⟩ dX4_placeBehind_34 rfl (fun y3 M9 h => ?_)
        obtain ⟨hM9, h⟩ := h
        subst hM9
        refine zj_istore (pc := 37) hc dX4_placeBehind_37 (by decide) ?_
        refine zj_iload (pc := 39) hc dX4_placeBehind_39 rfl ?_
        refine zj_if_ne (pc := 41) (tgt := 47) hc dX4_placeBehind_41 (by decide) (fun hx4 => ?_) (fun hx4 => ?_)
        · have h := h.1 hx4
          refine zj_iload_n (pc := 47) hc dX4_placeBehind_47 rfl ?_
          refine zj_iload (pc := 48) hc dX4_placeBehind_48 rfl ?_
          refine zj_iadd (pc := 50) hc dX4_placeBehind_50 h.1 ?_
          have h := h.2
          refine zj_istore_n (pc := 51) hc dX4_placeBehind_51 (by decide) ?_
          refine zj_iinc (pc := 52) hc dX4_placeBehind_52 rfl (by decide) h.1 ?_
          have h := h.2
          refine zj_goto (pc := 55) (tgt := 17) hc dX4_placeBehind_55 (by decide) ?_
          refine zj_mask (bs := [true, true, true, true, true, true, false]) ?_
          exact hX17 (v3 + y3) (v5 + 1) h
        · have h := h.2 hx4
          refine zj_goto (pc := 44) (tgt := 58) hc dX4_placeBehind_44 (by decide) ?_
          refine zj_iload_n (pc := 58) hc dX4_placeBehind_58 rfl ?_
          exact zj_iret (pc := 59) hc hr hlk dX4_placeBehind_59 (by decide) (by decide) ⟨rfl, h⟩
  unfold T_X4_placeBehind at h
  refine zj_aload_n (pc := 0) hc dX4_placeBehind_0 rfl ?_
  refine zj_iload_n (pc := 1) hc dX4_placeBehind_1 rfl ?_
  refine zj_sti (pc := 2) (st := []) hc ks_X4_logStart st_X4_logStart lk_X4_42 (S_X4_logStart l G r0 v1 M _ h) rfl ⟨Nat.le_of_ble_eq_true rfl, Nat.le_of_ble_eq_true rfl⟩ (Nat.le_of_ble_eq_true rfl) ⟨Nat.le_of_ble_eq_true rfl, Nat.le_of_ble_eq_true rfl⟩ dX4_placeBehind_2 rfl (fun y5 M9 h => ?_)
  obtain ⟨hM9, h⟩ := h
  subst hM9
  refine zj_istore_n (pc := 5) hc dX4_placeBehind_5 (by decide) ?_
  refine zj_iload_n (pc := 6) hc dX4_placeBehind_6 rfl ?_
  refine zj_iconst (pc := 7) hc dX4_placeBehind_7 (zin _ rfl) ?_
  refine zj_iadd (pc := 8) hc dX4_placeBehind_8 h.1 ?_
  have h := h.2
  refine zj_bipush (pc := 9) hc dX4_placeBehind_9 (by decide) (zin _ rfl) ?_
  refine zj_imul (pc := 11) hc dX4_placeBehind_11 h.1 ?_
  have h := h.2
  refine zj_istore (pc := 12) hc dX4_placeBehind_12 (by decide) ?_
  refine zj_iconst (pc := 14) hc dX4_placeBehind_14 (zin _ rfl) ?_
  refine zj_istore (pc := 15) hc dX4_placeBehind_15 (by decide) ?_
  refine zj_mask (bs := [true, false, true, true, true, true, true]) ?_
  exact k17 r0 v2 ((v1 + 1) * 64) y5 0 h
set_option maxHeartbeats 4000000 in
set_option maxRecDepth 100000 in
theorem S_X4_logEnd (l : Launch) (G : zG) (r0 : Nat) (v1 : Int) (M : zMem) (Qr : Int → Prop) (h : T_X4_logEnd r0 v1 Qr M) : zMetI l yX4_logEnd cX4_logEnd 2 (some .int) 4 90 0 0 G [.inr r0, .inl v1] M (fun r9 M9 => M = M9 ∧ Qr r9) := by
  refine zmetI (by decide) (Nat.le_of_ble_eq_true rfl) [some (.inr r0), some (.inl v1)] rfl ?_
  intro p e s m args below meth c hc hr hlk
  unfold T_X4_logEnd at h
  refine zj_aload_n (pc := 0) hc dX4_logEnd_0 rfl ?_
  refine zj_iload_n (pc := 1) hc dX4_logEnd_1 rfl ?_
  refine zj_bipush (pc := 2) hc dX4_logEnd_2 (by decide) (zin _ rfl) ?_
  refine zj_sti (pc := 4) (st := []) hc ks_X4_placeBehind st_X4_placeBehind lk_X4_38 (S_X4_placeBehind l G r0 v1 64 M _ h) rfl ⟨Nat.le_of_ble_eq_true rfl, Nat.le_of_ble_eq_true rfl⟩ (Nat.le_of_ble_eq_true rfl) ⟨Nat.le_of_ble_eq_true rfl, Nat.le_of_ble_eq_true rfl⟩ dX4_logEnd_4 rfl (fun y1 M9 h => ?_)
  obtain ⟨hM9, h⟩ := h
  subst hM9
  exact zj_iret (pc := 7) hc hr hlk dX4_logEnd_7 (by decide) (by decide) ⟨rfl, h⟩
set_option maxHeartbeats 4000000 in
set_option maxRecDepth 100000 in
theorem S_X4_entryCount (l : Launch) (G : zG) (r0 : Nat) (v1 : Int) (M : zMem) (Qr : Int → Prop) (h : T_X4_entryCount r0 v1 Qr M) : zMetI l yX4_entryCount cX4_entryCount 5 (some .int) 3 64 0 0 G [.inr r0, .inl v1] M (fun r9 M9 => M = M9 ∧ Qr r9) := by
  refine zmetI (by decide) (Nat.le_of_ble_eq_true rfl) [some (.inr r0), some (.inl v1), none, none, none] rfl ?_
  intro p e s m args below meth c hc hr hlk
  have k16 : ∀ (r0 : Nat) (v3 : Int) (v2 : Int) (v4 : Int), T_X4_entryCount_16 r0 v3 Qr v2 v4 M → zJ p l e (zRoom 3 64 0 0) s m args below meth c G 5 0 0 (MQ below (zQi G (fun r9 M9 => M = M9 ∧ Qr r9)) args s 0 0 (zA G)) 16 [some (.inr r0), none, some (.inl v2), some (.inl v3), some (.inl v4)] [] M := by
    intro r0 v3 v2 v4 h
    unfold T_X4_entryCount_16 at h
    refine zp2_use h (fun v2 v4 => zJ p l e (zRoom 3 64 0 0) s m args below meth c G 5 0 0 (MQ below (zQi G (fun r9 M9 => M = M9 ∧ Qr r9)) args s 0 0 (zA G)) 16 [some (.inr r0), none, some (.inl v2), some (.inl v3), some (.inl v4)] [] M) (fun X16 hX16 v2 v4 h => ?_)
    refine zj_iload (pc := 16) hc dX4_entryCount_16 rfl ?_
    refine zj_bipush (pc := 18) hc dX4_entryCount_18 (by decide) (zin _ rfl) ?_
    refine zj_icmp_ge (pc := 20) (tgt := 47) hc dX4_entryCount_20 (by decide) (fun hx1 => ?_) (fun hx1 => ?_)
    · have h := h.1 hx1
      refine zj_iload (pc := 47) hc dX4_entryCount_47 rfl ?_
      exact zj_iret (pc := 49) hc hr hlk dX4_entryCount_49 (by decide) (by decide) ⟨rfl, h⟩
    · have h := h.2 hx1
      refine zj_aload_n (pc := 23) hc dX4_entryCount_23 rfl ?_
      refine zj_iload_n (pc := 24) hc dX4_entryCount_24 rfl ?_
      refine zj_iload_n (pc := 25) hc dX4_entryCount_25 rfl ?_
      refine zj_sti (pc := 26) (st := []) hc ks_X2_sizeAt st_X2_sizeAt lk_X4_45 (S_X2_sizeAt l G r0 v2 v3 M _ h) rfl ⟨Nat.le_of_ble_eq_true rfl, Nat.le_of_ble_eq_true rfl⟩ (Nat.le_of_ble_eq_true rfl) ⟨Nat.le_of_ble_eq_true rfl, Nat.le_of_ble_eq_true rfl⟩ dX4_entryCount_26 rfl (fun y2 M9 h => ?_)
      obtain ⟨hM9, h⟩ := h
      subst hM9
      refine zj_if_le (pc := 29) (tgt := 47) hc dX4_entryCount_29 (by decide) (fun hx3 => ?_) (fun hx3 => ?_)
      · have h := h.1 hx3
        refine zj_iload (pc := 47) hc dX4_entryCount_47 rfl ?_
        exact zj_iret (pc := 49) hc hr hlk dX4_entryCount_49 (by decide) (by decide) ⟨rfl, h⟩
      · have h := h.2 hx3
        refine zj_iload_n (pc := 32) hc dX4_entryCount_32 rfl ?_
        refine zj_aload_n (pc := 33) hc dX4_entryCount_33 rfl ?_
        refine zj_iload_n (pc := 34) hc dX4_entryCount_34 rfl ?_
        refine zj_iald (pc := 35) hc dX4_entryCount_35 rfl h.1 ?_
        have h := h.2
        refine zj_sti (pc := 36) (st := [.inl v2]) hc ks_X2_sizeBy st_X2_sizeBy lk_X4_50 (S_X2_sizeBy l G (M.2 r0 v2) M _ h) rfl ⟨Nat.le_of_ble_eq_true rfl, Nat.le_of_ble_eq_true rfl⟩ (Nat.le_of_ble_eq_true rfl) ⟨Nat.le_of_ble_eq_true rfl, Nat.le_of_ble_eq_true rfl⟩ dX4_entryCount_36 rfl (fun y4 M9 h => ?_)
        obtain ⟨hM9, h⟩ := h
        subst hM9
        refine zj_iadd (pc := 39) hc dX4_entryCount_39 h.1 ?_
        have h := h.2
        refine zj_istore_n (pc := 40) hc dX4_entryCount_40 (by decide) ?_
        refine zj_iinc (pc := 41) hc dX4_entryCount_41 rfl (by decide) h.1 ?_
        have h := h.2
        refine zj_goto (pc := 44) (tgt := 16) hc dX4_entryCount_44 (by decide) ?_
        exact hX16 (v2 + y4) (v4 + 1) h
  unfold T_X4_entryCount at h
  refine zj_aload_n (pc := 0) hc dX4_entryCount_0 rfl ?_
  refine zj_iload_n (pc := 1) hc dX4_entryCount_1 rfl ?_
  refine zj_sti (pc := 2) (st := []) hc ks_X4_logStart st_X4_logStart lk_X4_42 (S_X4_logStart l G r0 v1 M _ h) rfl ⟨Nat.le_of_ble_eq_true rfl, Nat.le_of_ble_eq_true rfl⟩ (Nat.le_of_ble_eq_true rfl) ⟨Nat.le_of_ble_eq_true rfl, Nat.le_of_ble_eq_true rfl⟩ dX4_entryCount_2 rfl (fun y5 M9 h => ?_)
  obtain ⟨hM9, h⟩ := h
  subst hM9
  refine zj_istore_n (pc := 5) hc dX4_entryCount_5 (by decide) ?_
  refine zj_iload_n (pc := 6) hc dX4_entryCount_6 rfl ?_
  refine zj_iconst (pc := 7) hc dX4_entryCount_7 (zin _ rfl) ?_
  refine zj_iadd (pc := 8) hc dX4_entryCount_8 h.1 ?_
  have h := h.2
  refine zj_bipush (pc := 9) hc dX4_entryCount_9 (by decide) (zin _ rfl) ?_
  refine zj_imul (pc := 11) hc dX4_entryCount_11 h.1 ?_
  have h := h.2
  refine zj_istore_n (pc := 12) hc dX4_entryCount_12 (by decide) ?_
  refine zj_iconst (pc := 13) hc dX4_entryCount_13 (zin _ rfl) ?_
  refine zj_istore (pc := 14) hc dX4_entryCount_14 (by decide) ?_
  refine zj_mask (bs := [true, false, true, true, true]) ?_
  exact k16 r0 ((v1 + 1) * 64) y5 0 h
set_option maxHeartbeats 4000000 in
set_option maxRecDepth 100000 in
theorem S_X3_placeOf (l : Launch) (G : zG) (v1 : Int) (M : zMem) (Qr : Int → Prop) (h : T_X3_placeOf v1 Qr M) : zMetI l yX3_placeOf cX3_placeOf 3 (some .int) 0 0 0 0 G [.inr 511, .inl v1] M (fun r9 M9 => M = M9 ∧ Qr r9) := by
  refine zmetI (by decide) (Nat.le_of_ble_eq_true rfl) [some (.inr 511), some (.inl v1), none] rfl ?_
  intro p e s m args below meth c hc hr hlk
  have k2 : ∀ (v1 : Int) (v2 : Int), T_X3_placeOf_2 v1 Qr v2 M → zJ p l e (zRoom 0 0 0 0) s m args below meth c G 3 0 0 (MQ below (zQi G (fun r9 M9 => M = M9 ∧ Qr r9)) args s 0 0 (zA G)) 2 [some (.inr 511), some (.inl v1), some (.inl v2)] [] M := by
    intro v1 v2 h
    unfold T_X3_placeOf_2 at h
    refine zp1_use h (fun v2 => zJ p l e (zRoom 0 0 0 0) s m args below meth c G 3 0 0 (MQ below (zQi G (fun r9 M9 => M = M9 ∧ Qr r9)) args s 0 0 (zA G)) 2 [some (.inr 511), some (.inl v1), some (.inl v2)] [] M) (fun X2 hX2 v2 h => ?_)
    refine zj_iload_n (pc := 2) hc dX3_placeOf_2 rfl ?_
    refine zj_aload_n (pc := 3) hc dX3_placeOf_3 rfl ?_
    refine zg_7_0 (pc := 4) hc lk_X3_9 dX3_placeOf_4 ?_
    refine zj_icmp_ge (pc := 7) (tgt := 28) hc dX3_placeOf_7 (by decide) (fun hx1 => ?_) (fun hx1 => ?_)
    · have h := h.1 hx1
      refine zj_iconst (pc := 28) hc dX3_placeOf_28 (zin _ rfl) ?_
      exact zj_iret (pc := 29) hc hr hlk dX3_placeOf_29 (by decide) (by decide) ⟨rfl, h⟩
    · have h := h.2 hx1
      refine zj_aload_n (pc := 10) hc dX3_placeOf_10 rfl ?_
      refine zg_7_2 (pc := 11) hc lk_X3_18 dX3_placeOf_11 ?_
      refine zj_iload_n (pc := 14) hc dX3_placeOf_14 rfl ?_
      refine zj_iald (pc := 15) hc dX3_placeOf_15 alen_450 h.1 ?_
      have h := h.2
      refine zj_iload_n (pc := 16) hc dX3_placeOf_16 rfl ?_
      refine zj_icmp_ne (pc := 17) (tgt := 22) hc dX3_placeOf_17 (by decide) (fun hx2 => ?_) (fun hx2 => ?_)
      · have h := h.1 hx2
        refine zj_iinc (pc := 22) hc dX3_placeOf_22 rfl (by decide) h.1 ?_
        have h := h.2
        refine zj_goto (pc := 25) (tgt := 2) hc dX3_placeOf_25 (by decide) ?_
        exact hX2 (v2 + 1) h
      · have h := h.2 hx2
        refine zj_iload_n (pc := 20) hc dX3_placeOf_20 rfl ?_
        exact zj_iret (pc := 21) hc hr hlk dX3_placeOf_21 (by decide) (by decide) ⟨rfl, h⟩
  unfold T_X3_placeOf at h
  refine zj_iconst (pc := 0) hc dX3_placeOf_0 (zin _ rfl) ?_
  refine zj_istore_n (pc := 1) hc dX3_placeOf_1 (by decide) ?_
  exact k2 v1 0 h
set_option maxHeartbeats 4000000 in
set_option maxRecDepth 100000 in
theorem S_X3_holds (l : Launch) (G : zG) (v1 : Int) (M : zMem) (Qr : Int → Prop) (h : T_X3_holds v1 Qr M) : zMetI l yX3_holds cX3_holds 2 (some .boolean) 1 22 0 0 G [.inr 511, .inl v1] M (fun r9 M9 => M = M9 ∧ Qr r9) := by
  refine zmetI (by decide) (Nat.le_of_ble_eq_true rfl) [some (.inr 511), some (.inl v1)] rfl ?_
  intro p e s m args below meth c hc hr hlk
  unfold T_X3_holds at h
  refine zj_aload_n (pc := 0) hc dX3_holds_0 rfl ?_
  refine zj_iload_n (pc := 1) hc dX3_holds_1 rfl ?_
  refine zj_vti (pc := 2) (st := []) hc ks_X3_placeOf iv_X3_placeOf lk_X3_22 (zrv_7 G M) (S_X3_placeOf l G v1 M _ h) rfl ⟨Nat.le_of_ble_eq_true rfl, Nat.le_of_ble_eq_true rfl⟩ (Nat.le_of_ble_eq_true rfl) ⟨Nat.le_of_ble_eq_true rfl, Nat.le_of_ble_eq_true rfl⟩ dX3_holds_2 rfl (fun y1 M9 h => ?_)
  obtain ⟨hM9, h⟩ := h
  subst hM9
  refine zj_iconst (pc := 5) hc dX3_holds_5 (zin _ rfl) ?_
  refine zj_icmp_eq (pc := 6) (tgt := 13) hc dX3_holds_6 (by decide) (fun hx2 => ?_) (fun hx2 => ?_)
  · have h := h.1 hx2
    refine zj_iconst (pc := 13) hc dX3_holds_13 (zin _ rfl) ?_
    exact zj_zret (pc := 14) hc hr hlk dX3_holds_14 (by decide) (by decide) (Or.inl rfl) ⟨rfl, h⟩
  · have h := h.2 hx2
    refine zj_iconst (pc := 9) hc dX3_holds_9 (zin _ rfl) ?_
    refine zj_goto (pc := 10) (tgt := 14) hc dX3_holds_10 (by decide) ?_
    exact zj_zret (pc := 14) hc hr hlk dX3_holds_14 (by decide) (by decide) (Or.inr rfl) ⟨rfl, h⟩
set_option maxHeartbeats 4000000 in
set_option maxRecDepth 100000 in
theorem S_X3_giveUp (l : Launch) (G : zG) (v1 : Int) (M : zMem) (Qr : zMem → Prop) (h : T_X3_giveUp v1 Qr M) : zMetV l yX3_giveUp cX3_giveUp 2 none 1 26 0 0 G [.inr 511, .inl v1] M Qr := by
  refine zmetV (by decide) (Nat.le_of_ble_eq_true rfl) [some (.inr 511), some (.inl v1)] rfl ?_
  intro p e s m args below meth c hc hr hlk
  unfold T_X3_giveUp at h
  refine zj_iload_n (pc := 0) hc dX3_giveUp_0 rfl ?_
  refine zj_if_lt (pc := 1) (tgt := 45) hc dX3_giveUp_1 (by decide) (fun hx1 => ?_) (fun hx1 => ?_)
  · have h := h.1 hx1
    exact zj_vret (pc := 45) hc hr hlk dX3_giveUp_45 (by decide) (by decide) h
  · have h := h.2 hx1
    refine zj_iload_n (pc := 4) hc dX3_giveUp_4 rfl ?_
    refine zj_aload_n (pc := 5) hc dX3_giveUp_5 rfl ?_
    refine zg_7_0 (pc := 6) hc lk_X3_9 dX3_giveUp_6 ?_
    refine zj_icmp_ge (pc := 9) (tgt := 45) hc dX3_giveUp_9 (by decide) (fun hx2 => ?_) (fun hx2 => ?_)
    · have h := h.1 hx2
      exact zj_vret (pc := 45) hc hr hlk dX3_giveUp_45 (by decide) (by decide) h
    · have h := h.2 hx2
      refine zj_aload_n (pc := 12) hc dX3_giveUp_12 rfl ?_
      refine zg_7_2 (pc := 13) hc lk_X3_18 dX3_giveUp_13 ?_
      refine zj_iload_n (pc := 16) hc dX3_giveUp_16 rfl ?_
      refine zj_iconst (pc := 17) hc dX3_giveUp_17 (zin _ rfl) ?_
      refine zj_iadd (pc := 18) hc dX3_giveUp_18 h.1 ?_
      have h := h.2
      refine zj_aload_n (pc := 19) hc dX3_giveUp_19 rfl ?_
      refine zg_7_2 (pc := 20) hc lk_X3_18 dX3_giveUp_20 ?_
      refine zj_iload_n (pc := 23) hc dX3_giveUp_23 rfl ?_
      refine zj_aload_n (pc := 24) hc dX3_giveUp_24 rfl ?_
      refine zg_7_0 (pc := 25) hc lk_X3_9 dX3_giveUp_25 ?_
      refine zj_iconst (pc := 28) hc dX3_giveUp_28 (zin _ rfl) ?_
      refine zj_isub (pc := 29) hc dX3_giveUp_29 h.1 ?_
      have h := h.2
      refine zj_iload_n (pc := 30) hc dX3_giveUp_30 rfl ?_
      refine zj_isub (pc := 31) hc dX3_giveUp_31 h.1 ?_
      have h := h.2
      refine zj_copy (pc := 32) hc dX3_giveUp_32 lk_X3_33 na_copy st_copy in_System alen_450 alen_450 h.1 (Nat.le_of_ble_eq_true rfl) (Nat.le_of_ble_eq_true rfl) (fun M3 hM3 => ?_)
      have h := h.2 M3 hM3
      refine zj_aload_n (pc := 35) hc dX3_giveUp_35 rfl ?_
      refine zj_dup (pc := 36) hc dX3_giveUp_36 ?_
      refine zg_7_0 (pc := 37) hc lk_X3_9 dX3_giveUp_37 ?_
      refine zj_iconst (pc := 40) hc dX3_giveUp_40 (zin _ rfl) ?_
      refine zj_isub (pc := 41) hc dX3_giveUp_41 h.1 ?_
      have h := h.2
      refine zs_7_0 (pc := 42) hc lk_X3_9 dX3_giveUp_42 (fun M4 hM4 => ?_)
      have h := h M4 hM4
      exact zj_vret (pc := 45) hc hr hlk dX3_giveUp_45 (by decide) (by decide) h
set_option maxHeartbeats 4000000 in
set_option maxRecDepth 100000 in
theorem S_X3_shrinkTo (l : Launch) (G : zG) (v1 : Int) (M : zMem) (Qr : zMem → Prop) (h : T_X3_shrinkTo v1 Qr M) : zMetV l yX3_shrinkTo cX3_shrinkTo 3 none 2 47 0 0 G [.inr 511, .inl v1] M Qr := by
  refine zmetV (by decide) (Nat.le_of_ble_eq_true rfl) [some (.inr 511), some (.inl v1), none] rfl ?_
  intro p e s m args below meth c hc hr hlk
  have k2 : ∀ (M : zMem) (v1 : Int) (v2 : Int), T_X3_shrinkTo_2 v1 Qr v2 M → zJ p l e (zRoom 2 47 0 0) s m args below meth c G 3 0 0 (MQ below (zQv G (Qr)) args s 0 0 (zA G)) 2 [some (.inr 511), some (.inl v1), some (.inl v2)] [] M := by
    intro M v1 v2 h
    unfold T_X3_shrinkTo_2 at h
    refine zl1_use h (fun v2 M => zJ p l e (zRoom 2 47 0 0) s m args below meth c G 3 0 0 (MQ below (zQv G (Qr)) args s 0 0 (zA G)) 2 [some (.inr 511), some (.inl v1), some (.inl v2)] [] M) (fun X2 hX2 v2 M h => ?_)
    refine zj_iload_n (pc := 2) hc dX3_shrinkTo_2 rfl ?_
    refine zj_aload_n (pc := 3) hc dX3_shrinkTo_3 rfl ?_
    refine zg_7_2 (pc := 4) hc lk_X3_18 dX3_shrinkTo_4 ?_
    refine zj_alen (pc := 7) hc dX3_shrinkTo_7 alen_450 (by decide) ?_
    refine zj_icmp_ge (pc := 8) (tgt := 30) hc dX3_shrinkTo_8 (by decide) (fun hx1 => ?_) (fun hx1 => ?_)
    · have h := h.1 hx1
      exact zj_vret (pc := 30) hc hr hlk dX3_shrinkTo_30 (by decide) (by decide) h
    · have h := h.2 hx1
      refine zj_aload_n (pc := 11) hc dX3_shrinkTo_11 rfl ?_
      refine zg_7_0 (pc := 12) hc lk_X3_9 dX3_shrinkTo_12 ?_
      refine zj_iload_n (pc := 15) hc dX3_shrinkTo_15 rfl ?_
      refine zj_icmp_le (pc := 16) (tgt := 30) hc dX3_shrinkTo_16 (by decide) (fun hx2 => ?_) (fun hx2 => ?_)
      · have h := h.1 hx2
        exact zj_vret (pc := 30) hc hr hlk dX3_shrinkTo_30 (by decide) (by decide) h
      · have h := h.2 hx2
        refine zj_aload_n (pc := 19) hc dX3_shrinkTo_19 rfl ?_
        refine zj_iconst (pc := 20) hc dX3_shrinkTo_20 (zin _ rfl) ?_
        refine zj_vtv (pc := 21) (st := []) hc ks_X3_giveUp iv_X3_giveUp lk_X3_30 (zrv_7 G M) (S_X3_giveUp l G 0 M _ h) rfl ⟨Nat.le_of_ble_eq_true rfl, Nat.le_of_ble_eq_true rfl⟩ (Nat.le_of_ble_eq_true rfl) ⟨Nat.le_of_ble_eq_true rfl, Nat.le_of_ble_eq_true rfl⟩ dX3_shrinkTo_21 rfl (fun M3 h => ?_)
        refine zj_iinc (pc := 24) hc dX3_shrinkTo_24 rfl (by decide) h.1 ?_
        have h := h.2
        refine zj_goto (pc := 27) (tgt := 2) hc dX3_shrinkTo_27 (by decide) ?_
        exact hX2 (v2 + 1) M3 h
  unfold T_X3_shrinkTo at h
  refine zj_iconst (pc := 0) hc dX3_shrinkTo_0 (zin _ rfl) ?_
  refine zj_istore_n (pc := 1) hc dX3_shrinkTo_1 (by decide) ?_
  exact k2 M v1 0 h
set_option maxHeartbeats 4000000 in
set_option maxRecDepth 100000 in
theorem S_X3_hold (l : Launch) (G : zG) (v1 : Int) (v2 : Int) (M : zMem) (Qr : zMem → Prop) (h : T_X3_hold v1 v2 Qr M) : zMetV l yX3_hold cX3_hold 4 none 3 69 0 0 G [.inr 511, .inl v1, .inl v2] M Qr := by
  refine zmetV (by decide) (Nat.le_of_ble_eq_true rfl) [some (.inr 511), some (.inl v1), some (.inl v2), none] rfl ?_
  intro p e s m args below meth c hc hr hlk
  have k36 : ∀ (M : zMem) (v1 : Int), T_X3_hold_36 v1 Qr M → zJ p l e (zRoom 3 69 0 0) s m args below meth c G 4 0 0 (MQ below (zQv G (Qr)) args s 0 0 (zA G)) 36 [some (.inr 511), some (.inl v1), none, none] [] M := by
    intro M v1 h
    unfold T_X3_hold_36 at h
    refine zj_aload_n (pc := 36) hc dX3_hold_36 rfl ?_
    refine zg_7_0 (pc := 37) hc lk_X3_9 dX3_hold_37 ?_
    refine zj_aload_n (pc := 40) hc dX3_hold_40 rfl ?_
    refine zg_7_2 (pc := 41) hc lk_X3_18 dX3_hold_41 ?_
    refine zj_alen (pc := 44) hc dX3_hold_44 alen_450 (by decide) ?_
    refine zj_icmp_ge (pc := 45) (tgt := 68) hc dX3_hold_45 (by decide) (fun hx1 => ?_) (fun hx1 => ?_)
    · have h := h.1 hx1
      exact zj_vret (pc := 68) hc hr hlk dX3_hold_68 (by decide) (by decide) h
    · have h := h.2 hx1
      refine zj_aload_n (pc := 48) hc dX3_hold_48 rfl ?_
      refine zg_7_2 (pc := 49) hc lk_X3_18 dX3_hold_49 ?_
      refine zj_aload_n (pc := 52) hc dX3_hold_52 rfl ?_
      refine zg_7_0 (pc := 53) hc lk_X3_9 dX3_hold_53 ?_
      refine zj_iload_n (pc := 56) hc dX3_hold_56 rfl ?_
      refine zj_iast (pc := 57) hc dX3_hold_57 alen_450 h.1 (fun M2 hM2 => ?_)
      have h := h.2 M2 hM2
      refine zj_aload_n (pc := 58) hc dX3_hold_58 rfl ?_
      refine zj_dup (pc := 59) hc dX3_hold_59 ?_
      refine zg_7_0 (pc := 60) hc lk_X3_9 dX3_hold_60 ?_
      refine zj_iconst (pc := 63) hc dX3_hold_63 (zin _ rfl) ?_
      refine zj_iadd (pc := 64) hc dX3_hold_64 h.1 ?_
      have h := h.2
      refine zs_7_0 (pc := 65) hc lk_X3_9 dX3_hold_65 (fun M3 hM3 => ?_)
      have h := h M3 hM3
      exact zj_vret (pc := 68) hc hr hlk dX3_hold_68 (by decide) (by decide) h
  unfold T_X3_hold at h
  refine zj_aload_n (pc := 0) hc dX3_hold_0 rfl ?_
  refine zj_iload_n (pc := 1) hc dX3_hold_1 rfl ?_
  refine zj_vti (pc := 2) (st := []) hc ks_X3_placeOf iv_X3_placeOf lk_X3_22 (zrv_7 G M) (S_X3_placeOf l G v1 M _ h) rfl ⟨Nat.le_of_ble_eq_true rfl, Nat.le_of_ble_eq_true rfl⟩ (Nat.le_of_ble_eq_true rfl) ⟨Nat.le_of_ble_eq_true rfl, Nat.le_of_ble_eq_true rfl⟩ dX3_hold_2 rfl (fun y4 M9 h => ?_)
  obtain ⟨hM9, h⟩ := h
  subst hM9
  refine zj_istore_n (pc := 5) hc dX3_hold_5 (by decide) ?_
  refine zj_iload_n (pc := 6) hc dX3_hold_6 rfl ?_
  refine zj_iconst (pc := 7) hc dX3_hold_7 (zin _ rfl) ?_
  refine zj_icmp_ne (pc := 8) (tgt := 31) hc dX3_hold_8 (by decide) (fun hx5 => ?_) (fun hx5 => ?_)
  · have h := h.1 hx5
    refine zj_aload_n (pc := 31) hc dX3_hold_31 rfl ?_
    refine zj_iload_n (pc := 32) hc dX3_hold_32 rfl ?_
    refine zj_vtv (pc := 33) (st := []) hc ks_X3_giveUp iv_X3_giveUp lk_X3_30 (zrv_7 G M) (S_X3_giveUp l G y4 M _ h) rfl ⟨Nat.le_of_ble_eq_true rfl, Nat.le_of_ble_eq_true rfl⟩ (Nat.le_of_ble_eq_true rfl) ⟨Nat.le_of_ble_eq_true rfl, Nat.le_of_ble_eq_true rfl⟩ dX3_hold_33 rfl (fun M6 h => ?_)
    refine zj_mask (bs := [true, true, false, false]) ?_
    exact k36 M6 v1 h
  · have h := h.2 hx5
    refine zj_aload_n (pc := 11) hc dX3_hold_11 rfl ?_
    refine zj_dup (pc := 12) hc dX3_hold_12 ?_
    refine zg_7_1 (pc := 13) hc lk_X3_15 dX3_hold_13 ?_
    refine zj_iconst (pc := 16) hc dX3_hold_16 (zin _ rfl) ?_
    refine zj_iadd (pc := 17) hc dX3_hold_17 h.1 ?_
    have h := h.2
    refine zs_7_1 (pc := 18) hc lk_X3_15 dX3_hold_18 (fun M7 hM7 => ?_)
    have h := h M7 hM7
    refine zj_aload_n (pc := 21) hc dX3_hold_21 rfl ?_
    refine zj_iload_n (pc := 22) hc dX3_hold_22 rfl ?_
    refine zj_iconst (pc := 23) hc dX3_hold_23 (zin _ rfl) ?_
    refine zj_isub (pc := 24) hc dX3_hold_24 h.1 ?_
    have h := h.2
    refine zj_vtv (pc := 25) (st := []) hc ks_X3_shrinkTo iv_X3_shrinkTo lk_X3_26 (zrv_7 G M7) (S_X3_shrinkTo l G (v2 - 1) M7 _ h) rfl ⟨Nat.le_of_ble_eq_true rfl, Nat.le_of_ble_eq_true rfl⟩ (Nat.le_of_ble_eq_true rfl) ⟨Nat.le_of_ble_eq_true rfl, Nat.le_of_ble_eq_true rfl⟩ dX3_hold_25 rfl (fun M8 h => ?_)
    refine zj_goto (pc := 28) (tgt := 36) hc dX3_hold_28 (by decide) ?_
    refine zj_mask (bs := [true, true, false, false]) ?_
    exact k36 M8 v1 h
set_option maxHeartbeats 4000000 in
set_option maxRecDepth 100000 in
theorem S_X3_giveUpFree (l : Launch) (G : zG) (r1 : Nat) (M : zMem) (Qr : zMem → Prop) (h : T_X3_giveUpFree r1 Qr M) : zMetV l yX3_giveUpFree cX3_giveUpFree 3 none 2 47 0 0 G [.inr 511, .inr r1] M Qr := by
  refine zmetV (by decide) (Nat.le_of_ble_eq_true rfl) [some (.inr 511), some (.inr r1), none] rfl ?_
  intro p e s m args below meth c hc hr hlk
  have k29 : ∀ (M : zMem) (r1 : Nat) (v2 : Int) (X7 : Int → zMem → Prop) (hX7 : ∀ (v2 : Int) (M : zMem), X7 v2 M → zJ p l e (zRoom 2 47 0 0) s m args below meth c G 3 0 0 (MQ below (zQv G (Qr)) args s 0 0 (zA G)) 7 [some (.inr 511), some (.inr r1), some (.inl v2)] [] M), T_X3_giveUpFree_29 r1 v2 X7 Qr M → zJ p l e (zRoom 2 47 0 0) s m args below meth c G 3 0 0 (MQ below (zQv G (Qr)) args s 0 0 (zA G)) 29 [some (.inr 511), some (.inr r1), some (.inl v2)] [] M := by
    intro M r1 v2 X7 hX7 h
    unfold T_X3_giveUpFree_29 at h
    refine zj_iinc (pc := 29) hc dX3_giveUpFree_29 rfl (by decide) h.1 ?_
    have h := h.2
    refine zj_goto (pc := 32) (tgt := 7) hc dX3_giveUpFree_32 (by decide) ?_
    exact hX7 (v2 + (-1)) M h
  have k7 : ∀ (M : zMem) (r1 : Nat) (v2 : Int), T_X3_giveUpFree_7 r1 Qr v2 M → zJ p l e (zRoom 2 47 0 0) s m args below meth c G 3 0 0 (MQ below (zQv G (Qr)) args s 0 0 (zA G)) 7 [some (.inr 511), some (.inr r1), some (.inl v2)] [] M := by
    intro M r1 v2 h
    unfold T_X3_giveUpFree_7 at h
    refine zl1_use h (fun v2 M => zJ p l e (zRoom 2 47 0 0) s m args below meth c G 3 0 0 (MQ below (zQv G (Qr)) args s 0 0 (zA G)) 7 [some (.inr 511), some (.inr r1), some (.inl v2)] [] M) (fun X7 hX7 v2 M h => ?_)
    refine zj_iload_n (pc := 7) hc dX3_giveUpFree_7 rfl ?_
    refine zj_if_lt (pc := 8) (tgt := 35) hc dX3_giveUpFree_8 (by decide) (fun hx1 => ?_) (fun hx1 => ?_)
    · have h := h.1 hx1
      exact zj_vret (pc := 35) hc hr hlk dX3_giveUpFree_35 (by decide) (by decide) h
    · have h := h.2 hx1
      refine zj_aload_n (pc := 11) hc dX3_giveUpFree_11 rfl ?_
      refine zj_aload_n (pc := 12) hc dX3_giveUpFree_12 rfl ?_
      refine zg_7_2 (pc := 13) hc lk_X3_18 dX3_giveUpFree_13 ?_
      refine zj_iload_n (pc := 16) hc dX3_giveUpFree_16 rfl ?_
      refine zj_iald (pc := 17) hc dX3_giveUpFree_17 alen_450 h.1 ?_
      have h := h.2
      refine zj_sti (pc := 18) (st := []) hc ks_X4_isUsed st_X4_isUsed lk_X3_39 (S_X4_isUsed l G r1 (M.2 450 v2) M _ h) rfl ⟨Nat.le_of_ble_eq_true rfl, Nat.le_of_ble_eq_true rfl⟩ (Nat.le_of_ble_eq_true rfl) ⟨Nat.le_of_ble_eq_true rfl, Nat.le_of_ble_eq_true rfl⟩ dX3_giveUpFree_18 rfl (fun y2 M9 h => ?_)
      obtain ⟨hM9, h⟩ := h
      subst hM9
      refine zj_if_ne (pc := 21) (tgt := 29) hc dX3_giveUpFree_21 (by decide) (fun hx3 => ?_) (fun hx3 => ?_)
      · have h := h.1 hx3
        exact k29 M r1 v2 X7 hX7 h
      · have h := h.2 hx3
        refine zj_aload_n (pc := 24) hc dX3_giveUpFree_24 rfl ?_
        refine zj_iload_n (pc := 25) hc dX3_giveUpFree_25 rfl ?_
        refine zj_vtv (pc := 26) (st := []) hc ks_X3_giveUp iv_X3_giveUp lk_X3_30 (zrv_7 G M) (S_X3_giveUp l G v2 M _ h) rfl ⟨Nat.le_of_ble_eq_true rfl, Nat.le_of_ble_eq_true rfl⟩ (Nat.le_of_ble_eq_true rfl) ⟨Nat.le_of_ble_eq_true rfl, Nat.le_of_ble_eq_true rfl⟩ dX3_giveUpFree_26 rfl (fun M4 h => ?_)
        exact k29 M4 r1 v2 X7 hX7 h
  unfold T_X3_giveUpFree at h
  refine zj_aload_n (pc := 0) hc dX3_giveUpFree_0 rfl ?_
  refine zg_7_0 (pc := 1) hc lk_X3_9 dX3_giveUpFree_1 ?_
  refine zj_iconst (pc := 4) hc dX3_giveUpFree_4 (zin _ rfl) ?_
  refine zj_isub (pc := 5) hc dX3_giveUpFree_5 h.1 ?_
  have h := h.2
  refine zj_istore_n (pc := 6) hc dX3_giveUpFree_6 (by decide) ?_
  exact k7 M r1 ((M.1 448) - 1) h
set_option maxHeartbeats 4000000 in
set_option maxRecDepth 100000 in
theorem S_X3_giveUpAll (l : Launch) (G : zG) (M : zMem) (Qr : zMem → Prop) (h : T_X3_giveUpAll Qr M) : zMetV l yX3_giveUpAll cX3_giveUpAll 1 none 0 0 0 0 G [.inr 511] M Qr := by
  refine zmetV (by decide) (Nat.le_of_ble_eq_true rfl) [some (.inr 511)] rfl ?_
  intro p e s m args below meth c hc hr hlk
  unfold T_X3_giveUpAll at h
  refine zj_aload_n (pc := 0) hc dX3_giveUpAll_0 rfl ?_
  refine zj_iconst (pc := 1) hc dX3_giveUpAll_1 (zin _ rfl) ?_
  refine zs_7_0 (pc := 2) hc lk_X3_9 dX3_giveUpAll_2 (fun M1 hM1 => ?_)
  have h := h M1 hM1
  exact zj_vret (pc := 5) hc hr hlk dX3_giveUpAll_5 (by decide) (by decide) h
set_option maxHeartbeats 4000000 in
set_option maxRecDepth 100000 in
theorem S_X6_filterRow (l : Launch) (G : zG) {o : Nat} (ho : o = 4 ∨ o = 6) (r1 : Nat) (v2 : Int) (v3 : Int) (M : zMem) (Qr : zMem → Prop) (h : T_X6_filterRow o r1 v2 v3 Qr M) : zMetV l yX6_filterRow cX6_filterRow 8 none 0 0 0 0 G [.inr (64 * o + 63), .inr r1, .inl v2, .inl v3] M Qr := by
  refine zmetV (by decide) (Nat.le_of_ble_eq_true rfl) [some (.inr (64 * o + 63)), some (.inr r1), some (.inl v2), some (.inl v3), none, none, none, none] rfl ?_
  intro p e s m args below meth c hc hr hlk
  have k93 : ∀ (M : zMem) (r1 : Nat) (v2 : Int) (v3 : Int) (v4 : Int) (v7 : Int) (X3 : Int → zMem → Prop) (hX3 : ∀ (v4 : Int) (M : zMem), X3 v4 M → zJ p l e (zRoom 0 0 0 0) s m args below meth c G 8 0 0 (MQ below (zQv G (Qr)) args s 0 0 (zA G)) 3 [some (.inr (64 * o + 63)), some (.inr r1), some (.inl v2), some (.inl v3), some (.inl v4), none, none, none] [] M), T_X6_filterRow_93 o r1 v2 v3 v4 v7 X3 Qr M → zJ p l e (zRoom 0 0 0 0) s m args below meth c G 8 0 0 (MQ below (zQv G (Qr)) args s 0 0 (zA G)) 93 [some (.inr (64 * o + 63)), some (.inr r1), some (.inl v2), some (.inl v3), some (.inl v4), none, none, some (.inl v7)] [] M := by
    intro M r1 v2 v3 v4 v7 X3 hX3 h
    unfold T_X6_filterRow_93 at h
    refine zj_aload_n (pc := 93) hc dX6_filterRow_93 rfl ?_
    refine zgv_X6_4 (pc := 94) ho hc lk_X6_25 dX6_filterRow_94 ?_
    refine zj_iload (pc := 97) hc dX6_filterRow_97 rfl ?_
    refine zj_iload (pc := 99) hc dX6_filterRow_99 rfl ?_
    refine zj_sipush (pc := 101) hc dX6_filterRow_101 (by decide) (zin _ rfl) ?_
    refine zj_iand (pc := 104) hc dX6_filterRow_104 ?_
    refine zj_iast (pc := 105) hc dX6_filterRow_105 (alenv_X6_4 ho) h.1 (fun M1 hM1 => ?_)
    have h := h.2 M1 hM1
    refine zj_iinc (pc := 106) hc dX6_filterRow_106 rfl (by decide) h.1 ?_
    have h := h.2
    refine zj_goto (pc := 109) (tgt := 3) hc dX6_filterRow_109 (by decide) ?_
    refine zj_mask (bs := [true, true, true, true, true, true, true, false]) ?_
    exact hX3 (v4 + 1) M1 h
  have k43 : ∀ (M : zMem) (r1 : Nat) (v2 : Int) (v3 : Int) (v4 : Int) (v5 : Int) (s0 : Int) (X3 : Int → zMem → Prop) (hX3 : ∀ (v4 : Int) (M : zMem), X3 v4 M → zJ p l e (zRoom 0 0 0 0) s m args below meth c G 8 0 0 (MQ below (zQv G (Qr)) args s 0 0 (zA G)) 3 [some (.inr (64 * o + 63)), some (.inr r1), some (.inl v2), some (.inl v3), some (.inl v4), none, none, none] [] M), T_X6_filterRow_43 o r1 v2 v3 v4 v5 s0 X3 Qr M → zJ p l e (zRoom 0 0 0 0) s m args below meth c G 8 0 0 (MQ below (zQv G (Qr)) args s 0 0 (zA G)) 43 [some (.inr (64 * o + 63)), some (.inr r1), some (.inl v2), some (.inl v3), some (.inl v4), some (.inl v5), none, none] [.inl s0] M := by
    intro M r1 v2 v3 v4 v5 s0 X3 hX3 h
    unfold T_X6_filterRow_43 at h
    refine zj_istore (pc := 43) hc dX6_filterRow_43 (by decide) ?_
    refine zj_aload_n (pc := 45) hc dX6_filterRow_45 rfl ?_
    refine zj_iload (pc := 46) hc dX6_filterRow_46 rfl ?_
    refine zj_iald (pc := 48) hc dX6_filterRow_48 rfl h.1 ?_
    have h := h.2
    refine zj_istore (pc := 49) hc dX6_filterRow_49 (by decide) ?_
    refine zj_iload_n (pc := 51) hc dX6_filterRow_51 rfl ?_
    refine zj_iconst (pc := 52) hc dX6_filterRow_52 (zin _ rfl) ?_
    refine zj_icmp_ne (pc := 53) (tgt := 66) hc dX6_filterRow_53 (by decide) (fun hx2 => ?_) (fun hx2 => ?_)
    · have h := h.1 hx2
      refine zj_iload_n (pc := 66) hc dX6_filterRow_66 rfl ?_
      refine zj_iconst (pc := 67) hc dX6_filterRow_67 (zin _ rfl) ?_
      refine zj_icmp_ne (pc := 68) (tgt := 81) hc dX6_filterRow_68 (by decide) (fun hx3 => ?_) (fun hx3 => ?_)
      · have h := h.1 hx3
        refine zj_iload_n (pc := 81) hc dX6_filterRow_81 rfl ?_
        refine zj_iconst (pc := 82) hc dX6_filterRow_82 (zin _ rfl) ?_
        refine zj_icmp_ne (pc := 83) (tgt := 93) hc dX6_filterRow_83 (by decide) (fun hx4 => ?_) (fun hx4 => ?_)
        · have h := h.1 hx4
          refine zj_mask (bs := [true, true, true, true, true, false, false, true]) ?_
          exact k93 M r1 v2 v3 v4 (M.2 r1 v4) X3 hX3 h
        · have h := h.2 hx4
          refine zj_iload (pc := 86) hc dX6_filterRow_86 rfl ?_
          refine zj_iload (pc := 88) hc dX6_filterRow_88 rfl ?_
          refine zj_isub (pc := 90) hc dX6_filterRow_90 h.1 ?_
          have h := h.2
          refine zj_istore (pc := 91) hc dX6_filterRow_91 (by decide) ?_
          refine zj_mask (bs := [true, true, true, true, true, false, false, true]) ?_
          exact k93 M r1 v2 v3 v4 ((M.2 r1 v4) - s0) X3 hX3 h
      · have h := h.2 hx3
        refine zj_iload (pc := 71) hc dX6_filterRow_71 rfl ?_
        refine zj_iload (pc := 73) hc dX6_filterRow_73 rfl ?_
        refine zj_ixor (pc := 75) hc dX6_filterRow_75 ?_
        refine zj_istore (pc := 76) hc dX6_filterRow_76 (by decide) ?_
        refine zj_goto (pc := 78) (tgt := 93) hc dX6_filterRow_78 (by decide) ?_
        refine zj_mask (bs := [true, true, true, true, true, false, false, true]) ?_
        exact k93 M r1 v2 v3 v4 (zxor (M.2 r1 v4) v5) X3 hX3 h
    · have h := h.2 hx2
      refine zj_iload (pc := 56) hc dX6_filterRow_56 rfl ?_
      refine zj_iload (pc := 58) hc dX6_filterRow_58 rfl ?_
      refine zj_isub (pc := 60) hc dX6_filterRow_60 h.1 ?_
      have h := h.2
      refine zj_istore (pc := 61) hc dX6_filterRow_61 (by decide) ?_
      refine zj_goto (pc := 63) (tgt := 93) hc dX6_filterRow_63 (by decide) ?_
      refine zj_mask (bs := [true, true, true, true, true, false, false, true]) ?_
      exact k93 M r1 v2 v3 v4 ((M.2 r1 v4) - v5) X3 hX3 h
  have k25 : ∀ (M : zMem) (r1 : Nat) (v2 : Int) (v3 : Int) (v4 : Int) (s0 : Int) (X3 : Int → zMem → Prop) (hX3 : ∀ (v4 : Int) (M : zMem), X3 v4 M → zJ p l e (zRoom 0 0 0 0) s m args below meth c G 8 0 0 (MQ below (zQv G (Qr)) args s 0 0 (zA G)) 3 [some (.inr (64 * o + 63)), some (.inr r1), some (.inl v2), some (.inl v3), some (.inl v4), none, none, none] [] M), T_X6_filterRow_25 o r1 v2 v3 v4 s0 X3 Qr M → zJ p l e (zRoom 0 0 0 0) s m args below meth c G 8 0 0 (MQ below (zQv G (Qr)) args s 0 0 (zA G)) 25 [some (.inr (64 * o + 63)), some (.inr r1), some (.inl v2), some (.inl v3), some (.inl v4), none, none, none] [.inl s0] M := by
    intro M r1 v2 v3 v4 s0 X3 hX3 h
    unfold T_X6_filterRow_25 at h
    refine zj_istore (pc := 25) hc dX6_filterRow_25 (by decide) ?_
    refine zj_iload (pc := 27) hc dX6_filterRow_27 rfl ?_
    refine zj_iconst (pc := 29) hc dX6_filterRow_29 (zin _ rfl) ?_
    refine zj_icmp_lt (pc := 30) (tgt := 42) hc dX6_filterRow_30 (by decide) (fun hx5 => ?_) (fun hx5 => ?_)
    · have h := h.1 hx5
      refine zj_iconst (pc := 42) hc dX6_filterRow_42 (zin _ rfl) ?_
      exact k43 M r1 v2 v3 v4 s0 0 X3 hX3 h
    · have h := h.2 hx5
      refine zj_aload_n (pc := 33) hc dX6_filterRow_33 rfl ?_
      refine zj_iload (pc := 34) hc dX6_filterRow_34 rfl ?_
      refine zj_iconst (pc := 36) hc dX6_filterRow_36 (zin _ rfl) ?_
      refine zj_isub (pc := 37) hc dX6_filterRow_37 h.1 ?_
      have h := h.2
      refine zj_iald (pc := 38) hc dX6_filterRow_38 rfl h.1 ?_
      have h := h.2
      refine zj_goto (pc := 39) (tgt := 43) hc dX6_filterRow_39 (by decide) ?_
      exact k43 M r1 v2 v3 v4 s0 (M.2 r1 (v4 - 2)) X3 hX3 h
  have k3 : ∀ (M : zMem) (r1 : Nat) (v2 : Int) (v3 : Int) (v4 : Int), T_X6_filterRow_3 o r1 v2 v3 Qr v4 M → zJ p l e (zRoom 0 0 0 0) s m args below meth c G 8 0 0 (MQ below (zQv G (Qr)) args s 0 0 (zA G)) 3 [some (.inr (64 * o + 63)), some (.inr r1), some (.inl v2), some (.inl v3), some (.inl v4), none, none, none] [] M := by
    intro M r1 v2 v3 v4 h
    unfold T_X6_filterRow_3 at h
    refine zl1_use h (fun v4 M => zJ p l e (zRoom 0 0 0 0) s m args below meth c G 8 0 0 (MQ below (zQv G (Qr)) args s 0 0 (zA G)) 3 [some (.inr (64 * o + 63)), some (.inr r1), some (.inl v2), some (.inl v3), some (.inl v4), none, none, none] [] M) (fun X3 hX3 v4 M h => ?_)
    refine zj_iload (pc := 3) hc dX6_filterRow_3 rfl ?_
    refine zj_iload_n (pc := 5) hc dX6_filterRow_5 rfl ?_
    refine zj_icmp_ge (pc := 6) (tgt := 112) hc dX6_filterRow_6 (by decide) (fun hx6 => ?_) (fun hx6 => ?_)
    · have h := h.1 hx6
      exact zj_vret (pc := 112) hc hr hlk dX6_filterRow_112 (by decide) (by decide) h
    · have h := h.2 hx6
      refine zj_iload (pc := 9) hc dX6_filterRow_9 rfl ?_
      refine zj_iconst (pc := 11) hc dX6_filterRow_11 (zin _ rfl) ?_
      refine zj_icmp_lt (pc := 12) (tgt := 24) hc dX6_filterRow_12 (by decide) (fun hx7 => ?_) (fun hx7 => ?_)
      · have h := h.1 hx7
        refine zj_iconst (pc := 24) hc dX6_filterRow_24 (zin _ rfl) ?_
        exact k25 M r1 v2 v3 v4 0 X3 hX3 h
      · have h := h.2 hx7
        refine zj_aload_n (pc := 15) hc dX6_filterRow_15 rfl ?_
        refine zj_iload (pc := 16) hc dX6_filterRow_16 rfl ?_
        refine zj_iconst (pc := 18) hc dX6_filterRow_18 (zin _ rfl) ?_
        refine zj_isub (pc := 19) hc dX6_filterRow_19 h.1 ?_
        have h := h.2
        refine zj_iald (pc := 20) hc dX6_filterRow_20 rfl h.1 ?_
        have h := h.2
        refine zj_goto (pc := 21) (tgt := 25) hc dX6_filterRow_21 (by decide) ?_
        exact k25 M r1 v2 v3 v4 (M.2 r1 (v4 - 1)) X3 hX3 h
  unfold T_X6_filterRow at h
  refine zj_iconst (pc := 0) hc dX6_filterRow_0 (zin _ rfl) ?_
  refine zj_istore (pc := 1) hc dX6_filterRow_1 (by decide) ?_
  exact k3 M r1 v2 v3 0 h
set_option maxHeartbeats 4000000 in
set_option maxRecDepth 100000 in
theorem S_X6_linkSame (l : Launch) (G : zG) {o : Nat} (ho : o = 4 ∨ o = 6) (v1 : Int) (M : zMem) (Qr : zMem → Prop) (h : T_X6_linkSame o v1 Qr M) : zMetV l yX6_linkSame cX6_linkSame 3 none 0 0 0 0 G [.inr (64 * o + 63), .inl v1] M Qr := by
  refine zmetV (by decide) (Nat.le_of_ble_eq_true rfl) [some (.inr (64 * o + 63)), some (.inl v1), none] rfl ?_
  intro p e s m args below meth c hc hr hlk
  have k2 : ∀ (M : zMem) (v1 : Int) (v2 : Int), T_X6_linkSame_2 o v1 Qr v2 M → zJ p l e (zRoom 0 0 0 0) s m args below meth c G 3 0 0 (MQ below (zQv G (Qr)) args s 0 0 (zA G)) 2 [some (.inr (64 * o + 63)), some (.inl v1), some (.inl v2)] [] M := by
    intro M v1 v2 h
    unfold T_X6_linkSame_2 at h
    refine zl1_use h (fun v2 M => zJ p l e (zRoom 0 0 0 0) s m args below meth c G 3 0 0 (MQ below (zQv G (Qr)) args s 0 0 (zA G)) 2 [some (.inr (64 * o + 63)), some (.inl v1), some (.inl v2)] [] M) (fun X2 hX2 v2 M h => ?_)
    refine zj_iload_n (pc := 2) hc dX6_linkSame_2 rfl ?_
    refine zj_iload_n (pc := 3) hc dX6_linkSame_3 rfl ?_
    refine zj_icmp_ge (pc := 4) (tgt := 42) hc dX6_linkSame_4 (by decide) (fun hx1 => ?_) (fun hx1 => ?_)
    · have h := h.1 hx1
      exact zj_vret (pc := 42) hc hr hlk dX6_linkSame_42 (by decide) (by decide) h
    · have h := h.2 hx1
      refine zj_aload_n (pc := 7) hc dX6_linkSame_7 rfl ?_
      refine zgv_X6_5 (pc := 8) ho hc lk_X6_28 dX6_linkSame_8 ?_
      refine zj_iload_n (pc := 11) hc dX6_linkSame_11 rfl ?_
      refine zj_aload_n (pc := 12) hc dX6_linkSame_12 rfl ?_
      refine zgv_X6_6 (pc := 13) ho hc lk_X6_31 dX6_linkSame_13 ?_
      refine zj_aload_n (pc := 16) hc dX6_linkSame_16 rfl ?_
      refine zgv_X6_4 (pc := 17) ho hc lk_X6_25 dX6_linkSame_17 ?_
      refine zj_iload_n (pc := 20) hc dX6_linkSame_20 rfl ?_
      refine zj_iald (pc := 21) hc dX6_linkSame_21 (alenv_X6_4 ho) h.1 ?_
      have h := h.2
      refine zj_iald (pc := 22) hc dX6_linkSame_22 (alenv_X6_6 ho) h.1 ?_
      have h := h.2
      refine zj_iast (pc := 23) hc dX6_linkSame_23 (alenv_X6_5 ho) h.1 (fun M2 hM2 => ?_)
      have h := h.2 M2 hM2
      refine zj_aload_n (pc := 24) hc dX6_linkSame_24 rfl ?_
      refine zgv_X6_6 (pc := 25) ho hc lk_X6_31 dX6_linkSame_25 ?_
      refine zj_aload_n (pc := 28) hc dX6_linkSame_28 rfl ?_
      refine zgv_X6_4 (pc := 29) ho hc lk_X6_25 dX6_linkSame_29 ?_
      refine zj_iload_n (pc := 32) hc dX6_linkSame_32 rfl ?_
      refine zj_iald (pc := 33) hc dX6_linkSame_33 (alenv_X6_4 ho) h.1 ?_
      have h := h.2
      refine zj_iload_n (pc := 34) hc dX6_linkSame_34 rfl ?_
      refine zj_iast (pc := 35) hc dX6_linkSame_35 (alenv_X6_6 ho) h.1 (fun M3 hM3 => ?_)
      have h := h.2 M3 hM3
      refine zj_iinc (pc := 36) hc dX6_linkSame_36 rfl (by decide) h.1 ?_
      have h := h.2
      refine zj_goto (pc := 39) (tgt := 2) hc dX6_linkSame_39 (by decide) ?_
      exact hX2 (v2 + 1) M3 h
  unfold T_X6_linkSame at h
  refine zj_iconst (pc := 0) hc dX6_linkSame_0 (zin _ rfl) ?_
  refine zj_istore_n (pc := 1) hc dX6_linkSame_1 (by decide) ?_
  exact k2 M v1 0 h
set_option maxHeartbeats 4000000 in
set_option maxRecDepth 100000 in
theorem S_X6_longestLike (l : Launch) (G : zG) {o : Nat} (ho : o = 4 ∨ o = 6) (v1 : Int) (v2 : Int) (M : zMem) (Qr : Int → zMem → Prop) (h : T_X6_longestLike o v1 v2 Qr M) : zMetI l yX6_longestLike cX6_longestLike 8 (some .int) 0 0 0 0 G [.inr (64 * o + 63), .inl v1, .inl v2] M Qr := by
  refine zmetI (by decide) (Nat.le_of_ble_eq_true rfl) [some (.inr (64 * o + 63)), some (.inl v1), some (.inl v2), none, none, none, none, none] rfl ?_
  intro p e s m args below meth c hc hr hlk
  have k131 : ∀ (M : zMem) (v4 : Int), T_X6_longestLike_131 o v4 Qr M → zJ p l e (zRoom 0 0 0 0) s m args below meth c G 8 0 0 (MQ below (zQi G (Qr)) args s 0 0 (zA G)) 131 [none, none, none, none, some (.inl v4), none, none, none] [] M := by
    intro M v4 h
    unfold T_X6_longestLike_131 at h
    refine zj_iload (pc := 131) hc dX6_longestLike_131 rfl ?_
    refine zj_iconst (pc := 133) hc dX6_longestLike_133 (zin _ rfl) ?_
    refine zj_icmp_ge (pc := 134) (tgt := 141) hc dX6_longestLike_134 (by decide) (fun hx1 => ?_) (fun hx1 => ?_)
    · have h := h.1 hx1
      refine zj_iload (pc := 141) hc dX6_longestLike_141 rfl ?_
      exact zj_iret (pc := 143) hc hr hlk dX6_longestLike_143 (by decide) (by decide) h
    · have h := h.2 hx1
      refine zj_iconst (pc := 137) hc dX6_longestLike_137 (zin _ rfl) ?_
      refine zj_goto (pc := 138) (tgt := 143) hc dX6_longestLike_138 (by decide) ?_
      exact zj_iret (pc := 143) hc hr hlk dX6_longestLike_143 (by decide) (by decide) h
  have k116 : ∀ (M : zMem) (v1 : Int) (v3 : Int) (v4 : Int) (v5 : Int) (v6 : Int) (X33 : Int → Int → Int → zMem → Prop) (hX33 : ∀ (v4 : Int) (v5 : Int) (v6 : Int) (M : zMem), X33 v4 v5 v6 M → zJ p l e (zRoom 0 0 0 0) s m args below meth c G 8 0 0 (MQ below (zQi G (Qr)) args s 0 0 (zA G)) 33 [some (.inr (64 * o + 63)), some (.inl v1), none, some (.inl v3), some (.inl v4), some (.inl v5), some (.inl v6), none] [] M), T_X6_longestLike_116 o v1 v3 v4 v5 v6 X33 Qr M → zJ p l e (zRoom 0 0 0 0) s m args below meth c G 8 0 0 (MQ below (zQi G (Qr)) args s 0 0 (zA G)) 116 [some (.inr (64 * o + 63)), some (.inl v1), none, some (.inl v3), some (.inl v4), some (.inl v5), some (.inl v6), none] [] M := by
    intro M v1 v3 v4 v5 v6 X33 hX33 h
    unfold T_X6_longestLike_116 at h
    refine zj_aload_n (pc := 116) hc dX6_longestLike_116 rfl ?_
    refine zgv_X6_5 (pc := 117) ho hc lk_X6_28 dX6_longestLike_117 ?_
    refine zj_iload (pc := 120) hc dX6_longestLike_120 rfl ?_
    refine zj_iald (pc := 122) hc dX6_longestLike_122 (alenv_X6_5 ho) h.1 ?_
    have h := h.2
    refine zj_istore (pc := 123) hc dX6_longestLike_123 (by decide) ?_
    refine zj_iinc (pc := 125) hc dX6_longestLike_125 rfl (by decide) h.1 ?_
    have h := h.2
    refine zj_goto (pc := 128) (tgt := 33) hc dX6_longestLike_128 (by decide) ?_
    exact hX33 v4 (M.2 (64 * o + 5) v5) (v6 + 1) M h
  have k97 : ∀ (M : zMem) (v1 : Int) (v3 : Int) (v4 : Int) (v5 : Int) (v6 : Int) (v7 : Int) (X33 : Int → Int → Int → zMem → Prop) (hX33 : ∀ (v4 : Int) (v5 : Int) (v6 : Int) (M : zMem), X33 v4 v5 v6 M → zJ p l e (zRoom 0 0 0 0) s m args below meth c G 8 0 0 (MQ below (zQi G (Qr)) args s 0 0 (zA G)) 33 [some (.inr (64 * o + 63)), some (.inl v1), none, some (.inl v3), some (.inl v4), some (.inl v5), some (.inl v6), none] [] M), T_X6_longestLike_97 o v1 v3 v4 v5 v6 v7 X33 Qr M → zJ p l e (zRoom 0 0 0 0) s m args below meth c G 8 0 0 (MQ below (zQi G (Qr)) args s 0 0 (zA G)) 97 [some (.inr (64 * o + 63)), some (.inl v1), none, some (.inl v3), some (.inl v4), some (.inl v5), some (.inl v6), some (.inl v7)] [] M := by
    intro M v1 v3 v4 v5 v6 v7 X33 hX33 h
    unfold T_X6_longestLike_97 at h
    refine zj_iload (pc := 97) hc dX6_longestLike_97 rfl ?_
    refine zj_iload (pc := 99) hc dX6_longestLike_99 rfl ?_
    refine zj_icmp_le (pc := 101) (tgt := 116) hc dX6_longestLike_101 (by decide) (fun hx2 => ?_) (fun hx2 => ?_)
    · have h := h.1 hx2
      refine zj_mask (bs := [true, true, true, true, true, true, true, false]) ?_
      exact k116 M v1 v3 v4 v5 v6 X33 hX33 h
    · have h := h.2 hx2
      refine zj_iload (pc := 104) hc dX6_longestLike_104 rfl ?_
      refine zj_istore (pc := 106) hc dX6_longestLike_106 (by decide) ?_
      refine zj_aload_n (pc := 108) hc dX6_longestLike_108 rfl ?_
      refine zj_iload_n (pc := 109) hc dX6_longestLike_109 rfl ?_
      refine zj_iload (pc := 110) hc dX6_longestLike_110 rfl ?_
      refine zj_isub (pc := 112) hc dX6_longestLike_112 h.1 ?_
      have h := h.2
      refine zsv_X6_7 (pc := 113) ho hc lk_X6_34 dX6_longestLike_113 (fun M3 hM3 => ?_)
      have h := h M3 hM3
      refine zj_mask (bs := [true, true, true, true, true, true, true, false]) ?_
      exact k116 M3 v1 v3 v7 v5 v6 X33 hX33 h
  have k63 : ∀ (M : zMem) (v1 : Int) (v3 : Int) (v4 : Int) (v5 : Int) (v6 : Int) (X33 : Int → Int → Int → zMem → Prop) (hX33 : ∀ (v4 : Int) (v5 : Int) (v6 : Int) (M : zMem), X33 v4 v5 v6 M → zJ p l e (zRoom 0 0 0 0) s m args below meth c G 8 0 0 (MQ below (zQi G (Qr)) args s 0 0 (zA G)) 33 [some (.inr (64 * o + 63)), some (.inl v1), none, some (.inl v3), some (.inl v4), some (.inl v5), some (.inl v6), none] [] M) (v7 : Int), T_X6_longestLike_63 o v1 v3 v4 v5 v6 X33 Qr v7 M → zJ p l e (zRoom 0 0 0 0) s m args below meth c G 8 0 0 (MQ below (zQi G (Qr)) args s 0 0 (zA G)) 63 [some (.inr (64 * o + 63)), some (.inl v1), none, some (.inl v3), some (.inl v4), some (.inl v5), some (.inl v6), some (.inl v7)] [] M := by
    intro M v1 v3 v4 v5 v6 X33 hX33 v7 h
    unfold T_X6_longestLike_63 at h
    refine zp1_use h (fun v7 => zJ p l e (zRoom 0 0 0 0) s m args below meth c G 8 0 0 (MQ below (zQi G (Qr)) args s 0 0 (zA G)) 63 [some (.inr (64 * o + 63)), some (.inl v1), none, some (.inl v3), some (.inl v4), some (.inl v5), some (.inl v6), some (.inl v7)] [] M) (fun X63 hX63 v7 h => ?_)
    refine zj_iload (pc := 63) hc dX6_longestLike_63 rfl ?_
    refine zj_iload_n (pc := 65) hc dX6_longestLike_65 rfl ?_
    refine zj_icmp_ge (pc := 66) (tgt := 97) hc dX6_longestLike_66 (by decide) (fun hx4 => ?_) (fun hx4 => ?_)
    · have h := h.1 hx4
      exact k97 M v1 v3 v4 v5 v6 v7 X33 hX33 h
    · have h := h.2 hx4
      refine zj_aload_n (pc := 69) hc dX6_longestLike_69 rfl ?_
      refine zgv_X6_4 (pc := 70) ho hc lk_X6_25 dX6_longestLike_70 ?_
      refine zj_iload_n (pc := 73) hc dX6_longestLike_73 rfl ?_
      refine zj_iload (pc := 74) hc dX6_longestLike_74 rfl ?_
      refine zj_iadd (pc := 76) hc dX6_longestLike_76 h.1 ?_
      have h := h.2
      refine zj_iald (pc := 77) hc dX6_longestLike_77 (alenv_X6_4 ho) h.1 ?_
      have h := h.2
      refine zj_aload_n (pc := 78) hc dX6_longestLike_78 rfl ?_
      refine zgv_X6_4 (pc := 79) ho hc lk_X6_25 dX6_longestLike_79 ?_
      refine zj_iload (pc := 82) hc dX6_longestLike_82 rfl ?_
      refine zj_iload (pc := 84) hc dX6_longestLike_84 rfl ?_
      refine zj_iadd (pc := 86) hc dX6_longestLike_86 h.1 ?_
      have h := h.2
      refine zj_iald (pc := 87) hc dX6_longestLike_87 (alenv_X6_4 ho) h.1 ?_
      have h := h.2
      refine zj_icmp_ne (pc := 88) (tgt := 97) hc dX6_longestLike_88 (by decide) (fun hx5 => ?_) (fun hx5 => ?_)
      · have h := h.1 hx5
        exact k97 M v1 v3 v4 v5 v6 v7 X33 hX33 h
      · have h := h.2 hx5
        refine zj_iinc (pc := 91) hc dX6_longestLike_91 rfl (by decide) h.1 ?_
        have h := h.2
        refine zj_goto (pc := 94) (tgt := 63) hc dX6_longestLike_94 (by decide) ?_
        exact hX63 (v7 + 1) h
  have k33 : ∀ (M : zMem) (v1 : Int) (v3 : Int) (v4 : Int) (v5 : Int) (v6 : Int), T_X6_longestLike_33 o v1 v3 Qr v4 v5 v6 M → zJ p l e (zRoom 0 0 0 0) s m args below meth c G 8 0 0 (MQ below (zQi G (Qr)) args s 0 0 (zA G)) 33 [some (.inr (64 * o + 63)), some (.inl v1), none, some (.inl v3), some (.inl v4), some (.inl v5), some (.inl v6), none] [] M := by
    intro M v1 v3 v4 v5 v6 h
    unfold T_X6_longestLike_33 at h
    refine zl3_use h (fun v4 v5 v6 M => zJ p l e (zRoom 0 0 0 0) s m args below meth c G 8 0 0 (MQ below (zQi G (Qr)) args s 0 0 (zA G)) 33 [some (.inr (64 * o + 63)), some (.inl v1), none, some (.inl v3), some (.inl v4), some (.inl v5), some (.inl v6), none] [] M) (fun X33 hX33 v4 v5 v6 M h => ?_)
    refine zj_iload (pc := 33) hc dX6_longestLike_33 rfl ?_
    refine zj_bipush (pc := 35) hc dX6_longestLike_35 (by decide) (zin _ rfl) ?_
    refine zj_icmp_ge (pc := 37) (tgt := 131) hc dX6_longestLike_37 (by decide) (fun hx6 => ?_) (fun hx6 => ?_)
    · have h := h.1 hx6
      refine zj_mask (bs := [false, false, true, false, true, false, false, true]) ?_
      exact k131 M v4 h
    · have h := h.2 hx6
      refine zj_iload (pc := 40) hc dX6_longestLike_40 rfl ?_
      refine zj_if_lt (pc := 42) (tgt := 131) hc dX6_longestLike_42 (by decide) (fun hx7 => ?_) (fun hx7 => ?_)
      · have h := h.1 hx7
        refine zj_mask (bs := [false, false, true, false, true, false, false, true]) ?_
        exact k131 M v4 h
      · have h := h.2 hx7
        refine zj_iload_n (pc := 45) hc dX6_longestLike_45 rfl ?_
        refine zj_iload (pc := 46) hc dX6_longestLike_46 rfl ?_
        refine zj_isub (pc := 48) hc dX6_longestLike_48 h.1 ?_
        have h := h.2
        refine zj_bipush (pc := 49) hc dX6_longestLike_49 (by decide) (zin _ rfl) ?_
        refine zj_icmp_gt (pc := 51) (tgt := 131) hc dX6_longestLike_51 (by decide) (fun hx8 => ?_) (fun hx8 => ?_)
        · have h := h.1 hx8
          refine zj_mask (bs := [false, false, true, false, true, false, false, true]) ?_
          exact k131 M v4 h
        · have h := h.2 hx8
          refine zj_iload (pc := 54) hc dX6_longestLike_54 rfl ?_
          refine zj_iload_n (pc := 56) hc dX6_longestLike_56 rfl ?_
          refine zj_icmp_ge (pc := 57) (tgt := 131) hc dX6_longestLike_57 (by decide) (fun hx9 => ?_) (fun hx9 => ?_)
          · have h := h.1 hx9
            refine zj_mask (bs := [false, false, true, false, true, false, false, true]) ?_
            exact k131 M v4 h
          · have h := h.2 hx9
            refine zj_iconst (pc := 60) hc dX6_longestLike_60 (zin _ rfl) ?_
            refine zj_istore (pc := 61) hc dX6_longestLike_61 (by decide) ?_
            exact k63 M v1 v3 v4 v5 v6 X33 hX33 1 h
  have k18 : ∀ (M : zMem) (v1 : Int) (s0 : Int), T_X6_longestLike_18 o v1 s0 Qr M → zJ p l e (zRoom 0 0 0 0) s m args below meth c G 8 0 0 (MQ below (zQi G (Qr)) args s 0 0 (zA G)) 18 [some (.inr (64 * o + 63)), some (.inl v1), none, none, none, none, none, none] [.inl s0] M := by
    intro M v1 s0 h
    unfold T_X6_longestLike_18 at h
    refine zj_istore_n (pc := 18) hc dX6_longestLike_18 (by decide) ?_
    refine zj_iconst (pc := 19) hc dX6_longestLike_19 (zin _ rfl) ?_
    refine zj_istore (pc := 20) hc dX6_longestLike_20 (by decide) ?_
    refine zj_aload_n (pc := 22) hc dX6_longestLike_22 rfl ?_
    refine zgv_X6_5 (pc := 23) ho hc lk_X6_28 dX6_longestLike_23 ?_
    refine zj_iload_n (pc := 26) hc dX6_longestLike_26 rfl ?_
    refine zj_iald (pc := 27) hc dX6_longestLike_27 (alenv_X6_5 ho) h.1 ?_
    have h := h.2
    refine zj_istore (pc := 28) hc dX6_longestLike_28 (by decide) ?_
    refine zj_iconst (pc := 30) hc dX6_longestLike_30 (zin _ rfl) ?_
    refine zj_istore (pc := 31) hc dX6_longestLike_31 (by decide) ?_
    exact k33 M v1 s0 2 (M.2 (64 * o + 5) v1) 0 h
  unfold T_X6_longestLike at h
  refine zj_iload_n (pc := 0) hc dX6_longestLike_0 rfl ?_
  refine zj_iload_n (pc := 1) hc dX6_longestLike_1 rfl ?_
  refine zj_isub (pc := 2) hc dX6_longestLike_2 h.1 ?_
  have h := h.2
  refine zj_sipush (pc := 3) hc dX6_longestLike_3 (by decide) (zin _ rfl) ?_
  refine zj_icmp_ge (pc := 6) (tgt := 15) hc dX6_longestLike_6 (by decide) (fun hx10 => ?_) (fun hx10 => ?_)
  · have h := h.1 hx10
    refine zj_sipush (pc := 15) hc dX6_longestLike_15 (by decide) (zin _ rfl) ?_
    refine zj_mask (bs := [true, true, false, true, true, true, true, true]) ?_
    exact k18 M v1 130 h
  · have h := h.2 hx10
    refine zj_iload_n (pc := 9) hc dX6_longestLike_9 rfl ?_
    refine zj_iload_n (pc := 10) hc dX6_longestLike_10 rfl ?_
    refine zj_isub (pc := 11) hc dX6_longestLike_11 h.1 ?_
    have h := h.2
    refine zj_goto (pc := 12) (tgt := 18) hc dX6_longestLike_12 (by decide) ?_
    refine zj_mask (bs := [true, true, false, true, true, true, true, true]) ?_
    exact k18 M v1 (v2 - v1) h
set_option maxHeartbeats 4000000 in
set_option maxRecDepth 100000 in
theorem S_X6_tellSingles (l : Launch) (G : zG) {o : Nat} (ho : o = 4 ∨ o = 6) (v1 : Int) (v2 : Int) (v3 : Int) (M : zMem) (Qr : Int → zMem → Prop) (h : T_X6_tellSingles o v1 v2 v3 Qr M) : zMetI l yX6_tellSingles cX6_tellSingles 6 (some .int) 0 0 0 0 G [.inr (64 * o + 63), .inl v1, .inl v2, .inl v3] M Qr := by
  refine zmetI (by decide) (Nat.le_of_ble_eq_true rfl) [some (.inr (64 * o + 63)), some (.inl v1), some (.inl v2), some (.inl v3), none, none] rfl ?_
  intro p e s m args below meth c hc hr hlk
  have k67 : ∀ (M : zMem) (v1 : Int) (v2 : Int) (v4 : Int) (v5 : Int) (X6 : Int → Int → zMem → Prop) (hX6 : ∀ (v4 : Int) (v5 : Int) (M : zMem), X6 v4 v5 M → zJ p l e (zRoom 0 0 0 0) s m args below meth c G 6 0 0 (MQ below (zQi G (Qr)) args s 0 0 (zA G)) 6 [some (.inr (64 * o + 63)), some (.inl v1), some (.inl v2), none, some (.inl v4), some (.inl v5)] [] M), T_X6_tellSingles_67 o v1 v2 v4 v5 X6 Qr M → zJ p l e (zRoom 0 0 0 0) s m args below meth c G 6 0 0 (MQ below (zQi G (Qr)) args s 0 0 (zA G)) 67 [some (.inr (64 * o + 63)), some (.inl v1), some (.inl v2), none, some (.inl v4), some (.inl v5)] [] M := by
    intro M v1 v2 v4 v5 X6 hX6 h
    unfold T_X6_tellSingles_67 at h
    refine zj_aload_n (pc := 67) hc dX6_tellSingles_67 rfl ?_
    refine zgv_X6_0 (pc := 68) ho hc lk_X6_9 dX6_tellSingles_68 ?_
    refine zj_iload (pc := 71) hc dX6_tellSingles_71 rfl ?_
    refine zj_aload_n (pc := 73) hc dX6_tellSingles_73 rfl ?_
    refine zgv_X6_4 (pc := 74) ho hc lk_X6_25 dX6_tellSingles_74 ?_
    refine zj_iload (pc := 77) hc dX6_tellSingles_77 rfl ?_
    refine zj_iald (pc := 79) hc dX6_tellSingles_79 (alenv_X6_4 ho) h.1 ?_
    have h := h.2
    refine zj_iast (pc := 80) hc dX6_tellSingles_80 (alenv_X6_0 ho) h.1 (fun M1 hM1 => ?_)
    have h := h.2 M1 hM1
    refine zj_iinc (pc := 81) hc dX6_tellSingles_81 rfl (by decide) h.1 ?_
    have h := h.2
    refine zj_iinc (pc := 84) hc dX6_tellSingles_84 rfl (by decide) h.1 ?_
    have h := h.2
    refine zj_goto (pc := 87) (tgt := 6) hc dX6_tellSingles_87 (by decide) ?_
    exact hX6 (v4 + 1) (v5 + 1) M1 h
  have k61 : ∀ (M : zMem) (v1 : Int) (v2 : Int) (v4 : Int) (v5 : Int) (s1 : Int) (s2 : Int) (X6 : Int → Int → zMem → Prop) (hX6 : ∀ (v4 : Int) (v5 : Int) (M : zMem), X6 v4 v5 M → zJ p l e (zRoom 0 0 0 0) s m args below meth c G 6 0 0 (MQ below (zQi G (Qr)) args s 0 0 (zA G)) 6 [some (.inr (64 * o + 63)), some (.inl v1), some (.inl v2), none, some (.inl v4), some (.inl v5)] [] M), T_X6_tellSingles_61 o v1 v2 v4 v5 s1 s2 X6 Qr M → zJ p l e (zRoom 0 0 0 0) s m args below meth c G 6 0 0 (MQ below (zQi G (Qr)) args s 0 0 (zA G)) 61 [some (.inr (64 * o + 63)), some (.inl v1), some (.inl v2), none, some (.inl v4), some (.inl v5)] [.inl s2, .inl s1, .inr (64 * o)] M := by
    intro M v1 v2 v4 v5 s1 s2 X6 hX6 h
    unfold T_X6_tellSingles_61 at h
    refine zj_iconst (pc := 61) hc dX6_tellSingles_61 (zin _ rfl) ?_
    refine zj_isub (pc := 62) hc dX6_tellSingles_62 h.1 ?_
    have h := h.2
    refine zj_iast (pc := 63) hc dX6_tellSingles_63 (alenv_X6_0 ho) h.1 (fun M2 hM2 => ?_)
    have h := h.2 M2 hM2
    refine zj_iinc (pc := 64) hc dX6_tellSingles_64 rfl (by decide) h.1 ?_
    have h := h.2
    exact k67 M2 v1 v2 (v4 + 1) v5 X6 hX6 h
  have k6 : ∀ (M : zMem) (v1 : Int) (v2 : Int) (v4 : Int) (v5 : Int), T_X6_tellSingles_6 o v1 v2 Qr v4 v5 M → zJ p l e (zRoom 0 0 0 0) s m args below meth c G 6 0 0 (MQ below (zQi G (Qr)) args s 0 0 (zA G)) 6 [some (.inr (64 * o + 63)), some (.inl v1), some (.inl v2), none, some (.inl v4), some (.inl v5)] [] M := by
    intro M v1 v2 v4 v5 h
    unfold T_X6_tellSingles_6 at h
    refine zl2_use h (fun v4 v5 M => zJ p l e (zRoom 0 0 0 0) s m args below meth c G 6 0 0 (MQ below (zQi G (Qr)) args s 0 0 (zA G)) 6 [some (.inr (64 * o + 63)), some (.inl v1), some (.inl v2), none, some (.inl v4), some (.inl v5)] [] M) (fun X6 hX6 v4 v5 M h => ?_)
    refine zj_iload (pc := 6) hc dX6_tellSingles_6 rfl ?_
    refine zj_iload_n (pc := 8) hc dX6_tellSingles_8 rfl ?_
    refine zj_icmp_ge (pc := 9) (tgt := 90) hc dX6_tellSingles_9 (by decide) (fun hx3 => ?_) (fun hx3 => ?_)
    · have h := h.1 hx3
      refine zj_iload (pc := 90) hc dX6_tellSingles_90 rfl ?_
      exact zj_iret (pc := 92) hc hr hlk dX6_tellSingles_92 (by decide) (by decide) h
    · have h := h.2 hx3
      refine zj_iload (pc := 12) hc dX6_tellSingles_12 rfl ?_
      refine zj_iconst (pc := 14) hc dX6_tellSingles_14 (zin _ rfl) ?_
      refine zj_iadd (pc := 15) hc dX6_tellSingles_15 h.1 ?_
      have h := h.2
      refine zj_aload_n (pc := 16) hc dX6_tellSingles_16 rfl ?_
      refine zgv_X6_0 (pc := 17) ho hc lk_X6_9 dX6_tellSingles_17 ?_
      refine zj_alen (pc := 20) hc dX6_tellSingles_20 (alenv_X6_0 ho) (by decide) ?_
      refine zj_icmp_gt (pc := 21) (tgt := 90) hc dX6_tellSingles_21 (by decide) (fun hx4 => ?_) (fun hx4 => ?_)
      · have h := h.1 hx4
        refine zj_iload (pc := 90) hc dX6_tellSingles_90 rfl ?_
        exact zj_iret (pc := 92) hc hr hlk dX6_tellSingles_92 (by decide) (by decide) h
      · have h := h.2 hx4
        refine zj_iload (pc := 24) hc dX6_tellSingles_24 rfl ?_
        refine zj_iload_n (pc := 26) hc dX6_tellSingles_26 rfl ?_
        refine zj_isub (pc := 27) hc dX6_tellSingles_27 h.1 ?_
        have h := h.2
        refine zj_sipush (pc := 28) hc dX6_tellSingles_28 (by decide) (zin _ rfl) ?_
        refine zj_irem (pc := 31) hc dX6_tellSingles_31 (by decide) ?_
        refine zj_if_ne (pc := 32) (tgt := 67) hc dX6_tellSingles_32 (by decide) (fun hx5 => ?_) (fun hx5 => ?_)
        · have h := h.1 hx5
          exact k67 M v1 v2 v4 v5 X6 hX6 h
        · have h := h.2 hx5
          refine zj_aload_n (pc := 35) hc dX6_tellSingles_35 rfl ?_
          refine zgv_X6_0 (pc := 36) ho hc lk_X6_9 dX6_tellSingles_36 ?_
          refine zj_iload (pc := 39) hc dX6_tellSingles_39 rfl ?_
          refine zj_iload_n (pc := 41) hc dX6_tellSingles_41 rfl ?_
          refine zj_iload (pc := 42) hc dX6_tellSingles_42 rfl ?_
          refine zj_isub (pc := 44) hc dX6_tellSingles_44 h.1 ?_
          have h := h.2
          refine zj_sipush (pc := 45) hc dX6_tellSingles_45 (by decide) (zin _ rfl) ?_
          refine zj_icmp_ge (pc := 48) (tgt := 58) hc dX6_tellSingles_48 (by decide) (fun hx6 => ?_) (fun hx6 => ?_)
          · have h := h.1 hx6
            refine zj_sipush (pc := 58) hc dX6_tellSingles_58 (by decide) (zin _ rfl) ?_
            exact k61 M v1 v2 v4 v5 v4 128 X6 hX6 h
          · have h := h.2 hx6
            refine zj_iload_n (pc := 51) hc dX6_tellSingles_51 rfl ?_
            refine zj_iload (pc := 52) hc dX6_tellSingles_52 rfl ?_
            refine zj_isub (pc := 54) hc dX6_tellSingles_54 h.1 ?_
            have h := h.2
            refine zj_goto (pc := 55) (tgt := 61) hc dX6_tellSingles_55 (by decide) ?_
            exact k61 M v1 v2 v4 v5 v4 (v2 - v5) X6 hX6 h
  unfold T_X6_tellSingles at h
  refine zj_iload_n (pc := 0) hc dX6_tellSingles_0 rfl ?_
  refine zj_istore (pc := 1) hc dX6_tellSingles_1 (by decide) ?_
  refine zj_iload_n (pc := 3) hc dX6_tellSingles_3 rfl ?_
  refine zj_istore (pc := 4) hc dX6_tellSingles_4 (by decide) ?_
  refine zj_mask (bs := [true, true, true, false, true, true]) ?_
  exact k6 M v1 v2 v3 v1 h
set_option maxHeartbeats 4000000 in
set_option maxRecDepth 100000 in
theorem S_X6_packRow (l : Launch) (G : zG) {o : Nat} (ho : o = 4 ∨ o = 6) (r1 : Nat) (v2 : Int) (v3 : Int) (M : zMem) (Qr : Int → zMem → Prop) (h : T_X6_packRow o r1 v2 v3 Qr M) : zMetI l yX6_packRow cX6_packRow 10 (some .int) 1 27 0 0 G [.inr (64 * o + 63), .inr r1, .inl v2, .inl v3] M Qr := by
  refine zmetI (by decide) (Nat.le_of_ble_eq_true rfl) [some (.inr (64 * o + 63)), some (.inr r1), some (.inl v2), some (.inl v3), none, none, none, none, none, none] rfl ?_
  intro p e s m args below meth c hc hr hlk
  have k147 : ∀ (M : zMem) (v4 : Int) (v5 : Int) (v6 : Int) (v7 : Int) (v8 : Int) (X48 : Int → Int → Int → Int → zMem → Prop) (hX48 : ∀ (v5 : Int) (v6 : Int) (v7 : Int) (v8 : Int) (M : zMem), X48 v5 v6 v7 v8 M → zJ p l e (zRoom 1 27 0 0) s m args below meth c G 10 0 0 (MQ below (zQi G (Qr)) args s 0 0 (zA G)) 48 [some (.inr (64 * o + 63)), none, none, none, some (.inl v4), some (.inl v5), some (.inl v6), some (.inl v7), some (.inl v8), none] [] M), T_X6_packRow_147 o v4 v5 v6 v7 v8 X48 Qr M → zJ p l e (zRoom 1 27 0 0) s m args below meth c G 10 0 0 (MQ below (zQi G (Qr)) args s 0 0 (zA G)) 147 [some (.inr (64 * o + 63)), none, none, none, some (.inl v4), some (.inl v5), some (.inl v6), some (.inl v7), some (.inl v8), none] [] M := by
    intro M v4 v5 v6 v7 v8 X48 hX48 h
    unfold T_X6_packRow_147 at h
    refine zj_iinc (pc := 147) hc dX6_packRow_147 rfl (by decide) h.1 ?_
    have h := h.2
    refine zj_goto (pc := 150) (tgt := 48) hc dX6_packRow_150 (by decide) ?_
    exact hX48 v5 v6 v7 (v8 + 1) M h
  have k136 : ∀ (M : zMem) (v4 : Int) (v5 : Int) (v6 : Int) (v8 : Int) (v9 : Int) (X48 : Int → Int → Int → Int → zMem → Prop) (hX48 : ∀ (v5 : Int) (v6 : Int) (v7 : Int) (v8 : Int) (M : zMem), X48 v5 v6 v7 v8 M → zJ p l e (zRoom 1 27 0 0) s m args below meth c G 10 0 0 (MQ below (zQi G (Qr)) args s 0 0 (zA G)) 48 [some (.inr (64 * o + 63)), none, none, none, some (.inl v4), some (.inl v5), some (.inl v6), some (.inl v7), some (.inl v8), none] [] M), T_X6_packRow_136 o v4 v5 v6 v8 v9 X48 Qr M → zJ p l e (zRoom 1 27 0 0) s m args below meth c G 10 0 0 (MQ below (zQi G (Qr)) args s 0 0 (zA G)) 136 [some (.inr (64 * o + 63)), none, none, none, some (.inl v4), some (.inl v5), some (.inl v6), none, some (.inl v8), some (.inl v9)] [] M := by
    intro M v4 v5 v6 v8 v9 X48 hX48 h
    unfold T_X6_packRow_136 at h
    refine zj_iload (pc := 136) hc dX6_packRow_136 rfl ?_
    refine zj_iload (pc := 138) hc dX6_packRow_138 rfl ?_
    refine zj_iadd (pc := 140) hc dX6_packRow_140 h.1 ?_
    have h := h.2
    refine zj_istore (pc := 141) hc dX6_packRow_141 (by decide) ?_
    refine zj_iload (pc := 143) hc dX6_packRow_143 rfl ?_
    refine zj_istore (pc := 145) hc dX6_packRow_145 (by decide) ?_
    refine zj_mask (bs := [true, true, true, true, true, true, true, true, true, false]) ?_
    exact k147 M v4 v5 (v6 + v9) (v6 + v9) v8 X48 hX48 h
  have k48 : ∀ (M : zMem) (v4 : Int) (v5 : Int) (v6 : Int) (v7 : Int) (v8 : Int), T_X6_packRow_48 o v4 Qr v5 v6 v7 v8 M → zJ p l e (zRoom 1 27 0 0) s m args below meth c G 10 0 0 (MQ below (zQi G (Qr)) args s 0 0 (zA G)) 48 [some (.inr (64 * o + 63)), none, none, none, some (.inl v4), some (.inl v5), some (.inl v6), some (.inl v7), some (.inl v8), none] [] M := by
    intro M v4 v5 v6 v7 v8 h
    unfold T_X6_packRow_48 at h
    refine zl4_use h (fun v5 v6 v7 v8 M => zJ p l e (zRoom 1 27 0 0) s m args below meth c G 10 0 0 (MQ below (zQi G (Qr)) args s 0 0 (zA G)) 48 [some (.inr (64 * o + 63)), none, none, none, some (.inl v4), some (.inl v5), some (.inl v6), some (.inl v7), some (.inl v8), none] [] M) (fun X48 hX48 v5 v6 v7 v8 M h => ?_)
    refine zj_iload (pc := 48) hc dX6_packRow_48 rfl ?_
    refine zj_sipush (pc := 50) hc dX6_packRow_50 (by decide) (zin _ rfl) ?_
    refine zj_icmp_ge (pc := 53) (tgt := 153) hc dX6_packRow_53 (by decide) (fun hx1 => ?_) (fun hx1 => ?_)
    · have h := h.1 hx1
      refine zj_aload_n (pc := 153) hc dX6_packRow_153 rfl ?_
      refine zj_iload (pc := 154) hc dX6_packRow_154 rfl ?_
      refine zj_iload (pc := 156) hc dX6_packRow_156 rfl ?_
      refine zj_iload (pc := 158) hc dX6_packRow_158 rfl ?_
      refine zj_vti (pc := 160) (st := []) hc ks_X6_tellSingles iv_X6_tellSingles lk_X6_64 (zrvv_X6 G M ho) (S_X6_tellSingles l G ho v7 v4 v5 M _ h) rfl ⟨Nat.le_of_ble_eq_true rfl, Nat.le_of_ble_eq_true rfl⟩ (Nat.le_of_ble_eq_true rfl) ⟨Nat.le_of_ble_eq_true rfl, Nat.le_of_ble_eq_true rfl⟩ dX6_packRow_160 rfl (fun y2 M3 h => ?_)
      exact zj_iret (pc := 163) hc hr hlk dX6_packRow_163 (by decide) (by decide) h
    · have h := h.2 hx1
      refine zj_iload (pc := 56) hc dX6_packRow_56 rfl ?_
      refine zj_iload (pc := 58) hc dX6_packRow_58 rfl ?_
      refine zj_icmp_ge (pc := 60) (tgt := 153) hc dX6_packRow_60 (by decide) (fun hx4 => ?_) (fun hx4 => ?_)
      · have h := h.1 hx4
        refine zj_aload_n (pc := 153) hc dX6_packRow_153 rfl ?_
        refine zj_iload (pc := 154) hc dX6_packRow_154 rfl ?_
        refine zj_iload (pc := 156) hc dX6_packRow_156 rfl ?_
        refine zj_iload (pc := 158) hc dX6_packRow_158 rfl ?_
        refine zj_vti (pc := 160) (st := []) hc ks_X6_tellSingles iv_X6_tellSingles lk_X6_64 (zrvv_X6 G M ho) (S_X6_tellSingles l G ho v7 v4 v5 M _ h) rfl ⟨Nat.le_of_ble_eq_true rfl, Nat.le_of_ble_eq_true rfl⟩ (Nat.le_of_ble_eq_true rfl) ⟨Nat.le_of_ble_eq_true rfl, Nat.le_of_ble_eq_true rfl⟩ dX6_packRow_160 rfl (fun y5 M6 h => ?_)
        exact zj_iret (pc := 163) hc hr hlk dX6_packRow_163 (by decide) (by decide) h
      · have h := h.2 hx4
        refine zj_aload_n (pc := 63) hc dX6_packRow_63 rfl ?_
        refine zj_iload (pc := 64) hc dX6_packRow_64 rfl ?_
        refine zj_iload (pc := 66) hc dX6_packRow_66 rfl ?_
        refine zj_vti (pc := 68) (st := []) hc ks_X6_longestLike iv_X6_longestLike lk_X6_61 (zrvv_X6 G M ho) (S_X6_longestLike l G ho v6 v4 M _ h) rfl ⟨Nat.le_of_ble_eq_true rfl, Nat.le_of_ble_eq_true rfl⟩ (Nat.le_of_ble_eq_true rfl) ⟨Nat.le_of_ble_eq_true rfl, Nat.le_of_ble_eq_true rfl⟩ dX6_packRow_68 rfl (fun y7 M8 h => ?_)
        refine zj_istore (pc := 71) hc dX6_packRow_71 (by decide) ?_
        refine zj_iload (pc := 73) hc dX6_packRow_73 rfl ?_
        refine zj_if_ne (pc := 75) (tgt := 84) hc dX6_packRow_75 (by decide) (fun hx9 => ?_) (fun hx9 => ?_)
        · have h := h.1 hx9
          refine zj_aload_n (pc := 84) hc dX6_packRow_84 rfl ?_
          refine zj_iload (pc := 85) hc dX6_packRow_85 rfl ?_
          refine zj_iload (pc := 87) hc dX6_packRow_87 rfl ?_
          refine zj_iload (pc := 89) hc dX6_packRow_89 rfl ?_
          refine zj_vti (pc := 91) (st := []) hc ks_X6_tellSingles iv_X6_tellSingles lk_X6_64 (zrvv_X6 G M8 ho) (S_X6_tellSingles l G ho v7 v6 v5 M8 _ h) rfl ⟨Nat.le_of_ble_eq_true rfl, Nat.le_of_ble_eq_true rfl⟩ (Nat.le_of_ble_eq_true rfl) ⟨Nat.le_of_ble_eq_true rfl, Nat.le_of_ble_eq_true rfl⟩ dX6_packRow_91 rfl (fun y10 M11 h => ?_)
          refine zj_istore (pc := 94) hc dX6_packRow_94 (by decide) ?_
          refine zj_iload (pc := 96) hc dX6_packRow_96 rfl ?_
          refine zj_iconst (pc := 98) hc dX6_packRow_98 (zin _ rfl) ?_
          refine zj_iadd (pc := 99) hc dX6_packRow_99 h.1 ?_
          have h := h.2
          refine zj_aload_n (pc := 100) hc dX6_packRow_100 rfl ?_
          refine zgv_X6_0 (pc := 101) ho hc lk_X6_9 dX6_packRow_101 ?_
          refine zj_alen (pc := 104) hc dX6_packRow_104 (alenv_X6_0 ho) (by decide) ?_
          refine zj_icmp_gt (pc := 105) (tgt := 136) hc dX6_packRow_105 (by decide) (fun hx12 => ?_) (fun hx12 => ?_)
          · have h := h.1 hx12
            refine zj_mask (bs := [true, true, true, true, true, true, true, false, true, true]) ?_
            exact k136 M11 v4 y10 v6 v8 y7 X48 hX48 h
          · have h := h.2 hx12
            refine zj_aload_n (pc := 108) hc dX6_packRow_108 rfl ?_
            refine zgv_X6_0 (pc := 109) ho hc lk_X6_9 dX6_packRow_109 ?_
            refine zj_iload (pc := 112) hc dX6_packRow_112 rfl ?_
            refine zj_bipush (pc := 114) hc dX6_packRow_114 (by decide) (zin _ rfl) ?_
            refine zj_iload (pc := 116) hc dX6_packRow_116 rfl ?_
            refine zj_iadd (pc := 118) hc dX6_packRow_118 h.1 ?_
            have h := h.2
            refine zj_iast (pc := 119) hc dX6_packRow_119 (alenv_X6_0 ho) h.1 (fun M13 hM13 => ?_)
            have h := h.2 M13 hM13
            refine zj_aload_n (pc := 120) hc dX6_packRow_120 rfl ?_
            refine zgv_X6_0 (pc := 121) ho hc lk_X6_9 dX6_packRow_121 ?_
            refine zj_iload (pc := 124) hc dX6_packRow_124 rfl ?_
            refine zj_iconst (pc := 126) hc dX6_packRow_126 (zin _ rfl) ?_
            refine zj_iadd (pc := 127) hc dX6_packRow_127 h.1 ?_
            have h := h.2
            refine zj_aload_n (pc := 128) hc dX6_packRow_128 rfl ?_
            refine zgv_X6_7 (pc := 129) ho hc lk_X6_34 dX6_packRow_129 ?_
            refine zj_iast (pc := 132) hc dX6_packRow_132 (alenv_X6_0 ho) h.1 (fun M14 hM14 => ?_)
            have h := h.2 M14 hM14
            refine zj_iinc (pc := 133) hc dX6_packRow_133 rfl (by decide) h.1 ?_
            have h := h.2
            refine zj_mask (bs := [true, true, true, true, true, true, true, false, true, true]) ?_
            exact k136 M14 v4 (y10 + 2) v6 v8 y7 X48 hX48 h
        · have h := h.2 hx9
          refine zj_iinc (pc := 78) hc dX6_packRow_78 rfl (by decide) h.1 ?_
          have h := h.2
          refine zj_goto (pc := 81) (tgt := 147) hc dX6_packRow_81 (by decide) ?_
          refine zj_mask (bs := [true, true, true, true, true, true, true, true, true, false]) ?_
          exact k147 M8 v4 v5 (v6 + 1) v7 v8 X48 hX48 h
  unfold T_X6_packRow at h
  refine zj_iload_n (pc := 0) hc dX6_packRow_0 rfl ?_
  refine zj_aload_n (pc := 1) hc dX6_packRow_1 rfl ?_
  refine zj_alen (pc := 2) hc dX6_packRow_2 rfl h.1 ?_
  have h := h.2
  refine zj_sipush (pc := 3) hc dX6_packRow_3 (by decide) (zin _ rfl) ?_
  refine zj_min (pc := 6) hc dX6_packRow_6 lk_X6_41 st_min in_Math co_min (Nat.le_of_ble_eq_true rfl) (Nat.le_of_ble_eq_true rfl) ⟨Nat.le_of_ble_eq_true rfl, Nat.le_of_ble_eq_true rfl⟩ ?_
  refine zj_min (pc := 9) hc dX6_packRow_9 lk_X6_41 st_min in_Math co_min (Nat.le_of_ble_eq_true rfl) (Nat.le_of_ble_eq_true rfl) ⟨Nat.le_of_ble_eq_true rfl, Nat.le_of_ble_eq_true rfl⟩ ?_
  refine zj_istore (pc := 12) hc dX6_packRow_12 (by decide) ?_
  refine zj_aload_n (pc := 14) hc dX6_packRow_14 rfl ?_
  refine zj_aload_n (pc := 15) hc dX6_packRow_15 rfl ?_
  refine zj_iload (pc := 16) hc dX6_packRow_16 rfl ?_
  refine zj_iload_n (pc := 18) hc dX6_packRow_18 rfl ?_
  refine zj_vtv (pc := 19) (st := []) hc ks_X6_filterRow iv_X6_filterRow lk_X6_47 (zrvv_X6 G M ho) (S_X6_filterRow l G ho r1 (min v2 (min (alen r1) 400)) v3 M _ h) rfl ⟨Nat.le_of_ble_eq_true rfl, Nat.le_of_ble_eq_true rfl⟩ (Nat.le_of_ble_eq_true rfl) ⟨Nat.le_of_ble_eq_true rfl, Nat.le_of_ble_eq_true rfl⟩ dX6_packRow_19 rfl (fun M15 h => ?_)
  refine zj_aload_n (pc := 22) hc dX6_packRow_22 rfl ?_
  refine zgv_X6_6 (pc := 23) ho hc lk_X6_31 dX6_packRow_23 ?_
  refine zj_iconst (pc := 26) hc dX6_packRow_26 (zin _ rfl) ?_
  refine zj_stv (pc := 27) (st := []) hc ks_J7_fill_53178 st_J7_fill_53178 lk_X6_51 (S_J7_fill_53178 l G (64 * o + 6) (-1) M15 _ h) rfl ⟨Nat.le_of_ble_eq_true rfl, Nat.le_of_ble_eq_true rfl⟩ (Nat.le_of_ble_eq_true rfl) ⟨Nat.le_of_ble_eq_true rfl, Nat.le_of_ble_eq_true rfl⟩ dX6_packRow_27 rfl (fun M16 h => ?_)
  refine zj_aload_n (pc := 30) hc dX6_packRow_30 rfl ?_
  refine zj_iload (pc := 31) hc dX6_packRow_31 rfl ?_
  refine zj_vtv (pc := 33) (st := []) hc ks_X6_linkSame iv_X6_linkSame lk_X6_57 (zrvv_X6 G M16 ho) (S_X6_linkSame l G ho (min v2 (min (alen r1) 400)) M16 _ h) rfl ⟨Nat.le_of_ble_eq_true rfl, Nat.le_of_ble_eq_true rfl⟩ (Nat.le_of_ble_eq_true rfl) ⟨Nat.le_of_ble_eq_true rfl, Nat.le_of_ble_eq_true rfl⟩ dX6_packRow_33 rfl (fun M17 h => ?_)
  refine zj_iconst (pc := 36) hc dX6_packRow_36 (zin _ rfl) ?_
  refine zj_istore (pc := 37) hc dX6_packRow_37 (by decide) ?_
  refine zj_iconst (pc := 39) hc dX6_packRow_39 (zin _ rfl) ?_
  refine zj_istore (pc := 40) hc dX6_packRow_40 (by decide) ?_
  refine zj_iconst (pc := 42) hc dX6_packRow_42 (zin _ rfl) ?_
  refine zj_istore (pc := 43) hc dX6_packRow_43 (by decide) ?_
  refine zj_iconst (pc := 45) hc dX6_packRow_45 (zin _ rfl) ?_
  refine zj_istore (pc := 46) hc dX6_packRow_46 (by decide) ?_
  refine zj_mask (bs := [true, false, false, false, true, true, true, true, true, true]) ?_
  exact k48 M17 (min v2 (min (alen r1) 400)) 0 0 0 0 h
