set_option maxHeartbeats 4000000 in
set_option maxRecDepth 100000 in
theorem S_J7_rangeCheck_23922 (l : Launch) (G : zG) (v0 : Int) (v1 : Int) (v2 : Int) (M : zMem) (Qr : zMem → Prop) (h : T_J7_rangeCheck_23922 v0 v1 v2 Qr M) : zMetV l yJ7_rangeCheck_23922 cJ7_rangeCheck_23922 3 none 0 0 0 0 G [.inl v0, .inl v1, .inl v2] M Qr := by
  refine zmetV (by decide) (Nat.le_of_ble_eq_true rfl) [some (.inl v0), some (.inl v1), some (.inl v2)] rfl ?_
  intro p e s m args below meth c hc hr hlk
  unfold T_J7_rangeCheck_23922 at h
  refine zj_iload_n (pc := 0) hc dJ7_rangeCheck_23922_0 rfl ?_
  refine zj_iload_n (pc := 1) hc dJ7_rangeCheck_23922_1 rfl ?_
  refine zj_icmp_le (pc := 2) (tgt := 46) hc dJ7_rangeCheck_23922_2 (by decide) (fun hx1 => ?_) (fun hx1 => ?_)
  · have h := h.1 hx1
    refine zj_iload_n (pc := 46) hc dJ7_rangeCheck_23922_46 rfl ?_
    refine zj_if_ge (pc := 47) (tgt := 59) hc dJ7_rangeCheck_23922_47 (by decide) (fun hx2 => ?_) (fun hx2 => ?_)
    · have h := h.1 hx2
      refine zj_iload_n (pc := 59) hc dJ7_rangeCheck_23922_59 rfl ?_
      refine zj_iload_n (pc := 60) hc dJ7_rangeCheck_23922_60 rfl ?_
      refine zj_icmp_le (pc := 61) (tgt := 73) hc dJ7_rangeCheck_23922_61 (by decide) (fun hx3 => ?_) (fun hx3 => ?_)
      · have h := h.1 hx3
        exact zj_vret (pc := 73) hc hr hlk dJ7_rangeCheck_23922_73 (by decide) (by decide) h
      · have h := h.2 hx3
        exact h.elim
    · have h := h.2 hx2
      exact h.elim
  · have h := h.2 hx1
    exact h.elim
set_option maxHeartbeats 4000000 in
set_option maxRecDepth 100000 in
theorem S_J7_fill_53178 (l : Launch) (G : zG) (r0 : Nat) (v1 : Int) (M : zMem) (Qr : zMem → Prop) (h : T_J7_fill_53178 r0 v1 Qr M) : zMetV l yJ7_fill_53178 cJ7_fill_53178 4 none 0 0 0 0 G [.inr r0, .inl v1] M Qr := by
  refine zmetV (by decide) (Nat.le_of_ble_eq_true rfl) [some (.inr r0), some (.inl v1), none, none] rfl ?_
  intro p e s m args below meth c hc hr hlk
  have k5 : ∀ (M : zMem) (r0 : Nat) (v1 : Int) (v3 : Int) (v2 : Int), T_J7_fill_53178_5 r0 v1 v3 Qr v2 M → zJ p l e (zRoom 0 0 0 0) s m args below meth c G 4 0 0 (MQ below (zQv G (Qr)) args s 0 0 (zA G)) 5 [some (.inr r0), some (.inl v1), some (.inl v2), some (.inl v3)] [] M := by
    intro M r0 v1 v3 v2 h
    unfold T_J7_fill_53178_5 at h
    refine zl1_use h (fun v2 M => zJ p l e (zRoom 0 0 0 0) s m args below meth c G 4 0 0 (MQ below (zQv G (Qr)) args s 0 0 (zA G)) 5 [some (.inr r0), some (.inl v1), some (.inl v2), some (.inl v3)] [] M) (fun X5 hX5 v2 M h => ?_)
    refine zj_iload_n (pc := 5) hc dJ7_fill_53178_5 rfl ?_
    refine zj_iload_n (pc := 6) hc dJ7_fill_53178_6 rfl ?_
    refine zj_icmp_ge (pc := 7) (tgt := 20) hc dJ7_fill_53178_7 (by decide) (fun hx1 => ?_) (fun hx1 => ?_)
    · have h := h.1 hx1
      exact zj_vret (pc := 20) hc hr hlk dJ7_fill_53178_20 (by decide) (by decide) h
    · have h := h.2 hx1
      refine zj_aload_n (pc := 10) hc dJ7_fill_53178_10 rfl ?_
      refine zj_iload_n (pc := 11) hc dJ7_fill_53178_11 rfl ?_
      refine zj_iload_n (pc := 12) hc dJ7_fill_53178_12 rfl ?_
      refine zj_iast (pc := 13) hc dJ7_fill_53178_13 rfl h.1 (fun M2 hM2 => ?_)
      have h := h.2 M2 hM2
      refine zj_iinc (pc := 14) hc dJ7_fill_53178_14 rfl (by decide) h.1 ?_
      have h := h.2
      refine zj_goto (pc := 17) (tgt := 5) hc dJ7_fill_53178_17 (by decide) ?_
      exact hX5 (v2 + 1) M2 h
  unfold T_J7_fill_53178 at h
  refine zj_iconst (pc := 0) hc dJ7_fill_53178_0 (zin _ rfl) ?_
  refine zj_istore_n (pc := 1) hc dJ7_fill_53178_1 (by decide) ?_
  refine zj_aload_n (pc := 2) hc dJ7_fill_53178_2 rfl ?_
  refine zj_alen (pc := 3) hc dJ7_fill_53178_3 rfl h.1 ?_
  have h := h.2
  refine zj_istore_n (pc := 4) hc dJ7_fill_53178_4 (by decide) ?_
  exact k5 M r0 v1 (alen r0) 0 h
set_option maxHeartbeats 4000000 in
set_option maxRecDepth 100000 in
theorem S_J7_fill_fda19 (l : Launch) (G : zG) (r0 : Nat) (v1 : Int) (v2 : Int) (v3 : Int) (M : zMem) (Qr : zMem → Prop) (h : T_J7_fill_fda19 r0 v1 v2 v3 Qr M) : zMetV l yJ7_fill_fda19 cJ7_fill_fda19 5 none 1 22 0 0 G [.inr r0, .inl v1, .inl v2, .inl v3] M Qr := by
  refine zmetV (by decide) (Nat.le_of_ble_eq_true rfl) [some (.inr r0), some (.inl v1), some (.inl v2), some (.inl v3), none] rfl ?_
  intro p e s m args below meth c hc hr hlk
  have k10 : ∀ (M : zMem) (r0 : Nat) (v2 : Int) (v3 : Int) (v4 : Int), T_J7_fill_fda19_10 r0 v2 v3 Qr v4 M → zJ p l e (zRoom 1 22 0 0) s m args below meth c G 5 0 0 (MQ below (zQv G (Qr)) args s 0 0 (zA G)) 10 [some (.inr r0), none, some (.inl v2), some (.inl v3), some (.inl v4)] [] M := by
    intro M r0 v2 v3 v4 h
    unfold T_J7_fill_fda19_10 at h
    refine zl1_use h (fun v4 M => zJ p l e (zRoom 1 22 0 0) s m args below meth c G 5 0 0 (MQ below (zQv G (Qr)) args s 0 0 (zA G)) 10 [some (.inr r0), none, some (.inl v2), some (.inl v3), some (.inl v4)] [] M) (fun X10 hX10 v4 M h => ?_)
    refine zj_iload (pc := 10) hc dJ7_fill_fda19_10 rfl ?_
    refine zj_iload_n (pc := 12) hc dJ7_fill_fda19_12 rfl ?_
    refine zj_icmp_ge (pc := 13) (tgt := 27) hc dJ7_fill_fda19_13 (by decide) (fun hx1 => ?_) (fun hx1 => ?_)
    · have h := h.1 hx1
      exact zj_vret (pc := 27) hc hr hlk dJ7_fill_fda19_27 (by decide) (by decide) h
    · have h := h.2 hx1
      refine zj_aload_n (pc := 16) hc dJ7_fill_fda19_16 rfl ?_
      refine zj_iload (pc := 17) hc dJ7_fill_fda19_17 rfl ?_
      refine zj_iload_n (pc := 19) hc dJ7_fill_fda19_19 rfl ?_
      refine zj_iast (pc := 20) hc dJ7_fill_fda19_20 rfl h.1 (fun M2 hM2 => ?_)
      have h := h.2 M2 hM2
      refine zj_iinc (pc := 21) hc dJ7_fill_fda19_21 rfl (by decide) h.1 ?_
      have h := h.2
      refine zj_goto (pc := 24) (tgt := 10) hc dJ7_fill_fda19_24 (by decide) ?_
      exact hX10 (v4 + 1) M2 h
  unfold T_J7_fill_fda19 at h
  refine zj_aload_n (pc := 0) hc dJ7_fill_fda19_0 rfl ?_
  refine zj_alen (pc := 1) hc dJ7_fill_fda19_1 rfl h.1 ?_
  have h := h.2
  refine zj_iload_n (pc := 2) hc dJ7_fill_fda19_2 rfl ?_
  refine zj_iload_n (pc := 3) hc dJ7_fill_fda19_3 rfl ?_
  refine zj_stv (pc := 4) (st := []) hc ks_J7_rangeCheck_23922 st_J7_rangeCheck_23922 lk_J7_13 (S_J7_rangeCheck_23922 l G (alen r0) v1 v2 M _ h) rfl ⟨Nat.le_of_ble_eq_true rfl, Nat.le_of_ble_eq_true rfl⟩ (Nat.le_of_ble_eq_true rfl) ⟨Nat.le_of_ble_eq_true rfl, Nat.le_of_ble_eq_true rfl⟩ dJ7_fill_fda19_4 rfl (fun M3 h => ?_)
  refine zj_iload_n (pc := 7) hc dJ7_fill_fda19_7 rfl ?_
  refine zj_istore (pc := 8) hc dJ7_fill_fda19_8 (by decide) ?_
  refine zj_mask (bs := [true, false, true, true, true]) ?_
  exact k10 M3 r0 v2 v3 v1 h
set_option maxHeartbeats 4000000 in
set_option maxRecDepth 100000 in
theorem S_X2_kindOf (l : Launch) (G : zG) (v0 : Int) (M : zMem) (Qr : Int → Prop) (h : T_X2_kindOf v0 Qr M) : zMetI l yX2_kindOf cX2_kindOf 1 (some .int) 0 0 0 0 G [.inl v0] M (fun r9 M9 => M = M9 ∧ Qr r9) := by
  refine zmetI (by decide) (Nat.le_of_ble_eq_true rfl) [some (.inl v0)] rfl ?_
  intro p e s m args below meth c hc hr hlk
  unfold T_X2_kindOf at h
  refine zj_iload_n (pc := 0) hc dX2_kindOf_0 rfl ?_
  refine zj_iconst (pc := 1) hc dX2_kindOf_1 (zin _ rfl) ?_
  refine zj_ishr (pc := 2) hc dX2_kindOf_2 ?_
  exact zj_iret (pc := 3) hc hr hlk dX2_kindOf_3 (by decide) (by decide) ⟨rfl, h⟩
set_option maxHeartbeats 4000000 in
set_option maxRecDepth 100000 in
theorem S_X2_numberOf (l : Launch) (G : zG) (v0 : Int) (M : zMem) (Qr : Int → Prop) (h : T_X2_numberOf v0 Qr M) : zMetI l yX2_numberOf cX2_numberOf 1 (some .int) 0 0 0 0 G [.inl v0] M (fun r9 M9 => M = M9 ∧ Qr r9) := by
  refine zmetI (by decide) (Nat.le_of_ble_eq_true rfl) [some (.inl v0)] rfl ?_
  intro p e s m args below meth c hc hr hlk
  unfold T_X2_numberOf at h
  refine zj_iload_n (pc := 0) hc dX2_numberOf_0 rfl ?_
  refine zj_bipush (pc := 1) hc dX2_numberOf_1 (by decide) (zin _ rfl) ?_
  refine zj_iand (pc := 3) hc dX2_numberOf_3 ?_
  exact zj_iret (pc := 4) hc hr hlk dX2_numberOf_4 (by decide) (by decide) ⟨rfl, h⟩
set_option maxHeartbeats 4000000 in
set_option maxRecDepth 100000 in
theorem S_X2_sizeBy (l : Launch) (G : zG) (v0 : Int) (M : zMem) (Qr : Int → Prop) (h : T_X2_sizeBy v0 Qr M) : zMetI l yX2_sizeBy cX2_sizeBy 2 (some .int) 1 20 0 0 G [.inl v0] M (fun r9 M9 => M = M9 ∧ Qr r9) := by
  refine zmetI (by decide) (Nat.le_of_ble_eq_true rfl) [some (.inl v0), none] rfl ?_
  intro p e s m args below meth c hc hr hlk
  unfold T_X2_sizeBy at h
  refine zj_iload_n (pc := 0) hc dX2_sizeBy_0 rfl ?_
  refine zj_sti (pc := 1) (st := []) hc ks_X2_numberOf st_X2_numberOf lk_X2_9 (S_X2_numberOf l G v0 M _ h) rfl ⟨Nat.le_of_ble_eq_true rfl, Nat.le_of_ble_eq_true rfl⟩ (Nat.le_of_ble_eq_true rfl) ⟨Nat.le_of_ble_eq_true rfl, Nat.le_of_ble_eq_true rfl⟩ dX2_sizeBy_1 rfl (fun y1 M9 h => ?_)
  obtain ⟨hM9, h⟩ := h
  subst hM9
  refine zj_istore_n (pc := 4) hc dX2_sizeBy_4 (by decide) ?_
  refine zj_iload_n (pc := 5) hc dX2_sizeBy_5 rfl ?_
  refine zj_sti (pc := 6) (st := []) hc ks_X2_kindOf st_X2_kindOf lk_X2_15 (S_X2_kindOf l G v0 M _ h) rfl ⟨Nat.le_of_ble_eq_true rfl, Nat.le_of_ble_eq_true rfl⟩ (Nat.le_of_ble_eq_true rfl) ⟨Nat.le_of_ble_eq_true rfl, Nat.le_of_ble_eq_true rfl⟩ dX2_sizeBy_6 rfl (fun y2 M9 h => ?_)
  obtain ⟨hM9, h⟩ := h
  subst hM9
  by_cases hx3 : y2 < 1 ∨ 4 < y2
  · have h := h.2.2.2.2 hx3
    refine zj_tableOut (pc := 9) (tgt := 95) hc dX2_sizeBy_9 hx3 (by decide) ?_
    refine zj_iconst (pc := 95) hc dX2_sizeBy_95 (zin _ rfl) ?_
    exact zj_iret (pc := 96) hc hr hlk dX2_sizeBy_96 (by decide) (by decide) ⟨rfl, h⟩
  · have hx3 : y2 = 1 ∨ y2 = 2 ∨ y2 = 3 ∨ y2 = 4 := by clear h; omega
    rcases hx3 with hx3 | hx3 | hx3 | hx3
    · have h := h.1 hx3
      refine zj_tableIn (pc := 9) (tgt := 40) (off := 31) hc dX2_sizeBy_9 (by rw [hx3]; decide) (by rw [hx3]; rfl) (by decide) ?_
      refine zj_iload_n (pc := 40) hc dX2_sizeBy_40 rfl ?_
      refine zj_bipush (pc := 41) hc dX2_sizeBy_41 (by decide) (zin _ rfl) ?_
      refine zj_icmp_gt (pc := 43) (tgt := 52) hc dX2_sizeBy_43 (by decide) (fun hx4 => ?_) (fun hx4 => ?_)
      · have h := h.1 hx4
        refine zj_iconst (pc := 52) hc dX2_sizeBy_52 (zin _ rfl) ?_
        exact zj_iret (pc := 53) hc hr hlk dX2_sizeBy_53 (by decide) (by decide) ⟨rfl, h⟩
      · have h := h.2 hx4
        refine zj_iconst (pc := 46) hc dX2_sizeBy_46 (zin _ rfl) ?_
        refine zj_iload_n (pc := 47) hc dX2_sizeBy_47 rfl ?_
        refine zj_iadd (pc := 48) hc dX2_sizeBy_48 h.1 ?_
        have h := h.2
        refine zj_goto (pc := 49) (tgt := 53) hc dX2_sizeBy_49 (by decide) ?_
        exact zj_iret (pc := 53) hc hr hlk dX2_sizeBy_53 (by decide) (by decide) ⟨rfl, h⟩
    · have h := h.2.1 hx3
      refine zj_tableIn (pc := 9) (tgt := 54) (off := 45) hc dX2_sizeBy_9 (by rw [hx3]; decide) (by rw [hx3]; rfl) (by decide) ?_
      refine zj_iload_n (pc := 54) hc dX2_sizeBy_54 rfl ?_
      refine zj_if_ne (pc := 55) (tgt := 62) hc dX2_sizeBy_55 (by decide) (fun hx5 => ?_) (fun hx5 => ?_)
      · have h := h.1 hx5
        refine zj_iconst (pc := 62) hc dX2_sizeBy_62 (zin _ rfl) ?_
        exact zj_iret (pc := 63) hc hr hlk dX2_sizeBy_63 (by decide) (by decide) ⟨rfl, h⟩
      · have h := h.2 hx5
        refine zj_iconst (pc := 58) hc dX2_sizeBy_58 (zin _ rfl) ?_
        refine zj_goto (pc := 59) (tgt := 63) hc dX2_sizeBy_59 (by decide) ?_
        exact zj_iret (pc := 63) hc hr hlk dX2_sizeBy_63 (by decide) (by decide) ⟨rfl, h⟩
    · have h := h.2.2.1 hx3
      refine zj_tableIn (pc := 9) (tgt := 64) (off := 55) hc dX2_sizeBy_9 (by rw [hx3]; decide) (by rw [hx3]; rfl) (by decide) ?_
      refine zj_iload_n (pc := 64) hc dX2_sizeBy_64 rfl ?_
      refine zj_bipush (pc := 65) hc dX2_sizeBy_65 (by decide) (zin _ rfl) ?_
      refine zj_icmp_ge (pc := 67) (tgt := 74) hc dX2_sizeBy_67 (by decide) (fun hx6 => ?_) (fun hx6 => ?_)
      · have h := h.1 hx6
        refine zj_iconst (pc := 74) hc dX2_sizeBy_74 (zin _ rfl) ?_
        exact zj_iret (pc := 75) hc hr hlk dX2_sizeBy_75 (by decide) (by decide) ⟨rfl, h⟩
      · have h := h.2 hx6
        refine zj_iconst (pc := 70) hc dX2_sizeBy_70 (zin _ rfl) ?_
        refine zj_goto (pc := 71) (tgt := 75) hc dX2_sizeBy_71 (by decide) ?_
        exact zj_iret (pc := 75) hc hr hlk dX2_sizeBy_75 (by decide) (by decide) ⟨rfl, h⟩
    · have h := h.2.2.2.1 hx3
      refine zj_tableIn (pc := 9) (tgt := 76) (off := 67) hc dX2_sizeBy_9 (by rw [hx3]; decide) (by rw [hx3]; rfl) (by decide) ?_
      refine zj_iload_n (pc := 76) hc dX2_sizeBy_76 rfl ?_
      refine zj_iconst (pc := 77) hc dX2_sizeBy_77 (zin _ rfl) ?_
      refine zj_icmp_lt (pc := 78) (tgt := 93) hc dX2_sizeBy_78 (by decide) (fun hx7 => ?_) (fun hx7 => ?_)
      · have h := h.1 hx7
        refine zj_iconst (pc := 93) hc dX2_sizeBy_93 (zin _ rfl) ?_
        exact zj_iret (pc := 94) hc hr hlk dX2_sizeBy_94 (by decide) (by decide) ⟨rfl, h⟩
      · have h := h.2 hx7
        refine zj_iload_n (pc := 81) hc dX2_sizeBy_81 rfl ?_
        refine zj_bipush (pc := 82) hc dX2_sizeBy_82 (by decide) (zin _ rfl) ?_
        refine zj_icmp_gt (pc := 84) (tgt := 93) hc dX2_sizeBy_84 (by decide) (fun hx8 => ?_) (fun hx8 => ?_)
        · have h := h.1 hx8
          refine zj_iconst (pc := 93) hc dX2_sizeBy_93 (zin _ rfl) ?_
          exact zj_iret (pc := 94) hc hr hlk dX2_sizeBy_94 (by decide) (by decide) ⟨rfl, h⟩
        · have h := h.2 hx8
          refine zj_iconst (pc := 87) hc dX2_sizeBy_87 (zin _ rfl) ?_
          refine zj_iload_n (pc := 88) hc dX2_sizeBy_88 rfl ?_
          refine zj_iadd (pc := 89) hc dX2_sizeBy_89 h.1 ?_
          have h := h.2
          refine zj_goto (pc := 90) (tgt := 94) hc dX2_sizeBy_90 (by decide) ?_
          exact zj_iret (pc := 94) hc hr hlk dX2_sizeBy_94 (by decide) (by decide) ⟨rfl, h⟩
set_option maxHeartbeats 4000000 in
set_option maxRecDepth 100000 in
theorem S_X2_sizeAt (l : Launch) (G : zG) (r0 : Nat) (v1 : Int) (v2 : Int) (M : zMem) (Qr : Int → Prop) (h : T_X2_sizeAt r0 v1 v2 Qr M) : zMetI l yX2_sizeAt cX2_sizeAt 4 (some .int) 2 41 0 0 G [.inr r0, .inl v1, .inl v2] M (fun r9 M9 => M = M9 ∧ Qr r9) := by
  refine zmetI (by decide) (Nat.le_of_ble_eq_true rfl) [some (.inr r0), some (.inl v1), some (.inl v2), none] rfl ?_
  intro p e s m args below meth c hc hr hlk
  unfold T_X2_sizeAt at h
  refine zj_iload_n (pc := 0) hc dX2_sizeAt_0 rfl ?_
  refine zj_if_lt (pc := 1) (tgt := 15) hc dX2_sizeAt_1 (by decide) (fun hx1 => ?_) (fun hx1 => ?_)
  · have h := h.1 hx1
    refine zj_iconst (pc := 15) hc dX2_sizeAt_15 (zin _ rfl) ?_
    exact zj_iret (pc := 16) hc hr hlk dX2_sizeAt_16 (by decide) (by decide) ⟨rfl, h⟩
  · have h := h.2 hx1
    refine zj_iload_n (pc := 4) hc dX2_sizeAt_4 rfl ?_
    refine zj_iload_n (pc := 5) hc dX2_sizeAt_5 rfl ?_
    refine zj_icmp_ge (pc := 6) (tgt := 15) hc dX2_sizeAt_6 (by decide) (fun hx2 => ?_) (fun hx2 => ?_)
    · have h := h.1 hx2
      refine zj_iconst (pc := 15) hc dX2_sizeAt_15 (zin _ rfl) ?_
      exact zj_iret (pc := 16) hc hr hlk dX2_sizeAt_16 (by decide) (by decide) ⟨rfl, h⟩
    · have h := h.2 hx2
      refine zj_iload_n (pc := 9) hc dX2_sizeAt_9 rfl ?_
      refine zj_aload_n (pc := 10) hc dX2_sizeAt_10 rfl ?_
      refine zj_alen (pc := 11) hc dX2_sizeAt_11 rfl h.1 ?_
      have h := h.2
      refine zj_icmp_le (pc := 12) (tgt := 17) hc dX2_sizeAt_12 (by decide) (fun hx3 => ?_) (fun hx3 => ?_)
      · have h := h.1 hx3
        refine zj_aload_n (pc := 17) hc dX2_sizeAt_17 rfl ?_
        refine zj_iload_n (pc := 18) hc dX2_sizeAt_18 rfl ?_
        refine zj_iald (pc := 19) hc dX2_sizeAt_19 rfl h.1 ?_
        have h := h.2
        refine zj_sti (pc := 20) (st := []) hc ks_X2_sizeBy st_X2_sizeBy lk_X2_18 (S_X2_sizeBy l G (M.2 r0 v1) M _ h) rfl ⟨Nat.le_of_ble_eq_true rfl, Nat.le_of_ble_eq_true rfl⟩ (Nat.le_of_ble_eq_true rfl) ⟨Nat.le_of_ble_eq_true rfl, Nat.le_of_ble_eq_true rfl⟩ dX2_sizeAt_20 rfl (fun y4 M9 h => ?_)
        obtain ⟨hM9, h⟩ := h
        subst hM9
        refine zj_istore_n (pc := 23) hc dX2_sizeAt_23 (by decide) ?_
        refine zj_iload_n (pc := 24) hc dX2_sizeAt_24 rfl ?_
        refine zj_iload_n (pc := 25) hc dX2_sizeAt_25 rfl ?_
        refine zj_iadd (pc := 26) hc dX2_sizeAt_26 h.1 ?_
        have h := h.2
        refine zj_iload_n (pc := 27) hc dX2_sizeAt_27 rfl ?_
        refine zj_icmp_gt (pc := 28) (tgt := 35) hc dX2_sizeAt_28 (by decide) (fun hx5 => ?_) (fun hx5 => ?_)
        · have h := h.1 hx5
          refine zj_iconst (pc := 35) hc dX2_sizeAt_35 (zin _ rfl) ?_
          exact zj_iret (pc := 36) hc hr hlk dX2_sizeAt_36 (by decide) (by decide) ⟨rfl, h⟩
        · have h := h.2 hx5
          refine zj_iload_n (pc := 31) hc dX2_sizeAt_31 rfl ?_
          refine zj_goto (pc := 32) (tgt := 36) hc dX2_sizeAt_32 (by decide) ?_
          exact zj_iret (pc := 36) hc hr hlk dX2_sizeAt_36 (by decide) (by decide) ⟨rfl, h⟩
      · have h := h.2 hx3
        refine zj_iconst (pc := 15) hc dX2_sizeAt_15 (zin _ rfl) ?_
        exact zj_iret (pc := 16) hc hr hlk dX2_sizeAt_16 (by decide) (by decide) ⟨rfl, h⟩
set_option maxHeartbeats 4000000 in
set_option maxRecDepth 100000 in
theorem S_X4_inUse (l : Launch) (G : zG) (r0 : Nat) (M : zMem) (Qr : Int → Prop) (h : T_X4_inUse r0 Qr M) : zMetI l yX4_inUse cX4_inUse 2 (some .int) 0 0 0 0 G [.inr r0] M (fun r9 M9 => M = M9 ∧ Qr r9) := by
  refine zmetI (by decide) (Nat.le_of_ble_eq_true rfl) [some (.inr r0), none] rfl ?_
  intro p e s m args below meth c hc hr hlk
  unfold T_X4_inUse at h
  refine zj_aload_n (pc := 0) hc dX4_inUse_0 rfl ?_
  refine zj_sipush (pc := 1) hc dX4_inUse_1 (by decide) (zin _ rfl) ?_
  refine zj_iald (pc := 4) hc dX4_inUse_4 rfl h.1 ?_
  have h := h.2
  refine zj_istore_n (pc := 5) hc dX4_inUse_5 (by decide) ?_
  refine zj_iload_n (pc := 6) hc dX4_inUse_6 rfl ?_
  refine zj_if_lt (pc := 7) (tgt := 20) hc dX4_inUse_7 (by decide) (fun hx1 => ?_) (fun hx1 => ?_)
  · have h := h.1 hx1
    refine zj_iconst (pc := 20) hc dX4_inUse_20 (zin _ rfl) ?_
    exact zj_iret (pc := 21) hc hr hlk dX4_inUse_21 (by decide) (by decide) ⟨rfl, h⟩
  · have h := h.2 hx1
    refine zj_iload_n (pc := 10) hc dX4_inUse_10 rfl ?_
    refine zj_bipush (pc := 11) hc dX4_inUse_11 (by decide) (zin _ rfl) ?_
    refine zj_icmp_gt (pc := 13) (tgt := 20) hc dX4_inUse_13 (by decide) (fun hx2 => ?_) (fun hx2 => ?_)
    · have h := h.1 hx2
      refine zj_iconst (pc := 20) hc dX4_inUse_20 (zin _ rfl) ?_
      exact zj_iret (pc := 21) hc hr hlk dX4_inUse_21 (by decide) (by decide) ⟨rfl, h⟩
    · have h := h.2 hx2
      refine zj_iload_n (pc := 16) hc dX4_inUse_16 rfl ?_
      refine zj_goto (pc := 17) (tgt := 21) hc dX4_inUse_17 (by decide) ?_
      exact zj_iret (pc := 21) hc hr hlk dX4_inUse_21 (by decide) (by decide) ⟨rfl, h⟩
set_option maxHeartbeats 4000000 in
set_option maxRecDepth 100000 in
theorem S_X4_pageAt (l : Launch) (G : zG) (r0 : Nat) (v1 : Int) (M : zMem) (Qr : Int → Prop) (h : T_X4_pageAt r0 v1 Qr M) : zMetI l yX4_pageAt cX4_pageAt 3 (some .int) 0 0 0 0 G [.inr r0, .inl v1] M (fun r9 M9 => M = M9 ∧ Qr r9) := by
  refine zmetI (by decide) (Nat.le_of_ble_eq_true rfl) [some (.inr r0), some (.inl v1), none] rfl ?_
  intro p e s m args below meth c hc hr hlk
  have k23 : ∀ (s0 : Int), T_X4_pageAt_23 s0 Qr M → zJ p l e (zRoom 0 0 0 0) s m args below meth c G 3 0 0 (MQ below (zQi G (fun r9 M9 => M = M9 ∧ Qr r9)) args s 0 0 (zA G)) 23 [none, none, none] [.inl s0] M := by
    intro s0 h
    unfold T_X4_pageAt_23 at h
    refine zj_istore_n (pc := 23) hc dX4_pageAt_23 (by decide) ?_
    refine zj_iload_n (pc := 24) hc dX4_pageAt_24 rfl ?_
    refine zj_if_lt (pc := 25) (tgt := 38) hc dX4_pageAt_25 (by decide) (fun hx1 => ?_) (fun hx1 => ?_)
    · have h := h.1 hx1
      refine zj_iconst (pc := 38) hc dX4_pageAt_38 (zin _ rfl) ?_
      exact zj_iret (pc := 39) hc hr hlk dX4_pageAt_39 (by decide) (by decide) ⟨rfl, h⟩
    · have h := h.2 hx1
      refine zj_iload_n (pc := 28) hc dX4_pageAt_28 rfl ?_
      refine zj_bipush (pc := 29) hc dX4_pageAt_29 (by decide) (zin _ rfl) ?_
      refine zj_icmp_ge (pc := 31) (tgt := 38) hc dX4_pageAt_31 (by decide) (fun hx2 => ?_) (fun hx2 => ?_)
      · have h := h.1 hx2
        refine zj_iconst (pc := 38) hc dX4_pageAt_38 (zin _ rfl) ?_
        exact zj_iret (pc := 39) hc hr hlk dX4_pageAt_39 (by decide) (by decide) ⟨rfl, h⟩
      · have h := h.2 hx2
        refine zj_iload_n (pc := 34) hc dX4_pageAt_34 rfl ?_
        refine zj_goto (pc := 35) (tgt := 39) hc dX4_pageAt_35 (by decide) ?_
        exact zj_iret (pc := 39) hc hr hlk dX4_pageAt_39 (by decide) (by decide) ⟨rfl, h⟩
  have k22 : T_X4_pageAt_22 Qr M → zJ p l e (zRoom 0 0 0 0) s m args below meth c G 3 0 0 (MQ below (zQi G (fun r9 M9 => M = M9 ∧ Qr r9)) args s 0 0 (zA G)) 22 [none, none, none] [] M := by
    intro h
    unfold T_X4_pageAt_22 at h
    refine zj_iconst (pc := 22) hc dX4_pageAt_22 (zin _ rfl) ?_
    exact k23 0 h
  unfold T_X4_pageAt at h
  refine zj_iload_n (pc := 0) hc dX4_pageAt_0 rfl ?_
  refine zj_if_lt (pc := 1) (tgt := 22) hc dX4_pageAt_1 (by decide) (fun hx3 => ?_) (fun hx3 => ?_)
  · have h := h.1 hx3
    refine zj_mask (bs := [false, false, true]) ?_
    exact k22 h
  · have h := h.2 hx3
    refine zj_iload_n (pc := 4) hc dX4_pageAt_4 rfl ?_
    refine zj_bipush (pc := 5) hc dX4_pageAt_5 (by decide) (zin _ rfl) ?_
    refine zj_icmp_ge (pc := 7) (tgt := 22) hc dX4_pageAt_7 (by decide) (fun hx4 => ?_) (fun hx4 => ?_)
    · have h := h.1 hx4
      refine zj_mask (bs := [false, false, true]) ?_
      exact k22 h
    · have h := h.2 hx4
      refine zj_aload_n (pc := 10) hc dX4_pageAt_10 rfl ?_
      refine zj_sipush (pc := 11) hc dX4_pageAt_11 (by decide) (zin _ rfl) ?_
      refine zj_iconst (pc := 14) hc dX4_pageAt_14 (zin _ rfl) ?_
      refine zj_iload_n (pc := 15) hc dX4_pageAt_15 rfl ?_
      refine zj_imul (pc := 16) hc dX4_pageAt_16 h.1 ?_
      have h := h.2
      refine zj_iadd (pc := 17) hc dX4_pageAt_17 h.1 ?_
      have h := h.2
      refine zj_iald (pc := 18) hc dX4_pageAt_18 rfl h.1 ?_
      have h := h.2
      refine zj_goto (pc := 19) (tgt := 23) hc dX4_pageAt_19 (by decide) ?_
      refine zj_mask (bs := [false, false, true]) ?_
      exact k23 (M.2 r0 (641 + (2 * v1))) h
set_option maxHeartbeats 4000000 in
set_option maxRecDepth 100000 in
theorem S_X4_fenceAt (l : Launch) (G : zG) (r0 : Nat) (v1 : Int) (M : zMem) (Qr : Int → Prop) (h : T_X4_fenceAt r0 v1 Qr M) : zMetI l yX4_fenceAt cX4_fenceAt 2 (some .int) 0 0 0 0 G [.inr r0, .inl v1] M (fun r9 M9 => M = M9 ∧ Qr r9) := by
  refine zmetI (by decide) (Nat.le_of_ble_eq_true rfl) [some (.inr r0), some (.inl v1)] rfl ?_
  intro p e s m args below meth c hc hr hlk
  unfold T_X4_fenceAt at h
  refine zj_iload_n (pc := 0) hc dX4_fenceAt_0 rfl ?_
  refine zj_if_lt (pc := 1) (tgt := 22) hc dX4_fenceAt_1 (by decide) (fun hx1 => ?_) (fun hx1 => ?_)
  · have h := h.1 hx1
    refine zj_iconst (pc := 22) hc dX4_fenceAt_22 (zin _ rfl) ?_
    exact zj_iret (pc := 23) hc hr hlk dX4_fenceAt_23 (by decide) (by decide) ⟨rfl, h⟩
  · have h := h.2 hx1
    refine zj_iload_n (pc := 4) hc dX4_fenceAt_4 rfl ?_
    refine zj_bipush (pc := 5) hc dX4_fenceAt_5 (by decide) (zin _ rfl) ?_
    refine zj_icmp_ge (pc := 7) (tgt := 22) hc dX4_fenceAt_7 (by decide) (fun hx2 => ?_) (fun hx2 => ?_)
    · have h := h.1 hx2
      refine zj_iconst (pc := 22) hc dX4_fenceAt_22 (zin _ rfl) ?_
      exact zj_iret (pc := 23) hc hr hlk dX4_fenceAt_23 (by decide) (by decide) ⟨rfl, h⟩
    · have h := h.2 hx2
      refine zj_aload_n (pc := 10) hc dX4_fenceAt_10 rfl ?_
      refine zj_sipush (pc := 11) hc dX4_fenceAt_11 (by decide) (zin _ rfl) ?_
      refine zj_iconst (pc := 14) hc dX4_fenceAt_14 (zin _ rfl) ?_
      refine zj_iload_n (pc := 15) hc dX4_fenceAt_15 rfl ?_
      refine zj_imul (pc := 16) hc dX4_fenceAt_16 h.1 ?_
      have h := h.2
      refine zj_iadd (pc := 17) hc dX4_fenceAt_17 h.1 ?_
      have h := h.2
      refine zj_iald (pc := 18) hc dX4_fenceAt_18 rfl h.1 ?_
      have h := h.2
      refine zj_goto (pc := 19) (tgt := 23) hc dX4_fenceAt_19 (by decide) ?_
      exact zj_iret (pc := 23) hc hr hlk dX4_fenceAt_23 (by decide) (by decide) ⟨rfl, h⟩
set_option maxHeartbeats 4000000 in
set_option maxRecDepth 100000 in
theorem S_X4_orderFor (l : Launch) (G : zG) (r0 : Nat) (v1 : Int) (M : zMem) (Qr : Int → Prop) (h : T_X4_orderFor r0 v1 Qr M) : zMetI l yX4_orderFor cX4_orderFor 5 (some .int) 1 21 0 0 G [.inr r0, .inl v1] M (fun r9 M9 => M = M9 ∧ Qr r9) := by
  refine zmetI (by decide) (Nat.le_of_ble_eq_true rfl) [some (.inr r0), some (.inl v1), none, none, none] rfl ?_
  intro p e s m args below meth c hc hr hlk
  have k29 : ∀ (r0 : Nat) (v1 : Int) (v2 : Int) (v3 : Int) (v4 : Int) (X10 : Int → Int → Prop) (hX10 : ∀ (v2 : Int) (v4 : Int), X10 v2 v4 → zJ p l e (zRoom 1 21 0 0) s m args below meth c G 5 0 0 (MQ below (zQi G (fun r9 M9 => M = M9 ∧ Qr r9)) args s 0 0 (zA G)) 10 [some (.inr r0), some (.inl v1), some (.inl v2), some (.inl v3), some (.inl v4)] [] M), T_X4_orderFor_29 r0 v1 v2 v3 v4 X10 Qr M → zJ p l e (zRoom 1 21 0 0) s m args below meth c G 5 0 0 (MQ below (zQi G (fun r9 M9 => M = M9 ∧ Qr r9)) args s 0 0 (zA G)) 29 [some (.inr r0), some (.inl v1), some (.inl v2), some (.inl v3), some (.inl v4)] [] M := by
    intro r0 v1 v2 v3 v4 X10 hX10 h
    unfold T_X4_orderFor_29 at h
    refine zj_iinc (pc := 29) hc dX4_orderFor_29 rfl (by decide) h.1 ?_
    have h := h.2
    refine zj_goto (pc := 32) (tgt := 10) hc dX4_orderFor_32 (by decide) ?_
    exact hX10 v2 (v4 + 1) h
  have k10 : ∀ (r0 : Nat) (v1 : Int) (v3 : Int) (v2 : Int) (v4 : Int), T_X4_orderFor_10 r0 v1 v3 Qr v2 v4 M → zJ p l e (zRoom 1 21 0 0) s m args below meth c G 5 0 0 (MQ below (zQi G (fun r9 M9 => M = M9 ∧ Qr r9)) args s 0 0 (zA G)) 10 [some (.inr r0), some (.inl v1), some (.inl v2), some (.inl v3), some (.inl v4)] [] M := by
    intro r0 v1 v3 v2 v4 h
    unfold T_X4_orderFor_10 at h
    refine zp2_use h (fun v2 v4 => zJ p l e (zRoom 1 21 0 0) s m args below meth c G 5 0 0 (MQ below (zQi G (fun r9 M9 => M = M9 ∧ Qr r9)) args s 0 0 (zA G)) 10 [some (.inr r0), some (.inl v1), some (.inl v2), some (.inl v3), some (.inl v4)] [] M) (fun X10 hX10 v2 v4 h => ?_)
    refine zj_iload (pc := 10) hc dX4_orderFor_10 rfl ?_
    refine zj_iload_n (pc := 12) hc dX4_orderFor_12 rfl ?_
    refine zj_icmp_ge (pc := 13) (tgt := 35) hc dX4_orderFor_13 (by decide) (fun hx1 => ?_) (fun hx1 => ?_)
    · have h := h.1 hx1
      refine zj_iload_n (pc := 35) hc dX4_orderFor_35 rfl ?_
      exact zj_iret (pc := 36) hc hr hlk dX4_orderFor_36 (by decide) (by decide) ⟨rfl, h⟩
    · have h := h.2 hx1
      refine zj_aload_n (pc := 16) hc dX4_orderFor_16 rfl ?_
      refine zj_iload (pc := 17) hc dX4_orderFor_17 rfl ?_
      refine zj_sti (pc := 19) (st := []) hc ks_X4_fenceAt st_X4_fenceAt lk_X4_15 (S_X4_fenceAt l G r0 v4 M _ h) rfl ⟨Nat.le_of_ble_eq_true rfl, Nat.le_of_ble_eq_true rfl⟩ (Nat.le_of_ble_eq_true rfl) ⟨Nat.le_of_ble_eq_true rfl, Nat.le_of_ble_eq_true rfl⟩ dX4_orderFor_19 rfl (fun y2 M9 h => ?_)
      obtain ⟨hM9, h⟩ := h
      subst hM9
      refine zj_iload_n (pc := 22) hc dX4_orderFor_22 rfl ?_
      refine zj_icmp_gt (pc := 23) (tgt := 29) hc dX4_orderFor_23 (by decide) (fun hx3 => ?_) (fun hx3 => ?_)
      · have h := h.1 hx3
        exact k29 r0 v1 v2 v3 v4 X10 hX10 h
      · have h := h.2 hx3
        refine zj_iload (pc := 26) hc dX4_orderFor_26 rfl ?_
        refine zj_istore_n (pc := 28) hc dX4_orderFor_28 (by decide) ?_
        exact k29 r0 v1 v4 v3 v4 X10 hX10 h
  unfold T_X4_orderFor at h
  refine zj_iconst (pc := 0) hc dX4_orderFor_0 (zin _ rfl) ?_
  refine zj_istore_n (pc := 1) hc dX4_orderFor_1 (by decide) ?_
  refine zj_aload_n (pc := 2) hc dX4_orderFor_2 rfl ?_
  refine zj_sti (pc := 3) (st := []) hc ks_X4_inUse st_X4_inUse lk_X4_9 (S_X4_inUse l G r0 M _ h) rfl ⟨Nat.le_of_ble_eq_true rfl, Nat.le_of_ble_eq_true rfl⟩ (Nat.le_of_ble_eq_true rfl) ⟨Nat.le_of_ble_eq_true rfl, Nat.le_of_ble_eq_true rfl⟩ dX4_orderFor_3 rfl (fun y4 M9 h => ?_)
  obtain ⟨hM9, h⟩ := h
  subst hM9
  refine zj_istore_n (pc := 6) hc dX4_orderFor_6 (by decide) ?_
  refine zj_iconst (pc := 7) hc dX4_orderFor_7 (zin _ rfl) ?_
  refine zj_istore (pc := 8) hc dX4_orderFor_8 (by decide) ?_
  exact k10 r0 v1 y4 0 1 h
set_option maxHeartbeats 4000000 in
set_option maxRecDepth 100000 in
theorem S_X4_isUsed (l : Launch) (G : zG) (r0 : Nat) (v1 : Int) (M : zMem) (Qr : Int → Prop) (h : T_X4_isUsed r0 v1 Qr M) : zMetI l yX4_isUsed cX4_isUsed 4 (some .boolean) 1 22 0 0 G [.inr r0, .inl v1] M (fun r9 M9 => M = M9 ∧ Qr r9) := by
  refine zmetI (by decide) (Nat.le_of_ble_eq_true rfl) [some (.inr r0), some (.inl v1), none, none] rfl ?_
  intro p e s m args below meth c hc hr hlk
  have k7 : ∀ (r0 : Nat) (v1 : Int) (v2 : Int) (v3 : Int), T_X4_isUsed_7 r0 v1 v2 Qr v3 M → zJ p l e (zRoom 1 22 0 0) s m args below meth c G 4 0 0 (MQ below (zQi G (fun r9 M9 => M = M9 ∧ Qr r9)) args s 0 0 (zA G)) 7 [some (.inr r0), some (.inl v1), some (.inl v2), some (.inl v3)] [] M := by
    intro r0 v1 v2 v3 h
    unfold T_X4_isUsed_7 at h
    refine zp1_use h (fun v3 => zJ p l e (zRoom 1 22 0 0) s m args below meth c G 4 0 0 (MQ below (zQi G (fun r9 M9 => M = M9 ∧ Qr r9)) args s 0 0 (zA G)) 7 [some (.inr r0), some (.inl v1), some (.inl v2), some (.inl v3)] [] M) (fun X7 hX7 v3 h => ?_)
    refine zj_iload_n (pc := 7) hc dX4_isUsed_7 rfl ?_
    refine zj_iload_n (pc := 8) hc dX4_isUsed_8 rfl ?_
    refine zj_icmp_ge (pc := 9) (tgt := 29) hc dX4_isUsed_9 (by decide) (fun hx1 => ?_) (fun hx1 => ?_)
    · have h := h.1 hx1
      refine zj_iconst (pc := 29) hc dX4_isUsed_29 (zin _ rfl) ?_
      exact zj_zret (pc := 30) hc hr hlk dX4_isUsed_30 (by decide) (by decide) (Or.inl rfl) ⟨rfl, h⟩
    · have h := h.2 hx1
      refine zj_aload_n (pc := 12) hc dX4_isUsed_12 rfl ?_
      refine zj_iload_n (pc := 13) hc dX4_isUsed_13 rfl ?_
      refine zj_sti (pc := 14) (st := []) hc ks_X4_pageAt st_X4_pageAt lk_X4_19 (S_X4_pageAt l G r0 v3 M _ h) rfl ⟨Nat.le_of_ble_eq_true rfl, Nat.le_of_ble_eq_true rfl⟩ (Nat.le_of_ble_eq_true rfl) ⟨Nat.le_of_ble_eq_true rfl, Nat.le_of_ble_eq_true rfl⟩ dX4_isUsed_14 rfl (fun y2 M9 h => ?_)
      obtain ⟨hM9, h⟩ := h
      subst hM9
      refine zj_iload_n (pc := 17) hc dX4_isUsed_17 rfl ?_
      refine zj_icmp_ne (pc := 18) (tgt := 23) hc dX4_isUsed_18 (by decide) (fun hx3 => ?_) (fun hx3 => ?_)
      · have h := h.1 hx3
        refine zj_iinc (pc := 23) hc dX4_isUsed_23 rfl (by decide) h.1 ?_
        have h := h.2
        refine zj_goto (pc := 26) (tgt := 7) hc dX4_isUsed_26 (by decide) ?_
        exact hX7 (v3 + 1) h
      · have h := h.2 hx3
        refine zj_iconst (pc := 21) hc dX4_isUsed_21 (zin _ rfl) ?_
        exact zj_zret (pc := 22) hc hr hlk dX4_isUsed_22 (by decide) (by decide) (Or.inr rfl) ⟨rfl, h⟩
  unfold T_X4_isUsed at h
  refine zj_aload_n (pc := 0) hc dX4_isUsed_0 rfl ?_
  refine zj_sti (pc := 1) (st := []) hc ks_X4_inUse st_X4_inUse lk_X4_9 (S_X4_inUse l G r0 M _ h) rfl ⟨Nat.le_of_ble_eq_true rfl, Nat.le_of_ble_eq_true rfl⟩ (Nat.le_of_ble_eq_true rfl) ⟨Nat.le_of_ble_eq_true rfl, Nat.le_of_ble_eq_true rfl⟩ dX4_isUsed_1 rfl (fun y4 M9 h => ?_)
  obtain ⟨hM9, h⟩ := h
  subst hM9
  refine zj_istore_n (pc := 4) hc dX4_isUsed_4 (by decide) ?_
  refine zj_iconst (pc := 5) hc dX4_isUsed_5 (zin _ rfl) ?_
  refine zj_istore_n (pc := 6) hc dX4_isUsed_6 (by decide) ?_
  exact k7 r0 v1 y4 0 h
set_option maxHeartbeats 4000000 in
set_option maxRecDepth 100000 in
theorem S_X4_lowestFree (l : Launch) (G : zG) (r0 : Nat) (M : zMem) (Qr : Int → Prop) (h : T_X4_lowestFree r0 Qr M) : zMetI l yX4_lowestFree cX4_lowestFree 2 (some .int) 2 45 0 0 G [.inr r0] M (fun r9 M9 => M = M9 ∧ Qr r9) := by
  refine zmetI (by decide) (Nat.le_of_ble_eq_true rfl) [some (.inr r0), none] rfl ?_
  intro p e s m args below meth c hc hr hlk
  have k2 : ∀ (r0 : Nat) (v1 : Int), T_X4_lowestFree_2 r0 Qr v1 M → zJ p l e (zRoom 2 45 0 0) s m args below meth c G 2 0 0 (MQ below (zQi G (fun r9 M9 => M = M9 ∧ Qr r9)) args s 0 0 (zA G)) 2 [some (.inr r0), some (.inl v1)] [] M := by
    intro r0 v1 h
    unfold T_X4_lowestFree_2 at h
    refine zp1_use h (fun v1 => zJ p l e (zRoom 2 45 0 0) s m args below meth c G 2 0 0 (MQ below (zQi G (fun r9 M9 => M = M9 ∧ Qr r9)) args s 0 0 (zA G)) 2 [some (.inr r0), some (.inl v1)] [] M) (fun X2 hX2 v1 h => ?_)
    refine zj_iload_n (pc := 2) hc dX4_lowestFree_2 rfl ?_
    refine zj_bipush (pc := 3) hc dX4_lowestFree_3 (by decide) (zin _ rfl) ?_
    refine zj_icmp_ge (pc := 5) (tgt := 24) hc dX4_lowestFree_5 (by decide) (fun hx1 => ?_) (fun hx1 => ?_)
    · have h := h.1 hx1
      refine zj_iconst (pc := 24) hc dX4_lowestFree_24 (zin _ rfl) ?_
      exact zj_iret (pc := 25) hc hr hlk dX4_lowestFree_25 (by decide) (by decide) ⟨rfl, h⟩
    · have h := h.2 hx1
      refine zj_aload_n (pc := 8) hc dX4_lowestFree_8 rfl ?_
      refine zj_iload_n (pc := 9) hc dX4_lowestFree_9 rfl ?_
      refine zj_sti (pc := 10) (st := []) hc ks_X4_isUsed st_X4_isUsed lk_X4_22 (S_X4_isUsed l G r0 v1 M _ h) rfl ⟨Nat.le_of_ble_eq_true rfl, Nat.le_of_ble_eq_true rfl⟩ (Nat.le_of_ble_eq_true rfl) ⟨Nat.le_of_ble_eq_true rfl, Nat.le_of_ble_eq_true rfl⟩ dX4_lowestFree_10 rfl (fun y2 M9 h => ?_)
      obtain ⟨hM9, h⟩ := h
      subst hM9
      refine zj_if_ne (pc := 13) (tgt := 18) hc dX4_lowestFree_13 (by decide) (fun hx3 => ?_) (fun hx3 => ?_)
      · have h := h.1 hx3
        refine zj_iinc (pc := 18) hc dX4_lowestFree_18 rfl (by decide) h.1 ?_
        have h := h.2
        refine zj_goto (pc := 21) (tgt := 2) hc dX4_lowestFree_21 (by decide) ?_
        exact hX2 (v1 + 1) h
      · have h := h.2 hx3
        refine zj_iload_n (pc := 16) hc dX4_lowestFree_16 rfl ?_
        exact zj_iret (pc := 17) hc hr hlk dX4_lowestFree_17 (by decide) (by decide) ⟨rfl, h⟩
  unfold T_X4_lowestFree at h
  refine zj_iconst (pc := 0) hc dX4_lowestFree_0 (zin _ rfl) ?_
  refine zj_istore_n (pc := 1) hc dX4_lowestFree_1 (by decide) ?_
  exact k2 r0 0 h
