set_option maxHeartbeats 4000000 in
set_option maxRecDepth 100000 in
theorem S_X10_kindOf (l : Launch) (G : zG) (v0 : Int) (M : zMem) (Qr : Int → Prop) (h : T_X10_kindOf v0 Qr M) : zMetI l yX10_kindOf cX10_kindOf 1 (some .int) 0 0 0 0 G [.inl v0] M (fun r9 M9 => M = M9 ∧ Qr r9) := by
  refine zmetI (by decide) (Nat.le_of_ble_eq_true rfl) [some (.inl v0)] rfl ?_
  intro p e s m args below meth c hc hr hlk
  unfold T_X10_kindOf at h
  refine zj_iload_n (pc := 0) hc dX10_kindOf_0 rfl ?_
  refine zj_bipush (pc := 1) hc dX10_kindOf_1 (by decide) (zin _ rfl) ?_
  refine zj_idiv (pc := 3) hc dX10_kindOf_3 (by decide) ?_
  exact zj_iret (pc := 4) hc hr hlk dX10_kindOf_4 (by decide) (by decide) ⟨rfl, h⟩
set_option maxHeartbeats 4000000 in
set_option maxRecDepth 100000 in
theorem S_X10_lengthOf (l : Launch) (G : zG) (v0 : Int) (M : zMem) (Qr : Int → Prop) (h : T_X10_lengthOf v0 Qr M) : zMetI l yX10_lengthOf cX10_lengthOf 2 (some .int) 1 20 0 0 G [.inl v0] M (fun r9 M9 => M = M9 ∧ Qr r9) := by
  refine zmetI (by decide) (Nat.le_of_ble_eq_true rfl) [some (.inl v0), none] rfl ?_
  intro p e s m args below meth c hc hr hlk
  unfold T_X10_lengthOf at h
  refine zj_iload_n (pc := 0) hc dX10_lengthOf_0 rfl ?_
  refine zj_sti (pc := 1) (st := []) hc ks_X10_kindOf st_X10_kindOf lk_X10_148 (S_X10_kindOf l G v0 M _ h) rfl ⟨Nat.le_of_ble_eq_true rfl, Nat.le_of_ble_eq_true rfl⟩ (Nat.le_of_ble_eq_true rfl) ⟨Nat.le_of_ble_eq_true rfl, Nat.le_of_ble_eq_true rfl⟩ dX10_lengthOf_1 rfl (fun y1 M9 h => ?_)
  obtain ⟨hM9, h⟩ := h
  subst hM9
  refine zj_istore_n (pc := 4) hc dX10_lengthOf_4 (by decide) ?_
  refine zj_iload_n (pc := 5) hc dX10_lengthOf_5 rfl ?_
  refine zj_iconst (pc := 6) hc dX10_lengthOf_6 (zin _ rfl) ?_
  refine zj_icmp_ne (pc := 7) (tgt := 14) hc dX10_lengthOf_7 (by decide) (fun hx2 => ?_) (fun hx2 => ?_)
  · have h := h.1 hx2
    refine zj_iload_n (pc := 14) hc dX10_lengthOf_14 rfl ?_
    refine zj_iconst (pc := 15) hc dX10_lengthOf_15 (zin _ rfl) ?_
    refine zj_icmp_ne (pc := 16) (tgt := 23) hc dX10_lengthOf_16 (by decide) (fun hx3 => ?_) (fun hx3 => ?_)
    · have h := h.1 hx3
      refine zj_iconst (pc := 23) hc dX10_lengthOf_23 (zin _ rfl) ?_
      refine zj_iload_n (pc := 24) hc dX10_lengthOf_24 rfl ?_
      refine zj_bipush (pc := 25) hc dX10_lengthOf_25 (by decide) (zin _ rfl) ?_
      refine zj_irem (pc := 27) hc dX10_lengthOf_27 (by decide) ?_
      refine zj_iadd (pc := 28) hc dX10_lengthOf_28 h.1 ?_
      have h := h.2
      exact zj_iret (pc := 29) hc hr hlk dX10_lengthOf_29 (by decide) (by decide) ⟨rfl, h⟩
    · have h := h.2 hx3
      refine zj_iconst (pc := 19) hc dX10_lengthOf_19 (zin _ rfl) ?_
      refine zj_goto (pc := 20) (tgt := 29) hc dX10_lengthOf_20 (by decide) ?_
      exact zj_iret (pc := 29) hc hr hlk dX10_lengthOf_29 (by decide) (by decide) ⟨rfl, h⟩
  · have h := h.2 hx2
    refine zj_iconst (pc := 10) hc dX10_lengthOf_10 (zin _ rfl) ?_
    refine zj_goto (pc := 11) (tgt := 29) hc dX10_lengthOf_11 (by decide) ?_
    exact zj_iret (pc := 29) hc hr hlk dX10_lengthOf_29 (by decide) (by decide) ⟨rfl, h⟩
set_option maxHeartbeats 4000000 in
set_option maxRecDepth 100000 in
theorem S_X10_isEntry (l : Launch) (G : zG) (v0 : Int) (M : zMem) (Qr : Int → Prop) (h : T_X10_isEntry v0 Qr M) : zMetI l yX10_isEntry cX10_isEntry 2 (some .boolean) 1 20 0 0 G [.inl v0] M (fun r9 M9 => M = M9 ∧ Qr r9) := by
  refine zmetI (by decide) (Nat.le_of_ble_eq_true rfl) [some (.inl v0), none] rfl ?_
  intro p e s m args below meth c hc hr hlk
  unfold T_X10_isEntry at h
  refine zj_iload_n (pc := 0) hc dX10_isEntry_0 rfl ?_
  refine zj_bipush (pc := 1) hc dX10_isEntry_1 (by decide) (zin _ rfl) ?_
  refine zj_irem (pc := 3) hc dX10_isEntry_3 (by decide) ?_
  refine zj_istore_n (pc := 4) hc dX10_isEntry_4 (by decide) ?_
  refine zj_iload_n (pc := 5) hc dX10_isEntry_5 rfl ?_
  refine zj_sti (pc := 6) (st := []) hc ks_X10_kindOf st_X10_kindOf lk_X10_148 (S_X10_kindOf l G v0 M _ h) rfl ⟨Nat.le_of_ble_eq_true rfl, Nat.le_of_ble_eq_true rfl⟩ (Nat.le_of_ble_eq_true rfl) ⟨Nat.le_of_ble_eq_true rfl, Nat.le_of_ble_eq_true rfl⟩ dX10_isEntry_6 rfl (fun y1 M9 h => ?_)
  obtain ⟨hM9, h⟩ := h
  subst hM9
  by_cases hx2 : y1 < 1 ∨ 4 < y1
  · have h := h.2.2.2.2 hx2
    refine zj_tableOut (pc := 9) (tgt := 91) hc dX10_isEntry_9 hx2 (by decide) ?_
    refine zj_iconst (pc := 91) hc dX10_isEntry_91 (zin _ rfl) ?_
    exact zj_zret (pc := 92) hc hr hlk dX10_isEntry_92 (by decide) (by decide) (Or.inl rfl) ⟨rfl, h⟩
  · have hx2 : y1 = 1 ∨ y1 = 2 ∨ y1 = 3 ∨ y1 = 4 := by clear h; omega
    rcases hx2 with hx2 | hx2 | hx2 | hx2
    · have h := h.1 hx2
      refine zj_tableIn (pc := 9) (tgt := 40) (off := 31) hc dX10_isEntry_9 (by rw [hx2]; decide) (by rw [hx2]; rfl) (by decide) ?_
      refine zj_iload_n (pc := 40) hc dX10_isEntry_40 rfl ?_
      refine zj_bipush (pc := 41) hc dX10_isEntry_41 (by decide) (zin _ rfl) ?_
      refine zj_icmp_gt (pc := 43) (tgt := 50) hc dX10_isEntry_43 (by decide) (fun hx3 => ?_) (fun hx3 => ?_)
      · have h := h.1 hx3
        refine zj_iconst (pc := 50) hc dX10_isEntry_50 (zin _ rfl) ?_
        exact zj_zret (pc := 51) hc hr hlk dX10_isEntry_51 (by decide) (by decide) (Or.inl rfl) ⟨rfl, h⟩
      · have h := h.2 hx3
        refine zj_iconst (pc := 46) hc dX10_isEntry_46 (zin _ rfl) ?_
        refine zj_goto (pc := 47) (tgt := 51) hc dX10_isEntry_47 (by decide) ?_
        exact zj_zret (pc := 51) hc hr hlk dX10_isEntry_51 (by decide) (by decide) (Or.inr rfl) ⟨rfl, h⟩
    · have h := h.2.1 hx2
      refine zj_tableIn (pc := 9) (tgt := 52) (off := 43) hc dX10_isEntry_9 (by rw [hx2]; decide) (by rw [hx2]; rfl) (by decide) ?_
      refine zj_iload_n (pc := 52) hc dX10_isEntry_52 rfl ?_
      refine zj_if_ne (pc := 53) (tgt := 60) hc dX10_isEntry_53 (by decide) (fun hx4 => ?_) (fun hx4 => ?_)
      · have h := h.1 hx4
        refine zj_iconst (pc := 60) hc dX10_isEntry_60 (zin _ rfl) ?_
        exact zj_zret (pc := 61) hc hr hlk dX10_isEntry_61 (by decide) (by decide) (Or.inl rfl) ⟨rfl, h⟩
      · have h := h.2 hx4
        refine zj_iconst (pc := 56) hc dX10_isEntry_56 (zin _ rfl) ?_
        refine zj_goto (pc := 57) (tgt := 61) hc dX10_isEntry_57 (by decide) ?_
        exact zj_zret (pc := 61) hc hr hlk dX10_isEntry_61 (by decide) (by decide) (Or.inr rfl) ⟨rfl, h⟩
    · have h := h.2.2.1 hx2
      refine zj_tableIn (pc := 9) (tgt := 62) (off := 53) hc dX10_isEntry_9 (by rw [hx2]; decide) (by rw [hx2]; rfl) (by decide) ?_
      refine zj_iload_n (pc := 62) hc dX10_isEntry_62 rfl ?_
      refine zj_bipush (pc := 63) hc dX10_isEntry_63 (by decide) (zin _ rfl) ?_
      refine zj_icmp_gt (pc := 65) (tgt := 72) hc dX10_isEntry_65 (by decide) (fun hx5 => ?_) (fun hx5 => ?_)
      · have h := h.1 hx5
        refine zj_iconst (pc := 72) hc dX10_isEntry_72 (zin _ rfl) ?_
        exact zj_zret (pc := 73) hc hr hlk dX10_isEntry_73 (by decide) (by decide) (Or.inl rfl) ⟨rfl, h⟩
      · have h := h.2 hx5
        refine zj_iconst (pc := 68) hc dX10_isEntry_68 (zin _ rfl) ?_
        refine zj_goto (pc := 69) (tgt := 73) hc dX10_isEntry_69 (by decide) ?_
        exact zj_zret (pc := 73) hc hr hlk dX10_isEntry_73 (by decide) (by decide) (Or.inr rfl) ⟨rfl, h⟩
    · have h := h.2.2.2.1 hx2
      refine zj_tableIn (pc := 9) (tgt := 74) (off := 65) hc dX10_isEntry_9 (by rw [hx2]; decide) (by rw [hx2]; rfl) (by decide) ?_
      refine zj_iload_n (pc := 74) hc dX10_isEntry_74 rfl ?_
      refine zj_iconst (pc := 75) hc dX10_isEntry_75 (zin _ rfl) ?_
      refine zj_icmp_lt (pc := 76) (tgt := 89) hc dX10_isEntry_76 (by decide) (fun hx6 => ?_) (fun hx6 => ?_)
      · have h := h.1 hx6
        refine zj_iconst (pc := 89) hc dX10_isEntry_89 (zin _ rfl) ?_
        exact zj_zret (pc := 90) hc hr hlk dX10_isEntry_90 (by decide) (by decide) (Or.inl rfl) ⟨rfl, h⟩
      · have h := h.2 hx6
        refine zj_iload_n (pc := 79) hc dX10_isEntry_79 rfl ?_
        refine zj_bipush (pc := 80) hc dX10_isEntry_80 (by decide) (zin _ rfl) ?_
        refine zj_icmp_gt (pc := 82) (tgt := 89) hc dX10_isEntry_82 (by decide) (fun hx7 => ?_) (fun hx7 => ?_)
        · have h := h.1 hx7
          refine zj_iconst (pc := 89) hc dX10_isEntry_89 (zin _ rfl) ?_
          exact zj_zret (pc := 90) hc hr hlk dX10_isEntry_90 (by decide) (by decide) (Or.inl rfl) ⟨rfl, h⟩
        · have h := h.2 hx7
          refine zj_iconst (pc := 85) hc dX10_isEntry_85 (zin _ rfl) ?_
          refine zj_goto (pc := 86) (tgt := 90) hc dX10_isEntry_86 (by decide) ?_
          exact zj_zret (pc := 90) hc hr hlk dX10_isEntry_90 (by decide) (by decide) (Or.inr rfl) ⟨rfl, h⟩
set_option maxHeartbeats 4000000 in
set_option maxRecDepth 100000 in
theorem S_X10_does (l : Launch) (G : zG) (r1 : Nat) (v2 : Int) (M : zMem) (Qr : zMem → Prop) (h : T_X10_does r1 v2 Qr M) : zMetV l yX10_does cX10_does 8 none 1 20 0 0 G [.inr 639, .inr r1, .inl v2] M Qr := by
  refine zmetV (by decide) (Nat.le_of_ble_eq_true rfl) [some (.inr 639), some (.inr r1), some (.inl v2), none, none, none, none, none] rfl ?_
  intro p e s m args below meth c hc hr hlk
  have k81 : ∀ (M : zMem) (r1 : Nat) (v2 : Int) (v4 : Int) (v5 : Int) (v6 : Int) (v7 : Int), T_X10_does_81 r1 v2 v4 v5 v6 Qr v7 M → zJ p l e (zRoom 1 20 0 0) s m args below meth c G 8 0 0 (MQ below (zQv G (Qr)) args s 0 0 (zA G)) 81 [some (.inr 639), some (.inr r1), some (.inl v2), none, some (.inl v4), some (.inl v5), some (.inl v6), some (.inl v7)] [] M := by
    intro M r1 v2 v4 v5 v6 v7 h
    unfold T_X10_does_81 at h
    refine zl1_use h (fun v7 M => zJ p l e (zRoom 1 20 0 0) s m args below meth c G 8 0 0 (MQ below (zQv G (Qr)) args s 0 0 (zA G)) 81 [some (.inr 639), some (.inr r1), some (.inl v2), none, some (.inl v4), some (.inl v5), some (.inl v6), some (.inl v7)] [] M) (fun X81 hX81 v7 M h => ?_)
    refine zj_iload (pc := 81) hc dX10_does_81 rfl ?_
    refine zj_iload (pc := 83) hc dX10_does_83 rfl ?_
    refine zj_icmp_ge (pc := 85) (tgt := 118) hc dX10_does_85 (by decide) (fun hx1 => ?_) (fun hx1 => ?_)
    · have h := h.1 hx1
      refine zj_aload_n (pc := 118) hc dX10_does_118 rfl ?_
      refine zg_9_20 (pc := 119) hc lk_X10_47 dX10_does_119 ?_
      refine zj_iload (pc := 122) hc dX10_does_122 rfl ?_
      refine zj_iload (pc := 124) hc dX10_does_124 rfl ?_
      refine zj_iload (pc := 126) hc dX10_does_126 rfl ?_
      refine zj_iadd (pc := 128) hc dX10_does_128 h.1 ?_
      have h := h.2
      refine zj_iast (pc := 129) hc dX10_does_129 alen_596 h.1 (fun M2 hM2 => ?_)
      have h := h.2 M2 hM2
      exact zj_vret (pc := 130) hc hr hlk dX10_does_130 (by decide) (by decide) h
    · have h := h.2 hx1
      refine zj_aload_n (pc := 88) hc dX10_does_88 rfl ?_
      refine zg_9_21 (pc := 89) hc lk_X10_50 dX10_does_89 ?_
      refine zj_bipush (pc := 92) hc dX10_does_92 (by decide) (zin _ rfl) ?_
      refine zj_iload (pc := 94) hc dX10_does_94 rfl ?_
      refine zj_imul (pc := 96) hc dX10_does_96 h.1 ?_
      have h := h.2
      refine zj_iload (pc := 97) hc dX10_does_97 rfl ?_
      refine zj_iadd (pc := 99) hc dX10_does_99 h.1 ?_
      have h := h.2
      refine zj_iload (pc := 100) hc dX10_does_100 rfl ?_
      refine zj_iadd (pc := 102) hc dX10_does_102 h.1 ?_
      have h := h.2
      refine zj_aload_n (pc := 103) hc dX10_does_103 rfl ?_
      refine zj_iload_n (pc := 104) hc dX10_does_104 rfl ?_
      refine zj_iconst (pc := 105) hc dX10_does_105 (zin _ rfl) ?_
      refine zj_iadd (pc := 106) hc dX10_does_106 h.1 ?_
      have h := h.2
      refine zj_iload (pc := 107) hc dX10_does_107 rfl ?_
      refine zj_iadd (pc := 109) hc dX10_does_109 h.1 ?_
      have h := h.2
      refine zj_iald (pc := 110) hc dX10_does_110 rfl h.1 ?_
      have h := h.2
      refine zj_iast (pc := 111) hc dX10_does_111 alen_597 h.1 (fun M3 hM3 => ?_)
      have h := h.2 M3 hM3
      refine zj_iinc (pc := 112) hc dX10_does_112 rfl (by decide) h.1 ?_
      have h := h.2
      refine zj_goto (pc := 115) (tgt := 81) hc dX10_does_115 (by decide) ?_
      exact hX81 (v7 + 1) M3 h
  have k76 : ∀ (M : zMem) (r1 : Nat) (v2 : Int) (v4 : Int) (v5 : Int) (s0 : Int), T_X10_does_76 r1 v2 v4 v5 s0 Qr M → zJ p l e (zRoom 1 20 0 0) s m args below meth c G 8 0 0 (MQ below (zQv G (Qr)) args s 0 0 (zA G)) 76 [some (.inr 639), some (.inr r1), some (.inl v2), none, some (.inl v4), some (.inl v5), none, none] [.inl s0] M := by
    intro M r1 v2 v4 v5 s0 h
    unfold T_X10_does_76 at h
    refine zj_istore (pc := 76) hc dX10_does_76 (by decide) ?_
    refine zj_iconst (pc := 78) hc dX10_does_78 (zin _ rfl) ?_
    refine zj_istore (pc := 79) hc dX10_does_79 (by decide) ?_
    exact k81 M r1 v2 v4 v5 s0 0 h
  unfold T_X10_does at h
  refine zj_aload_n (pc := 0) hc dX10_does_0 rfl ?_
  refine zj_iload_n (pc := 1) hc dX10_does_1 rfl ?_
  refine zj_iald (pc := 2) hc dX10_does_2 rfl h.1 ?_
  have h := h.2
  refine zj_sti (pc := 3) (st := []) hc ks_X10_kindOf st_X10_kindOf lk_X10_148 (S_X10_kindOf l G (M.2 r1 v2) M _ h) rfl ⟨Nat.le_of_ble_eq_true rfl, Nat.le_of_ble_eq_true rfl⟩ (Nat.le_of_ble_eq_true rfl) ⟨Nat.le_of_ble_eq_true rfl, Nat.le_of_ble_eq_true rfl⟩ dX10_does_3 rfl (fun y4 M9 h => ?_)
  obtain ⟨hM9, h⟩ := h
  subst hM9
  refine zj_istore_n (pc := 6) hc dX10_does_6 (by decide) ?_
  refine zj_aload_n (pc := 7) hc dX10_does_7 rfl ?_
  refine zj_iload_n (pc := 8) hc dX10_does_8 rfl ?_
  refine zj_iald (pc := 9) hc dX10_does_9 rfl h.1 ?_
  have h := h.2
  refine zj_bipush (pc := 10) hc dX10_does_10 (by decide) (zin _ rfl) ?_
  refine zj_irem (pc := 12) hc dX10_does_12 (by decide) ?_
  refine zj_istore (pc := 13) hc dX10_does_13 (by decide) ?_
  refine zj_aload_n (pc := 15) hc dX10_does_15 rfl ?_
  refine zj_iload_n (pc := 16) hc dX10_does_16 rfl ?_
  refine zj_iconst (pc := 17) hc dX10_does_17 (zin _ rfl) ?_
  refine zj_iadd (pc := 18) hc dX10_does_18 h.1 ?_
  have h := h.2
  refine zj_iald (pc := 19) hc dX10_does_19 rfl h.1 ?_
  have h := h.2
  refine zj_istore (pc := 20) hc dX10_does_20 (by decide) ?_
  refine zj_iload_n (pc := 22) hc dX10_does_22 rfl ?_
  refine zj_iconst (pc := 23) hc dX10_does_23 (zin _ rfl) ?_
  refine zj_icmp_ne (pc := 24) (tgt := 36) hc dX10_does_24 (by decide) (fun hx5 => ?_) (fun hx5 => ?_)
  · have h := h.1 hx5
    refine zj_iload_n (pc := 36) hc dX10_does_36 rfl ?_
    refine zj_iconst (pc := 37) hc dX10_does_37 (zin _ rfl) ?_
    refine zj_icmp_ne (pc := 38) (tgt := 60) hc dX10_does_38 (by decide) (fun hx6 => ?_) (fun hx6 => ?_)
    · have h := h.1 hx6
      refine zj_iload_n (pc := 60) hc dX10_does_60 rfl ?_
      refine zj_iconst (pc := 61) hc dX10_does_61 (zin _ rfl) ?_
      refine zj_icmp_ne (pc := 62) (tgt := 69) hc dX10_does_62 (by decide) (fun hx7 => ?_) (fun hx7 => ?_)
      · have h := h.1 hx7
        refine zj_aload_n (pc := 69) hc dX10_does_69 rfl ?_
        refine zg_9_20 (pc := 70) hc lk_X10_47 dX10_does_70 ?_
        refine zj_iload (pc := 73) hc dX10_does_73 rfl ?_
        refine zj_iald (pc := 75) hc dX10_does_75 alen_596 h.1 ?_
        have h := h.2
        refine zj_mask (bs := [true, true, true, false, true, true, true, true]) ?_
        exact k76 M r1 v2 (Int.tmod (M.2 r1 v2) 16) (M.2 r1 (v2 + 1)) (M.2 596 (M.2 r1 (v2 + 1))) h
      · have h := h.2 hx7
        refine zj_iconst (pc := 65) hc dX10_does_65 (zin _ rfl) ?_
        refine zj_goto (pc := 66) (tgt := 76) hc dX10_does_66 (by decide) ?_
        refine zj_mask (bs := [true, true, true, false, true, true, true, true]) ?_
        exact k76 M r1 v2 (Int.tmod (M.2 r1 v2) 16) (M.2 r1 (v2 + 1)) 0 h
    · have h := h.2 hx6
      refine zj_aload_n (pc := 41) hc dX10_does_41 rfl ?_
      refine zg_9_21 (pc := 42) hc lk_X10_50 dX10_does_42 ?_
      refine zj_bipush (pc := 45) hc dX10_does_45 (by decide) (zin _ rfl) ?_
      refine zj_iload (pc := 47) hc dX10_does_47 rfl ?_
      refine zj_imul (pc := 49) hc dX10_does_49 h.1 ?_
      have h := h.2
      refine zj_iload (pc := 50) hc dX10_does_50 rfl ?_
      refine zj_iadd (pc := 52) hc dX10_does_52 h.1 ?_
      have h := h.2
      refine zj_aload_n (pc := 53) hc dX10_does_53 rfl ?_
      refine zj_iload_n (pc := 54) hc dX10_does_54 rfl ?_
      refine zj_iconst (pc := 55) hc dX10_does_55 (zin _ rfl) ?_
      refine zj_iadd (pc := 56) hc dX10_does_56 h.1 ?_
      have h := h.2
      refine zj_iald (pc := 57) hc dX10_does_57 rfl h.1 ?_
      have h := h.2
      refine zj_iast (pc := 58) hc dX10_does_58 alen_597 h.1 (fun M8 hM8 => ?_)
      have h := h.2 M8 hM8
      exact zj_vret (pc := 59) hc hr hlk dX10_does_59 (by decide) (by decide) h
  · have h := h.2 hx5
    refine zj_aload_n (pc := 27) hc dX10_does_27 rfl ?_
    refine zg_9_20 (pc := 28) hc lk_X10_47 dX10_does_28 ?_
    refine zj_iload (pc := 31) hc dX10_does_31 rfl ?_
    refine zj_iconst (pc := 33) hc dX10_does_33 (zin _ rfl) ?_
    refine zj_iast (pc := 34) hc dX10_does_34 alen_596 h.1 (fun M9 hM9 => ?_)
    have h := h.2 M9 hM9
    exact zj_vret (pc := 35) hc hr hlk dX10_does_35 (by decide) (by decide) h
set_option maxHeartbeats 4000000 in
set_option maxRecDepth 100000 in
theorem S_X10_cant (l : Launch) (G : zG) (r1 : Nat) (v2 : Int) (M : zMem) (Qr : Int → Prop) (h : T_X10_cant r1 v2 Qr M) : zMetI l yX10_cant cX10_cant 7 (some .int) 1 20 0 0 G [.inr 639, .inr r1, .inl v2] M (fun r9 M9 => M = M9 ∧ Qr r9) := by
  refine zmetI (by decide) (Nat.le_of_ble_eq_true rfl) [some (.inr 639), some (.inr r1), some (.inl v2), none, none, none, none] rfl ?_
  intro p e s m args below meth c hc hr hlk
  have k127 : ∀ (r1 : Nat) (v2 : Int) (v4 : Int) (v5 : Int) (v6 : Int), T_X10_cant_127 r1 v2 v4 v5 Qr v6 M → zJ p l e (zRoom 1 20 0 0) s m args below meth c G 7 0 0 (MQ below (zQi G (fun r9 M9 => M = M9 ∧ Qr r9)) args s 0 0 (zA G)) 127 [some (.inr 639), some (.inr r1), some (.inl v2), none, some (.inl v4), some (.inl v5), some (.inl v6)] [] M := by
    intro r1 v2 v4 v5 v6 h
    unfold T_X10_cant_127 at h
    refine zp1_use h (fun v6 => zJ p l e (zRoom 1 20 0 0) s m args below meth c G 7 0 0 (MQ below (zQi G (fun r9 M9 => M = M9 ∧ Qr r9)) args s 0 0 (zA G)) 127 [some (.inr 639), some (.inr r1), some (.inl v2), none, some (.inl v4), some (.inl v5), some (.inl v6)] [] M) (fun X127 hX127 v6 h => ?_)
    refine zj_iload (pc := 127) hc dX10_cant_127 rfl ?_
    refine zj_iload (pc := 129) hc dX10_cant_129 rfl ?_
    refine zj_icmp_ge (pc := 131) (tgt := 166) hc dX10_cant_131 (by decide) (fun hx1 => ?_) (fun hx1 => ?_)
    · have h := h.1 hx1
      refine zj_bipush (pc := 166) hc dX10_cant_166 (by decide) (zin _ rfl) ?_
      exact zj_iret (pc := 168) hc hr hlk dX10_cant_168 (by decide) (by decide) ⟨rfl, h⟩
    · have h := h.2 hx1
      refine zj_aload_n (pc := 134) hc dX10_cant_134 rfl ?_
      refine zg_9_21 (pc := 135) hc lk_X10_50 dX10_cant_135 ?_
      refine zj_bipush (pc := 138) hc dX10_cant_138 (by decide) (zin _ rfl) ?_
      refine zj_iload (pc := 140) hc dX10_cant_140 rfl ?_
      refine zj_imul (pc := 142) hc dX10_cant_142 h.1 ?_
      have h := h.2
      refine zj_iload (pc := 143) hc dX10_cant_143 rfl ?_
      refine zj_iadd (pc := 145) hc dX10_cant_145 h.1 ?_
      have h := h.2
      refine zj_iald (pc := 146) hc dX10_cant_146 alen_597 h.1 ?_
      have h := h.2
      refine zj_aload_n (pc := 147) hc dX10_cant_147 rfl ?_
      refine zj_iload_n (pc := 148) hc dX10_cant_148 rfl ?_
      refine zj_iconst (pc := 149) hc dX10_cant_149 (zin _ rfl) ?_
      refine zj_iadd (pc := 150) hc dX10_cant_150 h.1 ?_
      have h := h.2
      refine zj_iload (pc := 151) hc dX10_cant_151 rfl ?_
      refine zj_iadd (pc := 153) hc dX10_cant_153 h.1 ?_
      have h := h.2
      refine zj_iald (pc := 154) hc dX10_cant_154 rfl h.1 ?_
      have h := h.2
      refine zj_icmp_eq (pc := 155) (tgt := 160) hc dX10_cant_155 (by decide) (fun hx2 => ?_) (fun hx2 => ?_)
      · have h := h.1 hx2
        refine zj_iinc (pc := 160) hc dX10_cant_160 rfl (by decide) h.1 ?_
        have h := h.2
        refine zj_goto (pc := 163) (tgt := 127) hc dX10_cant_163 (by decide) ?_
        exact hX127 (v6 + 1) h
      · have h := h.2 hx2
        refine zj_iconst (pc := 158) hc dX10_cant_158 (zin _ rfl) ?_
        exact zj_iret (pc := 159) hc hr hlk dX10_cant_159 (by decide) (by decide) ⟨rfl, h⟩
  have k105 : ∀ (r1 : Nat) (v2 : Int) (v3 : Int) (v4 : Int) (v5 : Int), T_X10_cant_105 r1 v2 v3 v4 v5 Qr M → zJ p l e (zRoom 1 20 0 0) s m args below meth c G 7 0 0 (MQ below (zQi G (fun r9 M9 => M = M9 ∧ Qr r9)) args s 0 0 (zA G)) 105 [some (.inr 639), some (.inr r1), some (.inl v2), some (.inl v3), some (.inl v4), some (.inl v5), none] [] M := by
    intro r1 v2 v3 v4 v5 h
    unfold T_X10_cant_105 at h
    refine zj_iload_n (pc := 105) hc dX10_cant_105 rfl ?_
    refine zj_iconst (pc := 106) hc dX10_cant_106 (zin _ rfl) ?_
    refine zj_icmp_ne (pc := 107) (tgt := 122) hc dX10_cant_107 (by decide) (fun hx3 => ?_) (fun hx3 => ?_)
    · have h := h.1 hx3
      refine zj_iconst (pc := 122) hc dX10_cant_122 (zin _ rfl) ?_
      exact zj_iret (pc := 123) hc hr hlk dX10_cant_123 (by decide) (by decide) ⟨rfl, h⟩
    · have h := h.2 hx3
      refine zj_aload_n (pc := 110) hc dX10_cant_110 rfl ?_
      refine zg_9_20 (pc := 111) hc lk_X10_47 dX10_cant_111 ?_
      refine zj_iload (pc := 114) hc dX10_cant_114 rfl ?_
      refine zj_iald (pc := 116) hc dX10_cant_116 alen_596 h.1 ?_
      have h := h.2
      refine zj_iload (pc := 117) hc dX10_cant_117 rfl ?_
      refine zj_icmp_eq (pc := 119) (tgt := 124) hc dX10_cant_119 (by decide) (fun hx4 => ?_) (fun hx4 => ?_)
      · have h := h.1 hx4
        refine zj_iconst (pc := 124) hc dX10_cant_124 (zin _ rfl) ?_
        refine zj_istore (pc := 125) hc dX10_cant_125 (by decide) ?_
        refine zj_mask (bs := [true, true, true, false, true, true, true]) ?_
        exact k127 r1 v2 v4 v5 0 h
      · have h := h.2 hx4
        refine zj_iconst (pc := 122) hc dX10_cant_122 (zin _ rfl) ?_
        exact zj_iret (pc := 123) hc hr hlk dX10_cant_123 (by decide) (by decide) ⟨rfl, h⟩
  have k82 : ∀ (r1 : Nat) (v2 : Int) (v3 : Int) (v4 : Int) (v5 : Int), T_X10_cant_82 r1 v2 v3 v4 v5 Qr M → zJ p l e (zRoom 1 20 0 0) s m args below meth c G 7 0 0 (MQ below (zQi G (fun r9 M9 => M = M9 ∧ Qr r9)) args s 0 0 (zA G)) 82 [some (.inr 639), some (.inr r1), some (.inl v2), some (.inl v3), some (.inl v4), some (.inl v5), none] [] M := by
    intro r1 v2 v3 v4 v5 h
    unfold T_X10_cant_82 at h
    refine zj_iload_n (pc := 82) hc dX10_cant_82 rfl ?_
    refine zj_iconst (pc := 83) hc dX10_cant_83 (zin _ rfl) ?_
    refine zj_icmp_ne (pc := 84) (tgt := 105) hc dX10_cant_84 (by decide) (fun hx5 => ?_) (fun hx5 => ?_)
    · have h := h.1 hx5
      exact k105 r1 v2 v3 v4 v5 h
    · have h := h.2 hx5
      refine zj_aload_n (pc := 87) hc dX10_cant_87 rfl ?_
      refine zg_9_20 (pc := 88) hc lk_X10_47 dX10_cant_88 ?_
      refine zj_iload (pc := 91) hc dX10_cant_91 rfl ?_
      refine zj_iald (pc := 93) hc dX10_cant_93 alen_596 h.1 ?_
      have h := h.2
      refine zj_iload (pc := 94) hc dX10_cant_94 rfl ?_
      refine zj_iadd (pc := 96) hc dX10_cant_96 h.1 ?_
      have h := h.2
      refine zj_bipush (pc := 97) hc dX10_cant_97 (by decide) (zin _ rfl) ?_
      refine zj_icmp_le (pc := 99) (tgt := 105) hc dX10_cant_99 (by decide) (fun hx6 => ?_) (fun hx6 => ?_)
      · have h := h.1 hx6
        exact k105 r1 v2 v3 v4 v5 h
      · have h := h.2 hx6
        refine zj_bipush (pc := 102) hc dX10_cant_102 (by decide) (zin _ rfl) ?_
        exact zj_iret (pc := 104) hc hr hlk dX10_cant_104 (by decide) (by decide) ⟨rfl, h⟩
  have k41 : ∀ (r1 : Nat) (v2 : Int) (v3 : Int) (v4 : Int) (v5 : Int), T_X10_cant_41 r1 v2 v3 v4 v5 Qr M → zJ p l e (zRoom 1 20 0 0) s m args below meth c G 7 0 0 (MQ below (zQi G (fun r9 M9 => M = M9 ∧ Qr r9)) args s 0 0 (zA G)) 41 [some (.inr 639), some (.inr r1), some (.inl v2), some (.inl v3), some (.inl v4), some (.inl v5), none] [] M := by
    intro r1 v2 v3 v4 v5 h
    unfold T_X10_cant_41 at h
    refine zj_iload_n (pc := 41) hc dX10_cant_41 rfl ?_
    refine zj_iconst (pc := 42) hc dX10_cant_42 (zin _ rfl) ?_
    refine zj_icmp_ne (pc := 43) (tgt := 82) hc dX10_cant_43 (by decide) (fun hx7 => ?_) (fun hx7 => ?_)
    · have h := h.1 hx7
      exact k82 r1 v2 v3 v4 v5 h
    · have h := h.2 hx7
      refine zj_iload (pc := 46) hc dX10_cant_46 rfl ?_
      refine zj_aload_n (pc := 48) hc dX10_cant_48 rfl ?_
      refine zg_9_20 (pc := 49) hc lk_X10_47 dX10_cant_49 ?_
      refine zj_iload (pc := 52) hc dX10_cant_52 rfl ?_
      refine zj_iald (pc := 54) hc dX10_cant_54 alen_596 h.1 ?_
      have h := h.2
      refine zj_icmp_ge (pc := 55) (tgt := 79) hc dX10_cant_55 (by decide) (fun hx8 => ?_) (fun hx8 => ?_)
      · have h := h.1 hx8
        refine zj_bipush (pc := 79) hc dX10_cant_79 (by decide) (zin _ rfl) ?_
        exact zj_iret (pc := 81) hc hr hlk dX10_cant_81 (by decide) (by decide) ⟨rfl, h⟩
      · have h := h.2 hx8
        refine zj_aload_n (pc := 58) hc dX10_cant_58 rfl ?_
        refine zg_9_21 (pc := 59) hc lk_X10_50 dX10_cant_59 ?_
        refine zj_bipush (pc := 62) hc dX10_cant_62 (by decide) (zin _ rfl) ?_
        refine zj_iload (pc := 64) hc dX10_cant_64 rfl ?_
        refine zj_imul (pc := 66) hc dX10_cant_66 h.1 ?_
        have h := h.2
        refine zj_iload (pc := 67) hc dX10_cant_67 rfl ?_
        refine zj_iadd (pc := 69) hc dX10_cant_69 h.1 ?_
        have h := h.2
        refine zj_iald (pc := 70) hc dX10_cant_70 alen_597 h.1 ?_
        have h := h.2
        refine zj_aload_n (pc := 71) hc dX10_cant_71 rfl ?_
        refine zj_iload_n (pc := 72) hc dX10_cant_72 rfl ?_
        refine zj_iconst (pc := 73) hc dX10_cant_73 (zin _ rfl) ?_
        refine zj_iadd (pc := 74) hc dX10_cant_74 h.1 ?_
        have h := h.2
        refine zj_iald (pc := 75) hc dX10_cant_75 rfl h.1 ?_
        have h := h.2
        refine zj_icmp_ne (pc := 76) (tgt := 82) hc dX10_cant_76 (by decide) (fun hx9 => ?_) (fun hx9 => ?_)
        · have h := h.1 hx9
          exact k82 r1 v2 v3 v4 v5 h
        · have h := h.2 hx9
          refine zj_bipush (pc := 79) hc dX10_cant_79 (by decide) (zin _ rfl) ?_
          exact zj_iret (pc := 81) hc hr hlk dX10_cant_81 (by decide) (by decide) ⟨rfl, h⟩
  unfold T_X10_cant at h
  refine zj_aload_n (pc := 0) hc dX10_cant_0 rfl ?_
  refine zj_iload_n (pc := 1) hc dX10_cant_1 rfl ?_
  refine zj_iald (pc := 2) hc dX10_cant_2 rfl h.1 ?_
  have h := h.2
  refine zj_sti (pc := 3) (st := []) hc ks_X10_kindOf st_X10_kindOf lk_X10_148 (S_X10_kindOf l G (M.2 r1 v2) M _ h) rfl ⟨Nat.le_of_ble_eq_true rfl, Nat.le_of_ble_eq_true rfl⟩ (Nat.le_of_ble_eq_true rfl) ⟨Nat.le_of_ble_eq_true rfl, Nat.le_of_ble_eq_true rfl⟩ dX10_cant_3 rfl (fun y10 M9 h => ?_)
  obtain ⟨hM9, h⟩ := h
  subst hM9
  refine zj_istore_n (pc := 6) hc dX10_cant_6 (by decide) ?_
  refine zj_aload_n (pc := 7) hc dX10_cant_7 rfl ?_
  refine zj_iload_n (pc := 8) hc dX10_cant_8 rfl ?_
  refine zj_iald (pc := 9) hc dX10_cant_9 rfl h.1 ?_
  have h := h.2
  refine zj_bipush (pc := 10) hc dX10_cant_10 (by decide) (zin _ rfl) ?_
  refine zj_irem (pc := 12) hc dX10_cant_12 (by decide) ?_
  refine zj_istore (pc := 13) hc dX10_cant_13 (by decide) ?_
  refine zj_aload_n (pc := 15) hc dX10_cant_15 rfl ?_
  refine zj_iload_n (pc := 16) hc dX10_cant_16 rfl ?_
  refine zj_iconst (pc := 17) hc dX10_cant_17 (zin _ rfl) ?_
  refine zj_iadd (pc := 18) hc dX10_cant_18 h.1 ?_
  have h := h.2
  refine zj_iald (pc := 19) hc dX10_cant_19 rfl h.1 ?_
  have h := h.2
  refine zj_istore (pc := 20) hc dX10_cant_20 (by decide) ?_
  refine zj_iload_n (pc := 22) hc dX10_cant_22 rfl ?_
  refine zj_iconst (pc := 23) hc dX10_cant_23 (zin _ rfl) ?_
  refine zj_icmp_eq (pc := 24) (tgt := 41) hc dX10_cant_24 (by decide) (fun hx11 => ?_) (fun hx11 => ?_)
  · have h := h.1 hx11
    exact k41 r1 v2 y10 (Int.tmod (M.2 r1 v2) 16) (M.2 r1 (v2 + 1)) h
  · have h := h.2 hx11
    refine zj_aload_n (pc := 27) hc dX10_cant_27 rfl ?_
    refine zg_9_20 (pc := 28) hc lk_X10_47 dX10_cant_28 ?_
    refine zj_iload (pc := 31) hc dX10_cant_31 rfl ?_
    refine zj_iald (pc := 33) hc dX10_cant_33 alen_596 h.1 ?_
    have h := h.2
    refine zj_iconst (pc := 34) hc dX10_cant_34 (zin _ rfl) ?_
    refine zj_icmp_ne (pc := 35) (tgt := 41) hc dX10_cant_35 (by decide) (fun hx12 => ?_) (fun hx12 => ?_)
    · have h := h.1 hx12
      exact k41 r1 v2 y10 (Int.tmod (M.2 r1 v2) 16) (M.2 r1 (v2 + 1)) h
    · have h := h.2 hx12
      refine zj_bipush (pc := 38) hc dX10_cant_38 (by decide) (zin _ rfl) ?_
      exact zj_iret (pc := 40) hc hr hlk dX10_cant_40 (by decide) (by decide) ⟨rfl, h⟩
