set_option maxHeartbeats 4000000 in
set_option maxRecDepth 100000 in
theorem S_X1_fitsByAny (l : Launch) (G : zG) (v1 : Int) (v2 : Int) (M : zMem) (Qr : Int → zMem → Prop) (h : T_X1_fitsByAny v1 v2 Qr M) : zMetI l yX1_fitsByAny cX1_fitsByAny 5 (some .boolean) 2 56 0 0 G [.inr 191, .inl v1, .inl v2] M Qr := by
  refine zmetI (by decide) (Nat.le_of_ble_eq_true rfl) [some (.inr 191), some (.inl v1), some (.inl v2), none, none] rfl ?_
  intro p e s m args below meth c hc hr hlk
  have k13 : ∀ (M : zMem) (v3 : Int) (v4 : Int), T_X1_fitsByAny_13 v3 Qr v4 M → zJ p l e (zRoom 2 56 0 0) s m args below meth c G 5 0 0 (MQ below (zQi G (Qr)) args s 0 0 (zA G)) 13 [some (.inr 191), none, none, some (.inl v3), some (.inl v4)] [] M := by
    intro M v3 v4 h
    unfold T_X1_fitsByAny_13 at h
    refine zl1_use h (fun v4 M => zJ p l e (zRoom 2 56 0 0) s m args below meth c G 5 0 0 (MQ below (zQi G (Qr)) args s 0 0 (zA G)) 13 [some (.inr 191), none, none, some (.inl v3), some (.inl v4)] [] M) (fun X13 hX13 v4 M h => ?_)
    refine zj_iload (pc := 13) hc dX1_fitsByAny_13 rfl ?_
    refine zj_iconst (pc := 15) hc dX1_fitsByAny_15 (zin _ rfl) ?_
    refine zj_icmp_ge (pc := 16) (tgt := 54) hc dX1_fitsByAny_16 (by decide) (fun hx1 => ?_) (fun hx1 => ?_)
    · have h := h.1 hx1
      refine zj_iconst (pc := 54) hc dX1_fitsByAny_54 (zin _ rfl) ?_
      exact zj_zret (pc := 55) hc hr hlk dX1_fitsByAny_55 (by decide) (by decide) (Or.inl rfl) h
    · have h := h.2 hx1
      refine zj_aload_n (pc := 19) hc dX1_fitsByAny_19 rfl ?_
      refine zj_aload_n (pc := 20) hc dX1_fitsByAny_20 rfl ?_
      refine zg_2_4 (pc := 21) hc lk_X1_28 dX1_fitsByAny_21 ?_
      refine zg_3_0 (pc := 24) hc lk_X1_125 dX1_fitsByAny_24 ?_
      refine zj_aload_n (pc := 27) hc dX1_fitsByAny_27 rfl ?_
      refine zg_2_4 (pc := 28) hc lk_X1_28 dX1_fitsByAny_28 ?_
      refine zg_3_1 (pc := 31) hc lk_X1_129 dX1_fitsByAny_31 ?_
      refine zj_iload_n (pc := 34) hc dX1_fitsByAny_34 rfl ?_
      refine zj_iload (pc := 35) hc dX1_fitsByAny_35 rfl ?_
      refine zj_vti (pc := 37) (st := [.inr 191]) hc ks_X6_packRow iv_X6_packRow lk_X1_182 (zrv_4 G M) (S_X6_packRow l G (Or.inl rfl) 193 v3 v4 M _ h) rfl ⟨Nat.le_of_ble_eq_true rfl, Nat.le_of_ble_eq_true rfl⟩ (Nat.le_of_ble_eq_true rfl) ⟨Nat.le_of_ble_eq_true rfl, Nat.le_of_ble_eq_true rfl⟩ dX1_fitsByAny_37 rfl (fun y2 M3 h => ?_)
      refine zj_vti (pc := 40) (st := []) hc ks_X1_fitsWith iv_X1_fitsWith lk_X1_137 (zrv_2 G M3) (S_X1_fitsWith l G y2 M3 _ h) rfl ⟨Nat.le_of_ble_eq_true rfl, Nat.le_of_ble_eq_true rfl⟩ (Nat.le_of_ble_eq_true rfl) ⟨Nat.le_of_ble_eq_true rfl, Nat.le_of_ble_eq_true rfl⟩ dX1_fitsByAny_40 rfl (fun y4 M9 h => ?_)
      obtain ⟨hM9, h⟩ := h
      subst hM9
      refine zj_if_eq (pc := 43) (tgt := 48) hc dX1_fitsByAny_43 (by decide) (fun hx5 => ?_) (fun hx5 => ?_)
      · have h := h.1 hx5
        refine zj_iinc (pc := 48) hc dX1_fitsByAny_48 rfl (by decide) h.1 ?_
        have h := h.2
        refine zj_goto (pc := 51) (tgt := 13) hc dX1_fitsByAny_51 (by decide) ?_
        exact hX13 (v4 + 1) M3 h
      · have h := h.2 hx5
        refine zj_iconst (pc := 46) hc dX1_fitsByAny_46 (zin _ rfl) ?_
        exact zj_zret (pc := 47) hc hr hlk dX1_fitsByAny_47 (by decide) (by decide) (Or.inr rfl) h
  unfold T_X1_fitsByAny at h
  refine zj_aload_n (pc := 0) hc dX1_fitsByAny_0 rfl ?_
  refine zg_2_4 (pc := 1) hc lk_X1_28 dX1_fitsByAny_1 ?_
  refine zj_iload_n (pc := 4) hc dX1_fitsByAny_4 rfl ?_
  refine zj_iload_n (pc := 5) hc dX1_fitsByAny_5 rfl ?_
  refine zj_vti (pc := 6) (st := []) hc ks_X8_layOut iv_X8_layOut lk_X1_122 (zrv_3 G M) (S_X8_layOut l G (Or.inl rfl) v1 v2 M _ h) rfl ⟨Nat.le_of_ble_eq_true rfl, Nat.le_of_ble_eq_true rfl⟩ (Nat.le_of_ble_eq_true rfl) ⟨Nat.le_of_ble_eq_true rfl, Nat.le_of_ble_eq_true rfl⟩ dX1_fitsByAny_6 rfl (fun y6 M7 h => ?_)
  refine zj_istore_n (pc := 9) hc dX1_fitsByAny_9 (by decide) ?_
  refine zj_iconst (pc := 10) hc dX1_fitsByAny_10 (zin _ rfl) ?_
  refine zj_istore (pc := 11) hc dX1_fitsByAny_11 (by decide) ?_
  refine zj_mask (bs := [true, false, false, true, true]) ?_
  exact k13 M7 y6 0 h
set_option maxHeartbeats 4000000 in
set_option maxRecDepth 100000 in
theorem S_X1_farthestEnd (l : Launch) (G : zG) (v1 : Int) (M : zMem) (Qr : Int → zMem → Prop) (h : T_X1_farthestEnd v1 Qr M) : zMetI l yX1_farthestEnd cX1_farthestEnd 5 (some .int) 3 80 0 0 G [.inr 191, .inl v1] M Qr := by
  refine zmetI (by decide) (Nat.le_of_ble_eq_true rfl) [some (.inr 191), some (.inl v1), none, none, none] rfl ?_
  intro p e s m args below meth c hc hr hlk
  have k91 : ∀ (M : zMem) (v1 : Int) (v3 : Int) (v4 : Int) (X28 : Int → Int → zMem → Prop) (hX28 : ∀ (v3 : Int) (v4 : Int) (M : zMem), X28 v3 v4 M → zJ p l e (zRoom 3 80 0 0) s m args below meth c G 5 0 0 (MQ below (zQi G (Qr)) args s 0 0 (zA G)) 28 [some (.inr 191), some (.inl v1), none, some (.inl v3), some (.inl v4)] [] M), T_X1_farthestEnd_91 v1 v3 v4 X28 Qr M → zJ p l e (zRoom 3 80 0 0) s m args below meth c G 5 0 0 (MQ below (zQi G (Qr)) args s 0 0 (zA G)) 91 [some (.inr 191), some (.inl v1), none, some (.inl v3), some (.inl v4)] [] M := by
    intro M v1 v3 v4 X28 hX28 h
    unfold T_X1_farthestEnd_91 at h
    refine zj_iinc (pc := 91) hc dX1_farthestEnd_91 rfl (by decide) h.1 ?_
    have h := h.2
    refine zj_goto (pc := 94) (tgt := 28) hc dX1_farthestEnd_94 (by decide) ?_
    exact hX28 v3 (v4 + 1) M h
  have k28 : ∀ (M : zMem) (v1 : Int) (v3 : Int) (v4 : Int), T_X1_farthestEnd_28 v1 Qr v3 v4 M → zJ p l e (zRoom 3 80 0 0) s m args below meth c G 5 0 0 (MQ below (zQi G (Qr)) args s 0 0 (zA G)) 28 [some (.inr 191), some (.inl v1), none, some (.inl v3), some (.inl v4)] [] M := by
    intro M v1 v3 v4 h
    unfold T_X1_farthestEnd_28 at h
    refine zl2_use h (fun v3 v4 M => zJ p l e (zRoom 3 80 0 0) s m args below meth c G 5 0 0 (MQ below (zQi G (Qr)) args s 0 0 (zA G)) 28 [some (.inr 191), some (.inl v1), none, some (.inl v3), some (.inl v4)] [] M) (fun X28 hX28 v3 v4 M h => ?_)
    refine zj_iload (pc := 28) hc dX1_farthestEnd_28 rfl ?_
    refine zj_sipush (pc := 30) hc dX1_farthestEnd_30 (by decide) (zin _ rfl) ?_
    refine zj_icmp_ge (pc := 33) (tgt := 97) hc dX1_farthestEnd_33 (by decide) (fun hx1 => ?_) (fun hx1 => ?_)
    · have h := h.1 hx1
      refine zj_iload_n (pc := 97) hc dX1_farthestEnd_97 rfl ?_
      exact zj_iret (pc := 98) hc hr hlk dX1_farthestEnd_98 (by decide) (by decide) h
    · have h := h.2 hx1
      refine zj_aload_n (pc := 36) hc dX1_farthestEnd_36 rfl ?_
      refine zg_2_4 (pc := 37) hc lk_X1_28 dX1_farthestEnd_37 ?_
      refine zj_iload (pc := 40) hc dX1_farthestEnd_40 rfl ?_
      refine zj_vti (pc := 42) (st := []) hc ks_X8_sizeOf iv_X8_sizeOf lk_X1_176 (zrv_3 G M) (S_X8_sizeOf l G (Or.inl rfl) v4 M _ h) rfl ⟨Nat.le_of_ble_eq_true rfl, Nat.le_of_ble_eq_true rfl⟩ (Nat.le_of_ble_eq_true rfl) ⟨Nat.le_of_ble_eq_true rfl, Nat.le_of_ble_eq_true rfl⟩ dX1_farthestEnd_42 rfl (fun y2 M9 h => ?_)
      obtain ⟨hM9, h⟩ := h
      subst hM9
      refine zj_iconst (pc := 45) hc dX1_farthestEnd_45 (zin _ rfl) ?_
      refine zj_icmp_ne (pc := 46) (tgt := 52) hc dX1_farthestEnd_46 (by decide) (fun hx3 => ?_) (fun hx3 => ?_)
      · have h := h.1 hx3
        refine zj_aload_n (pc := 52) hc dX1_farthestEnd_52 rfl ?_
        refine zg_2_4 (pc := 53) hc lk_X1_28 dX1_farthestEnd_53 ?_
        refine zj_iload_n (pc := 56) hc dX1_farthestEnd_56 rfl ?_
        refine zj_iload (pc := 57) hc dX1_farthestEnd_57 rfl ?_
        refine zj_iconst (pc := 59) hc dX1_farthestEnd_59 (zin _ rfl) ?_
        refine zj_iadd (pc := 60) hc dX1_farthestEnd_60 h.1 ?_
        have h := h.2
        refine zj_vti (pc := 61) (st := []) hc ks_X8_plainSize iv_X8_plainSize lk_X1_75 (zrv_3 G M) (S_X8_plainSize l G (Or.inl rfl) v1 (v4 + 1) M _ h) rfl ⟨Nat.le_of_ble_eq_true rfl, Nat.le_of_ble_eq_true rfl⟩ (Nat.le_of_ble_eq_true rfl) ⟨Nat.le_of_ble_eq_true rfl, Nat.le_of_ble_eq_true rfl⟩ dX1_farthestEnd_61 rfl (fun y4 M9 h => ?_)
        obtain ⟨hM9, h⟩ := h
        subst hM9
        refine zj_aload_n (pc := 64) hc dX1_farthestEnd_64 rfl ?_
        refine zj_vti (pc := 65) (st := [.inl y4]) hc ks_X1_full iv_X1_full lk_X1_96 (zrv_2 G M) (S_X1_full l G M _ h) rfl ⟨Nat.le_of_ble_eq_true rfl, Nat.le_of_ble_eq_true rfl⟩ (Nat.le_of_ble_eq_true rfl) ⟨Nat.le_of_ble_eq_true rfl, Nat.le_of_ble_eq_true rfl⟩ dX1_farthestEnd_65 rfl (fun y5 M9 h => ?_)
        obtain ⟨hM9, h⟩ := h
        subst hM9
        refine zj_icmp_gt (pc := 68) (tgt := 97) hc dX1_farthestEnd_68 (by decide) (fun hx6 => ?_) (fun hx6 => ?_)
        · have h := h.1 hx6
          refine zj_iload_n (pc := 97) hc dX1_farthestEnd_97 rfl ?_
          exact zj_iret (pc := 98) hc hr hlk dX1_farthestEnd_98 (by decide) (by decide) h
        · have h := h.2 hx6
          refine zj_aload_n (pc := 71) hc dX1_farthestEnd_71 rfl ?_
          refine zj_iload_n (pc := 72) hc dX1_farthestEnd_72 rfl ?_
          refine zj_iload (pc := 73) hc dX1_farthestEnd_73 rfl ?_
          refine zj_iconst (pc := 75) hc dX1_farthestEnd_75 (zin _ rfl) ?_
          refine zj_iadd (pc := 76) hc dX1_farthestEnd_76 h.1 ?_
          have h := h.2
          refine zj_vti (pc := 77) (st := []) hc ks_X1_fitsByAny iv_X1_fitsByAny lk_X1_179 (zrv_2 G M) (S_X1_fitsByAny l G v1 (v4 + 1) M _ h) rfl ⟨Nat.le_of_ble_eq_true rfl, Nat.le_of_ble_eq_true rfl⟩ (Nat.le_of_ble_eq_true rfl) ⟨Nat.le_of_ble_eq_true rfl, Nat.le_of_ble_eq_true rfl⟩ dX1_farthestEnd_77 rfl (fun y7 M8 h => ?_)
          refine zj_if_ne (pc := 80) (tgt := 86) hc dX1_farthestEnd_80 (by decide) (fun hx9 => ?_) (fun hx9 => ?_)
          · have h := h.1 hx9
            refine zj_iload (pc := 86) hc dX1_farthestEnd_86 rfl ?_
            refine zj_iconst (pc := 88) hc dX1_farthestEnd_88 (zin _ rfl) ?_
            refine zj_iadd (pc := 89) hc dX1_farthestEnd_89 h.1 ?_
            have h := h.2
            refine zj_istore_n (pc := 90) hc dX1_farthestEnd_90 (by decide) ?_
            exact k91 M8 v1 (v4 + 1) v4 X28 hX28 h
          · have h := h.2 hx9
            refine zj_goto (pc := 83) (tgt := 97) hc dX1_farthestEnd_83 (by decide) ?_
            refine zj_iload_n (pc := 97) hc dX1_farthestEnd_97 rfl ?_
            exact zj_iret (pc := 98) hc hr hlk dX1_farthestEnd_98 (by decide) (by decide) h
      · have h := h.2 hx3
        refine zj_goto (pc := 49) (tgt := 91) hc dX1_farthestEnd_49 (by decide) ?_
        exact k91 M v1 v3 v4 X28 hX28 h
  unfold T_X1_farthestEnd at h
  refine zj_aload_n (pc := 0) hc dX1_farthestEnd_0 rfl ?_
  refine zg_2_4 (pc := 1) hc lk_X1_28 dX1_farthestEnd_1 ?_
  refine zj_iload_n (pc := 4) hc dX1_farthestEnd_4 rfl ?_
  refine zj_sipush (pc := 5) hc dX1_farthestEnd_5 (by decide) (zin _ rfl) ?_
  refine zj_vti (pc := 8) (st := []) hc ks_X8_lowestIn iv_X8_lowestIn lk_X1_107 (zrv_3 G M) (S_X8_lowestIn l G (Or.inl rfl) v1 256 M _ h) rfl ⟨Nat.le_of_ble_eq_true rfl, Nat.le_of_ble_eq_true rfl⟩ (Nat.le_of_ble_eq_true rfl) ⟨Nat.le_of_ble_eq_true rfl, Nat.le_of_ble_eq_true rfl⟩ dX1_farthestEnd_8 rfl (fun y10 M9 h => ?_)
  obtain ⟨hM9, h⟩ := h
  subst hM9
  refine zj_istore_n (pc := 11) hc dX1_farthestEnd_11 (by decide) ?_
  refine zj_iload_n (pc := 12) hc dX1_farthestEnd_12 rfl ?_
  refine zj_iconst (pc := 13) hc dX1_farthestEnd_13 (zin _ rfl) ?_
  refine zj_icmp_ne (pc := 14) (tgt := 21) hc dX1_farthestEnd_14 (by decide) (fun hx11 => ?_) (fun hx11 => ?_)
  · have h := h.1 hx11
    refine zj_iload_n (pc := 21) hc dX1_farthestEnd_21 rfl ?_
    refine zj_iconst (pc := 22) hc dX1_farthestEnd_22 (zin _ rfl) ?_
    refine zj_iadd (pc := 23) hc dX1_farthestEnd_23 h.1 ?_
    have h := h.2
    refine zj_istore_n (pc := 24) hc dX1_farthestEnd_24 (by decide) ?_
    refine zj_iload_n (pc := 25) hc dX1_farthestEnd_25 rfl ?_
    refine zj_istore (pc := 26) hc dX1_farthestEnd_26 (by decide) ?_
    refine zj_mask (bs := [true, true, false, true, true]) ?_
    exact k28 M v1 (y10 + 1) (y10 + 1) h
  · have h := h.2 hx11
    refine zj_sipush (pc := 17) hc dX1_farthestEnd_17 (by decide) (zin _ rfl) ?_
    exact zj_iret (pc := 20) hc hr hlk dX1_farthestEnd_20 (by decide) (by decide) h
set_option maxHeartbeats 4000000 in
set_option maxRecDepth 100000 in
theorem S_X1_compactAll (l : Launch) (G : zG) (M : zMem) (Qr : Int → zMem → Prop) (h : T_X1_compactAll Qr M) : zMetI l yX1_compactAll cX1_compactAll 5 (some .int) 5 131 0 0 G [.inr 191] M Qr := by
  refine zmetI (by decide) (Nat.le_of_ble_eq_true rfl) [some (.inr 191), none, none, none, none] rfl ?_
  intro p e s m args below meth c hc hr hlk
  have k118 : ∀ (M : zMem) (v2 : Int) (v3 : Int) (s1 : Int) (s2 : Int) (X15 : Int → Int → zMem → Prop) (hX15 : ∀ (v1 : Int) (v2 : Int) (M : zMem), X15 v1 v2 M → zJ p l e (zRoom 5 131 0 0) s m args below meth c G 5 0 0 (MQ below (zQi G (Qr)) args s 0 0 (zA G)) 15 [some (.inr 191), some (.inl v1), some (.inl v2), none, none] [] M), T_X1_compactAll_118 v2 v3 s1 s2 X15 Qr M → zJ p l e (zRoom 5 131 0 0) s m args below meth c G 5 0 0 (MQ below (zQi G (Qr)) args s 0 0 (zA G)) 118 [some (.inr 191), none, some (.inl v2), some (.inl v3), none] [.inl s2, .inl s1, .inr 128] M := by
    intro M v2 v3 s1 s2 X15 hX15 h
    unfold T_X1_compactAll_118 at h
    refine zj_iast (pc := 118) hc dX1_compactAll_118 alen_128 h.1 (fun M1 hM1 => ?_)
    have h := h.2 M1 hM1
    refine zj_aload_n (pc := 119) hc dX1_compactAll_119 rfl ?_
    refine zg_2_4 (pc := 120) hc lk_X1_28 dX1_compactAll_120 ?_
    refine zj_iload_n (pc := 123) hc dX1_compactAll_123 rfl ?_
    refine zj_sipush (pc := 124) hc dX1_compactAll_124 (by decide) (zin _ rfl) ?_
    refine zj_vti (pc := 127) (st := []) hc ks_X8_lowestIn iv_X8_lowestIn lk_X1_107 (zrv_3 G M1) (S_X8_lowestIn l G (Or.inl rfl) v3 256 M1 _ h) rfl ⟨Nat.le_of_ble_eq_true rfl, Nat.le_of_ble_eq_true rfl⟩ (Nat.le_of_ble_eq_true rfl) ⟨Nat.le_of_ble_eq_true rfl, Nat.le_of_ble_eq_true rfl⟩ dX1_compactAll_127 rfl (fun y2 M9 h => ?_)
    obtain ⟨hM9, h⟩ := h
    subst hM9
    refine zj_iconst (pc := 130) hc dX1_compactAll_130 (zin _ rfl) ?_
    refine zj_icmp_ne (pc := 131) (tgt := 138) hc dX1_compactAll_131 (by decide) (fun hx3 => ?_) (fun hx3 => ?_)
    · have h := h.1 hx3
      refine zj_iload_n (pc := 138) hc dX1_compactAll_138 rfl ?_
      refine zj_istore_n (pc := 139) hc dX1_compactAll_139 (by decide) ?_
      refine zj_iinc (pc := 140) hc dX1_compactAll_140 rfl (by decide) h.1 ?_
      have h := h.2
      refine zj_goto (pc := 143) (tgt := 15) hc dX1_compactAll_143 (by decide) ?_
      refine zj_mask (bs := [true, true, true, false, true]) ?_
      exact hX15 v3 (v2 + 1) M1 h
    · have h := h.2 hx3
      refine zj_iload_n (pc := 134) hc dX1_compactAll_134 rfl ?_
      refine zj_iconst (pc := 135) hc dX1_compactAll_135 (zin _ rfl) ?_
      refine zj_iadd (pc := 136) hc dX1_compactAll_136 h.1 ?_
      have h := h.2
      exact zj_iret (pc := 137) hc hr hlk dX1_compactAll_137 (by decide) (by decide) h
  have k15 : ∀ (M : zMem) (v1 : Int) (v2 : Int), T_X1_compactAll_15 Qr v1 v2 M → zJ p l e (zRoom 5 131 0 0) s m args below meth c G 5 0 0 (MQ below (zQi G (Qr)) args s 0 0 (zA G)) 15 [some (.inr 191), some (.inl v1), some (.inl v2), none, none] [] M := by
    intro M v1 v2 h
    unfold T_X1_compactAll_15 at h
    refine zl2_use h (fun v1 v2 M => zJ p l e (zRoom 5 131 0 0) s m args below meth c G 5 0 0 (MQ below (zQi G (Qr)) args s 0 0 (zA G)) 15 [some (.inr 191), some (.inl v1), some (.inl v2), none, none] [] M) (fun X15 hX15 v1 v2 M h => ?_)
    refine zj_iload_n (pc := 15) hc dX1_compactAll_15 rfl ?_
    refine zj_bipush (pc := 16) hc dX1_compactAll_16 (by decide) (zin _ rfl) ?_
    refine zj_icmp_ge (pc := 18) (tgt := 146) hc dX1_compactAll_18 (by decide) (fun hx4 => ?_) (fun hx4 => ?_)
    · have h := h.1 hx4
      refine zj_bipush (pc := 146) hc dX1_compactAll_146 (by decide) (zin _ rfl) ?_
      exact zj_iret (pc := 148) hc hr hlk dX1_compactAll_148 (by decide) (by decide) h
    · have h := h.2 hx4
      refine zj_aload_n (pc := 21) hc dX1_compactAll_21 rfl ?_
      refine zj_iload_n (pc := 22) hc dX1_compactAll_22 rfl ?_
      refine zj_vti (pc := 23) (st := []) hc ks_X1_farthestEnd iv_X1_farthestEnd lk_X1_173 (zrv_2 G M) (S_X1_farthestEnd l G v1 M _ h) rfl ⟨Nat.le_of_ble_eq_true rfl, Nat.le_of_ble_eq_true rfl⟩ (Nat.le_of_ble_eq_true rfl) ⟨Nat.le_of_ble_eq_true rfl, Nat.le_of_ble_eq_true rfl⟩ dX1_compactAll_23 rfl (fun y5 M6 h => ?_)
      refine zj_istore_n (pc := 26) hc dX1_compactAll_26 (by decide) ?_
      refine zj_aload_n (pc := 27) hc dX1_compactAll_27 rfl ?_
      refine zg_2_4 (pc := 28) hc lk_X1_28 dX1_compactAll_28 ?_
      refine zj_iload_n (pc := 31) hc dX1_compactAll_31 rfl ?_
      refine zj_iload_n (pc := 32) hc dX1_compactAll_32 rfl ?_
      refine zj_vti (pc := 33) (st := []) hc ks_X8_layOut iv_X8_layOut lk_X1_122 (zrv_3 G M6) (S_X8_layOut l G (Or.inl rfl) v1 y5 M6 _ h) rfl ⟨Nat.le_of_ble_eq_true rfl, Nat.le_of_ble_eq_true rfl⟩ (Nat.le_of_ble_eq_true rfl) ⟨Nat.le_of_ble_eq_true rfl, Nat.le_of_ble_eq_true rfl⟩ dX1_compactAll_33 rfl (fun y7 M8 h => ?_)
      refine zj_istore (pc := 36) hc dX1_compactAll_36 (by decide) ?_
      refine zj_aload_n (pc := 38) hc dX1_compactAll_38 rfl ?_
      refine zj_aload_n (pc := 39) hc dX1_compactAll_39 rfl ?_
      refine zg_2_4 (pc := 40) hc lk_X1_28 dX1_compactAll_40 ?_
      refine zg_3_0 (pc := 43) hc lk_X1_125 dX1_compactAll_43 ?_
      refine zj_aload_n (pc := 46) hc dX1_compactAll_46 rfl ?_
      refine zg_2_4 (pc := 47) hc lk_X1_28 dX1_compactAll_47 ?_
      refine zg_3_1 (pc := 50) hc lk_X1_129 dX1_compactAll_50 ?_
      refine zj_iload (pc := 53) hc dX1_compactAll_53 rfl ?_
      refine zj_vti (pc := 55) (st := [.inr 191]) hc ks_X6_packBest iv_X6_packBest lk_X1_132 (zrv_4 G M8) (S_X6_packBest l G (Or.inl rfl) 193 y7 M8 _ h) rfl ⟨Nat.le_of_ble_eq_true rfl, Nat.le_of_ble_eq_true rfl⟩ (Nat.le_of_ble_eq_true rfl) ⟨Nat.le_of_ble_eq_true rfl, Nat.le_of_ble_eq_true rfl⟩ dX1_compactAll_55 rfl (fun y9 M10 h => ?_)
      refine zs_2_7 (pc := 58) hc lk_X1_38 dX1_compactAll_58 (fun M11 hM11 => ?_)
      have h := h M11 hM11
      refine zj_aload_n (pc := 61) hc dX1_compactAll_61 rfl ?_
      refine zj_iload_n (pc := 62) hc dX1_compactAll_62 rfl ?_
      refine zj_vtv (pc := 63) (st := []) hc ks_X1_writeBlock iv_X1_writeBlock lk_X1_113 (zrv_2 G M11) (S_X1_writeBlock l G v2 M11 _ h) rfl ⟨Nat.le_of_ble_eq_true rfl, Nat.le_of_ble_eq_true rfl⟩ (Nat.le_of_ble_eq_true rfl) ⟨Nat.le_of_ble_eq_true rfl, Nat.le_of_ble_eq_true rfl⟩ dX1_compactAll_63 rfl (fun M12 h => ?_)
      refine zj_aload_n (pc := 66) hc dX1_compactAll_66 rfl ?_
      refine zg_2_0 (pc := 67) hc lk_X1_9 dX1_compactAll_67 ?_
      refine zj_sipush (pc := 70) hc dX1_compactAll_70 (by decide) (zin _ rfl) ?_
      refine zj_iload_n (pc := 73) hc dX1_compactAll_73 rfl ?_
      refine zj_iconst (pc := 74) hc dX1_compactAll_74 (zin _ rfl) ?_
      refine zj_iadd (pc := 75) hc dX1_compactAll_75 h.1 ?_
      have h := h.2
      refine zj_iast (pc := 76) hc dX1_compactAll_76 alen_128 h.1 (fun M13 hM13 => ?_)
      have h := h.2 M13 hM13
      refine zj_aload_n (pc := 77) hc dX1_compactAll_77 rfl ?_
      refine zg_2_0 (pc := 78) hc lk_X1_9 dX1_compactAll_78 ?_
      refine zj_sipush (pc := 81) hc dX1_compactAll_81 (by decide) (zin _ rfl) ?_
      refine zj_iconst (pc := 84) hc dX1_compactAll_84 (zin _ rfl) ?_
      refine zj_iload_n (pc := 85) hc dX1_compactAll_85 rfl ?_
      refine zj_imul (pc := 86) hc dX1_compactAll_86 h.1 ?_
      have h := h.2
      refine zj_iadd (pc := 87) hc dX1_compactAll_87 h.1 ?_
      have h := h.2
      refine zj_iload_n (pc := 88) hc dX1_compactAll_88 rfl ?_
      refine zj_iast (pc := 89) hc dX1_compactAll_89 alen_128 h.1 (fun M14 hM14 => ?_)
      have h := h.2 M14 hM14
      refine zj_aload_n (pc := 90) hc dX1_compactAll_90 rfl ?_
      refine zg_2_0 (pc := 91) hc lk_X1_9 dX1_compactAll_91 ?_
      refine zj_sipush (pc := 94) hc dX1_compactAll_94 (by decide) (zin _ rfl) ?_
      refine zj_iconst (pc := 97) hc dX1_compactAll_97 (zin _ rfl) ?_
      refine zj_iload_n (pc := 98) hc dX1_compactAll_98 rfl ?_
      refine zj_imul (pc := 99) hc dX1_compactAll_99 h.1 ?_
      have h := h.2
      refine zj_iadd (pc := 100) hc dX1_compactAll_100 h.1 ?_
      have h := h.2
      refine zj_iload_n (pc := 101) hc dX1_compactAll_101 rfl ?_
      refine zj_if_ne (pc := 102) (tgt := 109) hc dX1_compactAll_102 (by decide) (fun hx15 => ?_) (fun hx15 => ?_)
      · have h := h.1 hx15
        refine zj_aload_n (pc := 109) hc dX1_compactAll_109 rfl ?_
        refine zg_2_4 (pc := 110) hc lk_X1_28 dX1_compactAll_110 ?_
        refine zj_iload_n (pc := 113) hc dX1_compactAll_113 rfl ?_
        refine zj_iload_n (pc := 114) hc dX1_compactAll_114 rfl ?_
        refine zj_vti (pc := 115) (st := [.inl (642 + (2 * v2)), .inr 128]) hc ks_X8_lowestIn iv_X8_lowestIn lk_X1_107 (zrv_3 G M14) (S_X8_lowestIn l G (Or.inl rfl) v1 y5 M14 _ h) rfl ⟨Nat.le_of_ble_eq_true rfl, Nat.le_of_ble_eq_true rfl⟩ (Nat.le_of_ble_eq_true rfl) ⟨Nat.le_of_ble_eq_true rfl, Nat.le_of_ble_eq_true rfl⟩ dX1_compactAll_115 rfl (fun y16 M9 h => ?_)
        obtain ⟨hM9, h⟩ := h
        subst hM9
        refine zj_mask (bs := [true, false, true, true, false]) ?_
        exact k118 M14 v2 y5 (642 + (2 * v2)) y16 X15 hX15 h
      · have h := h.2 hx15
        refine zj_iconst (pc := 105) hc dX1_compactAll_105 (zin _ rfl) ?_
        refine zj_goto (pc := 106) (tgt := 118) hc dX1_compactAll_106 (by decide) ?_
        refine zj_mask (bs := [true, false, true, true, false]) ?_
        exact k118 M14 v2 y5 (642 + (2 * v2)) 0 X15 hX15 h
  unfold T_X1_compactAll at h
  refine zj_aload_n (pc := 0) hc dX1_compactAll_0 rfl ?_
  refine zg_2_4 (pc := 1) hc lk_X1_28 dX1_compactAll_1 ?_
  refine zj_aload_n (pc := 4) hc dX1_compactAll_4 rfl ?_
  refine zg_2_0 (pc := 5) hc lk_X1_9 dX1_compactAll_5 ?_
  refine zj_vtv (pc := 8) (st := []) hc ks_X8_loadAll iv_X8_loadAll lk_X1_169 (zrv_3 G M) (S_X8_loadAll l G (Or.inl rfl) 128 M _ h) rfl ⟨Nat.le_of_ble_eq_true rfl, Nat.le_of_ble_eq_true rfl⟩ (Nat.le_of_ble_eq_true rfl) ⟨Nat.le_of_ble_eq_true rfl, Nat.le_of_ble_eq_true rfl⟩ dX1_compactAll_8 rfl (fun M17 h => ?_)
  refine zj_iconst (pc := 11) hc dX1_compactAll_11 (zin _ rfl) ?_
  refine zj_istore_n (pc := 12) hc dX1_compactAll_12 (by decide) ?_
  refine zj_iconst (pc := 13) hc dX1_compactAll_13 (zin _ rfl) ?_
  refine zj_istore_n (pc := 14) hc dX1_compactAll_14 (by decide) ?_
  exact k15 M17 0 0 h
set_option maxHeartbeats 4000000 in
set_option maxRecDepth 100000 in
theorem S_X1_markDifferent (l : Launch) (G : zG) (r1 : Nat) (M : zMem) (Qr : zMem → Prop) (h : T_X1_markDifferent r1 Qr M) : zMetV l yX1_markDifferent cX1_markDifferent 4 none 0 0 0 0 G [.inr 191, .inr r1] M Qr := by
  refine zmetV (by decide) (Nat.le_of_ble_eq_true rfl) [some (.inr 191), some (.inr r1), none, none] rfl ?_
  intro p e s m args below meth c hc hr hlk
  have k49 : ∀ (M : zMem) (r1 : Nat) (v2 : Int) (v3 : Int) (X2 : Int → zMem → Prop) (hX2 : ∀ (v2 : Int) (M : zMem), X2 v2 M → zJ p l e (zRoom 0 0 0 0) s m args below meth c G 4 0 0 (MQ below (zQv G (Qr)) args s 0 0 (zA G)) 2 [some (.inr 191), some (.inr r1), some (.inl v2), none] [] M) (X20 : Int → zMem → Prop) (hX20 : ∀ (v3 : Int) (M : zMem), X20 v3 M → zJ p l e (zRoom 0 0 0 0) s m args below meth c G 4 0 0 (MQ below (zQv G (Qr)) args s 0 0 (zA G)) 20 [some (.inr 191), some (.inr r1), some (.inl v2), some (.inl v3)] [] M), T_X1_markDifferent_49 r1 v2 v3 X2 X20 Qr M → zJ p l e (zRoom 0 0 0 0) s m args below meth c G 4 0 0 (MQ below (zQv G (Qr)) args s 0 0 (zA G)) 49 [some (.inr 191), some (.inr r1), some (.inl v2), some (.inl v3)] [] M := by
    intro M r1 v2 v3 X2 hX2 X20 hX20 h
    unfold T_X1_markDifferent_49 at h
    refine zj_iinc (pc := 49) hc dX1_markDifferent_49 rfl (by decide) h.1 ?_
    have h := h.2
    refine zj_goto (pc := 52) (tgt := 20) hc dX1_markDifferent_52 (by decide) ?_
    exact hX20 (v3 + 1) M h
  have k20 : ∀ (M : zMem) (r1 : Nat) (v2 : Int) (X2 : Int → zMem → Prop) (hX2 : ∀ (v2 : Int) (M : zMem), X2 v2 M → zJ p l e (zRoom 0 0 0 0) s m args below meth c G 4 0 0 (MQ below (zQv G (Qr)) args s 0 0 (zA G)) 2 [some (.inr 191), some (.inr r1), some (.inl v2), none] [] M) (v3 : Int), T_X1_markDifferent_20 r1 v2 X2 Qr v3 M → zJ p l e (zRoom 0 0 0 0) s m args below meth c G 4 0 0 (MQ below (zQv G (Qr)) args s 0 0 (zA G)) 20 [some (.inr 191), some (.inr r1), some (.inl v2), some (.inl v3)] [] M := by
    intro M r1 v2 X2 hX2 v3 h
    unfold T_X1_markDifferent_20 at h
    refine zl1_use h (fun v3 M => zJ p l e (zRoom 0 0 0 0) s m args below meth c G 4 0 0 (MQ below (zQv G (Qr)) args s 0 0 (zA G)) 20 [some (.inr 191), some (.inr r1), some (.inl v2), some (.inl v3)] [] M) (fun X20 hX20 v3 M h => ?_)
    refine zj_iload_n (pc := 20) hc dX1_markDifferent_20 rfl ?_
    refine zj_iload_n (pc := 21) hc dX1_markDifferent_21 rfl ?_
    refine zj_iconst (pc := 22) hc dX1_markDifferent_22 (zin _ rfl) ?_
    refine zj_iadd (pc := 23) hc dX1_markDifferent_23 h.1 ?_
    have h := h.2
    refine zj_bipush (pc := 24) hc dX1_markDifferent_24 (by decide) (zin _ rfl) ?_
    refine zj_imul (pc := 26) hc dX1_markDifferent_26 h.1 ?_
    have h := h.2
    refine zj_icmp_ge (pc := 27) (tgt := 55) hc dX1_markDifferent_27 (by decide) (fun hx1 => ?_) (fun hx1 => ?_)
    · have h := h.1 hx1
      refine zj_iinc (pc := 55) hc dX1_markDifferent_55 rfl (by decide) h.1 ?_
      have h := h.2
      refine zj_goto (pc := 58) (tgt := 2) hc dX1_markDifferent_58 (by decide) ?_
      refine zj_mask (bs := [true, true, true, false]) ?_
      exact hX2 (v2 + 1) M h
    · have h := h.2 hx1
      refine zj_aload_n (pc := 30) hc dX1_markDifferent_30 rfl ?_
      refine zg_2_0 (pc := 31) hc lk_X1_9 dX1_markDifferent_31 ?_
      refine zj_iload_n (pc := 34) hc dX1_markDifferent_34 rfl ?_
      refine zj_iald (pc := 35) hc dX1_markDifferent_35 alen_128 h.1 ?_
      have h := h.2
      refine zj_aload_n (pc := 36) hc dX1_markDifferent_36 rfl ?_
      refine zj_iload_n (pc := 37) hc dX1_markDifferent_37 rfl ?_
      refine zj_iald (pc := 38) hc dX1_markDifferent_38 rfl h.1 ?_
      have h := h.2
      refine zj_icmp_eq (pc := 39) (tgt := 49) hc dX1_markDifferent_39 (by decide) (fun hx2 => ?_) (fun hx2 => ?_)
      · have h := h.1 hx2
        exact k49 M r1 v2 v3 X2 hX2 X20 hX20 h
      · have h := h.2 hx2
        refine zj_aload_n (pc := 42) hc dX1_markDifferent_42 rfl ?_
        refine zg_2_2 (pc := 43) hc lk_X1_18 dX1_markDifferent_43 ?_
        refine zj_iload_n (pc := 46) hc dX1_markDifferent_46 rfl ?_
        refine zj_iconst (pc := 47) hc dX1_markDifferent_47 (zin _ rfl) ?_
        refine zj_iast (pc := 48) hc dX1_markDifferent_48 alen_130 h.1 (fun M3 hM3 => ?_)
        have h := h.2 M3 hM3
        exact k49 M3 r1 v2 v3 X2 hX2 X20 hX20 h
  have k2 : ∀ (M : zMem) (r1 : Nat) (v2 : Int), T_X1_markDifferent_2 r1 Qr v2 M → zJ p l e (zRoom 0 0 0 0) s m args below meth c G 4 0 0 (MQ below (zQv G (Qr)) args s 0 0 (zA G)) 2 [some (.inr 191), some (.inr r1), some (.inl v2), none] [] M := by
    intro M r1 v2 h
    unfold T_X1_markDifferent_2 at h
    refine zl1_use h (fun v2 M => zJ p l e (zRoom 0 0 0 0) s m args below meth c G 4 0 0 (MQ below (zQv G (Qr)) args s 0 0 (zA G)) 2 [some (.inr 191), some (.inr r1), some (.inl v2), none] [] M) (fun X2 hX2 v2 M h => ?_)
    refine zj_iload_n (pc := 2) hc dX1_markDifferent_2 rfl ?_
    refine zj_bipush (pc := 3) hc dX1_markDifferent_3 (by decide) (zin _ rfl) ?_
    refine zj_icmp_ge (pc := 5) (tgt := 61) hc dX1_markDifferent_5 (by decide) (fun hx4 => ?_) (fun hx4 => ?_)
    · have h := h.1 hx4
      exact zj_vret (pc := 61) hc hr hlk dX1_markDifferent_61 (by decide) (by decide) h
    · have h := h.2 hx4
      refine zj_aload_n (pc := 8) hc dX1_markDifferent_8 rfl ?_
      refine zg_2_2 (pc := 9) hc lk_X1_18 dX1_markDifferent_9 ?_
      refine zj_iload_n (pc := 12) hc dX1_markDifferent_12 rfl ?_
      refine zj_iconst (pc := 13) hc dX1_markDifferent_13 (zin _ rfl) ?_
      refine zj_iast (pc := 14) hc dX1_markDifferent_14 alen_130 h.1 (fun M5 hM5 => ?_)
      have h := h.2 M5 hM5
      refine zj_iload_n (pc := 15) hc dX1_markDifferent_15 rfl ?_
      refine zj_bipush (pc := 16) hc dX1_markDifferent_16 (by decide) (zin _ rfl) ?_
      refine zj_imul (pc := 18) hc dX1_markDifferent_18 h.1 ?_
      have h := h.2
      refine zj_istore_n (pc := 19) hc dX1_markDifferent_19 (by decide) ?_
      exact k20 M5 r1 v2 X2 hX2 (v2 * 64) h
  unfold T_X1_markDifferent at h
  refine zj_iconst (pc := 0) hc dX1_markDifferent_0 (zin _ rfl) ?_
  refine zj_istore_n (pc := 1) hc dX1_markDifferent_1 (by decide) ?_
  exact k2 M r1 0 h
set_option maxHeartbeats 4000000 in
set_option maxRecDepth 100000 in
theorem S_X1_bytesThroughJournal (l : Launch) (G : zG) (M : zMem) (Qr : Int → Prop) (h : T_X1_bytesThroughJournal Qr M) : zMetI l yX1_bytesThroughJournal cX1_bytesThroughJournal 5 (some .int) 1 21 0 0 G [.inr 191] M (fun r9 M9 => M = M9 ∧ Qr r9) := by
  refine zmetI (by decide) (Nat.le_of_ble_eq_true rfl) [some (.inr 191), none, none, none, none] rfl ?_
  intro p e s m args below meth c hc hr hlk
  have k4 : ∀ (v1 : Int) (v2 : Int), T_X1_bytesThroughJournal_4 Qr v1 v2 M → zJ p l e (zRoom 1 21 0 0) s m args below meth c G 5 0 0 (MQ below (zQi G (fun r9 M9 => M = M9 ∧ Qr r9)) args s 0 0 (zA G)) 4 [some (.inr 191), some (.inl v1), some (.inl v2), none, none] [] M := by
    intro v1 v2 h
    unfold T_X1_bytesThroughJournal_4 at h
    refine zp2_use h (fun v1 v2 => zJ p l e (zRoom 1 21 0 0) s m args below meth c G 5 0 0 (MQ below (zQi G (fun r9 M9 => M = M9 ∧ Qr r9)) args s 0 0 (zA G)) 4 [some (.inr 191), some (.inl v1), some (.inl v2), none, none] [] M) (fun X4 hX4 v1 v2 h => ?_)
    refine zj_iload_n (pc := 4) hc dX1_bytesThroughJournal_4 rfl ?_
    refine zj_bipush (pc := 5) hc dX1_bytesThroughJournal_5 (by decide) (zin _ rfl) ?_
    refine zj_icmp_ge (pc := 7) (tgt := 25) hc dX1_bytesThroughJournal_7 (by decide) (fun hx1 => ?_) (fun hx1 => ?_)
    · have h := h.1 hx1
      refine zj_iconst (pc := 25) hc dX1_bytesThroughJournal_25 (zin _ rfl) ?_
      refine zj_iconst (pc := 26) hc dX1_bytesThroughJournal_26 (zin _ rfl) ?_
      refine zj_aload_n (pc := 27) hc dX1_bytesThroughJournal_27 rfl ?_
      refine zg_2_0 (pc := 28) hc lk_X1_9 dX1_bytesThroughJournal_28 ?_
      refine zj_sti (pc := 31) (st := [.inl 2, .inl 1]) hc ks_X4_inUse st_X4_inUse lk_X1_162 (S_X4_inUse l G 128 M _ h) rfl ⟨Nat.le_of_ble_eq_true rfl, Nat.le_of_ble_eq_true rfl⟩ (Nat.le_of_ble_eq_true rfl) ⟨Nat.le_of_ble_eq_true rfl, Nat.le_of_ble_eq_true rfl⟩ dX1_bytesThroughJournal_31 rfl (fun y2 M9 h => ?_)
      obtain ⟨hM9, h⟩ := h
      subst hM9
      refine zj_imul (pc := 34) hc dX1_bytesThroughJournal_34 h.1 ?_
      have h := h.2
      refine zj_iadd (pc := 35) hc dX1_bytesThroughJournal_35 h.1 ?_
      have h := h.2
      refine zj_istore_n (pc := 36) hc dX1_bytesThroughJournal_36 (by decide) ?_
      refine zj_iconst (pc := 37) hc dX1_bytesThroughJournal_37 (zin _ rfl) ?_
      refine zj_iload_n (pc := 38) hc dX1_bytesThroughJournal_38 rfl ?_
      refine zj_bipush (pc := 39) hc dX1_bytesThroughJournal_39 (by decide) (zin _ rfl) ?_
      refine zj_imul (pc := 41) hc dX1_bytesThroughJournal_41 h.1 ?_
      have h := h.2
      refine zj_iadd (pc := 42) hc dX1_bytesThroughJournal_42 h.1 ?_
      have h := h.2
      refine zj_iload_n (pc := 43) hc dX1_bytesThroughJournal_43 rfl ?_
      refine zj_iadd (pc := 44) hc dX1_bytesThroughJournal_44 h.1 ?_
      have h := h.2
      refine zj_istore_n (pc := 45) hc dX1_bytesThroughJournal_45 (by decide) ?_
      refine zj_iload_n (pc := 46) hc dX1_bytesThroughJournal_46 rfl ?_
      refine zj_bipush (pc := 47) hc dX1_bytesThroughJournal_47 (by decide) (zin _ rfl) ?_
      refine zj_imul (pc := 49) hc dX1_bytesThroughJournal_49 h.1 ?_
      have h := h.2
      refine zj_iload_n (pc := 50) hc dX1_bytesThroughJournal_50 rfl ?_
      refine zj_iadd (pc := 51) hc dX1_bytesThroughJournal_51 h.1 ?_
      have h := h.2
      refine zj_istore (pc := 52) hc dX1_bytesThroughJournal_52 (by decide) ?_
      refine zj_iload_n (pc := 54) hc dX1_bytesThroughJournal_54 rfl ?_
      refine zj_iconst (pc := 55) hc dX1_bytesThroughJournal_55 (zin _ rfl) ?_
      refine zj_iadd (pc := 56) hc dX1_bytesThroughJournal_56 h.1 ?_
      have h := h.2
      refine zj_iload (pc := 57) hc dX1_bytesThroughJournal_57 rfl ?_
      refine zj_iadd (pc := 59) hc dX1_bytesThroughJournal_59 h.1 ?_
      have h := h.2
      refine zj_iconst (pc := 60) hc dX1_bytesThroughJournal_60 (zin _ rfl) ?_
      refine zj_iadd (pc := 61) hc dX1_bytesThroughJournal_61 h.1 ?_
      have h := h.2
      exact zj_iret (pc := 62) hc hr hlk dX1_bytesThroughJournal_62 (by decide) (by decide) ⟨rfl, h⟩
    · have h := h.2 hx1
      refine zj_iload_n (pc := 10) hc dX1_bytesThroughJournal_10 rfl ?_
      refine zj_aload_n (pc := 11) hc dX1_bytesThroughJournal_11 rfl ?_
      refine zg_2_2 (pc := 12) hc lk_X1_18 dX1_bytesThroughJournal_12 ?_
      refine zj_iload_n (pc := 15) hc dX1_bytesThroughJournal_15 rfl ?_
      refine zj_iald (pc := 16) hc dX1_bytesThroughJournal_16 alen_130 h.1 ?_
      have h := h.2
      refine zj_iadd (pc := 17) hc dX1_bytesThroughJournal_17 h.1 ?_
      have h := h.2
      refine zj_istore_n (pc := 18) hc dX1_bytesThroughJournal_18 (by decide) ?_
      refine zj_iinc (pc := 19) hc dX1_bytesThroughJournal_19 rfl (by decide) h.1 ?_
      have h := h.2
      refine zj_goto (pc := 22) (tgt := 4) hc dX1_bytesThroughJournal_22 (by decide) ?_
      exact hX4 (v1 + (M.2 130 v2)) (v2 + 1) h
  unfold T_X1_bytesThroughJournal at h
  refine zj_iconst (pc := 0) hc dX1_bytesThroughJournal_0 (zin _ rfl) ?_
  refine zj_istore_n (pc := 1) hc dX1_bytesThroughJournal_1 (by decide) ?_
  refine zj_iconst (pc := 2) hc dX1_bytesThroughJournal_2 (zin _ rfl) ?_
  refine zj_istore_n (pc := 3) hc dX1_bytesThroughJournal_3 (by decide) ?_
  exact k4 0 0 h
set_option maxHeartbeats 4000000 in
set_option maxRecDepth 100000 in
theorem S_X0_startAct (l : Launch) (G : zG) (M : zMem) (Qr : zMem → Prop) (h : T_X0_startAct Qr M) : zMetV l yX0_startAct cX0_startAct 1 none 0 0 0 0 G [.inr 127] M Qr := by
  refine zmetV (by decide) (Nat.le_of_ble_eq_true rfl) [some (.inr 127)] rfl ?_
  intro p e s m args below meth c hc hr hlk
  unfold T_X0_startAct at h
  refine zj_aload_n (pc := 0) hc dX0_startAct_0 rfl ?_
  refine zj_iconst (pc := 1) hc dX0_startAct_1 (zin _ rfl) ?_
  refine zs_1_3 (pc := 2) hc lk_X0_23 (Or.inl rfl) dX0_startAct_2 (fun M1 hM1 => ?_)
  have h := h M1 hM1
  refine zj_aload_n (pc := 5) hc dX0_startAct_5 rfl ?_
  refine zj_iconst (pc := 6) hc dX0_startAct_6 (zin _ rfl) ?_
  refine zs_1_4 (pc := 7) hc lk_X0_26 dX0_startAct_7 (fun M2 hM2 => ?_)
  have h := h M2 hM2
  exact zj_vret (pc := 10) hc hr hlk dX0_startAct_10 (by decide) (by decide) h
set_option maxHeartbeats 4000000 in
set_option maxRecDepth 100000 in
theorem S_X0_write (l : Launch) (G : zG) (v1 : Int) (v2 : Int) (M : zMem) (Qr : zMem → Prop) (h : T_X0_write v1 v2 Qr M) : zMetV l yX0_write cX0_write 3 none 0 0 0 0 G [.inr 127, .inl v1, .inl v2] M Qr := by
  refine zmetV (by decide) (Nat.le_of_ble_eq_true rfl) [some (.inr 127), some (.inl v1), some (.inl v2)] rfl ?_
  intro p e s m args below meth c hc hr hlk
  have k59 : ∀ (M : zMem) (v1 : Int) (v2 : Int), T_X0_write_59 v1 v2 Qr M → zJ p l e (zRoom 0 0 0 0) s m args below meth c G 3 0 0 (MQ below (zQv G (Qr)) args s 0 0 (zA G)) 59 [some (.inr 127), some (.inl v1), some (.inl v2)] [] M := by
    intro M v1 v2 h
    unfold T_X0_write_59 at h
    refine zj_aload_n (pc := 59) hc dX0_write_59 rfl ?_
    refine zg_1_0 (pc := 60) hc lk_X0_9 dX0_write_60 ?_
    refine zj_iload_n (pc := 63) hc dX0_write_63 rfl ?_
    refine zj_iload_n (pc := 64) hc dX0_write_64 rfl ?_
    refine zj_iast (pc := 65) hc dX0_write_65 alen_64 h.1 (fun M1 hM1 => ?_)
    have h := h.2 M1 hM1
    refine zj_aload_n (pc := 66) hc dX0_write_66 rfl ?_
    refine zj_dup (pc := 67) hc dX0_write_67 ?_
    refine zg_1_4 (pc := 68) hc lk_X0_26 dX0_write_68 ?_
    refine zj_iconst (pc := 71) hc dX0_write_71 (zin _ rfl) ?_
    refine zj_iadd (pc := 72) hc dX0_write_72 h.1 ?_
    have h := h.2
    refine zs_1_4 (pc := 73) hc lk_X0_26 dX0_write_73 (fun M2 hM2 => ?_)
    have h := h M2 hM2
    exact zj_vret (pc := 76) hc hr hlk dX0_write_76 (by decide) (by decide) h
  unfold T_X0_write at h
  refine zj_aload_n (pc := 0) hc dX0_write_0 rfl ?_
  refine zg_1_3 (pc := 1) hc lk_X0_23 dX0_write_1 ?_
  refine zj_if_ne (pc := 4) (tgt := 18) hc dX0_write_4 (by decide) (fun hx3 => ?_) (fun hx3 => ?_)
  · have h := h.1 hx3
    exact zj_vret (pc := 18) hc hr hlk dX0_write_18 (by decide) (by decide) h
  · have h := h.2 hx3
    refine zj_iload_n (pc := 7) hc dX0_write_7 rfl ?_
    refine zj_if_lt (pc := 8) (tgt := 18) hc dX0_write_8 (by decide) (fun hx4 => ?_) (fun hx4 => ?_)
    · have h := h.1 hx4
      exact zj_vret (pc := 18) hc hr hlk dX0_write_18 (by decide) (by decide) h
    · have h := h.2 hx4
      refine zj_iload_n (pc := 11) hc dX0_write_11 rfl ?_
      refine zj_sipush (pc := 12) hc dX0_write_12 (by decide) (zin _ rfl) ?_
      refine zj_icmp_lt (pc := 15) (tgt := 19) hc dX0_write_15 (by decide) (fun hx5 => ?_) (fun hx5 => ?_)
      · have h := h.1 hx5
        refine zj_aload_n (pc := 19) hc dX0_write_19 rfl ?_
        refine zg_1_1 (pc := 20) hc lk_X0_15 dX0_write_20 ?_
        refine zj_if_ne (pc := 23) (tgt := 42) hc dX0_write_23 (by decide) (fun hx6 => ?_) (fun hx6 => ?_)
        · have h := h.1 hx6
          refine zj_aload_n (pc := 42) hc dX0_write_42 rfl ?_
          refine zg_1_1 (pc := 43) hc lk_X0_15 dX0_write_43 ?_
          refine zj_if_le (pc := 46) (tgt := 59) hc dX0_write_46 (by decide) (fun hx7 => ?_) (fun hx7 => ?_)
          · have h := h.1 hx7
            exact k59 M v1 v2 h
          · have h := h.2 hx7
            refine zj_aload_n (pc := 49) hc dX0_write_49 rfl ?_
            refine zj_dup (pc := 50) hc dX0_write_50 ?_
            refine zg_1_1 (pc := 51) hc lk_X0_15 dX0_write_51 ?_
            refine zj_iconst (pc := 54) hc dX0_write_54 (zin _ rfl) ?_
            refine zj_isub (pc := 55) hc dX0_write_55 h.1 ?_
            have h := h.2
            refine zs_1_1 (pc := 56) hc lk_X0_15 dX0_write_56 (fun M8 hM8 => ?_)
            have h := h M8 hM8
            exact k59 M8 v1 v2 h
        · have h := h.2 hx6
          refine zj_aload_n (pc := 26) hc dX0_write_26 rfl ?_
          refine zj_iconst (pc := 27) hc dX0_write_27 (zin _ rfl) ?_
          refine zs_1_3 (pc := 28) hc lk_X0_23 (Or.inr rfl) dX0_write_28 (fun M9 hM9 => ?_)
          have h := h M9 hM9
          refine zj_aload_n (pc := 31) hc dX0_write_31 rfl ?_
          refine zj_iconst (pc := 32) hc dX0_write_32 (zin _ rfl) ?_
          refine zs_1_2 (pc := 33) hc lk_X0_19 (Or.inr rfl) dX0_write_33 (fun M10 hM10 => ?_)
          have h := h M10 hM10
          refine zj_aload_n (pc := 36) hc dX0_write_36 rfl ?_
          refine zj_iconst (pc := 37) hc dX0_write_37 (zin _ rfl) ?_
          refine zs_1_1 (pc := 38) hc lk_X0_15 dX0_write_38 (fun M11 hM11 => ?_)
          have h := h M11 hM11
          exact zj_vret (pc := 41) hc hr hlk dX0_write_41 (by decide) (by decide) h
      · have h := h.2 hx5
        exact zj_vret (pc := 18) hc hr hlk dX0_write_18 (by decide) (by decide) h
set_option maxHeartbeats 4000000 in
set_option maxRecDepth 100000 in
theorem S_X0_writeEntry (l : Launch) (G : zG) (v1 : Int) (r2 : Nat) (M : zMem) (Qr : zMem → Prop) (h : T_X0_writeEntry v1 r2 Qr M) : zMetV l yX0_writeEntry cX0_writeEntry 5 none 3 64 0 0 G [.inr 127, .inl v1, .inr r2] M Qr := by
  refine zmetV (by decide) (Nat.le_of_ble_eq_true rfl) [some (.inr 127), some (.inl v1), some (.inr r2), none, none] rfl ?_
  intro p e s m args below meth c hc hr hlk
  have k15 : ∀ (M : zMem) (v1 : Int) (r2 : Nat) (v3 : Int) (v4 : Int), T_X0_writeEntry_15 v1 r2 v3 Qr v4 M → zJ p l e (zRoom 3 64 0 0) s m args below meth c G 5 0 0 (MQ below (zQv G (Qr)) args s 0 0 (zA G)) 15 [some (.inr 127), some (.inl v1), some (.inr r2), some (.inl v3), some (.inl v4)] [] M := by
    intro M v1 r2 v3 v4 h
    unfold T_X0_writeEntry_15 at h
    refine zl1_use h (fun v4 M => zJ p l e (zRoom 3 64 0 0) s m args below meth c G 5 0 0 (MQ below (zQv G (Qr)) args s 0 0 (zA G)) 15 [some (.inr 127), some (.inl v1), some (.inr r2), some (.inl v3), some (.inl v4)] [] M) (fun X15 hX15 v4 M h => ?_)
    refine zj_iload (pc := 15) hc dX0_writeEntry_15 rfl ?_
    refine zj_iload_n (pc := 17) hc dX0_writeEntry_17 rfl ?_
    refine zj_icmp_ge (pc := 18) (tgt := 39) hc dX0_writeEntry_18 (by decide) (fun hx1 => ?_) (fun hx1 => ?_)
    · have h := h.1 hx1
      refine zj_aload_n (pc := 39) hc dX0_writeEntry_39 rfl ?_
      refine zj_iload_n (pc := 40) hc dX0_writeEntry_40 rfl ?_
      refine zj_aload_n (pc := 41) hc dX0_writeEntry_41 rfl ?_
      refine zj_iconst (pc := 42) hc dX0_writeEntry_42 (zin _ rfl) ?_
      refine zj_iald (pc := 43) hc dX0_writeEntry_43 rfl h.1 ?_
      have h := h.2
      refine zj_vtv (pc := 44) (st := []) hc ks_X0_write iv_X0_write lk_X0_38 (zrv_1 G M) (S_X0_write l G v1 (M.2 r2 0) M _ h) rfl ⟨Nat.le_of_ble_eq_true rfl, Nat.le_of_ble_eq_true rfl⟩ (Nat.le_of_ble_eq_true rfl) ⟨Nat.le_of_ble_eq_true rfl, Nat.le_of_ble_eq_true rfl⟩ dX0_writeEntry_44 rfl (fun M2 h => ?_)
      exact zj_vret (pc := 47) hc hr hlk dX0_writeEntry_47 (by decide) (by decide) h
    · have h := h.2 hx1
      refine zj_aload_n (pc := 21) hc dX0_writeEntry_21 rfl ?_
      refine zj_iload_n (pc := 22) hc dX0_writeEntry_22 rfl ?_
      refine zj_iload (pc := 23) hc dX0_writeEntry_23 rfl ?_
      refine zj_iadd (pc := 25) hc dX0_writeEntry_25 h.1 ?_
      have h := h.2
      refine zj_aload_n (pc := 26) hc dX0_writeEntry_26 rfl ?_
      refine zj_iload (pc := 27) hc dX0_writeEntry_27 rfl ?_
      refine zj_iald (pc := 29) hc dX0_writeEntry_29 rfl h.1 ?_
      have h := h.2
      refine zj_vtv (pc := 30) (st := []) hc ks_X0_write iv_X0_write lk_X0_38 (zrv_1 G M) (S_X0_write l G (v1 + v4) (M.2 r2 v4) M _ h) rfl ⟨Nat.le_of_ble_eq_true rfl, Nat.le_of_ble_eq_true rfl⟩ (Nat.le_of_ble_eq_true rfl) ⟨Nat.le_of_ble_eq_true rfl, Nat.le_of_ble_eq_true rfl⟩ dX0_writeEntry_30 rfl (fun M3 h => ?_)
      refine zj_iinc (pc := 33) hc dX0_writeEntry_33 rfl (by decide) h.1 ?_
      have h := h.2
      refine zj_goto (pc := 36) (tgt := 15) hc dX0_writeEntry_36 (by decide) ?_
      exact hX15 (v4 + 1) M3 h
  unfold T_X0_writeEntry at h
  refine zj_aload_n (pc := 0) hc dX0_writeEntry_0 rfl ?_
  refine zj_vtv (pc := 1) (st := []) hc ks_X0_startAct iv_X0_startAct lk_X0_29 (zrv_1 G M) (S_X0_startAct l G M _ h) rfl ⟨Nat.le_of_ble_eq_true rfl, Nat.le_of_ble_eq_true rfl⟩ (Nat.le_of_ble_eq_true rfl) ⟨Nat.le_of_ble_eq_true rfl, Nat.le_of_ble_eq_true rfl⟩ dX0_writeEntry_1 rfl (fun M4 h => ?_)
  refine zj_aload_n (pc := 4) hc dX0_writeEntry_4 rfl ?_
  refine zj_iconst (pc := 5) hc dX0_writeEntry_5 (zin _ rfl) ?_
  refine zj_aload_n (pc := 6) hc dX0_writeEntry_6 rfl ?_
  refine zj_alen (pc := 7) hc dX0_writeEntry_7 rfl h.1 ?_
  have h := h.2
  refine zj_sti (pc := 8) (st := []) hc ks_X2_sizeAt st_X2_sizeAt lk_X0_32 (S_X2_sizeAt l G r2 0 (alen r2) M4 _ h) rfl ⟨Nat.le_of_ble_eq_true rfl, Nat.le_of_ble_eq_true rfl⟩ (Nat.le_of_ble_eq_true rfl) ⟨Nat.le_of_ble_eq_true rfl, Nat.le_of_ble_eq_true rfl⟩ dX0_writeEntry_8 rfl (fun y5 M9 h => ?_)
  obtain ⟨hM9, h⟩ := h
  subst hM9
  refine zj_istore_n (pc := 11) hc dX0_writeEntry_11 (by decide) ?_
  refine zj_iconst (pc := 12) hc dX0_writeEntry_12 (zin _ rfl) ?_
  refine zj_istore (pc := 13) hc dX0_writeEntry_13 (by decide) ?_
  exact k15 M4 v1 r2 y5 1 h
set_option maxHeartbeats 4000000 in
set_option maxRecDepth 100000 in
theorem S_X0_copyIn (l : Launch) (G : zG) (r1 : Nat) (v2 : Int) (v3 : Int) (v4 : Int) (M : zMem) (Qr : zMem → Prop) (h : T_X0_copyIn r1 v2 v3 v4 Qr M) : zMetV l yX0_copyIn cX0_copyIn 6 none 1 22 0 0 G [.inr 127, .inr r1, .inl v2, .inl v3, .inl v4] M Qr := by
  refine zmetV (by decide) (Nat.le_of_ble_eq_true rfl) [some (.inr 127), some (.inr r1), some (.inl v2), some (.inl v3), some (.inl v4), none] rfl ?_
  intro p e s m args below meth c hc hr hlk
  have k3 : ∀ (M : zMem) (r1 : Nat) (v2 : Int) (v3 : Int) (v4 : Int) (v5 : Int), T_X0_copyIn_3 r1 v2 v3 v4 Qr v5 M → zJ p l e (zRoom 1 22 0 0) s m args below meth c G 6 0 0 (MQ below (zQv G (Qr)) args s 0 0 (zA G)) 3 [some (.inr 127), some (.inr r1), some (.inl v2), some (.inl v3), some (.inl v4), some (.inl v5)] [] M := by
    intro M r1 v2 v3 v4 v5 h
    unfold T_X0_copyIn_3 at h
    refine zl1_use h (fun v5 M => zJ p l e (zRoom 1 22 0 0) s m args below meth c G 6 0 0 (MQ below (zQv G (Qr)) args s 0 0 (zA G)) 3 [some (.inr 127), some (.inr r1), some (.inl v2), some (.inl v3), some (.inl v4), some (.inl v5)] [] M) (fun X3 hX3 v5 M h => ?_)
    refine zj_iload (pc := 3) hc dX0_copyIn_3 rfl ?_
    refine zj_iload (pc := 5) hc dX0_copyIn_5 rfl ?_
    refine zj_icmp_ge (pc := 7) (tgt := 39) hc dX0_copyIn_7 (by decide) (fun hx1 => ?_) (fun hx1 => ?_)
    · have h := h.1 hx1
      exact zj_vret (pc := 39) hc hr hlk dX0_copyIn_39 (by decide) (by decide) h
    · have h := h.2 hx1
      refine zj_iload_n (pc := 10) hc dX0_copyIn_10 rfl ?_
      refine zj_iload (pc := 11) hc dX0_copyIn_11 rfl ?_
      refine zj_iadd (pc := 13) hc dX0_copyIn_13 h.1 ?_
      have h := h.2
      refine zj_aload_n (pc := 14) hc dX0_copyIn_14 rfl ?_
      refine zj_alen (pc := 15) hc dX0_copyIn_15 rfl h.1 ?_
      have h := h.2
      refine zj_icmp_ge (pc := 16) (tgt := 39) hc dX0_copyIn_16 (by decide) (fun hx2 => ?_) (fun hx2 => ?_)
      · have h := h.1 hx2
        exact zj_vret (pc := 39) hc hr hlk dX0_copyIn_39 (by decide) (by decide) h
      · have h := h.2 hx2
        refine zj_aload_n (pc := 19) hc dX0_copyIn_19 rfl ?_
        refine zj_iload_n (pc := 20) hc dX0_copyIn_20 rfl ?_
        refine zj_iload (pc := 21) hc dX0_copyIn_21 rfl ?_
        refine zj_iadd (pc := 23) hc dX0_copyIn_23 h.1 ?_
        have h := h.2
        refine zj_aload_n (pc := 24) hc dX0_copyIn_24 rfl ?_
        refine zj_iload_n (pc := 25) hc dX0_copyIn_25 rfl ?_
        refine zj_iload (pc := 26) hc dX0_copyIn_26 rfl ?_
        refine zj_iadd (pc := 28) hc dX0_copyIn_28 h.1 ?_
        have h := h.2
        refine zj_iald (pc := 29) hc dX0_copyIn_29 rfl h.1 ?_
        have h := h.2
        refine zj_vtv (pc := 30) (st := []) hc ks_X0_write iv_X0_write lk_X0_38 (zrv_1 G M) (S_X0_write l G (v3 + v5) (M.2 r1 (v2 + v5)) M _ h) rfl ⟨Nat.le_of_ble_eq_true rfl, Nat.le_of_ble_eq_true rfl⟩ (Nat.le_of_ble_eq_true rfl) ⟨Nat.le_of_ble_eq_true rfl, Nat.le_of_ble_eq_true rfl⟩ dX0_copyIn_30 rfl (fun M3 h => ?_)
        refine zj_iinc (pc := 33) hc dX0_copyIn_33 rfl (by decide) h.1 ?_
        have h := h.2
        refine zj_goto (pc := 36) (tgt := 3) hc dX0_copyIn_36 (by decide) ?_
        exact hX3 (v5 + 1) M3 h
  unfold T_X0_copyIn at h
  refine zj_iconst (pc := 0) hc dX0_copyIn_0 (zin _ rfl) ?_
  refine zj_istore (pc := 1) hc dX0_copyIn_1 (by decide) ?_
  exact k3 M r1 v2 v3 v4 0 h
set_option maxHeartbeats 4000000 in
set_option maxRecDepth 100000 in
theorem S_X0_writeThroughJournal (l : Launch) (G : zG) (r1 : Nat) (r2 : Nat) (M : zMem) (Qr : zMem → Prop) (h : T_X0_writeThroughJournal r1 r2 Qr M) : zMetV l yX0_writeThroughJournal cX0_writeThroughJournal 7 none 2 47 0 0 G [.inr 127, .inr r1, .inr r2] M Qr := by
  refine zmetV (by decide) (Nat.le_of_ble_eq_true rfl) [some (.inr 127), some (.inr r1), some (.inr r2), none, none, none, none] rfl ?_
  intro p e s m args below meth c hc hr hlk
  have k162 : ∀ (M : zMem) (r1 : Nat) (r2 : Nat) (v3 : Int) (v6 : Int) (X130 : Int → zMem → Prop) (hX130 : ∀ (v6 : Int) (M : zMem), X130 v6 M → zJ p l e (zRoom 2 47 0 0) s m args below meth c G 7 0 0 (MQ below (zQv G (Qr)) args s 0 0 (zA G)) 130 [some (.inr 127), some (.inr r1), some (.inr r2), some (.inl v3), none, none, some (.inl v6)] [] M), T_X0_writeThroughJournal_162 r1 r2 v3 v6 X130 Qr M → zJ p l e (zRoom 2 47 0 0) s m args below meth c G 7 0 0 (MQ below (zQv G (Qr)) args s 0 0 (zA G)) 162 [some (.inr 127), some (.inr r1), some (.inr r2), some (.inl v3), none, none, some (.inl v6)] [] M := by
    intro M r1 r2 v3 v6 X130 hX130 h
    unfold T_X0_writeThroughJournal_162 at h
    refine zj_iinc (pc := 162) hc dX0_writeThroughJournal_162 rfl (by decide) h.1 ?_
    have h := h.2
    refine zj_goto (pc := 165) (tgt := 130) hc dX0_writeThroughJournal_165 (by decide) ?_
    exact hX130 (v6 + 1) M h
  have k130 : ∀ (M : zMem) (r1 : Nat) (r2 : Nat) (v3 : Int) (v6 : Int), T_X0_writeThroughJournal_130 r1 r2 v3 Qr v6 M → zJ p l e (zRoom 2 47 0 0) s m args below meth c G 7 0 0 (MQ below (zQv G (Qr)) args s 0 0 (zA G)) 130 [some (.inr 127), some (.inr r1), some (.inr r2), some (.inl v3), none, none, some (.inl v6)] [] M := by
    intro M r1 r2 v3 v6 h
    unfold T_X0_writeThroughJournal_130 at h
    refine zl1_use h (fun v6 M => zJ p l e (zRoom 2 47 0 0) s m args below meth c G 7 0 0 (MQ below (zQv G (Qr)) args s 0 0 (zA G)) 130 [some (.inr 127), some (.inr r1), some (.inr r2), some (.inl v3), none, none, some (.inl v6)] [] M) (fun X130 hX130 v6 M h => ?_)
    refine zj_iload (pc := 130) hc dX0_writeThroughJournal_130 rfl ?_
    refine zj_bipush (pc := 132) hc dX0_writeThroughJournal_132 (by decide) (zin _ rfl) ?_
    refine zj_icmp_ge (pc := 134) (tgt := 168) hc dX0_writeThroughJournal_134 (by decide) (fun hx1 => ?_) (fun hx1 => ?_)
    · have h := h.1 hx1
      refine zj_aload_n (pc := 168) hc dX0_writeThroughJournal_168 rfl ?_
      refine zj_aload_n (pc := 169) hc dX0_writeThroughJournal_169 rfl ?_
      refine zj_sipush (pc := 170) hc dX0_writeThroughJournal_170 (by decide) (zin _ rfl) ?_
      refine zj_sipush (pc := 173) hc dX0_writeThroughJournal_173 (by decide) (zin _ rfl) ?_
      refine zj_iload_n (pc := 176) hc dX0_writeThroughJournal_176 rfl ?_
      refine zj_vtv (pc := 177) (st := []) hc ks_X0_copyIn iv_X0_copyIn lk_X0_48 (zrv_1 G M) (S_X0_copyIn l G r1 640 640 v3 M _ h) rfl ⟨Nat.le_of_ble_eq_true rfl, Nat.le_of_ble_eq_true rfl⟩ (Nat.le_of_ble_eq_true rfl) ⟨Nat.le_of_ble_eq_true rfl, Nat.le_of_ble_eq_true rfl⟩ dX0_writeThroughJournal_177 rfl (fun M2 h => ?_)
      refine zj_aload_n (pc := 180) hc dX0_writeThroughJournal_180 rfl ?_
      refine zj_sipush (pc := 181) hc dX0_writeThroughJournal_181 (by decide) (zin _ rfl) ?_
      refine zj_iconst (pc := 184) hc dX0_writeThroughJournal_184 (zin _ rfl) ?_
      refine zj_vtv (pc := 185) (st := []) hc ks_X0_write iv_X0_write lk_X0_38 (zrv_1 G M2) (S_X0_write l G 661 0 M2 _ h) rfl ⟨Nat.le_of_ble_eq_true rfl, Nat.le_of_ble_eq_true rfl⟩ (Nat.le_of_ble_eq_true rfl) ⟨Nat.le_of_ble_eq_true rfl, Nat.le_of_ble_eq_true rfl⟩ dX0_writeThroughJournal_185 rfl (fun M3 h => ?_)
      exact zj_vret (pc := 188) hc hr hlk dX0_writeThroughJournal_188 (by decide) (by decide) h
    · have h := h.2 hx1
      refine zj_aload_n (pc := 137) hc dX0_writeThroughJournal_137 rfl ?_
      refine zj_iload (pc := 138) hc dX0_writeThroughJournal_138 rfl ?_
      refine zj_iald (pc := 140) hc dX0_writeThroughJournal_140 rfl h.1 ?_
      have h := h.2
      refine zj_iconst (pc := 141) hc dX0_writeThroughJournal_141 (zin _ rfl) ?_
      refine zj_icmp_ne (pc := 142) (tgt := 162) hc dX0_writeThroughJournal_142 (by decide) (fun hx4 => ?_) (fun hx4 => ?_)
      · have h := h.1 hx4
        exact k162 M r1 r2 v3 v6 X130 hX130 h
      · have h := h.2 hx4
        refine zj_aload_n (pc := 145) hc dX0_writeThroughJournal_145 rfl ?_
        refine zj_aload_n (pc := 146) hc dX0_writeThroughJournal_146 rfl ?_
        refine zj_iload (pc := 147) hc dX0_writeThroughJournal_147 rfl ?_
        refine zj_bipush (pc := 149) hc dX0_writeThroughJournal_149 (by decide) (zin _ rfl) ?_
        refine zj_imul (pc := 151) hc dX0_writeThroughJournal_151 h.1 ?_
        have h := h.2
        refine zj_iload (pc := 152) hc dX0_writeThroughJournal_152 rfl ?_
        refine zj_bipush (pc := 154) hc dX0_writeThroughJournal_154 (by decide) (zin _ rfl) ?_
        refine zj_imul (pc := 156) hc dX0_writeThroughJournal_156 h.1 ?_
        have h := h.2
        refine zj_bipush (pc := 157) hc dX0_writeThroughJournal_157 (by decide) (zin _ rfl) ?_
        refine zj_vtv (pc := 159) (st := []) hc ks_X0_copyIn iv_X0_copyIn lk_X0_48 (zrv_1 G M) (S_X0_copyIn l G r1 (v6 * 64) (v6 * 64) 64 M _ h) rfl ⟨Nat.le_of_ble_eq_true rfl, Nat.le_of_ble_eq_true rfl⟩ (Nat.le_of_ble_eq_true rfl) ⟨Nat.le_of_ble_eq_true rfl, Nat.le_of_ble_eq_true rfl⟩ dX0_writeThroughJournal_159 rfl (fun M5 h => ?_)
        exact k162 M5 r1 r2 v3 v6 X130 hX130 h
  have k102 : ∀ (M : zMem) (r1 : Nat) (r2 : Nat) (v3 : Int) (v5 : Int) (v6 : Int) (X60 : Int → Int → zMem → Prop) (hX60 : ∀ (v5 : Int) (v6 : Int) (M : zMem), X60 v5 v6 M → zJ p l e (zRoom 2 47 0 0) s m args below meth c G 7 0 0 (MQ below (zQv G (Qr)) args s 0 0 (zA G)) 60 [some (.inr 127), some (.inr r1), some (.inr r2), some (.inl v3), none, some (.inl v5), some (.inl v6)] [] M), T_X0_writeThroughJournal_102 r1 r2 v3 v5 v6 X60 Qr M → zJ p l e (zRoom 2 47 0 0) s m args below meth c G 7 0 0 (MQ below (zQv G (Qr)) args s 0 0 (zA G)) 102 [some (.inr 127), some (.inr r1), some (.inr r2), some (.inl v3), none, some (.inl v5), some (.inl v6)] [] M := by
    intro M r1 r2 v3 v5 v6 X60 hX60 h
    unfold T_X0_writeThroughJournal_102 at h
    refine zj_iinc (pc := 102) hc dX0_writeThroughJournal_102 rfl (by decide) h.1 ?_
    have h := h.2
    refine zj_goto (pc := 105) (tgt := 60) hc dX0_writeThroughJournal_105 (by decide) ?_
    exact hX60 v5 (v6 + 1) M h
  have k60 : ∀ (M : zMem) (r1 : Nat) (r2 : Nat) (v3 : Int) (v5 : Int) (v6 : Int), T_X0_writeThroughJournal_60 r1 r2 v3 Qr v5 v6 M → zJ p l e (zRoom 2 47 0 0) s m args below meth c G 7 0 0 (MQ below (zQv G (Qr)) args s 0 0 (zA G)) 60 [some (.inr 127), some (.inr r1), some (.inr r2), some (.inl v3), none, some (.inl v5), some (.inl v6)] [] M := by
    intro M r1 r2 v3 v5 v6 h
    unfold T_X0_writeThroughJournal_60 at h
    refine zl2_use h (fun v5 v6 M => zJ p l e (zRoom 2 47 0 0) s m args below meth c G 7 0 0 (MQ below (zQv G (Qr)) args s 0 0 (zA G)) 60 [some (.inr 127), some (.inr r1), some (.inr r2), some (.inl v3), none, some (.inl v5), some (.inl v6)] [] M) (fun X60 hX60 v5 v6 M h => ?_)
    refine zj_iload (pc := 60) hc dX0_writeThroughJournal_60 rfl ?_
    refine zj_bipush (pc := 62) hc dX0_writeThroughJournal_62 (by decide) (zin _ rfl) ?_
    refine zj_icmp_ge (pc := 64) (tgt := 108) hc dX0_writeThroughJournal_64 (by decide) (fun hx6 => ?_) (fun hx6 => ?_)
    · have h := h.1 hx6
      refine zj_aload_n (pc := 108) hc dX0_writeThroughJournal_108 rfl ?_
      refine zj_aload_n (pc := 109) hc dX0_writeThroughJournal_109 rfl ?_
      refine zj_sipush (pc := 110) hc dX0_writeThroughJournal_110 (by decide) (zin _ rfl) ?_
      refine zj_iload (pc := 113) hc dX0_writeThroughJournal_113 rfl ?_
      refine zj_iload_n (pc := 115) hc dX0_writeThroughJournal_115 rfl ?_
      refine zj_vtv (pc := 116) (st := []) hc ks_X0_copyIn iv_X0_copyIn lk_X0_48 (zrv_1 G M) (S_X0_copyIn l G r1 640 v5 v3 M _ h) rfl ⟨Nat.le_of_ble_eq_true rfl, Nat.le_of_ble_eq_true rfl⟩ (Nat.le_of_ble_eq_true rfl) ⟨Nat.le_of_ble_eq_true rfl, Nat.le_of_ble_eq_true rfl⟩ dX0_writeThroughJournal_116 rfl (fun M7 h => ?_)
      refine zj_aload_n (pc := 119) hc dX0_writeThroughJournal_119 rfl ?_
      refine zj_sipush (pc := 120) hc dX0_writeThroughJournal_120 (by decide) (zin _ rfl) ?_
      refine zj_iconst (pc := 123) hc dX0_writeThroughJournal_123 (zin _ rfl) ?_
      refine zj_vtv (pc := 124) (st := []) hc ks_X0_write iv_X0_write lk_X0_38 (zrv_1 G M7) (S_X0_write l G 661 1 M7 _ h) rfl ⟨Nat.le_of_ble_eq_true rfl, Nat.le_of_ble_eq_true rfl⟩ (Nat.le_of_ble_eq_true rfl) ⟨Nat.le_of_ble_eq_true rfl, Nat.le_of_ble_eq_true rfl⟩ dX0_writeThroughJournal_124 rfl (fun M8 h => ?_)
      refine zj_iconst (pc := 127) hc dX0_writeThroughJournal_127 (zin _ rfl) ?_
      refine zj_istore (pc := 128) hc dX0_writeThroughJournal_128 (by decide) ?_
      refine zj_mask (bs := [true, true, true, true, true, false, true]) ?_
      exact k130 M8 r1 r2 v3 0 h
    · have h := h.2 hx6
      refine zj_aload_n (pc := 67) hc dX0_writeThroughJournal_67 rfl ?_
      refine zj_iload (pc := 68) hc dX0_writeThroughJournal_68 rfl ?_
      refine zj_iald (pc := 70) hc dX0_writeThroughJournal_70 rfl h.1 ?_
      have h := h.2
      refine zj_iconst (pc := 71) hc dX0_writeThroughJournal_71 (zin _ rfl) ?_
      refine zj_icmp_ne (pc := 72) (tgt := 102) hc dX0_writeThroughJournal_72 (by decide) (fun hx9 => ?_) (fun hx9 => ?_)
      · have h := h.1 hx9
        exact k102 M r1 r2 v3 v5 v6 X60 hX60 h
      · have h := h.2 hx9
        refine zj_aload_n (pc := 75) hc dX0_writeThroughJournal_75 rfl ?_
        refine zj_iload (pc := 76) hc dX0_writeThroughJournal_76 rfl ?_
        refine zj_iload (pc := 78) hc dX0_writeThroughJournal_78 rfl ?_
        refine zj_vtv (pc := 80) (st := []) hc ks_X0_write iv_X0_write lk_X0_38 (zrv_1 G M) (S_X0_write l G v5 v6 M _ h) rfl ⟨Nat.le_of_ble_eq_true rfl, Nat.le_of_ble_eq_true rfl⟩ (Nat.le_of_ble_eq_true rfl) ⟨Nat.le_of_ble_eq_true rfl, Nat.le_of_ble_eq_true rfl⟩ dX0_writeThroughJournal_80 rfl (fun M10 h => ?_)
        refine zj_aload_n (pc := 83) hc dX0_writeThroughJournal_83 rfl ?_
        refine zj_aload_n (pc := 84) hc dX0_writeThroughJournal_84 rfl ?_
        refine zj_iload (pc := 85) hc dX0_writeThroughJournal_85 rfl ?_
        refine zj_bipush (pc := 87) hc dX0_writeThroughJournal_87 (by decide) (zin _ rfl) ?_
        refine zj_imul (pc := 89) hc dX0_writeThroughJournal_89 h.1 ?_
        have h := h.2
        refine zj_iload (pc := 90) hc dX0_writeThroughJournal_90 rfl ?_
        refine zj_iconst (pc := 92) hc dX0_writeThroughJournal_92 (zin _ rfl) ?_
        refine zj_iadd (pc := 93) hc dX0_writeThroughJournal_93 h.1 ?_
        have h := h.2
        refine zj_bipush (pc := 94) hc dX0_writeThroughJournal_94 (by decide) (zin _ rfl) ?_
        refine zj_vtv (pc := 96) (st := []) hc ks_X0_copyIn iv_X0_copyIn lk_X0_48 (zrv_1 G M10) (S_X0_copyIn l G r1 (v6 * 64) (v5 + 1) 64 M10 _ h) rfl ⟨Nat.le_of_ble_eq_true rfl, Nat.le_of_ble_eq_true rfl⟩ (Nat.le_of_ble_eq_true rfl) ⟨Nat.le_of_ble_eq_true rfl, Nat.le_of_ble_eq_true rfl⟩ dX0_writeThroughJournal_96 rfl (fun M11 h => ?_)
        refine zj_iinc (pc := 99) hc dX0_writeThroughJournal_99 rfl (by decide) h.1 ?_
        have h := h.2
        exact k102 M11 r1 r2 v3 (v5 + 65) v6 X60 hX60 h
  have k19 : ∀ (M : zMem) (r1 : Nat) (r2 : Nat) (v3 : Int) (v4 : Int) (v5 : Int), T_X0_writeThroughJournal_19 r1 r2 v3 Qr v4 v5 M → zJ p l e (zRoom 2 47 0 0) s m args below meth c G 7 0 0 (MQ below (zQv G (Qr)) args s 0 0 (zA G)) 19 [some (.inr 127), some (.inr r1), some (.inr r2), some (.inl v3), some (.inl v4), some (.inl v5), none] [] M := by
    intro M r1 r2 v3 v4 v5 h
    unfold T_X0_writeThroughJournal_19 at h
    refine zp2_use h (fun v4 v5 => zJ p l e (zRoom 2 47 0 0) s m args below meth c G 7 0 0 (MQ below (zQv G (Qr)) args s 0 0 (zA G)) 19 [some (.inr 127), some (.inr r1), some (.inr r2), some (.inl v3), some (.inl v4), some (.inl v5), none] [] M) (fun X19 hX19 v4 v5 h => ?_)
    refine zj_iload (pc := 19) hc dX0_writeThroughJournal_19 rfl ?_
    refine zj_bipush (pc := 21) hc dX0_writeThroughJournal_21 (by decide) (zin _ rfl) ?_
    refine zj_icmp_ge (pc := 23) (tgt := 41) hc dX0_writeThroughJournal_23 (by decide) (fun hx12 => ?_) (fun hx12 => ?_)
    · have h := h.1 hx12
      refine zj_sipush (pc := 41) hc dX0_writeThroughJournal_41 (by decide) (zin _ rfl) ?_
      refine zj_istore (pc := 44) hc dX0_writeThroughJournal_44 (by decide) ?_
      refine zj_aload_n (pc := 46) hc dX0_writeThroughJournal_46 rfl ?_
      refine zj_iload (pc := 47) hc dX0_writeThroughJournal_47 rfl ?_
      refine zj_iload (pc := 49) hc dX0_writeThroughJournal_49 rfl ?_
      refine zj_vtv (pc := 51) (st := []) hc ks_X0_write iv_X0_write lk_X0_38 (zrv_1 G M) (S_X0_write l G 662 v4 M _ h) rfl ⟨Nat.le_of_ble_eq_true rfl, Nat.le_of_ble_eq_true rfl⟩ (Nat.le_of_ble_eq_true rfl) ⟨Nat.le_of_ble_eq_true rfl, Nat.le_of_ble_eq_true rfl⟩ dX0_writeThroughJournal_51 rfl (fun M13 h => ?_)
      refine zj_iinc (pc := 54) hc dX0_writeThroughJournal_54 rfl (by decide) h.1 ?_
      have h := h.2
      refine zj_iconst (pc := 57) hc dX0_writeThroughJournal_57 (zin _ rfl) ?_
      refine zj_istore (pc := 58) hc dX0_writeThroughJournal_58 (by decide) ?_
      refine zj_mask (bs := [true, true, true, true, false, true, true]) ?_
      exact k60 M13 r1 r2 v3 (662 + 1) 0 h
    · have h := h.2 hx12
      refine zj_iload (pc := 26) hc dX0_writeThroughJournal_26 rfl ?_
      refine zj_aload_n (pc := 28) hc dX0_writeThroughJournal_28 rfl ?_
      refine zj_iload (pc := 29) hc dX0_writeThroughJournal_29 rfl ?_
      refine zj_iald (pc := 31) hc dX0_writeThroughJournal_31 rfl h.1 ?_
      have h := h.2
      refine zj_iadd (pc := 32) hc dX0_writeThroughJournal_32 h.1 ?_
      have h := h.2
      refine zj_istore (pc := 33) hc dX0_writeThroughJournal_33 (by decide) ?_
      refine zj_iinc (pc := 35) hc dX0_writeThroughJournal_35 rfl (by decide) h.1 ?_
      have h := h.2
      refine zj_goto (pc := 38) (tgt := 19) hc dX0_writeThroughJournal_38 (by decide) ?_
      exact hX19 (v4 + (M.2 r2 v5)) (v5 + 1) h
  unfold T_X0_writeThroughJournal at h
  refine zj_aload_n (pc := 0) hc dX0_writeThroughJournal_0 rfl ?_
  refine zj_vtv (pc := 1) (st := []) hc ks_X0_startAct iv_X0_startAct lk_X0_29 (zrv_1 G M) (S_X0_startAct l G M _ h) rfl ⟨Nat.le_of_ble_eq_true rfl, Nat.le_of_ble_eq_true rfl⟩ (Nat.le_of_ble_eq_true rfl) ⟨Nat.le_of_ble_eq_true rfl, Nat.le_of_ble_eq_true rfl⟩ dX0_writeThroughJournal_1 rfl (fun M14 h => ?_)
  refine zj_iconst (pc := 4) hc dX0_writeThroughJournal_4 (zin _ rfl) ?_
  refine zj_iconst (pc := 5) hc dX0_writeThroughJournal_5 (zin _ rfl) ?_
  refine zj_aload_n (pc := 6) hc dX0_writeThroughJournal_6 rfl ?_
  refine zj_sti (pc := 7) (st := [.inl 2, .inl 1]) hc ks_X4_inUse st_X4_inUse lk_X0_42 (S_X4_inUse l G r1 M14 _ h) rfl ⟨Nat.le_of_ble_eq_true rfl, Nat.le_of_ble_eq_true rfl⟩ (Nat.le_of_ble_eq_true rfl) ⟨Nat.le_of_ble_eq_true rfl, Nat.le_of_ble_eq_true rfl⟩ dX0_writeThroughJournal_7 rfl (fun y15 M9 h => ?_)
  obtain ⟨hM9, h⟩ := h
  subst hM9
  refine zj_imul (pc := 10) hc dX0_writeThroughJournal_10 h.1 ?_
  have h := h.2
  refine zj_iadd (pc := 11) hc dX0_writeThroughJournal_11 h.1 ?_
  have h := h.2
  refine zj_istore_n (pc := 12) hc dX0_writeThroughJournal_12 (by decide) ?_
  refine zj_iconst (pc := 13) hc dX0_writeThroughJournal_13 (zin _ rfl) ?_
  refine zj_istore (pc := 14) hc dX0_writeThroughJournal_14 (by decide) ?_
  refine zj_iconst (pc := 16) hc dX0_writeThroughJournal_16 (zin _ rfl) ?_
  refine zj_istore (pc := 17) hc dX0_writeThroughJournal_17 (by decide) ?_
  exact k19 M14 r1 r2 (1 + (2 * y15)) 0 0 h
set_option maxHeartbeats 4000000 in
set_option maxRecDepth 100000 in
theorem S_X0_clearBehindLogs (l : Launch) (G : zG) (M : zMem) (Qr : zMem → Prop) (h : T_X0_clearBehindLogs Qr M) : zMetV l yX0_clearBehindLogs cX0_clearBehindLogs 5 none 5 111 0 0 G [.inr 127] M Qr := by
  refine zmetV (by decide) (Nat.le_of_ble_eq_true rfl) [some (.inr 127), none, none, none, none] rfl ?_
  intro p e s m args below meth c hc hr hlk
  have k62 : ∀ (M : zMem) (v1 : Int) (v2 : Int) (v3 : Int) (v4 : Int) (X10 : Int → zMem → Prop) (hX10 : ∀ (v2 : Int) (M : zMem), X10 v2 M → zJ p l e (zRoom 5 111 0 0) s m args below meth c G 5 0 0 (MQ below (zQv G (Qr)) args s 0 0 (zA G)) 10 [some (.inr 127), some (.inl v1), some (.inl v2), none, none] [] M) (X34 : Int → zMem → Prop) (hX34 : ∀ (v4 : Int) (M : zMem), X34 v4 M → zJ p l e (zRoom 5 111 0 0) s m args below meth c G 5 0 0 (MQ below (zQv G (Qr)) args s 0 0 (zA G)) 34 [some (.inr 127), some (.inl v1), some (.inl v2), some (.inl v3), some (.inl v4)] [] M), T_X0_clearBehindLogs_62 v1 v2 v3 v4 X10 X34 Qr M → zJ p l e (zRoom 5 111 0 0) s m args below meth c G 5 0 0 (MQ below (zQv G (Qr)) args s 0 0 (zA G)) 62 [some (.inr 127), some (.inl v1), some (.inl v2), some (.inl v3), some (.inl v4)] [] M := by
    intro M v1 v2 v3 v4 X10 hX10 X34 hX34 h
    unfold T_X0_clearBehindLogs_62 at h
    refine zj_iinc (pc := 62) hc dX0_clearBehindLogs_62 rfl (by decide) h.1 ?_
    have h := h.2
    refine zj_goto (pc := 65) (tgt := 34) hc dX0_clearBehindLogs_65 (by decide) ?_
    exact hX34 (v4 + 1) M h
  have k34 : ∀ (M : zMem) (v1 : Int) (v2 : Int) (v3 : Int) (X10 : Int → zMem → Prop) (hX10 : ∀ (v2 : Int) (M : zMem), X10 v2 M → zJ p l e (zRoom 5 111 0 0) s m args below meth c G 5 0 0 (MQ below (zQv G (Qr)) args s 0 0 (zA G)) 10 [some (.inr 127), some (.inl v1), some (.inl v2), none, none] [] M) (v4 : Int), T_X0_clearBehindLogs_34 v1 v2 v3 X10 Qr v4 M → zJ p l e (zRoom 5 111 0 0) s m args below meth c G 5 0 0 (MQ below (zQv G (Qr)) args s 0 0 (zA G)) 34 [some (.inr 127), some (.inl v1), some (.inl v2), some (.inl v3), some (.inl v4)] [] M := by
    intro M v1 v2 v3 X10 hX10 v4 h
    unfold T_X0_clearBehindLogs_34 at h
    refine zl1_use h (fun v4 M => zJ p l e (zRoom 5 111 0 0) s m args below meth c G 5 0 0 (MQ below (zQv G (Qr)) args s 0 0 (zA G)) 34 [some (.inr 127), some (.inl v1), some (.inl v2), some (.inl v3), some (.inl v4)] [] M) (fun X34 hX34 v4 M h => ?_)
    refine zj_iload (pc := 34) hc dX0_clearBehindLogs_34 rfl ?_
    refine zj_iload_n (pc := 36) hc dX0_clearBehindLogs_36 rfl ?_
    refine zj_iconst (pc := 37) hc dX0_clearBehindLogs_37 (zin _ rfl) ?_
    refine zj_iadd (pc := 38) hc dX0_clearBehindLogs_38 h.1 ?_
    have h := h.2
    refine zj_bipush (pc := 39) hc dX0_clearBehindLogs_39 (by decide) (zin _ rfl) ?_
    refine zj_imul (pc := 41) hc dX0_clearBehindLogs_41 h.1 ?_
    have h := h.2
    refine zj_icmp_ge (pc := 42) (tgt := 68) hc dX0_clearBehindLogs_42 (by decide) (fun hx1 => ?_) (fun hx1 => ?_)
    · have h := h.1 hx1
      refine zj_iinc (pc := 68) hc dX0_clearBehindLogs_68 rfl (by decide) h.1 ?_
      have h := h.2
      refine zj_goto (pc := 71) (tgt := 10) hc dX0_clearBehindLogs_71 (by decide) ?_
      refine zj_mask (bs := [true, true, true, false, false]) ?_
      exact hX10 (v2 + 1) M h
    · have h := h.2 hx1
      refine zj_aload_n (pc := 45) hc dX0_clearBehindLogs_45 rfl ?_
      refine zg_1_0 (pc := 46) hc lk_X0_9 dX0_clearBehindLogs_46 ?_
      refine zj_iload (pc := 49) hc dX0_clearBehindLogs_49 rfl ?_
      refine zj_iald (pc := 51) hc dX0_clearBehindLogs_51 alen_64 h.1 ?_
      have h := h.2
      refine zj_if_eq (pc := 52) (tgt := 62) hc dX0_clearBehindLogs_52 (by decide) (fun hx2 => ?_) (fun hx2 => ?_)
      · have h := h.1 hx2
        exact k62 M v1 v2 v3 v4 X10 hX10 X34 hX34 h
      · have h := h.2 hx2
        refine zj_aload_n (pc := 55) hc dX0_clearBehindLogs_55 rfl ?_
        refine zj_iload (pc := 56) hc dX0_clearBehindLogs_56 rfl ?_
        refine zj_iconst (pc := 58) hc dX0_clearBehindLogs_58 (zin _ rfl) ?_
        refine zj_vtv (pc := 59) (st := []) hc ks_X0_write iv_X0_write lk_X0_38 (zrv_1 G M) (S_X0_write l G v4 0 M _ h) rfl ⟨Nat.le_of_ble_eq_true rfl, Nat.le_of_ble_eq_true rfl⟩ (Nat.le_of_ble_eq_true rfl) ⟨Nat.le_of_ble_eq_true rfl, Nat.le_of_ble_eq_true rfl⟩ dX0_clearBehindLogs_59 rfl (fun M3 h => ?_)
        exact k62 M3 v1 v2 v3 v4 X10 hX10 X34 hX34 h
  have k10 : ∀ (M : zMem) (v1 : Int) (v2 : Int), T_X0_clearBehindLogs_10 v1 Qr v2 M → zJ p l e (zRoom 5 111 0 0) s m args below meth c G 5 0 0 (MQ below (zQv G (Qr)) args s 0 0 (zA G)) 10 [some (.inr 127), some (.inl v1), some (.inl v2), none, none] [] M := by
    intro M v1 v2 h
    unfold T_X0_clearBehindLogs_10 at h
    refine zl1_use h (fun v2 M => zJ p l e (zRoom 5 111 0 0) s m args below meth c G 5 0 0 (MQ below (zQv G (Qr)) args s 0 0 (zA G)) 10 [some (.inr 127), some (.inl v1), some (.inl v2), none, none] [] M) (fun X10 hX10 v2 M h => ?_)
    refine zj_iload_n (pc := 10) hc dX0_clearBehindLogs_10 rfl ?_
    refine zj_iload_n (pc := 11) hc dX0_clearBehindLogs_11 rfl ?_
    refine zj_icmp_ge (pc := 12) (tgt := 74) hc dX0_clearBehindLogs_12 (by decide) (fun hx4 => ?_) (fun hx4 => ?_)
    · have h := h.1 hx4
      exact zj_vret (pc := 74) hc hr hlk dX0_clearBehindLogs_74 (by decide) (by decide) h
    · have h := h.2 hx4
      refine zj_aload_n (pc := 15) hc dX0_clearBehindLogs_15 rfl ?_
      refine zg_1_0 (pc := 16) hc lk_X0_9 dX0_clearBehindLogs_16 ?_
      refine zj_iload_n (pc := 19) hc dX0_clearBehindLogs_19 rfl ?_
      refine zj_sti (pc := 20) (st := []) hc ks_X4_pageAt st_X4_pageAt lk_X0_67 (S_X4_pageAt l G 64 v2 M _ h) rfl ⟨Nat.le_of_ble_eq_true rfl, Nat.le_of_ble_eq_true rfl⟩ (Nat.le_of_ble_eq_true rfl) ⟨Nat.le_of_ble_eq_true rfl, Nat.le_of_ble_eq_true rfl⟩ dX0_clearBehindLogs_20 rfl (fun y5 M9 h => ?_)
      obtain ⟨hM9, h⟩ := h
      subst hM9
      refine zj_istore_n (pc := 23) hc dX0_clearBehindLogs_23 (by decide) ?_
      refine zj_aload_n (pc := 24) hc dX0_clearBehindLogs_24 rfl ?_
      refine zg_1_0 (pc := 25) hc lk_X0_9 dX0_clearBehindLogs_25 ?_
      refine zj_iload_n (pc := 28) hc dX0_clearBehindLogs_28 rfl ?_
      refine zj_sti (pc := 29) (st := []) hc ks_X4_logEnd st_X4_logEnd lk_X0_71 (S_X4_logEnd l G 64 y5 M _ h) rfl ⟨Nat.le_of_ble_eq_true rfl, Nat.le_of_ble_eq_true rfl⟩ (Nat.le_of_ble_eq_true rfl) ⟨Nat.le_of_ble_eq_true rfl, Nat.le_of_ble_eq_true rfl⟩ dX0_clearBehindLogs_29 rfl (fun y6 M9 h => ?_)
      obtain ⟨hM9, h⟩ := h
      subst hM9
      refine zj_istore (pc := 32) hc dX0_clearBehindLogs_32 (by decide) ?_
      exact k34 M v1 v2 y5 X10 hX10 y6 h
  unfold T_X0_clearBehindLogs at h
  refine zj_aload_n (pc := 0) hc dX0_clearBehindLogs_0 rfl ?_
  refine zg_1_0 (pc := 1) hc lk_X0_9 dX0_clearBehindLogs_1 ?_
  refine zj_sti (pc := 4) (st := []) hc ks_X4_inUse st_X4_inUse lk_X0_42 (S_X4_inUse l G 64 M _ h) rfl ⟨Nat.le_of_ble_eq_true rfl, Nat.le_of_ble_eq_true rfl⟩ (Nat.le_of_ble_eq_true rfl) ⟨Nat.le_of_ble_eq_true rfl, Nat.le_of_ble_eq_true rfl⟩ dX0_clearBehindLogs_4 rfl (fun y7 M9 h => ?_)
  obtain ⟨hM9, h⟩ := h
  subst hM9
  refine zj_istore_n (pc := 7) hc dX0_clearBehindLogs_7 (by decide) ?_
  refine zj_iconst (pc := 8) hc dX0_clearBehindLogs_8 (zin _ rfl) ?_
  refine zj_istore_n (pc := 9) hc dX0_clearBehindLogs_9 (by decide) ?_
  exact k10 M y7 0 h
set_option maxHeartbeats 4000000 in
set_option maxRecDepth 100000 in
theorem S_X0_doJournalAgain (l : Launch) (G : zG) (M : zMem) (Qr : zMem → Prop) (h : T_X0_doJournalAgain Qr M) : zMetV l yX0_doJournalAgain cX0_doJournalAgain 4 none 2 47 0 0 G [.inr 127] M Qr := by
  refine zmetV (by decide) (Nat.le_of_ble_eq_true rfl) [some (.inr 127), none, none, none] rfl ?_
  intro p e s m args below meth c hc hr hlk
  have k24 : ∀ (M : zMem) (v1 : Int) (v2 : Int) (v3 : Int), T_X0_doJournalAgain_24 v1 Qr v2 v3 M → zJ p l e (zRoom 2 47 0 0) s m args below meth c G 4 0 0 (MQ below (zQv G (Qr)) args s 0 0 (zA G)) 24 [some (.inr 127), some (.inl v1), some (.inl v2), some (.inl v3)] [] M := by
    intro M v1 v2 v3 h
    unfold T_X0_doJournalAgain_24 at h
    refine zl2_use h (fun v2 v3 M => zJ p l e (zRoom 2 47 0 0) s m args below meth c G 4 0 0 (MQ below (zQv G (Qr)) args s 0 0 (zA G)) 24 [some (.inr 127), some (.inl v1), some (.inl v2), some (.inl v3)] [] M) (fun X24 hX24 v2 v3 M h => ?_)
    refine zj_iload_n (pc := 24) hc dX0_doJournalAgain_24 rfl ?_
    refine zj_iload_n (pc := 25) hc dX0_doJournalAgain_25 rfl ?_
    refine zj_icmp_ge (pc := 26) (tgt := 60) hc dX0_doJournalAgain_26 (by decide) (fun hx1 => ?_) (fun hx1 => ?_)
    · have h := h.1 hx1
      refine zj_aload_n (pc := 60) hc dX0_doJournalAgain_60 rfl ?_
      refine zj_aload_n (pc := 61) hc dX0_doJournalAgain_61 rfl ?_
      refine zg_1_0 (pc := 62) hc lk_X0_9 dX0_doJournalAgain_62 ?_
      refine zj_iload_n (pc := 65) hc dX0_doJournalAgain_65 rfl ?_
      refine zj_sipush (pc := 66) hc dX0_doJournalAgain_66 (by decide) (zin _ rfl) ?_
      refine zj_iconst (pc := 69) hc dX0_doJournalAgain_69 (zin _ rfl) ?_
      refine zj_iconst (pc := 70) hc dX0_doJournalAgain_70 (zin _ rfl) ?_
      refine zj_iconst (pc := 71) hc dX0_doJournalAgain_71 (zin _ rfl) ?_
      refine zj_bipush (pc := 72) hc dX0_doJournalAgain_72 (by decide) (zin _ rfl) ?_
      refine zj_aload_n (pc := 74) hc dX0_doJournalAgain_74 rfl ?_
      refine zg_1_0 (pc := 75) hc lk_X0_9 dX0_doJournalAgain_75 ?_
      refine zj_iload_n (pc := 78) hc dX0_doJournalAgain_78 rfl ?_
      refine zj_iald (pc := 79) hc dX0_doJournalAgain_79 alen_64 h.1 ?_
      have h := h.2
      refine zj_min (pc := 80) hc dX0_doJournalAgain_80 lk_X0_58 st_min in_Math co_min (Nat.le_of_ble_eq_true rfl) (Nat.le_of_ble_eq_true rfl) ⟨Nat.le_of_ble_eq_true rfl, Nat.le_of_ble_eq_true rfl⟩ ?_
      refine zj_max (pc := 83) hc dX0_doJournalAgain_83 lk_X0_64 st_max in_Math co_max (Nat.le_of_ble_eq_true rfl) (Nat.le_of_ble_eq_true rfl) ⟨Nat.le_of_ble_eq_true rfl, Nat.le_of_ble_eq_true rfl⟩ ?_
      refine zj_imul (pc := 86) hc dX0_doJournalAgain_86 h.1 ?_
      have h := h.2
      refine zj_iadd (pc := 87) hc dX0_doJournalAgain_87 h.1 ?_
      have h := h.2
      refine zj_vtv (pc := 88) (st := []) hc ks_X0_copyIn iv_X0_copyIn lk_X0_48 (zrv_1 G M) (S_X0_copyIn l G 64 v2 640 (1 + (2 * (max 0 (min 10 (M.2 64 v2))))) M _ h) rfl ⟨Nat.le_of_ble_eq_true rfl, Nat.le_of_ble_eq_true rfl⟩ (Nat.le_of_ble_eq_true rfl) ⟨Nat.le_of_ble_eq_true rfl, Nat.le_of_ble_eq_true rfl⟩ dX0_doJournalAgain_88 rfl (fun M2 h => ?_)
      refine zj_aload_n (pc := 91) hc dX0_doJournalAgain_91 rfl ?_
      refine zj_sipush (pc := 92) hc dX0_doJournalAgain_92 (by decide) (zin _ rfl) ?_
      refine zj_iconst (pc := 95) hc dX0_doJournalAgain_95 (zin _ rfl) ?_
      refine zj_vtv (pc := 96) (st := []) hc ks_X0_write iv_X0_write lk_X0_38 (zrv_1 G M2) (S_X0_write l G 661 0 M2 _ h) rfl ⟨Nat.le_of_ble_eq_true rfl, Nat.le_of_ble_eq_true rfl⟩ (Nat.le_of_ble_eq_true rfl) ⟨Nat.le_of_ble_eq_true rfl, Nat.le_of_ble_eq_true rfl⟩ dX0_doJournalAgain_96 rfl (fun M3 h => ?_)
      exact zj_vret (pc := 99) hc hr hlk dX0_doJournalAgain_99 (by decide) (by decide) h
    · have h := h.2 hx1
      refine zj_aload_n (pc := 29) hc dX0_doJournalAgain_29 rfl ?_
      refine zj_aload_n (pc := 30) hc dX0_doJournalAgain_30 rfl ?_
      refine zg_1_0 (pc := 31) hc lk_X0_9 dX0_doJournalAgain_31 ?_
      refine zj_iload_n (pc := 34) hc dX0_doJournalAgain_34 rfl ?_
      refine zj_iconst (pc := 35) hc dX0_doJournalAgain_35 (zin _ rfl) ?_
      refine zj_iadd (pc := 36) hc dX0_doJournalAgain_36 h.1 ?_
      have h := h.2
      refine zj_aload_n (pc := 37) hc dX0_doJournalAgain_37 rfl ?_
      refine zg_1_0 (pc := 38) hc lk_X0_9 dX0_doJournalAgain_38 ?_
      refine zj_iload_n (pc := 41) hc dX0_doJournalAgain_41 rfl ?_
      refine zj_iald (pc := 42) hc dX0_doJournalAgain_42 alen_64 h.1 ?_
      have h := h.2
      refine zj_bipush (pc := 43) hc dX0_doJournalAgain_43 (by decide) (zin _ rfl) ?_
      refine zj_imul (pc := 45) hc dX0_doJournalAgain_45 h.1 ?_
      have h := h.2
      refine zj_bipush (pc := 46) hc dX0_doJournalAgain_46 (by decide) (zin _ rfl) ?_
      refine zj_vtv (pc := 48) (st := []) hc ks_X0_copyIn iv_X0_copyIn lk_X0_48 (zrv_1 G M) (S_X0_copyIn l G 64 (v2 + 1) ((M.2 64 v2) * 64) 64 M _ h) rfl ⟨Nat.le_of_ble_eq_true rfl, Nat.le_of_ble_eq_true rfl⟩ (Nat.le_of_ble_eq_true rfl) ⟨Nat.le_of_ble_eq_true rfl, Nat.le_of_ble_eq_true rfl⟩ dX0_doJournalAgain_48 rfl (fun M4 h => ?_)
      refine zj_iinc (pc := 51) hc dX0_doJournalAgain_51 rfl (by decide) h.1 ?_
      have h := h.2
      refine zj_iinc (pc := 54) hc dX0_doJournalAgain_54 rfl (by decide) h.1 ?_
      have h := h.2
      refine zj_goto (pc := 57) (tgt := 24) hc dX0_doJournalAgain_57 (by decide) ?_
      exact hX24 (v2 + 65) (v3 + 1) M4 h
  unfold T_X0_doJournalAgain at h
  refine zj_iconst (pc := 0) hc dX0_doJournalAgain_0 (zin _ rfl) ?_
  refine zj_bipush (pc := 1) hc dX0_doJournalAgain_1 (by decide) (zin _ rfl) ?_
  refine zj_aload_n (pc := 3) hc dX0_doJournalAgain_3 rfl ?_
  refine zg_1_0 (pc := 4) hc lk_X0_9 dX0_doJournalAgain_4 ?_
  refine zj_sipush (pc := 7) hc dX0_doJournalAgain_7 (by decide) (zin _ rfl) ?_
  refine zj_iald (pc := 10) hc dX0_doJournalAgain_10 alen_64 h.1 ?_
  have h := h.2
  refine zj_min (pc := 11) hc dX0_doJournalAgain_11 lk_X0_58 st_min in_Math co_min (Nat.le_of_ble_eq_true rfl) (Nat.le_of_ble_eq_true rfl) ⟨Nat.le_of_ble_eq_true rfl, Nat.le_of_ble_eq_true rfl⟩ ?_
  refine zj_max (pc := 14) hc dX0_doJournalAgain_14 lk_X0_64 st_max in_Math co_max (Nat.le_of_ble_eq_true rfl) (Nat.le_of_ble_eq_true rfl) ⟨Nat.le_of_ble_eq_true rfl, Nat.le_of_ble_eq_true rfl⟩ ?_
  refine zj_istore_n (pc := 17) hc dX0_doJournalAgain_17 (by decide) ?_
  refine zj_sipush (pc := 18) hc dX0_doJournalAgain_18 (by decide) (zin _ rfl) ?_
  refine zj_istore_n (pc := 21) hc dX0_doJournalAgain_21 (by decide) ?_
  refine zj_iconst (pc := 22) hc dX0_doJournalAgain_22 (zin _ rfl) ?_
  refine zj_istore_n (pc := 23) hc dX0_doJournalAgain_23 (by decide) ?_
  exact k24 M (max 0 (min 10 (M.2 64 662))) 663 0 h
set_option maxHeartbeats 4000000 in
set_option maxRecDepth 100000 in
theorem S_X0_restoreOrder (l : Launch) (G : zG) (M : zMem) (Qr : zMem → Prop) (h : T_X0_restoreOrder Qr M) : zMetV l yX0_restoreOrder cX0_restoreOrder 1 none 6 135 0 0 G [.inr 127] M Qr := by
  refine zmetV (by decide) (Nat.le_of_ble_eq_true rfl) [some (.inr 127)] rfl ?_
  intro p e s m args below meth c hc hr hlk
  have k31 : ∀ (M : zMem), T_X0_restoreOrder_31 Qr M → zJ p l e (zRoom 6 135 0 0) s m args below meth c G 1 0 0 (MQ below (zQv G (Qr)) args s 0 0 (zA G)) 31 [some (.inr 127)] [] M := by
    intro M h
    unfold T_X0_restoreOrder_31 at h
    refine zj_aload_n (pc := 31) hc dX0_restoreOrder_31 rfl ?_
    refine zg_1_3 (pc := 32) hc lk_X0_23 dX0_restoreOrder_32 ?_
    refine zj_if_ne (pc := 35) (tgt := 43) hc dX0_restoreOrder_35 (by decide) (fun hx1 => ?_) (fun hx1 => ?_)
    · have h := h.1 hx1
      exact zj_vret (pc := 43) hc hr hlk dX0_restoreOrder_43 (by decide) (by decide) h
    · have h := h.2 hx1
      refine zj_aload_n (pc := 38) hc dX0_restoreOrder_38 rfl ?_
      refine zj_iconst (pc := 39) hc dX0_restoreOrder_39 (zin _ rfl) ?_
      refine zs_1_2 (pc := 40) hc lk_X0_19 (Or.inl rfl) dX0_restoreOrder_40 (fun M2 hM2 => ?_)
      have h := h M2 hM2
      exact zj_vret (pc := 43) hc hr hlk dX0_restoreOrder_43 (by decide) (by decide) h
  have k20 : ∀ (M : zMem), T_X0_restoreOrder_20 Qr M → zJ p l e (zRoom 6 135 0 0) s m args below meth c G 1 0 0 (MQ below (zQv G (Qr)) args s 0 0 (zA G)) 20 [some (.inr 127)] [] M := by
    intro M h
    unfold T_X0_restoreOrder_20 at h
    refine zj_aload_n (pc := 20) hc dX0_restoreOrder_20 rfl ?_
    refine zg_1_3 (pc := 21) hc lk_X0_23 dX0_restoreOrder_21 ?_
    refine zj_if_ne (pc := 24) (tgt := 31) hc dX0_restoreOrder_24 (by decide) (fun hx3 => ?_) (fun hx3 => ?_)
    · have h := h.1 hx3
      exact k31 M h
    · have h := h.2 hx3
      refine zj_aload_n (pc := 27) hc dX0_restoreOrder_27 rfl ?_
      refine zj_vtv (pc := 28) (st := []) hc ks_X0_clearBehindLogs iv_X0_clearBehindLogs lk_X0_55 (zrv_1 G M) (S_X0_clearBehindLogs l G M _ h) rfl ⟨Nat.le_of_ble_eq_true rfl, Nat.le_of_ble_eq_true rfl⟩ (Nat.le_of_ble_eq_true rfl) ⟨Nat.le_of_ble_eq_true rfl, Nat.le_of_ble_eq_true rfl⟩ dX0_restoreOrder_28 rfl (fun M4 h => ?_)
      exact k31 M4 h
  unfold T_X0_restoreOrder at h
  refine zj_aload_n (pc := 0) hc dX0_restoreOrder_0 rfl ?_
  refine zj_vtv (pc := 1) (st := []) hc ks_X0_startAct iv_X0_startAct lk_X0_29 (zrv_1 G M) (S_X0_startAct l G M _ h) rfl ⟨Nat.le_of_ble_eq_true rfl, Nat.le_of_ble_eq_true rfl⟩ (Nat.le_of_ble_eq_true rfl) ⟨Nat.le_of_ble_eq_true rfl, Nat.le_of_ble_eq_true rfl⟩ dX0_restoreOrder_1 rfl (fun M5 h => ?_)
  refine zj_aload_n (pc := 4) hc dX0_restoreOrder_4 rfl ?_
  refine zg_1_0 (pc := 5) hc lk_X0_9 dX0_restoreOrder_5 ?_
  refine zj_sipush (pc := 8) hc dX0_restoreOrder_8 (by decide) (zin _ rfl) ?_
  refine zj_iald (pc := 11) hc dX0_restoreOrder_11 alen_64 h.1 ?_
  have h := h.2
  refine zj_iconst (pc := 12) hc dX0_restoreOrder_12 (zin _ rfl) ?_
  refine zj_icmp_ne (pc := 13) (tgt := 20) hc dX0_restoreOrder_13 (by decide) (fun hx6 => ?_) (fun hx6 => ?_)
  · have h := h.1 hx6
    exact k20 M5 h
  · have h := h.2 hx6
    refine zj_aload_n (pc := 16) hc dX0_restoreOrder_16 rfl ?_
    refine zj_vtv (pc := 17) (st := []) hc ks_X0_doJournalAgain iv_X0_doJournalAgain lk_X0_52 (zrv_1 G M5) (S_X0_doJournalAgain l G M5 _ h) rfl ⟨Nat.le_of_ble_eq_true rfl, Nat.le_of_ble_eq_true rfl⟩ (Nat.le_of_ble_eq_true rfl) ⟨Nat.le_of_ble_eq_true rfl, Nat.le_of_ble_eq_true rfl⟩ dX0_restoreOrder_17 rfl (fun M7 h => ?_)
    exact k20 M7 h
set_option maxHeartbeats 4000000 in
set_option maxRecDepth 100000 in
theorem S_X9_accept (l : Launch) (G : zG) (v1 : Int) (M : zMem) (Qr : Int → zMem → Prop) (h : T_X9_accept v1 Qr M) : zMetI l yX9_accept cX9_accept 2 (some .int) 0 0 0 0 G [.inr 63, .inl v1] M Qr := by
  refine zmetI (by decide) (Nat.le_of_ble_eq_true rfl) [some (.inr 63), some (.inl v1)] rfl ?_
  intro p e s m args below meth c hc hr hlk
  unfold T_X9_accept at h
  refine zj_aload_n (pc := 0) hc dX9_accept_0 rfl ?_
  refine zj_iconst (pc := 1) hc dX9_accept_1 (zin _ rfl) ?_
  refine zs_0_6 (pc := 2) hc lk_X9_31 dX9_accept_2 (fun M1 hM1 => ?_)
  have h := h M1 hM1
  refine zj_iload_n (pc := 5) hc dX9_accept_5 rfl ?_
  exact zj_iret (pc := 6) hc hr hlk dX9_accept_6 (by decide) (by decide) h
set_option maxHeartbeats 4000000 in
set_option maxRecDepth 100000 in
theorem S_X9_refuse (l : Launch) (G : zG) (v1 : Int) (M : zMem) (Qr : Int → zMem → Prop) (h : T_X9_refuse v1 Qr M) : zMetI l yX9_refuse cX9_refuse 3 (some .int) 0 0 0 0 G [.inr 63, .inl v1] M Qr := by
  refine zmetI (by decide) (Nat.le_of_ble_eq_true rfl) [some (.inr 63), some (.inl v1), none] rfl ?_
  intro p e s m args below meth c hc hr hlk
  unfold T_X9_refuse at h
  refine zj_aload_n (pc := 0) hc dX9_refuse_0 rfl ?_
  refine zj_iload_n (pc := 1) hc dX9_refuse_1 rfl ?_
  refine zs_0_6 (pc := 2) hc lk_X9_31 dX9_refuse_2 (fun M1 hM1 => ?_)
  have h := h M1 hM1
  refine zj_iconst (pc := 5) hc dX9_refuse_5 (zin _ rfl) ?_
  refine zj_iload_n (pc := 6) hc dX9_refuse_6 rfl ?_
  refine zj_isub (pc := 7) hc dX9_refuse_7 h.1 ?_
  have h := h.2
  refine zj_istore_n (pc := 8) hc dX9_refuse_8 (by decide) ?_
  refine zj_iload_n (pc := 9) hc dX9_refuse_9 rfl ?_
  refine zj_if_lt (pc := 10) (tgt := 32) hc dX9_refuse_10 (by decide) (fun hx2 => ?_) (fun hx2 => ?_)
  · have h := h.1 hx2
    refine zj_iload_n (pc := 32) hc dX9_refuse_32 rfl ?_
    exact zj_iret (pc := 33) hc hr hlk dX9_refuse_33 (by decide) (by decide) h
  · have h := h.2 hx2
    refine zj_iload_n (pc := 13) hc dX9_refuse_13 rfl ?_
    refine zj_aload_n (pc := 14) hc dX9_refuse_14 rfl ?_
    refine zg_0_5 (pc := 15) hc lk_X9_28 dX9_refuse_15 ?_
    refine zj_alen (pc := 18) hc dX9_refuse_18 alen_5 (by decide) ?_
    refine zj_icmp_ge (pc := 19) (tgt := 32) hc dX9_refuse_19 (by decide) (fun hx3 => ?_) (fun hx3 => ?_)
    · have h := h.1 hx3
      refine zj_iload_n (pc := 32) hc dX9_refuse_32 rfl ?_
      exact zj_iret (pc := 33) hc hr hlk dX9_refuse_33 (by decide) (by decide) h
    · have h := h.2 hx3
      refine zj_aload_n (pc := 22) hc dX9_refuse_22 rfl ?_
      refine zg_0_5 (pc := 23) hc lk_X9_28 dX9_refuse_23 ?_
      refine zj_iload_n (pc := 26) hc dX9_refuse_26 rfl ?_
      refine zj_dup2 (pc := 27) hc dX9_refuse_27 ?_
      refine zj_iald (pc := 28) hc dX9_refuse_28 alen_5 h.1 ?_
      have h := h.2
      refine zj_iconst (pc := 29) hc dX9_refuse_29 (zin _ rfl) ?_
      refine zj_iadd (pc := 30) hc dX9_refuse_30 h.1 ?_
      have h := h.2
      refine zj_iast (pc := 31) hc dX9_refuse_31 alen_5 h.1 (fun M4 hM4 => ?_)
      have h := h.2 M4 hM4
      refine zj_iload_n (pc := 32) hc dX9_refuse_32 rfl ?_
      exact zj_iret (pc := 33) hc hr hlk dX9_refuse_33 (by decide) (by decide) h
set_option maxHeartbeats 4000000 in
set_option maxRecDepth 100000 in
theorem S_X9_addFour (l : Launch) (G : zG) (v1 : Int) (M : zMem) (Qr : zMem → Prop) (h : T_X9_addFour v1 Qr M) : zMetV l yX9_addFour cX9_addFour 3 none 0 0 0 0 G [.inr 63, .inl v1] M Qr := by
  refine zmetV (by decide) (Nat.le_of_ble_eq_true rfl) [some (.inr 63), some (.inl v1), none] rfl ?_
  intro p e s m args below meth c hc hr hlk
  have k3 : ∀ (M : zMem) (v1 : Int) (v2 : Int), T_X9_addFour_3 v1 Qr v2 M → zJ p l e (zRoom 0 0 0 0) s m args below meth c G 3 0 0 (MQ below (zQv G (Qr)) args s 0 0 (zA G)) 3 [some (.inr 63), some (.inl v1), some (.inl v2)] [] M := by
    intro M v1 v2 h
    unfold T_X9_addFour_3 at h
    refine zl1_use h (fun v2 M => zJ p l e (zRoom 0 0 0 0) s m args below meth c G 3 0 0 (MQ below (zQv G (Qr)) args s 0 0 (zA G)) 3 [some (.inr 63), some (.inl v1), some (.inl v2)] [] M) (fun X3 hX3 v2 M h => ?_)
    refine zj_iload_n (pc := 3) hc dX9_addFour_3 rfl ?_
    refine zj_if_lt (pc := 4) (tgt := 49) hc dX9_addFour_4 (by decide) (fun hx1 => ?_) (fun hx1 => ?_)
    · have h := h.1 hx1
      exact zj_vret (pc := 49) hc hr hlk dX9_addFour_49 (by decide) (by decide) h
    · have h := h.2 hx1
      refine zj_aload_n (pc := 7) hc dX9_addFour_7 rfl ?_
      refine zg_0_3 (pc := 8) hc lk_X9_19 dX9_addFour_8 ?_
      refine zj_sipush (pc := 11) hc dX9_addFour_11 (by decide) (zin _ rfl) ?_
      refine zj_icmp_ge (pc := 14) (tgt := 49) hc dX9_addFour_14 (by decide) (fun hx2 => ?_) (fun hx2 => ?_)
      · have h := h.1 hx2
        exact zj_vret (pc := 49) hc hr hlk dX9_addFour_49 (by decide) (by decide) h
      · have h := h.2 hx2
        refine zj_aload_n (pc := 17) hc dX9_addFour_17 rfl ?_
        refine zg_0_2 (pc := 18) hc lk_X9_16 dX9_addFour_18 ?_
        refine zj_aload_n (pc := 21) hc dX9_addFour_21 rfl ?_
        refine zg_0_3 (pc := 22) hc lk_X9_19 dX9_addFour_22 ?_
        refine zj_iload_n (pc := 25) hc dX9_addFour_25 rfl ?_
        refine zj_iload_n (pc := 26) hc dX9_addFour_26 rfl ?_
        refine zj_iushr (pc := 27) hc dX9_addFour_27 ?_
        refine zj_sipush (pc := 28) hc dX9_addFour_28 (by decide) (zin _ rfl) ?_
        refine zj_iand (pc := 31) hc dX9_addFour_31 ?_
        refine zj_iast (pc := 32) hc dX9_addFour_32 alen_2 h.1 (fun M3 hM3 => ?_)
        have h := h.2 M3 hM3
        refine zj_aload_n (pc := 33) hc dX9_addFour_33 rfl ?_
        refine zj_dup (pc := 34) hc dX9_addFour_34 ?_
        refine zg_0_3 (pc := 35) hc lk_X9_19 dX9_addFour_35 ?_
        refine zj_iconst (pc := 38) hc dX9_addFour_38 (zin _ rfl) ?_
        refine zj_iadd (pc := 39) hc dX9_addFour_39 h.1 ?_
        have h := h.2
        refine zs_0_3 (pc := 40) hc lk_X9_19 dX9_addFour_40 (fun M4 hM4 => ?_)
        have h := h M4 hM4
        refine zj_iinc (pc := 43) hc dX9_addFour_43 rfl (by decide) h.1 ?_
        have h := h.2
        refine zj_goto (pc := 46) (tgt := 3) hc dX9_addFour_46 (by decide) ?_
        exact hX3 (v2 + (-8)) M4 h
  unfold T_X9_addFour at h
  refine zj_bipush (pc := 0) hc dX9_addFour_0 (by decide) (zin _ rfl) ?_
  refine zj_istore_n (pc := 2) hc dX9_addFour_2 (by decide) ?_
  exact k3 M v1 24 h
set_option maxHeartbeats 4000000 in
set_option maxRecDepth 100000 in
theorem S_X9_feed (l : Launch) (G : zG) (v1 : Int) (v2 : Int) (v3 : Int) (v4 : Int) (v5 : Int) (M : zMem) (Qr : Int → zMem → Prop) (h : T_X9_feed v1 v2 v3 v4 v5 Qr M) : zMetI l yX9_feed cX9_feed 6 (some .int) 1 22 0 0 G [.inr 63, .inl v1, .inl v2, .inl v3, .inl v4, .inl v5] M Qr := by
  refine zmetI (by decide) (Nat.le_of_ble_eq_true rfl) [some (.inr 63), some (.inl v1), some (.inl v2), some (.inl v3), some (.inl v4), some (.inl v5)] rfl ?_
  intro p e s m args below meth c hc hr hlk
  unfold T_X9_feed at h
  refine zj_aload_n (pc := 0) hc dX9_feed_0 rfl ?_
  refine zg_0_3 (pc := 1) hc lk_X9_19 dX9_feed_1 ?_
  refine zj_bipush (pc := 4) hc dX9_feed_4 (by decide) (zin _ rfl) ?_
  refine zj_iadd (pc := 6) hc dX9_feed_6 h.1 ?_
  have h := h.2
  refine zj_sipush (pc := 7) hc dX9_feed_7 (by decide) (zin _ rfl) ?_
  refine zj_icmp_le (pc := 10) (tgt := 15) hc dX9_feed_10 (by decide) (fun hx1 => ?_) (fun hx1 => ?_)
  · have h := h.1 hx1
    refine zj_aload_n (pc := 15) hc dX9_feed_15 rfl ?_
    refine zj_iload_n (pc := 16) hc dX9_feed_16 rfl ?_
    refine zj_vtv (pc := 17) (st := []) hc ks_X9_addFour iv_X9_addFour lk_X9_92 (zrv_0 G M) (S_X9_addFour l G v1 M _ h) rfl ⟨Nat.le_of_ble_eq_true rfl, Nat.le_of_ble_eq_true rfl⟩ (Nat.le_of_ble_eq_true rfl) ⟨Nat.le_of_ble_eq_true rfl, Nat.le_of_ble_eq_true rfl⟩ dX9_feed_17 rfl (fun M2 h => ?_)
    refine zj_aload_n (pc := 20) hc dX9_feed_20 rfl ?_
    refine zj_iload_n (pc := 21) hc dX9_feed_21 rfl ?_
    refine zj_vtv (pc := 22) (st := []) hc ks_X9_addFour iv_X9_addFour lk_X9_92 (zrv_0 G M2) (S_X9_addFour l G v2 M2 _ h) rfl ⟨Nat.le_of_ble_eq_true rfl, Nat.le_of_ble_eq_true rfl⟩ (Nat.le_of_ble_eq_true rfl) ⟨Nat.le_of_ble_eq_true rfl, Nat.le_of_ble_eq_true rfl⟩ dX9_feed_22 rfl (fun M3 h => ?_)
    refine zj_aload_n (pc := 25) hc dX9_feed_25 rfl ?_
    refine zj_iload_n (pc := 26) hc dX9_feed_26 rfl ?_
    refine zj_vtv (pc := 27) (st := []) hc ks_X9_addFour iv_X9_addFour lk_X9_92 (zrv_0 G M3) (S_X9_addFour l G v3 M3 _ h) rfl ⟨Nat.le_of_ble_eq_true rfl, Nat.le_of_ble_eq_true rfl⟩ (Nat.le_of_ble_eq_true rfl) ⟨Nat.le_of_ble_eq_true rfl, Nat.le_of_ble_eq_true rfl⟩ dX9_feed_27 rfl (fun M4 h => ?_)
    refine zj_aload_n (pc := 30) hc dX9_feed_30 rfl ?_
    refine zj_iload (pc := 31) hc dX9_feed_31 rfl ?_
    refine zj_vtv (pc := 33) (st := []) hc ks_X9_addFour iv_X9_addFour lk_X9_92 (zrv_0 G M4) (S_X9_addFour l G v4 M4 _ h) rfl ⟨Nat.le_of_ble_eq_true rfl, Nat.le_of_ble_eq_true rfl⟩ (Nat.le_of_ble_eq_true rfl) ⟨Nat.le_of_ble_eq_true rfl, Nat.le_of_ble_eq_true rfl⟩ dX9_feed_33 rfl (fun M5 h => ?_)
    refine zj_aload_n (pc := 36) hc dX9_feed_36 rfl ?_
    refine zj_iload (pc := 37) hc dX9_feed_37 rfl ?_
    refine zj_vtv (pc := 39) (st := []) hc ks_X9_addFour iv_X9_addFour lk_X9_92 (zrv_0 G M5) (S_X9_addFour l G v5 M5 _ h) rfl ⟨Nat.le_of_ble_eq_true rfl, Nat.le_of_ble_eq_true rfl⟩ (Nat.le_of_ble_eq_true rfl) ⟨Nat.le_of_ble_eq_true rfl, Nat.le_of_ble_eq_true rfl⟩ dX9_feed_39 rfl (fun M6 h => ?_)
    refine zj_aload_n (pc := 42) hc dX9_feed_42 rfl ?_
    refine zg_0_3 (pc := 43) hc lk_X9_19 dX9_feed_43 ?_
    exact zj_iret (pc := 46) hc hr hlk dX9_feed_46 (by decide) (by decide) h
  · have h := h.2 hx1
    refine zj_iconst (pc := 13) hc dX9_feed_13 (zin _ rfl) ?_
    exact zj_iret (pc := 14) hc hr hlk dX9_feed_14 (by decide) (by decide) h
set_option maxHeartbeats 4000000 in
set_option maxRecDepth 100000 in
theorem S_X9_end (l : Launch) (G : zG) (v1 : Int) (M : zMem) (Qr : Int → zMem → Prop) (h : T_X9_end v1 Qr M) : zMetI l yX9_end cX9_end 2 (some .int) 0 0 0 0 G [.inr 63, .inl v1] M Qr := by
  refine zmetI (by decide) (Nat.le_of_ble_eq_true rfl) [some (.inr 63), some (.inl v1)] rfl ?_
  intro p e s m args below meth c hc hr hlk
  unfold T_X9_end at h
  refine zj_iload_n (pc := 0) hc dX9_end_0 rfl ?_
  refine zj_if_lt (pc := 1) (tgt := 12) hc dX9_end_1 (by decide) (fun hx1 => ?_) (fun hx1 => ?_)
  · have h := h.1 hx1
    refine zj_iconst (pc := 12) hc dX9_end_12 (zin _ rfl) ?_
    exact zj_iret (pc := 13) hc hr hlk dX9_end_13 (by decide) (by decide) h
  · have h := h.2 hx1
    refine zj_iload_n (pc := 4) hc dX9_end_4 rfl ?_
    refine zj_aload_n (pc := 5) hc dX9_end_5 rfl ?_
    refine zg_0_3 (pc := 6) hc lk_X9_19 dX9_end_6 ?_
    refine zj_icmp_le (pc := 9) (tgt := 14) hc dX9_end_9 (by decide) (fun hx2 => ?_) (fun hx2 => ?_)
    · have h := h.1 hx2
      refine zj_aload_n (pc := 14) hc dX9_end_14 rfl ?_
      refine zj_iload_n (pc := 15) hc dX9_end_15 rfl ?_
      refine zs_0_3 (pc := 16) hc lk_X9_19 dX9_end_16 (fun M3 hM3 => ?_)
      have h := h M3 hM3
      refine zj_iload_n (pc := 19) hc dX9_end_19 rfl ?_
      exact zj_iret (pc := 20) hc hr hlk dX9_end_20 (by decide) (by decide) h
    · have h := h.2 hx2
      refine zj_iconst (pc := 12) hc dX9_end_12 (zin _ rfl) ?_
      exact zj_iret (pc := 13) hc hr hlk dX9_end_13 (by decide) (by decide) h
set_option maxHeartbeats 4000000 in
set_option maxRecDepth 100000 in
theorem S_X9_tape (l : Launch) (G : zG) (v1 : Int) (M : zMem) (Qr : Int → Prop) (h : T_X9_tape v1 Qr M) : zMetI l yX9_tape cX9_tape 2 (some .int) 0 0 0 0 G [.inr 63, .inl v1] M (fun r9 M9 => M = M9 ∧ Qr r9) := by
  refine zmetI (by decide) (Nat.le_of_ble_eq_true rfl) [some (.inr 63), some (.inl v1)] rfl ?_
  intro p e s m args below meth c hc hr hlk
  unfold T_X9_tape at h
  refine zj_iload_n (pc := 0) hc dX9_tape_0 rfl ?_
  refine zj_if_lt (pc := 1) (tgt := 21) hc dX9_tape_1 (by decide) (fun hx1 => ?_) (fun hx1 => ?_)
  · have h := h.1 hx1
    refine zj_iconst (pc := 21) hc dX9_tape_21 (zin _ rfl) ?_
    exact zj_iret (pc := 22) hc hr hlk dX9_tape_22 (by decide) (by decide) ⟨rfl, h⟩
  · have h := h.2 hx1
    refine zj_iload_n (pc := 4) hc dX9_tape_4 rfl ?_
    refine zj_aload_n (pc := 5) hc dX9_tape_5 rfl ?_
    refine zg_0_3 (pc := 6) hc lk_X9_19 dX9_tape_6 ?_
    refine zj_icmp_ge (pc := 9) (tgt := 21) hc dX9_tape_9 (by decide) (fun hx2 => ?_) (fun hx2 => ?_)
    · have h := h.1 hx2
      refine zj_iconst (pc := 21) hc dX9_tape_21 (zin _ rfl) ?_
      exact zj_iret (pc := 22) hc hr hlk dX9_tape_22 (by decide) (by decide) ⟨rfl, h⟩
    · have h := h.2 hx2
      refine zj_aload_n (pc := 12) hc dX9_tape_12 rfl ?_
      refine zg_0_2 (pc := 13) hc lk_X9_16 dX9_tape_13 ?_
      refine zj_iload_n (pc := 16) hc dX9_tape_16 rfl ?_
      refine zj_iald (pc := 17) hc dX9_tape_17 alen_2 h.1 ?_
      have h := h.2
      refine zj_goto (pc := 18) (tgt := 22) hc dX9_tape_18 (by decide) ?_
      exact zj_iret (pc := 22) hc hr hlk dX9_tape_22 (by decide) (by decide) ⟨rfl, h⟩
set_option maxHeartbeats 4000000 in
set_option maxRecDepth 100000 in
theorem S_X9_takeTape (l : Launch) (G : zG) (r1 : Nat) (v2 : Int) (M : zMem) (Qr : zMem → Prop) (h : T_X9_takeTape r1 v2 Qr M) : zMetV l yX9_takeTape cX9_takeTape 3 none 1 26 0 0 G [.inr 63, .inr r1, .inl v2] M Qr := by
  refine zmetV (by decide) (Nat.le_of_ble_eq_true rfl) [some (.inr 63), some (.inr r1), some (.inl v2)] rfl ?_
  intro p e s m args below meth c hc hr hlk
  unfold T_X9_takeTape at h
  refine zj_iload_n (pc := 0) hc dX9_takeTape_0 rfl ?_
  refine zj_if_lt (pc := 1) (tgt := 33) hc dX9_takeTape_1 (by decide) (fun hx1 => ?_) (fun hx1 => ?_)
  · have h := h.1 hx1
    exact zj_vret (pc := 33) hc hr hlk dX9_takeTape_33 (by decide) (by decide) h
  · have h := h.2 hx1
    refine zj_iload_n (pc := 4) hc dX9_takeTape_4 rfl ?_
    refine zj_sipush (pc := 5) hc dX9_takeTape_5 (by decide) (zin _ rfl) ?_
    refine zj_icmp_gt (pc := 8) (tgt := 33) hc dX9_takeTape_8 (by decide) (fun hx2 => ?_) (fun hx2 => ?_)
    · have h := h.1 hx2
      exact zj_vret (pc := 33) hc hr hlk dX9_takeTape_33 (by decide) (by decide) h
    · have h := h.2 hx2
      refine zj_iload_n (pc := 11) hc dX9_takeTape_11 rfl ?_
      refine zj_aload_n (pc := 12) hc dX9_takeTape_12 rfl ?_
      refine zj_alen (pc := 13) hc dX9_takeTape_13 rfl h.1 ?_
      have h := h.2
      refine zj_icmp_gt (pc := 14) (tgt := 33) hc dX9_takeTape_14 (by decide) (fun hx3 => ?_) (fun hx3 => ?_)
      · have h := h.1 hx3
        exact zj_vret (pc := 33) hc hr hlk dX9_takeTape_33 (by decide) (by decide) h
      · have h := h.2 hx3
        refine zj_aload_n (pc := 17) hc dX9_takeTape_17 rfl ?_
        refine zj_iconst (pc := 18) hc dX9_takeTape_18 (zin _ rfl) ?_
        refine zj_aload_n (pc := 19) hc dX9_takeTape_19 rfl ?_
        refine zg_0_2 (pc := 20) hc lk_X9_16 dX9_takeTape_20 ?_
        refine zj_iconst (pc := 23) hc dX9_takeTape_23 (zin _ rfl) ?_
        refine zj_iload_n (pc := 24) hc dX9_takeTape_24 rfl ?_
        refine zj_copy (pc := 25) hc dX9_takeTape_25 lk_X9_277 na_copy st_copy in_System rfl alen_2 h.1 (Nat.le_of_ble_eq_true rfl) (Nat.le_of_ble_eq_true rfl) (fun M4 hM4 => ?_)
        have h := h.2 M4 hM4
        refine zj_aload_n (pc := 28) hc dX9_takeTape_28 rfl ?_
        refine zj_iload_n (pc := 29) hc dX9_takeTape_29 rfl ?_
        refine zs_0_3 (pc := 30) hc lk_X9_19 dX9_takeTape_30 (fun M5 hM5 => ?_)
        have h := h M5 hM5
        exact zj_vret (pc := 33) hc hr hlk dX9_takeTape_33 (by decide) (by decide) h
