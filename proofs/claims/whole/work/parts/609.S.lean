set_option maxHeartbeats 4000000 in
set_option maxRecDepth 100000 in
theorem S_X1_fitsByAny (l : Launch) (G : zG) (v1 : Int) (v2 : Int) (M : zMem) (Qr : Int → zMem → Prop) (h : T_X1_fitsByAny v1 v2 Qr M) : zMetI l yX1_fitsByAny cX1_fitsByAny 5 (some .boolean) 2 56 0 0 G [.inr 191, .inl v1, .inl v2] M Qr := by
  refine zmetI (by decide) (Nat.le_of_ble_eq_true rfl) [some (.inr 191), some (.inl v1), some (.inl v2), none, none] rfl ?_
  intro p e s m args below meth c hc hr hlk
  have k13 : ∀ (M : zMem) (v3 : Int) (v4 : Int), T_X1_fitsByAny_13 v3 Qr v4 M → zJ p l e (zRoom 2 56 0 0) s m args below meth c G 5 0 0 (MQ below (zQi G (Qr)) args s 0 0 (zA G)) 13 [some (.inr 191), none, none, some (.inl v3), some (.inl v4)] [] M := by
    intro M v3 v4 h
    unfold T_X1_fitsByAny_13 at h
    refine zl1_use h (fun v4 M => zJ p l e (zRoom 2 56 0 0) s m args below meth c G 5 0 0 (MQ below (zQi G (Qr)) args s 0 0 (zA G)) 13 [some (.inr 191), none, none, some (.inl v3), some (.inl v4)] [] M) (fun X13 hX13 v4 M h => ?_)
    refine zj_iload (pc := 13) hc dX1_fitsByAny_13 rfl ?_
    refine zj_iconst (pc := 15) hc dX1_fitsByAny_15 (zin _ rfl) ?_
    refine zj_icmp_ge (pc := 16) (tgt := 54) hc dX1_fitsByAny_16 (by decide) (fun hx1 => ?_) (fun hx1 => ?_)
    · have h := h.1 hx1
      refine zj_iconst (pc := 54) hc dX1_fitsByAny_54 (zin _ rfl) ?_
      exact zj_zret (pc := 55) hc hr hlk dX1_fitsByAny_55 (by decide) (by decide) (Or.inl rfl) h
    · have h := h.2 hx1
      refine zj_aload_n (pc := 19) hc dX1_fitsByAny_19 rfl ?_
      refine zj_aload_n (pc := 20) hc dX1_fitsByAny_20 rfl ?_
      refine zg_2_4 (pc := 21) hc lk_X1_28 dX1_fitsByAny_21 ?_
      refine zg_3_0 (pc := 24) hc lk_X1_125 dX1_fitsByAny_24 ?_
      refine zj_aload_n (pc := 27) hc dX1_fitsByAny_27 rfl ?_
      refine zg_2_4 (pc := 28) hc lk_X1_28 dX1_fitsByAny_28 ?_
      refine zg_3_1 (pc := 31) hc lk_X1_129 dX1_fitsByAny_31 ?_
      refine zj_iload_n (pc := 34) hc dX1_fitsByAny_34 rfl ?_
      refine zj_iload (pc := 35) hc dX1_fitsByAny_35 rfl ?_
      refine zj_vti (pc := 37) (st := [.inr 191]) hc ks_X6_packRow iv_X6_packRow lk_X1_182 (zrv_4 G M) (S_X6_packRow l G (Or.inl rfl) 193 v3 v4 M _ h) rfl ⟨Nat.le_of_ble_eq_true rfl, Nat.le_of_ble_eq_true rfl⟩ (Nat.le_of_ble_eq_true rfl) ⟨Nat.le_of_ble_eq_true rfl, Nat.le_of_ble_eq_true rfl⟩ dX1_fitsByAny_37 rfl (fun y2 M3 h => ?_)
      refine zj_vti (pc := 40) (st := []) hc ks_X1_fitsWith iv_X1_fitsWith lk_X1_137 (zrv_2 G M3) (S_X1_fitsWith l G y2 M3 _ h) rfl ⟨Nat.le_of_ble_eq_true rfl, Nat.le_of_ble_eq_true rfl⟩ (Nat.le_of_ble_eq_true rfl) ⟨Nat.le_of_ble_eq_true rfl, Nat.le_of_ble_eq_true rfl⟩ dX1_fitsByAny_40 rfl (fun y4 M9 h => ?_)
      obtain ⟨hM9, h⟩ := h
      subst hM9
      refine zj_if_eq (pc := 43) (tgt := 48) hc dX1_fitsByAny_43 (by decide) (fun hx5 => ?_) (fun hx5 => ?_)
      · have h := h.1 hx5
        refine zj_iinc (pc := 48) hc dX1_fitsByAny_48 rfl (by decide) h.1 ?_
        have h := h.2
        refine zj_goto (pc := 51) (tgt := 13) hc dX1_fitsByAny_51 (by decide) ?_
        exact hX13 (v4 + 1) M3 h
      · have h := h.2 hx5
        refine zj_iconst (pc := 46) hc dX1_fitsByAny_46 (zin _ rfl) ?_
        exact zj_zret (pc := 47) hc hr hlk dX1_fitsByAny_47 (by decide) (by decide) (Or.inr rfl) h
  unfold T_X1_fitsByAny at h
  refine zj_aload_n (pc := 0) hc dX1_fitsByAny_0 rfl ?_
  refine zg_2_4 (pc := 1) hc lk_X1_28 dX1_fitsByAny_1 ?_
  refine zj_iload_n (pc := 4) hc dX1_fitsByAny_4 rfl ?_
  refine zj_iload_n (pc := 5) hc dX1_fitsByAny_5 rfl ?_
  refine zj_vti (pc := 6) (st := []) hc ks_X8_layOut iv_X8_layOut lk_X1_122 (zrv_3 G M) (S_X8_layOut l G (Or.inl rfl) v1 v2 M _ h) rfl ⟨Nat.le_of_ble_eq_true rfl, Nat.le_of_ble_eq_true rfl⟩ (Nat.le_of_ble_eq_true rfl) ⟨Nat.le_of_ble_eq_true rfl, Nat.le_of_ble_eq_true rfl⟩ dX1_fitsByAny_6 rfl (fun y6 M7 h => ?_)
  refine zj_istore_n (pc := 9) hc dX1_fitsByAny_9 (by decide) ?_
  refine zj_iconst (pc := 10) hc dX1_fitsByAny_10 (zin _ rfl) ?_
  refine zj_istore (pc := 11) hc dX1_fitsByAny_11 (by decide) ?_
  refine zj_mask (bs := [true, false, false, true, true]) ?_
  exact k13 M7 y6 0 h
set_option maxHeartbeats 4000000 in
set_option maxRecDepth 100000 in
theorem S_X1_farthestEnd (l : Launch) (G : zG) (v1 : Int) (M : zMem) (Qr : Int → zMem → Prop) (h : T_X1_farthestEnd v1 Qr M) : zMetI l yX1_farthestEnd cX1_farthestEnd 5 (some .int) 3 80 0 0 G [.inr 191, .inl v1] M Qr := by
  refine zmetI (by decide) (Nat.le_of_ble_eq_true rfl) [some (.inr 191), some (.inl v1), none, none, none] rfl ?_
  intro p e s m args below meth c hc hr hlk
  have k91 : ∀ (M : zMem) (v1 : Int) (v3 : Int) (v4 : Int) (X28 : Int → Int → zMem → Prop) (hX28 : ∀ (v3 : Int) (v4 : Int) (M : zMem), X28 v3 v4 M → zJ p l e (zRoom 3 80 0 0) s m args below meth c G 5 0 0 (MQ below (zQi G (Qr)) args s 0 0 (zA G)) 28 [some (.inr 191), some (.inl v1), none, some (.inl v3), some (.inl v4)] [] M), T_X1_farthestEnd_91 v1 v3 v4 X28 Qr M → zJ p l e (zRoom 3 80 0 0) s m args below meth c G 5 0 0 (MQ below (zQi G (Qr)) args s 0 0 (zA G)) 91 [some (.inr 191), some (.inl v1), none, some (.inl v3), some (.inl v4)] [] M := by
    intro M v1 v3 v4 X28 hX28 h
    unfold T_X1_farthestEnd_91 at h
    refine zj_iinc (pc := 91) hc dX1_farthestEnd_91 rfl (by decide) h.1 ?_
    have h := h.2
    refine zj_goto (pc := 94) (tgt := 28) hc dX1_farthestEnd_94 (by decide) ?_
    exact hX28 v3 (v4 + 1) M h
  have k28 : ∀ (M : zMem) (v1 : Int) (v3 : Int) (v4 : Int), T_X1_farthestEnd_28 v1 Qr v3 v4 M → zJ p l e (zRoom 3 80 0 0) s m args below meth c G 5 0 0 (MQ below (zQi G (Qr)) args s 0 0 (zA G)) 28 [some (.inr 191), some (.inl v1), none, some (.inl v3), some (.inl v4)] [] M := by
    intro M v1 v3 v4 h
    unfold T_X1_farthestEnd_28 at h
    refine zl2_use h (fun v3 v4 M => zJ p l e (zRoom 3 80 0 0) s m args below meth c G 5 0 0 (MQ below (zQi G (Qr)) args s 0 0 (zA G)) 28 [some (.inr 191), some (.inl v1), none, some (.inl v3), some (.inl v4)] [] M) (fun X28 hX28 v3 v4 M h => ?_)
    refine zj_iload (pc := 28) hc dX1_farthestEnd_28 rfl ?_
    refine zj_sipush (pc := 30) hc dX1_farthestEnd_30 (by decide) (zin _ rfl) ?_
    refine zj_icmp_ge (pc := 33) (tgt := 97) hc dX1_farthestEnd_33 (by decide) (fun hx1 => ?_) (fun hx1 => ?_)
    · have h := h.1 hx1
      refine zj_iload_n (pc := 97) hc dX1_farthestEnd_97 rfl ?_
      exact zj_iret (pc := 98) hc hr hlk dX1_farthestEnd_98 (by decide) (by decide) h
    · have h := h.2 hx1
      refine zj_aload_n (pc := 36) hc dX1_farthestEnd_36 rfl ?_
      refine zg_2_4 (pc := 37) hc lk_X1_28 dX1_farthestEnd_37 ?_
      refine zj_iload (pc := 40) hc dX1_farthestEnd_40 rfl ?_
      refine zj_vti (pc := 42) (st := []) hc ks_X8_sizeOf iv_X8_sizeOf lk_X1_176 (zrv_3 G M) (S_X8_sizeOf l G (Or.inl rfl) v4 M _ h) rfl ⟨Nat.le_of_ble_eq_true rfl, Nat.le_of_ble_eq_true rfl⟩ (Nat.le_of_ble_eq_true rfl) ⟨Nat.le_of_ble_eq_true rfl, Nat.le_of_ble_eq_true rfl⟩ dX1_farthestEnd_42 rfl (fun y2 M9 h => ?_)
      obtain ⟨hM9, h⟩ := h
      subst hM9
      refine zj_iconst (pc := 45) hc dX1_farthestEnd_45 (zin _ rfl) ?_
      refine zj_icmp_ne (pc := 46) (tgt := 52) hc dX1_farthestEnd_46 (by decide) (fun hx3 => ?_) (fun hx3 => ?_)
      · have h := h.1 hx3
        refine zj_aload_n (pc := 52) hc dX1_farthestEnd_52 rfl ?_
        refine zg_2_4 (pc := 53) hc lk_X1_28 dX1_farthestEnd_53 ?_
        refine zj_iload_n (pc := 56) hc dX1_farthestEnd_56 rfl ?_
        refine zj_iload (pc := 57) hc dX1_farthestEnd_57 rfl ?_
        refine zj_iconst (pc := 59) hc dX1_farthestEnd_59 (zin _ rfl) ?_
        refine zj_iadd (pc := 60) hc dX1_farthestEnd_60 h.1 ?_
        have h := h.2
        refine zj_vti (pc := 61) (st := []) hc ks_X8_plainSize iv_X8_plainSize lk_X1_75 (zrv_3 G M) (S_X8_plainSize l G (Or.inl rfl) v1 (v4 + 1) M _ h) rfl ⟨Nat.le_of_ble_eq_true rfl, Nat.le_of_ble_eq_true rfl⟩ (Nat.le_of_ble_eq_true rfl) ⟨Nat.le_of_ble_eq_true rfl, Nat.le_of_ble_eq_true rfl⟩ dX1_farthestEnd_61 rfl (fun y4 M9 h => ?_)
        obtain ⟨hM9, h⟩ := h
        subst hM9
        refine zj_aload_n (pc := 64) hc dX1_farthestEnd_64 rfl ?_
        refine zj_vti (pc := 65) (st := [.inl y4]) hc ks_X1_full iv_X1_full lk_X1_96 (zrv_2 G M) (S_X1_full l G M _ h) rfl ⟨Nat.le_of_ble_eq_true rfl, Nat.le_of_ble_eq_true rfl⟩ (Nat.le_of_ble_eq_true rfl) ⟨Nat.le_of_ble_eq_true rfl, Nat.le_of_ble_eq_true rfl⟩ dX1_farthestEnd_65 rfl (fun y5 M9 h => ?_)
        obtain ⟨hM9, h⟩ := h
        subst hM9
        refine zj_icmp_gt (pc := 68) (tgt := 97) hc dX1_farthestEnd_68 (by decide) (fun hx6 => ?_) (fun hx6 => ?_)
        · have h := h.1 hx6
          refine zj_iload_n (pc := 97) hc dX1_farthestEnd_97 rfl ?_
          exact zj_iret (pc := 98) hc hr hlk dX1_farthestEnd_98 (by decide) (by decide) h
        · have h := h.2 hx6
          refine zj_aload_n (pc := 71) hc dX1_farthestEnd_71 rfl ?_
          refine zj_iload_n (pc := 72) hc dX1_farthestEnd_72 rfl ?_
          refine zj_iload (pc := 73) hc dX1_farthestEnd_73 rfl ?_
          refine zj_iconst (pc := 75) hc dX1_farthestEnd_75 (zin _ rfl) ?_
          refine zj_iadd (pc := 76) hc dX1_farthestEnd_76 h.1 ?_
          have h := h.2
          refine zj_vti (pc := 77) (st := []) hc ks_X1_fitsByAny iv_X1_fitsByAny lk_X1_179 (zrv_2 G M) (S_X1_fitsByAny l G v1 (v4 + 1) M _ h) rfl ⟨Nat.le_of_ble_eq_true rfl, Nat.le_of_ble_eq_true rfl⟩ (Nat.le_of_ble_eq_true rfl) ⟨Nat.le_of_ble_eq_true rfl, Nat.le_of_ble_eq_true rfl⟩ dX1_farthestEnd_77 rfl (fun y7 M8 h => ?_)
          refine zj_if_ne (pc := 80) (tgt := 86) hc dX1_farthestEnd_80 (by decide) (fun hx9 => ?_) (fun hx9 => ?_)
          · have h := h.1 hx9
            refine zj_iload (pc := 86) hc dX1_farthestEnd_86 rfl ?_
            refine zj_iconst (pc := 88) hc dX1_farthestEnd_88 (zin _ rfl) ?_
            refine zj_iadd (pc := 89) hc dX1_farthestEnd_89 h.1 ?_
            have h := h.2
            refine zj_istore_n (pc := 90) hc dX1_farthestEnd_90 (by decide) ?_
            exact k91 M8 v1 (v4 + 1) v4 X28 hX28 h
          · have h := h.2 hx9
            refine zj_goto (pc := 83) (tgt := 97) hc dX1_farthestEnd_83 (by decide) ?_
            refine zj_iload_n (pc := 97) hc dX1_farthestEnd_97 rfl ?_
            exact zj_iret (pc := 98) hc hr hlk dX1_farthestEnd_98 (by decide) (by decide) h
      · have h := h.2 hx3
        refine zj_goto (pc := 49) (tgt := 91) hc dX1_farthestEnd_49 (by decide) ?_
        exact k91 M v1 v3 v4 X28 hX28 h
  unfold T_X1_farthestEnd at h
  refine zj_aload_n (pc := 0) hc dX1_farthestEnd_0 rfl ?_
  refine zg_2_4 (pc := 1) hc lk_X1_28 dX1_farthestEnd_1 ?_
  refine zj_iload_n (pc := 4) hc dX1_farthestEnd_4 rfl ?_
  refine zj_sipush (pc := 5) hc dX1_farthestEnd_5 (by decide) (zin _ rfl) ?_
  refine zj_vti (pc := 8) (st := []) hc ks_X8_lowestIn iv_X8_lowestIn lk_X1_107 (zrv_3 G M) (S_X8_lowestIn l G (Or.inl rfl) v1 256 M _ h) rfl ⟨Nat.le_of_ble_eq_true rfl, Nat.le_of_ble_eq_true rfl⟩ (Nat.le_of_ble_eq_true rfl) ⟨Nat.le_of_ble_eq_true rfl, Nat.le_of_ble_eq_true rfl⟩ dX1_farthestEnd_8 rfl (fun y10 M9 h => ?_)
  obtain ⟨hM9, h⟩ := h
  subst hM9
  refine zj_istore_n (pc := 11) hc dX1_farthestEnd_11 (by decide) ?_
  refine zj_iload_n (pc := 12) hc dX1_farthestEnd_12 rfl ?_
  refine zj_iconst (pc := 13) hc dX1_farthestEnd_13 (zin _ rfl) ?_
  refine zj_icmp_ne (pc := 14) (tgt := 21) hc dX1_farthestEnd_14 (by decide) (fun hx11 => ?_) (fun hx11 => ?_)
  · have h := h.1 hx11
    refine zj_iload_n (pc := 21) hc dX1_farthestEnd_21 rfl ?_
    refine zj_iconst (pc := 22) hc dX1_farthestEnd_22 (zin _ rfl) ?_
    refine zj_iadd (pc := 23) hc dX1_farthestEnd_23 h.1 ?_
    have h := h.2
    refine zj_istore_n (pc := 24) hc dX1_farthestEnd_24 (by decide) ?_
    refine zj_iload_n (pc := 25) hc dX1_farthestEnd_25 rfl ?_
    refine zj_istore (pc := 26) hc dX1_farthestEnd_26 (by decide) ?_
    refine zj_mask (bs := [true, true, false, true, true]) ?_
    exact k28 M v1 (y10 + 1) (y10 + 1) h
  · have h := h.2 hx11
    refine zj_sipush (pc := 17) hc dX1_farthestEnd_17 (by decide) (zin _ rfl) ?_
    exact zj_iret (pc := 20) hc hr hlk dX1_farthestEnd_20 (by decide) (by decide) h
set_option maxHeartbeats 4000000 in
set_option maxRecDepth 100000 in
theorem S_X1_compactAll (l : Launch) (G : zG) (M : zMem) (Qr : Int → zMem → Prop) (h : T_X1_compactAll Qr M) : zMetI l yX1_compactAll cX1_compactAll 5 (some .int) 5 131 0 0 G [.inr 191] M Qr := by
  refine zmetI (by decide) (Nat.le_of_ble_eq_true rfl) [some (.inr 191), none, none, none, none] rfl ?_
  intro p e s m args below meth c hc hr hlk
  have k118 : ∀ (M : zMem) (v2 : Int) (v3 : Int) (s1 : Int) (s2 : Int) (X15 : Int → Int → zMem → Prop) (hX15 : ∀ (v1 : Int) (v2 : Int) (M : zMem), X15 v1 v2 M → zJ p l e (zRoom 5 131 0 0) s m args below meth c G 5 0 0 (MQ below (zQi G (Qr)) args s 0 0 (zA G)) 15 [some (.inr 191), some (.inl v1), some (.inl v2), none, none] [] M), T_X1_compactAll_118 v2 v3 s1 s2 X15 Qr M → zJ p l e (zRoom 5 131 0 0) s m args below meth c G 5 0 0 (MQ below (zQi G (Qr)) args s 0 0 (zA G)) 118 [some (.inr 191), none, some (.inl v2), some (.inl v3), none] [.inl s2, .inl s1, .inr 128] M := by
    intro M v2 v3 s1 s2 X15 hX15 h
    unfold T_X1_compactAll_118 at h
    refine zj_iast (pc := 118) hc dX1_compactAll_118 alen_128 h.1 (fun M1 hM1 => ?_)
    have h := h.2 M1 hM1
    refine zj_aload_n (pc := 119) hc dX1_compactAll_119 rfl ?_
    refine zg_2_4 (pc := 120) hc lk_X1_28 dX1_compactAll_120 ?_
    refine zj_iload_n (pc := 123) hc dX1_compactAll_123 rfl ?_
    refine zj_sipush (pc := 124) hc dX1_compactAll_124 (by decide) (zin _ rfl) ?_
    refine zj_vti (pc := 127) (st := []) hc ks_X8_lowestIn iv_X8_lowestIn lk_X1_107 (zrv_3 G M1) (S_X8_lowestIn l G (Or.inl rfl) v3 256 M1 _ h) rfl ⟨Nat.le_of_ble_eq_true rfl, Nat.le_of_ble_eq_true rfl⟩ (Nat.le_of_ble_eq_true rfl) ⟨Nat.le_of_ble_eq_true rfl, Nat.le_of_ble_eq_true rfl⟩ dX1_compactAll_127 rfl (fun y2 M9 h => ?_)
    obtain ⟨hM9, h⟩ := h
    subst hM9
    refine zj_iconst (pc := 130) hc dX1_compactAll_130 (zin _ rfl) ?_
    refine zj_icmp_ne (pc := 131) (tgt := 138) hc dX1_compactAll_131 (by decide) (fun hx3 => ?_) (fun hx3 => ?_)
    · have h := h.1 hx3
      refine zj_iload_n (pc := 138) hc dX1_compactAll_138 rfl ?_
      refine zj_istore_n (pc := 139) hc dX1_compactAll_139 (by decide) ?_
      refine zj_iinc (pc := 140) hc dX1_compactAll_140 rfl (by decide) h.1 ?_
      have h := h.2
      refine zj_goto (pc := 143) (tgt := 15) hc dX1_compactAll_143 (by decide) ?_
      refine zj_mask (bs := [true, true, true, false, true]) ?_
      exact hX15 v3 (v2 + 1) M1 h
    · have h := h.2 hx3
      refine zj_iload_n (pc := 134) hc dX1_compactAll_134 rfl ?_
      refine zj_iconst (pc := 135) hc dX1_compactAll_135 (zin _ rfl) ?_
      refine zj_iadd (pc := 136) hc dX1_compactAll_136 h.1 ?_
      have h := h.2
      exact zj_iret (pc := 137) hc hr hlk dX1_compactAll_137 (by decide) (by decide) h
  have k15 : ∀ (M : zMem) (v1 : Int) (v2 : Int), T_X1_compactAll_15 Qr v1 v2 M → zJ p l e (zRoom 5 131 0 0) s m args below meth c G 5 0 0 (MQ below (zQi G (Qr)) args s 0 0 (zA G)) 15 [some (.inr 191), some (.inl v1), some (.inl v2), none, none] [] M := by
    intro M v1 v2 h
    unfold T_X1_compactAll_15 at h
    refine zl2_use h (fun v1 v2 M => zJ p l e (zRoom 5 131 0 0) s m args below meth c G 5 0 0 (MQ below (zQi G (Qr)) args s 0 0 (zA G)) 15 [some (.inr 191), some (.inl v1), some (.inl v2), none, none] [] M) (fun X15 hX15 v1 v2 M h => ?_)
    refine zj_iload_n (pc := 15) hc dX1_compactAll_15 rfl ?_
    refine zj_bipush (pc := 16) hc dX1_compactAll_16 (by decide) (zin _ rfl) ?_
    refine zj_icmp_ge (pc := 18) (tgt := 146) hc dX1_compactAll_18 (by decide) (fun hx4 => ?_) (fun hx4 => ?_)
    · have h := h.1 hx4
      refine zj_bipush (pc := 146) hc dX1_compactAll_146 (by decide) (zin _ rfl) ?_
      exact zj_iret (pc := 148) hc hr hlk dX1_compactAll_148 (by decide) (by decide) h
    · have h := h.2 hx4
      refine zj_aload_n (pc := 21) hc dX1_compactAll_21 rfl ?_
      refine zj_iload_n (pc := 22) hc dX1_compactAll_22 rfl ?_
      refine zj_vti (pc := 23) (st := []) hc ks_X1_farthestEnd iv_X1_farthestEnd lk_X1_173 (zrv_2 G M) (S_X1_farthestEnd l G v1 M _ h) rfl ⟨Nat.le_of_ble_eq_true rfl, Nat.le_of_ble_eq_true rfl⟩ (Nat.le_of_ble_eq_true rfl) ⟨Nat.le_of_ble_eq_true rfl, Nat.le_of_ble_eq_true rfl⟩ dX1_compactAll_23 rfl (fun y5 M6 h => ?_)
      refine zj_istore_n (pc := 26) hc dX1_compactAll_26 (by decide) ?_
      refine zj_aload_n (pc := 27) hc dX1_compactAll_27 rfl ?_
      refine zg_2_4 (pc := 28) hc lk_X1_28 dX1_compactAll_28 ?_
      refine zj_iload_n (pc := 31) hc dX1_compactAll_31 rfl ?_
      refine zj_iload_n (pc := 32) hc dX1_compactAll_32 rfl ?_
      refine zj_vti (pc := 33) (st := []) hc ks_X8_layOut iv_X8_layOut lk_X1_122 (zrv_3 G M6) (S_X8_layOut l G (Or.inl rfl) v1 y5 M6 _ h) rfl ⟨Nat.le_of_ble_eq_true rfl, Nat.le_of_ble_eq_true rfl⟩ (Nat.le_of_ble_eq_true rfl) ⟨Nat.le_of_ble_eq_true rfl, Nat.le_of_ble_eq_true rfl⟩ dX1_compactAll_33 rfl (fun y7 M8 h => ?_)
      refine zj_istore (pc := 36) hc dX1_compactAll_36 (by decide) ?_
      refine zj_aload_n (pc := 38) hc dX1_compactAll_38 rfl ?_
      refine zj_aload_n (pc := 39) hc dX1_compactAll_39 rfl ?_
      refine zg_2_4 (pc := 40) hc lk_X1_28 dX1_compactAll_40 ?_
      refine zg_3_0 (pc := 43) hc lk_X1_125 dX1_compactAll_43 ?_
      refine zj_aload_n (pc := 46) hc dX1_compactAll_46 rfl ?_
      refine zg_2_4 (pc := 47) hc lk_X1_28 dX1_compactAll_47 ?_
      refine zg_3_1 (pc := 50) hc lk_X1_129 dX1_compactAll_50 ?_
      refine zj_iload (pc := 53) hc dX1_compactAll_53 rfl ?_
      refine zj_vti (pc := 55) (st := [.inr 191]) hc ks_X6_packBest iv_X6_packBest lk_X1_132 (zrv_4 G M8) (S_X6_packBest l G (Or.inl rfl) 193 y7 M8 _ h) rfl ⟨Nat.le_of_ble_eq_true rfl, Nat.le_of_ble_eq_true rfl⟩ (Nat.le_of_ble_eq_true rfl) ⟨Nat.le_of_ble_eq_true rfl, Nat.le_of_ble_eq_true rfl⟩ dX1_compactAll_55 rfl (fun y9 M10 h => ?_)
      refine zs_2_7 (pc := 58) hc lk_X1_38 dX1_compactAll_58 (fun M11 hM11 => ?_)
      have h := h M11 hM11
      refine zj_aload_n (pc := 61) hc dX1_compactAll_61 rfl ?_
      refine zj_iload_n (pc := 62) hc dX1_compactAll_62 rfl ?_
      refine zj_vtv (pc := 63) (st := []) hc ks_X1_writeBlock iv_X1_writeBlock lk_X1_113 (zrv_2 G M11) (S_X1_writeBlock l G v2 M11 _ h) rfl ⟨Nat.le_of_ble_eq_true rfl, Nat.le_of_ble_eq_true rfl⟩ (Nat.le_of_ble_eq_true rfl) ⟨Nat.le_of_ble_eq_true rfl, Nat.le_of_ble_eq_true rfl⟩ dX1_compactAll_63 rfl (fun M12 h => ?_)
      refine zj_aload_n (pc := 66) hc dX1_compactAll_66 rfl ?_
      refine zg_2_0 (pc := 67) hc lk_X1_9 dX1_compactAll_67 ?_
      refine zj_sipush (pc := 70) hc dX1_compactAll_70 (by decide) (zin _ rfl) ?_
      refine zj_iload_n (pc := 73) hc dX1_compactAll_73 rfl ?_
      refine zj_iconst (pc := 74) hc dX1_compactAll_74 (zin _ rfl) ?_
      refine zj_iadd (pc := 75) hc dX1_compactAll_75 h.1 ?_
      have h := h.2
      refine zj_iast (pc := 76) hc dX1_compactAll_76 alen_128 h.1 (fun M13 hM13 => ?_)
      have h := h.2 M13 hM13
      refine zj_aload_n (pc := 77) hc dX1_compactAll_77 rfl ?_
      refine zg_2_0 (pc := 78) hc lk_X1_9 dX1_compactAll_78 ?_
      refine zj_sipush (pc := 81) hc dX1_compactAll_81 (by decide) (zin _ rfl) ?_
      refine zj_iconst (pc := 84) hc dX1_compactAll_84 (zin _ rfl) ?_
      refine zj_iload_n (pc := 85) hc dX1_compactAll_85 rfl ?_
      refine zj_imul (pc := 86) hc dX1_compactAll_86 h.1 ?_
      have h := h.2
      refine zj_iadd (pc := 87) hc dX1_compactAll_87 h.1 ?_
      have h := h.2
      refine zj_iload_n (pc := 88) hc dX1_compactAll_88 rfl ?_
      refine zj_iast (pc := 89) hc dX1_compactAll_89 alen_128 h.1 (fun M14 hM14 => ?_)
      have h := h.2 M14 hM14
      refine zj_aload_n (pc := 90) hc dX1_compactAll_90 rfl ?_
      refine zg_2_0 (pc := 91) hc lk_X1_9 dX1_compactAll_91 ?_
      refine zj_sipush (pc := 94) hc dX1_compactAll_94 (by decide) (zin _ rfl) ?_
      refine zj_iconst (pc := 97) hc dX1_compactAll_97 (zin _ rfl) ?_
      refine zj_iload_n (pc := 98) hc dX1_compactAll_98 rfl ?_
      refine zj_imul (pc := 99) hc dX1_compactAll_99 h.1 ?_
      have h := h.2
      refine zj_iadd (pc := 100) hc dX1_compactAll_100 h.1 ?_
      have h := h.2
      refine zj_iload_n (pc := 101) hc dX1_compactAll_101 rfl ?_
      refine zj_if_ne (pc := 102) (tgt := 109) hc dX1_compactAll_102 (by decide) (fun hx15 => ?_) (fun hx15 => ?_)
      · have h := h.1 hx15
        refine zj_aload_n (pc := 109) hc dX1_compactAll_109 rfl ?_
        refine zg_2_4 (pc := 110) hc lk_X1_28 dX1_compactAll_110 ?_
        refine zj_iload_n (pc := 113) hc dX1_compactAll_113 rfl ?_
        refine zj_iload_n (pc := 114) hc dX1_compactAll_114 rfl ?_
        refine zj_vti (pc := 115) (st := [.inl (642 + (2 * v2)), .inr 128]) hc ks_X8_lowestIn iv_X8_lowestIn lk_X1_107 (zrv_3 G M14) (S_X8_lowestIn l G (Or.inl rfl) v1 y5 M14 _ h) rfl ⟨Nat.le_of_ble_eq_true rfl, Nat.le_of_ble_eq_true rfl⟩ (Nat.le_of_ble_eq_true rfl) ⟨Nat.le_of_ble_eq_true rfl, Nat.le_of_ble_eq_true rfl⟩ dX1_compactAll_115 rfl (fun y16 M9 h => ?_)
        obtain ⟨hM9, h⟩ := h
        subst hM9
        refine zj_mask (bs := [true, false, true, true, false]) ?_
        exact k118 M14 v2 y5 (642 + (2 * v2)) y16 X15 hX15 h
      · have h := h.2 hx15
        refine zj_iconst (pc := 105) hc dX1_compactAll_105 (zin _ rfl) ?_
        refine zj_goto (pc := 106) (tgt := 118) hc dX1_compactAll_106 (by decide) ?_
        refine zj_mask (bs := [true, false, true, true, false]) ?_
        exact k118 M14 v2 y5 (642 + (2 * v2)) 0 X15 hX15 h
  unfold T_X1_compactAll at h
  refine zj_aload_n (pc := 0) hc dX1_compactAll_0 rfl ?_
  refine zg_2_4 (pc := 1) hc lk_X1_28 dX1_compactAll_1 ?_
  refine zj_aload_n (pc := 4) hc dX1_compactAll_4 rfl ?_
  refine zg_2_0 (pc := 5) hc lk_X1_9 dX1_compactAll_5 ?_
  refine zj_vtv (pc := 8) (st := []) hc ks_X8_loadAll iv_X8_loadAll lk_X1_169 (zrv_3 G M) (S_X8_loadAll l G (Or.inl rfl) 128 M _ h) rfl ⟨Nat.le_of_ble_eq_true rfl, Nat.le_of_ble_eq_true rfl⟩ (Nat.le_of_ble_eq_true rfl) ⟨Nat.le_of_ble_eq_true rfl, Nat.le_of_ble_eq_true rfl⟩ dX1_compactAll_8 rfl (fun M17 h => ?_)
  refine zj_iconst (pc := 11) hc dX1_compactAll_11 (zin _ rfl) ?_
  refine zj_istore_n (pc := 12) hc dX1_compactAll_12 (by decide) ?_
  refine zj_iconst (pc := 13) hc dX1_compactAll_13 (zin _ rfl) ?_
  refine zj_istore_n (pc := 14) hc dX1_compactAll_14 (by decide) ?_
  exact k15 M17 0 0 h
set_option maxHeartbeats 4000000 in
set_option maxRecDepth 100000 in
theorem S_X1_markDifferent (l : Launch) (G : zG) (r1 : Nat) (M : zMem) (Qr : zMem → Prop) (h : T_X1_markDifferent r1 Qr M) : zMetV l yX1_markDifferent cX1_markDifferent 4 none 0 0 0 0 G [.inr 191, .inr r1] M Qr := by
  refine zmetV (by decide) (Nat.le_of_ble_eq_true rfl) [some (.inr 191), some (.inr r1), none, none] rfl ?_
  intro p e s m args below meth c hc hr hlk
  have k49 : ∀ (M : zMem) (r1 : Nat) (v2 : Int) (v3 : Int) (X2 : Int → zMem → Prop) (hX2 : ∀ (v2 : Int) (M : zMem), X2 v2 M → zJ p l e (zRoom 0 0 0 0) s m args below meth c G 4 0 0 (MQ below (zQv G (Qr)) args s 0 0 (zA G)) 2 [some (.inr 191), some (.inr r1), some (.inl v2), none] [] M) (X20 : Int → zMem → Prop) (hX20 : ∀ (v3 : Int) (M : zMem), X20 v3 M → zJ p l e (zRoom 0 0 0 0) s m args below meth c G 4 0 0 (MQ below (zQv G (Qr)) args s 0 0 (zA G)) 20 [some (.inr 191), some (.inr r1), some (.inl v2), some (.inl v3)] [] M), T_X1_markDifferent_49 r1 v2 v3 X2 X20 Qr M → zJ p l e (zRoom 0 0 0 0) s m args below meth c G 4 0 0 (MQ below (zQv G (Qr)) args s 0 0 (zA G)) 49 [some (.inr 191), some (.inr r1), some (.inl v2), some (.inl v3)] [] M := by
    intro M r1 v2 v3 X2 hX2 X20 hX20 h
    unfold T_X1_markDifferent_49 at h
    refine zj_iinc (pc := 49) hc dX1_markDifferent_49 rfl (by decide) h.1 ?_
    have h := h.2
    refine zj_goto (pc := 52) (tgt := 20) hc dX1_markDifferent_52 (by decide) ?_
    exact hX20 (v3 + 1) M h
  have k20 : ∀ (M : zMem) (r1 : Nat) (v2 : Int) (X2 : Int → zMem → Prop) (hX2 : ∀ (v2 : Int) (M : zMem), X2 v2 M → zJ p l e (zRoom 0 0 0 0) s m args below meth c G 4 0 0 (MQ below (zQv G (Qr)) args s 0 0 (zA G)) 2 [some (.inr 191), some (.inr r1), some (.inl v2), none] [] M) (v3 : Int), T_X1_markDifferent_20 r1 v2 X2 Qr v3 M → zJ p l e (zRoom 0 0 0 0) s m args below meth c G 4 0 0 (MQ below (zQv G (Qr)) args s 0 0 (zA G)) 20 [some (.inr 191), some (.inr r1), some (.inl v2), some (.inl v3)] [] M := by
    intro M r1 v2 X2 hX2 v3 h
    unfold T_X1_markDifferent_20 at h
    refine zl1_use h (fun v3 M => zJ p l e (zRoom 0 0 0 0) s m args below meth c G 4 0 0 (MQ below (zQv G (Qr)) args s 0 0 (zA G)) 20 [some (.inr 191), some (.inr r1), some (.inl v2), some (.inl v3)] [] M) (fun X20 hX20 v3 M h => ?_)
    refine zj_iload_n (pc := 20) hc dX1_markDifferent_20 rfl ?_
    refine zj_iload_n (pc := 21) hc dX1_markDifferent_21 rfl ?_
    refine zj_iconst (pc := 22) hc dX1_markDifferent_22 (zin _ rfl) ?_
    refine zj_iadd (pc := 23) hc dX1_markDifferent_23 h.1 ?_
    have h := h.2
    refine zj_bipush (pc := 24) hc dX1_markDifferent_24 (by decide) (zin _ rfl) ?_
    refine zj_imul (pc := 26) hc dX1_markDifferent_26 h.1 ?_
    have h := h.2
    refine zj_icmp_ge (pc := 27) (tgt := 55) hc dX1_markDifferent_27 (by decide) (fun hx1 => ?_) (fun hx1 => ?_)
    · have h := h.1 hx1
      refine zj_iinc (pc := 55) hc dX1_markDifferent_55 rfl (by decide) h.1 ?_
      have h := h.2
      refine zj_goto (pc := 58) (tgt := 2) hc dX1_markDifferent_58 (by decide) ?_
      refine zj_mask (bs := [true, true, true, false]) ?_
      exact hX2 (v2 + 1) M h
    · have h := h.2 hx1
      refine zj_aload_n (pc := 30) hc dX1_markDifferent_30 rfl ?_
      refine zg_2_0 (pc := 31) hc lk_X1_9 dX1_markDifferent_31 ?_
      refine zj_iload_n (pc := 34) hc dX1_markDifferent_34 rfl ?_
      refine zj_iald (pc := 35) hc dX1_markDifferent_35 alen_128 h.1 ?_
      have h := h.2
      refine zj_aload_n (pc := 36) hc dX1_markDifferent_36 rfl ?_
      refine zj_iload_n (pc := 37) hc dX1_markDifferent_37 rfl ?_
      refine zj_iald (pc := 38) hc dX1_markDifferent_38 rfl h.1 ?_
      have h := h.2
      refine zj_icmp_eq (pc := 39) (tgt := 49) hc dX1_markDifferent_39 (by decide) (fun hx2 => ?_) (fun hx2 => ?_)
      · have h := h.1 hx2
        exact k49 M r1 v2 v3 X2 hX2 X20 hX20 h
      · have h := h.2 hx2
        refine zj_aload_n (pc := 42) hc dX1_markDifferent_42 rfl ?_
        refine zg_2_2 (pc := 43) hc lk_X1_18 dX1_markDifferent_43 ?_
        refine zj_iload_n (pc := 46) hc dX1_markDifferent_46 rfl ?_
        refine zj_iconst (pc := 47) hc dX1_markDifferent_47 (zin _ rfl) ?_
        refine zj_iast (pc := 48) hc dX1_markDifferent_48 alen_130 h.1 (fun M3 hM3 => ?_)
        have h := h.2 M3 hM3
        exact k49 M3 r1 v2 v3 X2 hX2 X20 hX20 h
  have k2 : ∀ (M : zMem) (r1 : Nat) (v2 : Int), T_X1_markDifferent_2 r1 Qr v2 M → zJ p l e (zRoom 0 0 0 0) s m args below meth c G 4 0 0 (MQ below (zQv G (Qr)) args s 0 0 (zA G)) 2 [some (.inr 191), some (.inr r1), some (.inl v2), none] [] M := by
    intro M r1 v2 h
    unfold T_X1_markDifferent_2 at h
    refine zl1_use h (fun v2 M => zJ p l e (zRoom 0 0 0 0) s m args below meth c G 4 0 0 (MQ below (zQv G (Qr)) args s 0 0 (zA G)) 2 [some (.inr 191), some (.inr r1), some (.inl v2), none] [] M) (fun X2 hX2 v2 M h => ?_)
    refine zj_iload_n (pc := 2) hc dX1_markDifferent_2 rfl ?_
    refine zj_bipush (pc := 3) hc dX1_markDifferent_3 (by decide) (zin _ rfl) ?_
    refine zj_icmp_ge (pc := 5) (tgt := 61) hc dX1_markDifferent_5 (by decide) (fun hx4 => ?_) (fun hx4 => ?_)
    · have h := h.1 hx4
      exact zj_vret (pc := 61) hc hr hlk dX1_markDifferent_61 (by decide) (by decide) h
    · have h := h.2 hx4
      refine zj_aload_n (pc := 8) hc dX1_markDifferent_8 rfl ?_
      refine zg_2_2 (pc := 9) hc lk_X1_18 dX1_markDifferent_9 ?_
      refine zj_iload_n (pc := 12) hc dX1_markDifferent_12 rfl ?_
      refine zj_iconst (pc := 13) hc dX1_markDifferent_13 (zin _ rfl) ?_
      refine zj_iast (pc := 14) hc dX1_markDifferent_14 alen_130 h.1 (fun M5 hM5 => ?_)
      have h := h.2 M5 hM5
      refine zj_iload_n (pc := 15) hc dX1_markDifferent_15 rfl ?_
      refine zj_bipush (pc := 16) hc dX1_markDifferent_16 (by decide) (zin _ rfl) ?_
      refine zj_imul (pc := 18) hc dX1_markDifferent_18 h.1 ?_
      have h := h.2
      refine zj_istore_n (pc := 19) hc dX1_markDifferent_19 (by decide) ?_
      exact k20 M5 r1 v2 X2 hX2 (v2 * 64) h
  unfold T_X1_markDifferent at h
  refine zj_iconst (pc := 0) hc dX1_markDifferent_0 (zin _ rfl) ?_
  refine zj_istore_n (pc := 1) hc dX1_markDifferent_1 (by decide) ?_
  exact k2 M r1 0 h
set_option maxHeartbeats 4000000 in
set_option maxRecDepth 100000 in
theorem S_X1_bytesThroughJournal (l : Launch) (G : zG) (M : zMem) (Qr : Int → Prop) (h : T_X1_bytesThroughJournal Qr M) : zMetI l yX1_bytesThroughJournal cX1_bytesThroughJournal 5 (some .int) 1 21 0 0 G [.inr 191] M (fun r9 M9 => M = M9 ∧ Qr r9) := by
  refine zmetI (by decide) (Nat.le_of_ble_eq_true rfl) [some (.inr 191), none, none, none, none] rfl ?_
  intro p e s m args below meth c hc hr hlk
  have k4 : ∀ (v1 : Int) (v2 : Int), T_X1_bytesThroughJournal_4 Qr v1 v2 M → zJ p l e (zRoom 1 21 0 0) s m args below meth c G 5 0 0 (MQ below (zQi G (fun r9 M9 => M = M9 ∧ Qr r9)) args s 0 0 (zA G)) 4 [some (.inr 191), some (.inl v1), some (.inl v2), none, none] [] M := by
    intro v1 v2 h
    unfold T_X1_bytesThroughJournal_4 at h
    refine zp2_use h (fun v1 v2 => zJ p l e (zRoom 1 21 0 0) s m args below meth c G 5 0 0 (MQ below (zQi G (fun r9 M9 => M = M9 ∧ Qr r9)) args s 0 0 (zA G)) 4 [some (.inr 191), some (.inl v1), some (.inl v2), none, none] [] M) (fun X4 hX4 v1 v2 h => ?_)
    refine zj_iload_n (pc := 4) hc dX1_bytesThroughJournal_4 rfl ?_
    refine zj_bipush (pc := 5) hc dX1_bytesThroughJournal_5 (by decide) (zin _ rfl) ?_
    refine zj_icmp_ge (pc := 7) (tgt := 25) hc dX1_bytesThroughJournal_7 (by decide) (fun hx1 => ?_) (fun hx1 => ?_)
    · have h := h.1 hx1
      refine zj_iconst (pc := 25) hc dX1_bytesThroughJournal_25 (zin _ rfl) ?_
      refine zj_iconst (pc := 26) hc dX1_bytesThroughJournal_26 (zin _ rfl) ?_
      refine zj_aload_n (pc := 27) hc dX1_bytesThroughJournal_27 rfl ?_
      refine zg_2_0 (pc := 28) hc lk_X1_9 dX1_bytesThroughJournal_28 ?_
      refine zj_sti (pc := 31) (st := [.inl 2, .inl 1]) hc ks_X4_inUse st_X4_inUse lk_X1_162 (S_X4_inUse l G 128 M _ h) rfl ⟨Nat.le_of_ble_eq_true rfl, Nat.le_of_ble_eq_true rfl⟩ (Nat.le_of_ble_eq_true rfl) ⟨Nat.le_of_ble_eq_true rfl, Nat.le_of_ble_eq_true rfl⟩ dX1_bytesThroughJournal_31 rfl (fun y2 M9 h => ?_)
      obtain ⟨hM9, h⟩ := h
      subst hM9
      refine zj_imul (pc := 34) hc dX1_bytesThroughJournal_34 h.1 ?_
      have h := h.2
      refine zj_iadd (pc := 35) hc dX1_bytesThroughJournal_35 h.1 ?_
      have h := h.2
      refine zj_istore_n (pc := 36) hc dX1_bytesThroughJournal_36 (by decide) ?_
      refine zj_iconst (pc := 37) hc dX1_bytesThroughJournal_37 (zin _ rfl) ?_
      refine zj_iload_n (pc := 38) hc dX1_bytesThroughJournal_38 rfl ?_
      refine zj_bipush (pc := 39) hc dX1_bytesThroughJournal_39 (by decide) (zin _ rfl) ?_
      refine zj_imul (pc := 41) hc dX1_bytesThroughJournal_41 h.1 ?_
      have h := h.2
      refine zj_iadd (pc := 42) hc dX1_bytesThroughJournal_42 h.1 ?_
      have h := h.2
      refine zj_iload_n (pc := 43) hc dX1_bytesThroughJournal_43 rfl ?_
      refine zj_iadd (pc := 44) hc dX1_bytesThroughJournal_44 h.1 ?_
      have h := h.2
      refine zj_istore_n (pc := 45) hc dX1_bytesThroughJournal_45 (by decide) ?_
      refine zj_iload_n (pc := 46) hc dX1_bytesThroughJournal_46 rfl ?_
      refine zj_bipush (pc := 47) hc dX1_bytesThroughJournal_47 (by decide) (zin _ rfl) ?_
      refine zj_imul (pc := 49) hc dX1_bytesThroughJournal_49 h.1 ?_
      have h := h.2
      refine zj_iload_n (pc := 50) hc dX1_bytesThroughJournal_50 rfl ?_
      refine zj_iadd (pc := 51) hc dX1_bytesThroughJournal_51 h.1 ?_
      have h := h.2
      refine zj_istore (pc := 52) hc dX1_bytesThroughJournal_52 (by decide) ?_
      refine zj_iload_n (pc := 54) hc dX1_bytesThroughJournal_54 rfl ?_
      refine zj_iconst (pc := 55) hc dX1_bytesThroughJournal_55 (zin _ rfl) ?_
      refine zj_iadd (pc := 56) hc dX1_bytesThroughJournal_56 h.1 ?_
      have h := h.2
      refine zj_iload (pc := 57) hc dX1_bytesThroughJournal_57 rfl ?_
      refine zj_iadd (pc := 59) hc dX1_bytesThroughJournal_59 h.1 ?_
      have h := h.2
      refine zj_iconst (pc := 60) hc dX1_bytesThroughJournal_60 (zin _ rfl) ?_
      refine zj_iadd (pc := 61) hc dX1_bytesThroughJournal_61 h.1 ?_
      have h := h.2
      exact zj_iret (pc := 62) hc hr hlk dX1_bytesThroughJournal_62 (by decide) (by decide) ⟨rfl, h⟩
    · have h := h.2 hx1
      refine zj_iload_n (pc := 10) hc dX1_bytesThroughJournal_10 rfl ?_
      refine zj_aload_n (pc := 11) hc dX1_bytesThroughJournal_11 rfl ?_
      refine zg_2_2 (pc := 12) hc lk_X1_18 dX1_bytesThroughJournal_12 ?_
      refine zj_iload_n (pc := 15) hc dX1_bytesThroughJournal_15 rfl ?_
      refine zj_iald (pc := 16) hc dX1_bytesThroughJournal_16 alen_130 h.1 ?_
      have h := h.2
      refine zj_iadd (pc := 17) hc dX1_bytesThroughJournal_17 h.1 ?_
      have h := h.2
      refine zj_istore_n (pc := 18) hc dX1_bytesThroughJournal_18 (by decide) ?_
      refine zj_iinc (pc := 19) hc dX1_bytesThroughJournal_19 rfl (by decide) h.1 ?_
      have h := h.2
      refine zj_goto (pc := 22) (tgt := 4) hc dX1_bytesThroughJournal_22 (by decide) ?_
      exact hX4 (v1 + (M.2 130 v2)) (v2 + 1) h
  unfold T_X1_bytesThroughJournal at h
  refine zj_iconst (pc := 0) hc dX1_bytesThroughJournal_0 (zin _ rfl) ?_
  refine zj_istore_n (pc := 1) hc dX1_bytesThroughJournal_1 (by decide) ?_
  refine zj_iconst (pc := 2) hc dX1_bytesThroughJournal_2 (zin _ rfl) ?_
  refine zj_istore_n (pc := 3) hc dX1_bytesThroughJournal_3 (by decide) ?_
  exact k4 0 0 h
