set_option maxHeartbeats 4000000 in
set_option maxRecDepth 100000 in
theorem S_X10_pack (l : Launch) (G : zG) (v1 : Int) (M : zMem) (Qr : Int → zMem → Prop) (h : T_X10_pack v1 Qr M) : zMetI l yX10_pack cX10_pack 3 (some .int) 4 97 0 0 G [.inr 639, .inl v1] M Qr := by
  refine zmetI (by decide) (Nat.le_of_ble_eq_true rfl) [some (.inr 639), some (.inl v1), none] rfl ?_
  intro p e s m args below meth c hc hr hlk
  have k102 : ∀ (M : zMem) (v2 : Int), T_X10_pack_102 Qr v2 M → zJ p l e (zRoom 4 97 0 0) s m args below meth c G 3 0 0 (MQ below (zQi G (Qr)) args s 0 0 (zA G)) 102 [some (.inr 639), none, some (.inl v2)] [] M := by
    intro M v2 h
    unfold T_X10_pack_102 at h
    refine zl1_use h (fun v2 M => zJ p l e (zRoom 4 97 0 0) s m args below meth c G 3 0 0 (MQ below (zQi G (Qr)) args s 0 0 (zA G)) 102 [some (.inr 639), none, some (.inl v2)] [] M) (fun X102 hX102 v2 M h => ?_)
    refine zj_iload_n (pc := 102) hc dX10_pack_102 rfl ?_
    refine zj_aload_n (pc := 103) hc dX10_pack_103 rfl ?_
    refine zg_9_9 (pc := 104) hc lk_X10_101 dX10_pack_104 ?_
    refine zj_icmp_ge (pc := 107) (tgt := 128) hc dX10_pack_107 (by decide) (fun hx1 => ?_) (fun hx1 => ?_)
    · have h := h.1 hx1
      refine zj_aload_n (pc := 128) hc dX10_pack_128 rfl ?_
      refine zj_aload_n (pc := 129) hc dX10_pack_129 rfl ?_
      refine zg_9_9 (pc := 130) hc lk_X10_101 dX10_pack_130 ?_
      refine zj_vti (pc := 133) (st := []) hc ks_X10_tells iv_X10_tells lk_X10_98 (zrv_9 G M) (S_X10_tells l G (M.1 585) M _ h) rfl ⟨Nat.le_of_ble_eq_true rfl, Nat.le_of_ble_eq_true rfl⟩ (Nat.le_of_ble_eq_true rfl) ⟨Nat.le_of_ble_eq_true rfl, Nat.le_of_ble_eq_true rfl⟩ dX10_pack_133 rfl (fun y2 M3 h => ?_)
      exact zj_iret (pc := 136) hc hr hlk dX10_pack_136 (by decide) (by decide) h
    · have h := h.2 hx1
      refine zj_aload_n (pc := 110) hc dX10_pack_110 rfl ?_
      refine zg_9_8 (pc := 111) hc lk_X10_28 dX10_pack_111 ?_
      refine zj_iload_n (pc := 114) hc dX10_pack_114 rfl ?_
      refine zj_aload_n (pc := 115) hc dX10_pack_115 rfl ?_
      refine zg_9_17 (pc := 116) hc lk_X10_44 dX10_pack_116 ?_
      refine zj_iload_n (pc := 119) hc dX10_pack_119 rfl ?_
      refine zj_iald (pc := 120) hc dX10_pack_120 alen_593 h.1 ?_
      have h := h.2
      refine zj_iast (pc := 121) hc dX10_pack_121 alen_584 h.1 (fun M4 hM4 => ?_)
      have h := h.2 M4 hM4
      refine zj_iinc (pc := 122) hc dX10_pack_122 rfl (by decide) h.1 ?_
      have h := h.2
      refine zj_goto (pc := 125) (tgt := 102) hc dX10_pack_125 (by decide) ?_
      exact hX102 (v2 + 1) M4 h
  have k75 : ∀ (M : zMem), T_X10_pack_75 Qr M → zJ p l e (zRoom 4 97 0 0) s m args below meth c G 3 0 0 (MQ below (zQi G (Qr)) args s 0 0 (zA G)) 75 [some (.inr 639), none, none] [] M := by
    intro M h
    unfold T_X10_pack_75 at h
    refine zj_aload_n (pc := 75) hc dX10_pack_75 rfl ?_
    refine zg_9_18 (pc := 76) hc lk_X10_110 dX10_pack_76 ?_
    refine zj_sipush (pc := 79) hc dX10_pack_79 (by decide) (zin _ rfl) ?_
    refine zj_icmp_le (pc := 82) (tgt := 92) hc dX10_pack_82 (by decide) (fun hx5 => ?_) (fun hx5 => ?_)
    · have h := h.1 hx5
      refine zj_aload_n (pc := 92) hc dX10_pack_92 rfl ?_
      refine zj_aload_n (pc := 93) hc dX10_pack_93 rfl ?_
      refine zg_9_18 (pc := 94) hc lk_X10_110 dX10_pack_94 ?_
      refine zs_9_9 (pc := 97) hc lk_X10_101 dX10_pack_97 (fun M6 hM6 => ?_)
      have h := h M6 hM6
      refine zj_iconst (pc := 100) hc dX10_pack_100 (zin _ rfl) ?_
      refine zj_istore_n (pc := 101) hc dX10_pack_101 (by decide) ?_
      exact k102 M6 0 h
    · have h := h.2 hx5
      refine zj_aload_n (pc := 85) hc dX10_pack_85 rfl ?_
      refine zj_bipush (pc := 86) hc dX10_pack_86 (by decide) (zin _ rfl) ?_
      refine zj_vti (pc := 88) (st := []) hc ks_X10_refuses iv_X10_refuses lk_X10_87 (zrv_9 G M) (S_X10_refuses l G (-5) M _ h) rfl ⟨Nat.le_of_ble_eq_true rfl, Nat.le_of_ble_eq_true rfl⟩ (Nat.le_of_ble_eq_true rfl) ⟨Nat.le_of_ble_eq_true rfl, Nat.le_of_ble_eq_true rfl⟩ dX10_pack_88 rfl (fun y7 M8 h => ?_)
      exact zj_iret (pc := 91) hc hr hlk dX10_pack_91 (by decide) (by decide) h
  have k30 : ∀ (M : zMem) (v1 : Int) (v2 : Int), T_X10_pack_30 v1 Qr v2 M → zJ p l e (zRoom 4 97 0 0) s m args below meth c G 3 0 0 (MQ below (zQi G (Qr)) args s 0 0 (zA G)) 30 [some (.inr 639), some (.inl v1), some (.inl v2)] [] M := by
    intro M v1 v2 h
    unfold T_X10_pack_30 at h
    refine zl1_use h (fun v2 M => zJ p l e (zRoom 4 97 0 0) s m args below meth c G 3 0 0 (MQ below (zQi G (Qr)) args s 0 0 (zA G)) 30 [some (.inr 639), some (.inl v1), some (.inl v2)] [] M) (fun X30 hX30 v2 M h => ?_)
    refine zj_iload_n (pc := 30) hc dX10_pack_30 rfl ?_
    refine zj_aload_n (pc := 31) hc dX10_pack_31 rfl ?_
    refine zg_9_9 (pc := 32) hc lk_X10_101 dX10_pack_32 ?_
    refine zj_icmp_ge (pc := 35) (tgt := 56) hc dX10_pack_35 (by decide) (fun hx9 => ?_) (fun hx9 => ?_)
    · have h := h.1 hx9
      refine zj_iload_n (pc := 56) hc dX10_pack_56 rfl ?_
      refine zj_iconst (pc := 57) hc dX10_pack_57 (zin _ rfl) ?_
      refine zj_icmp_ne (pc := 58) (tgt := 69) hc dX10_pack_58 (by decide) (fun hx10 => ?_) (fun hx10 => ?_)
      · have h := h.1 hx10
        refine zj_aload_n (pc := 69) hc dX10_pack_69 rfl ?_
        refine zj_iload_n (pc := 70) hc dX10_pack_70 rfl ?_
        refine zj_vti (pc := 71) (st := []) hc ks_X10_packs iv_X10_packs lk_X10_127 (zrv_9 G M) (S_X10_packs l G v1 M _ h) rfl ⟨Nat.le_of_ble_eq_true rfl, Nat.le_of_ble_eq_true rfl⟩ (Nat.le_of_ble_eq_true rfl) ⟨Nat.le_of_ble_eq_true rfl, Nat.le_of_ble_eq_true rfl⟩ dX10_pack_71 rfl (fun y11 M12 h => ?_)
        refine zj_istore_n (pc := 74) hc dX10_pack_74 (by decide) ?_
        refine zj_mask (bs := [true, false, false]) ?_
        exact k75 M12 h
      · have h := h.2 hx10
        refine zj_aload_n (pc := 61) hc dX10_pack_61 rfl ?_
        refine zj_vti (pc := 62) (st := []) hc ks_X10_shapeOf iv_X10_shapeOf lk_X10_140 (zrv_9 G M) (S_X10_shapeOf l G M _ h) rfl ⟨Nat.le_of_ble_eq_true rfl, Nat.le_of_ble_eq_true rfl⟩ (Nat.le_of_ble_eq_true rfl) ⟨Nat.le_of_ble_eq_true rfl, Nat.le_of_ble_eq_true rfl⟩ dX10_pack_62 rfl (fun y13 M14 h => ?_)
        refine zj_istore_n (pc := 65) hc dX10_pack_65 (by decide) ?_
        refine zj_goto (pc := 66) (tgt := 75) hc dX10_pack_66 (by decide) ?_
        refine zj_mask (bs := [true, false, false]) ?_
        exact k75 M14 h
    · have h := h.2 hx9
      refine zj_aload_n (pc := 38) hc dX10_pack_38 rfl ?_
      refine zg_9_14 (pc := 39) hc lk_X10_38 dX10_pack_39 ?_
      refine zj_iload_n (pc := 42) hc dX10_pack_42 rfl ?_
      refine zj_aload_n (pc := 43) hc dX10_pack_43 rfl ?_
      refine zg_9_8 (pc := 44) hc lk_X10_28 dX10_pack_44 ?_
      refine zj_iload_n (pc := 47) hc dX10_pack_47 rfl ?_
      refine zj_iald (pc := 48) hc dX10_pack_48 alen_584 h.1 ?_
      have h := h.2
      refine zj_iast (pc := 49) hc dX10_pack_49 alen_590 h.1 (fun M15 hM15 => ?_)
      have h := h.2 M15 hM15
      refine zj_iinc (pc := 50) hc dX10_pack_50 rfl (by decide) h.1 ?_
      have h := h.2
      refine zj_goto (pc := 53) (tgt := 30) hc dX10_pack_53 (by decide) ?_
      exact hX30 (v2 + 1) M15 h
  unfold T_X10_pack at h
  refine zj_aload_n (pc := 0) hc dX10_pack_0 rfl ?_
  refine zj_iconst (pc := 1) hc dX10_pack_1 (zin _ rfl) ?_
  refine zs_9_0 (pc := 2) hc lk_X10_77 dX10_pack_2 (fun M16 hM16 => ?_)
  have h := h M16 hM16
  refine zj_iload_n (pc := 5) hc dX10_pack_5 rfl ?_
  refine zj_iconst (pc := 6) hc dX10_pack_6 (zin _ rfl) ?_
  refine zj_iconst (pc := 7) hc dX10_pack_7 (zin _ rfl) ?_
  refine zj_sti (pc := 8) (st := []) hc ks_X10_isIn st_X10_isIn lk_X10_83 (S_X10_isIn l G v1 (-1) 3 M16 _ h) rfl ⟨Nat.le_of_ble_eq_true rfl, Nat.le_of_ble_eq_true rfl⟩ (Nat.le_of_ble_eq_true rfl) ⟨Nat.le_of_ble_eq_true rfl, Nat.le_of_ble_eq_true rfl⟩ dX10_pack_8 rfl (fun y17 M9 h => ?_)
  obtain ⟨hM9, h⟩ := h
  subst hM9
  refine zj_if_ne (pc := 11) (tgt := 20) hc dX10_pack_11 (by decide) (fun hx18 => ?_) (fun hx18 => ?_)
  · have h := h.1 hx18
    refine zj_aload_n (pc := 20) hc dX10_pack_20 rfl ?_
    refine zj_aload_n (pc := 21) hc dX10_pack_21 rfl ?_
    refine zg_9_9 (pc := 22) hc lk_X10_101 dX10_pack_22 ?_
    refine zs_9_15 (pc := 25) hc lk_X10_107 dX10_pack_25 (fun M19 hM19 => ?_)
    have h := h M19 hM19
    refine zj_iconst (pc := 28) hc dX10_pack_28 (zin _ rfl) ?_
    refine zj_istore_n (pc := 29) hc dX10_pack_29 (by decide) ?_
    exact k30 M19 v1 0 h
  · have h := h.2 hx18
    refine zj_aload_n (pc := 14) hc dX10_pack_14 rfl ?_
    refine zj_iconst (pc := 15) hc dX10_pack_15 (zin _ rfl) ?_
    refine zj_vti (pc := 16) (st := []) hc ks_X10_refuses iv_X10_refuses lk_X10_87 (zrv_9 G M16) (S_X10_refuses l G (-1) M16 _ h) rfl ⟨Nat.le_of_ble_eq_true rfl, Nat.le_of_ble_eq_true rfl⟩ (Nat.le_of_ble_eq_true rfl) ⟨Nat.le_of_ble_eq_true rfl, Nat.le_of_ble_eq_true rfl⟩ dX10_pack_16 rfl (fun y20 M21 h => ?_)
    exact zj_iret (pc := 19) hc hr hlk dX10_pack_19 (by decide) (by decide) h
set_option maxHeartbeats 4000000 in
set_option maxRecDepth 100000 in
theorem S_X10_unpack (l : Launch) (G : zG) (v1 : Int) (M : zMem) (Qr : Int → zMem → Prop) (h : T_X10_unpack v1 Qr M) : zMetI l yX10_unpack cX10_unpack 4 (some .int) 2 50 0 0 G [.inr 639, .inl v1] M Qr := by
  refine zmetI (by decide) (Nat.le_of_ble_eq_true rfl) [some (.inr 639), some (.inl v1), none, none] rfl ?_
  intro p e s m args below meth c hc hr hlk
  have k64 : ∀ (M : zMem) (v3 : Int), T_X10_unpack_64 Qr v3 M → zJ p l e (zRoom 2 50 0 0) s m args below meth c G 4 0 0 (MQ below (zQi G (Qr)) args s 0 0 (zA G)) 64 [some (.inr 639), none, none, some (.inl v3)] [] M := by
    intro M v3 h
    unfold T_X10_unpack_64 at h
    refine zl1_use h (fun v3 M => zJ p l e (zRoom 2 50 0 0) s m args below meth c G 4 0 0 (MQ below (zQi G (Qr)) args s 0 0 (zA G)) 64 [some (.inr 639), none, none, some (.inl v3)] [] M) (fun X64 hX64 v3 M h => ?_)
    refine zj_iload_n (pc := 64) hc dX10_unpack_64 rfl ?_
    refine zj_aload_n (pc := 65) hc dX10_unpack_65 rfl ?_
    refine zg_9_9 (pc := 66) hc lk_X10_101 dX10_unpack_66 ?_
    refine zj_icmp_ge (pc := 69) (tgt := 90) hc dX10_unpack_69 (by decide) (fun hx1 => ?_) (fun hx1 => ?_)
    · have h := h.1 hx1
      refine zj_aload_n (pc := 90) hc dX10_unpack_90 rfl ?_
      refine zj_aload_n (pc := 91) hc dX10_unpack_91 rfl ?_
      refine zg_9_9 (pc := 92) hc lk_X10_101 dX10_unpack_92 ?_
      refine zj_vti (pc := 95) (st := []) hc ks_X10_tells iv_X10_tells lk_X10_98 (zrv_9 G M) (S_X10_tells l G (M.1 585) M _ h) rfl ⟨Nat.le_of_ble_eq_true rfl, Nat.le_of_ble_eq_true rfl⟩ (Nat.le_of_ble_eq_true rfl) ⟨Nat.le_of_ble_eq_true rfl, Nat.le_of_ble_eq_true rfl⟩ dX10_unpack_95 rfl (fun y2 M3 h => ?_)
      exact zj_iret (pc := 98) hc hr hlk dX10_unpack_98 (by decide) (by decide) h
    · have h := h.2 hx1
      refine zj_aload_n (pc := 72) hc dX10_unpack_72 rfl ?_
      refine zg_9_8 (pc := 73) hc lk_X10_28 dX10_unpack_73 ?_
      refine zj_iload_n (pc := 76) hc dX10_unpack_76 rfl ?_
      refine zj_aload_n (pc := 77) hc dX10_unpack_77 rfl ?_
      refine zg_9_14 (pc := 78) hc lk_X10_38 dX10_unpack_78 ?_
      refine zj_iload_n (pc := 81) hc dX10_unpack_81 rfl ?_
      refine zj_iald (pc := 82) hc dX10_unpack_82 alen_590 h.1 ?_
      have h := h.2
      refine zj_iast (pc := 83) hc dX10_unpack_83 alen_584 h.1 (fun M4 hM4 => ?_)
      have h := h.2 M4 hM4
      refine zj_iinc (pc := 84) hc dX10_unpack_84 rfl (by decide) h.1 ?_
      have h := h.2
      refine zj_goto (pc := 87) (tgt := 64) hc dX10_unpack_87 (by decide) ?_
      exact hX64 (v3 + 1) M4 h
  unfold T_X10_unpack at h
  refine zj_aload_n (pc := 0) hc dX10_unpack_0 rfl ?_
  refine zj_iconst (pc := 1) hc dX10_unpack_1 (zin _ rfl) ?_
  refine zs_9_0 (pc := 2) hc lk_X10_77 dX10_unpack_2 (fun M5 hM5 => ?_)
  have h := h M5 hM5
  refine zj_iload_n (pc := 5) hc dX10_unpack_5 rfl ?_
  refine zj_iconst (pc := 6) hc dX10_unpack_6 (zin _ rfl) ?_
  refine zj_iconst (pc := 7) hc dX10_unpack_7 (zin _ rfl) ?_
  refine zj_sti (pc := 8) (st := []) hc ks_X10_isIn st_X10_isIn lk_X10_83 (S_X10_isIn l G v1 0 3 M5 _ h) rfl ⟨Nat.le_of_ble_eq_true rfl, Nat.le_of_ble_eq_true rfl⟩ (Nat.le_of_ble_eq_true rfl) ⟨Nat.le_of_ble_eq_true rfl, Nat.le_of_ble_eq_true rfl⟩ dX10_unpack_8 rfl (fun y6 M9 h => ?_)
  obtain ⟨hM9, h⟩ := h
  subst hM9
  refine zj_if_ne (pc := 11) (tgt := 20) hc dX10_unpack_11 (by decide) (fun hx7 => ?_) (fun hx7 => ?_)
  · have h := h.1 hx7
    refine zj_aload_n (pc := 20) hc dX10_unpack_20 rfl ?_
    refine zj_aload_n (pc := 21) hc dX10_unpack_21 rfl ?_
    refine zg_9_8 (pc := 22) hc lk_X10_28 dX10_unpack_22 ?_
    refine zj_iconst (pc := 25) hc dX10_unpack_25 (zin _ rfl) ?_
    refine zj_aload_n (pc := 26) hc dX10_unpack_26 rfl ?_
    refine zg_9_9 (pc := 27) hc lk_X10_101 dX10_unpack_27 ?_
    refine zj_iload_n (pc := 30) hc dX10_unpack_30 rfl ?_
    refine zj_vti (pc := 31) (st := []) hc ks_X10_unpacks iv_X10_unpacks lk_X10_144 (zrv_9 G M5) (S_X10_unpacks l G 584 0 (M5.1 585) v1 M5 _ h) rfl ⟨Nat.le_of_ble_eq_true rfl, Nat.le_of_ble_eq_true rfl⟩ (Nat.le_of_ble_eq_true rfl) ⟨Nat.le_of_ble_eq_true rfl, Nat.le_of_ble_eq_true rfl⟩ dX10_unpack_31 rfl (fun y8 M9 h => ?_)
    refine zj_istore_n (pc := 34) hc dX10_unpack_34 (by decide) ?_
    refine zj_aload_n (pc := 35) hc dX10_unpack_35 rfl ?_
    refine zj_aload_n (pc := 36) hc dX10_unpack_36 rfl ?_
    refine zg_9_19 (pc := 37) hc lk_X10_137 dX10_unpack_37 ?_
    refine zs_9_10 (pc := 40) hc lk_X10_31 dX10_unpack_40 (fun M10 hM10 => ?_)
    have h := h M10 hM10
    refine zj_iload_n (pc := 43) hc dX10_unpack_43 rfl ?_
    refine zj_if_ne (pc := 44) (tgt := 54) hc dX10_unpack_44 (by decide) (fun hx11 => ?_) (fun hx11 => ?_)
    · have h := h.1 hx11
      refine zj_aload_n (pc := 54) hc dX10_unpack_54 rfl ?_
      refine zj_aload_n (pc := 55) hc dX10_unpack_55 rfl ?_
      refine zg_9_15 (pc := 56) hc lk_X10_107 dX10_unpack_56 ?_
      refine zs_9_9 (pc := 59) hc lk_X10_101 dX10_unpack_59 (fun M12 hM12 => ?_)
      have h := h M12 hM12
      refine zj_iconst (pc := 62) hc dX10_unpack_62 (zin _ rfl) ?_
      refine zj_istore_n (pc := 63) hc dX10_unpack_63 (by decide) ?_
      refine zj_mask (bs := [true, false, false, true]) ?_
      exact k64 M12 0 h
    · have h := h.2 hx11
      refine zj_aload_n (pc := 47) hc dX10_unpack_47 rfl ?_
      refine zj_bipush (pc := 48) hc dX10_unpack_48 (by decide) (zin _ rfl) ?_
      refine zj_vti (pc := 50) (st := []) hc ks_X10_refuses iv_X10_refuses lk_X10_87 (zrv_9 G M10) (S_X10_refuses l G (-6) M10 _ h) rfl ⟨Nat.le_of_ble_eq_true rfl, Nat.le_of_ble_eq_true rfl⟩ (Nat.le_of_ble_eq_true rfl) ⟨Nat.le_of_ble_eq_true rfl, Nat.le_of_ble_eq_true rfl⟩ dX10_unpack_50 rfl (fun y13 M14 h => ?_)
      exact zj_iret (pc := 53) hc hr hlk dX10_unpack_53 (by decide) (by decide) h
  · have h := h.2 hx7
    refine zj_aload_n (pc := 14) hc dX10_unpack_14 rfl ?_
    refine zj_iconst (pc := 15) hc dX10_unpack_15 (zin _ rfl) ?_
    refine zj_vti (pc := 16) (st := []) hc ks_X10_refuses iv_X10_refuses lk_X10_87 (zrv_9 G M5) (S_X10_refuses l G (-1) M5 _ h) rfl ⟨Nat.le_of_ble_eq_true rfl, Nat.le_of_ble_eq_true rfl⟩ (Nat.le_of_ble_eq_true rfl) ⟨Nat.le_of_ble_eq_true rfl, Nat.le_of_ble_eq_true rfl⟩ dX10_unpack_16 rfl (fun y15 M16 h => ?_)
    exact zj_iret (pc := 19) hc hr hlk dX10_unpack_19 (by decide) (by decide) h
set_option maxHeartbeats 4000000 in
set_option maxRecDepth 100000 in
theorem S_X10_flaw (l : Launch) (G : zG) (M : zMem) (Qr : Int → zMem → Prop) (h : T_X10_flaw Qr M) : zMetI l yX10_flaw cX10_flaw 1 (some .int) 0 0 0 0 G [.inr 639] M Qr := by
  refine zmetI (by decide) (Nat.le_of_ble_eq_true rfl) [some (.inr 639)] rfl ?_
  intro p e s m args below meth c hc hr hlk
  unfold T_X10_flaw at h
  refine zj_aload_n (pc := 0) hc dX10_flaw_0 rfl ?_
  refine zj_iconst (pc := 1) hc dX10_flaw_1 (zin _ rfl) ?_
  refine zs_9_0 (pc := 2) hc lk_X10_77 dX10_flaw_2 (fun M1 hM1 => ?_)
  have h := h M1 hM1
  refine zj_aload_n (pc := 5) hc dX10_flaw_5 rfl ?_
  refine zg_9_10 (pc := 6) hc lk_X10_31 dX10_flaw_6 ?_
  exact zj_iret (pc := 9) hc hr hlk dX10_flaw_9 (by decide) (by decide) h
set_option maxHeartbeats 4000000 in
set_option maxRecDepth 100000 in
theorem S_X10_clears (l : Launch) (G : zG) (M : zMem) (Qr : zMem → Prop) (h : T_X10_clears Qr M) : zMetV l yX10_clears cX10_clears 2 none 0 0 0 0 G [.inr 639] M Qr := by
  refine zmetV (by decide) (Nat.le_of_ble_eq_true rfl) [some (.inr 639), none] rfl ?_
  intro p e s m args below meth c hc hr hlk
  have k2 : ∀ (M : zMem) (v1 : Int), T_X10_clears_2 Qr v1 M → zJ p l e (zRoom 0 0 0 0) s m args below meth c G 2 0 0 (MQ below (zQv G (Qr)) args s 0 0 (zA G)) 2 [some (.inr 639), some (.inl v1)] [] M := by
    intro M v1 h
    unfold T_X10_clears_2 at h
    refine zl1_use h (fun v1 M => zJ p l e (zRoom 0 0 0 0) s m args below meth c G 2 0 0 (MQ below (zQv G (Qr)) args s 0 0 (zA G)) 2 [some (.inr 639), some (.inl v1)] [] M) (fun X2 hX2 v1 M h => ?_)
    refine zj_iload_n (pc := 2) hc dX10_clears_2 rfl ?_
    refine zj_sipush (pc := 3) hc dX10_clears_3 (by decide) (zin _ rfl) ?_
    refine zj_icmp_ge (pc := 6) (tgt := 22) hc dX10_clears_6 (by decide) (fun hx1 => ?_) (fun hx1 => ?_)
    · have h := h.1 hx1
      exact zj_vret (pc := 22) hc hr hlk dX10_clears_22 (by decide) (by decide) h
    · have h := h.2 hx1
      refine zj_aload_n (pc := 9) hc dX10_clears_9 rfl ?_
      refine zg_9_20 (pc := 10) hc lk_X10_47 dX10_clears_10 ?_
      refine zj_iload_n (pc := 13) hc dX10_clears_13 rfl ?_
      refine zj_iconst (pc := 14) hc dX10_clears_14 (zin _ rfl) ?_
      refine zj_iast (pc := 15) hc dX10_clears_15 alen_596 h.1 (fun M2 hM2 => ?_)
      have h := h.2 M2 hM2
      refine zj_iinc (pc := 16) hc dX10_clears_16 rfl (by decide) h.1 ?_
      have h := h.2
      refine zj_goto (pc := 19) (tgt := 2) hc dX10_clears_19 (by decide) ?_
      exact hX2 (v1 + 1) M2 h
  unfold T_X10_clears at h
  refine zj_iconst (pc := 0) hc dX10_clears_0 (zin _ rfl) ?_
  refine zj_istore_n (pc := 1) hc dX10_clears_1 (by decide) ?_
  exact k2 M 0 h
set_option maxHeartbeats 4000000 in
set_option maxRecDepth 100000 in
theorem S_X10_recordMany (l : Launch) (G : zG) (M : zMem) (Qr : Int → Prop) (h : T_X10_recordMany Qr M) : zMetI l yX10_recordMany cX10_recordMany 3 (some .int) 0 0 0 0 G [.inr 639] M (fun r9 M9 => M = M9 ∧ Qr r9) := by
  refine zmetI (by decide) (Nat.le_of_ble_eq_true rfl) [some (.inr 639), none, none] rfl ?_
  intro p e s m args below meth c hc hr hlk
  have k24 : ∀ (v1 : Int) (v2 : Int) (X4 : Int → Int → Prop) (hX4 : ∀ (v1 : Int) (v2 : Int), X4 v1 v2 → zJ p l e (zRoom 0 0 0 0) s m args below meth c G 3 0 0 (MQ below (zQi G (fun r9 M9 => M = M9 ∧ Qr r9)) args s 0 0 (zA G)) 4 [some (.inr 639), some (.inl v1), some (.inl v2)] [] M), T_X10_recordMany_24 v1 v2 X4 Qr M → zJ p l e (zRoom 0 0 0 0) s m args below meth c G 3 0 0 (MQ below (zQi G (fun r9 M9 => M = M9 ∧ Qr r9)) args s 0 0 (zA G)) 24 [some (.inr 639), some (.inl v1), some (.inl v2)] [] M := by
    intro v1 v2 X4 hX4 h
    unfold T_X10_recordMany_24 at h
    refine zj_iinc (pc := 24) hc dX10_recordMany_24 rfl (by decide) h.1 ?_
    have h := h.2
    refine zj_goto (pc := 27) (tgt := 4) hc dX10_recordMany_27 (by decide) ?_
    exact hX4 v1 (v2 + 1) h
  have k4 : ∀ (v1 : Int) (v2 : Int), T_X10_recordMany_4 Qr v1 v2 M → zJ p l e (zRoom 0 0 0 0) s m args below meth c G 3 0 0 (MQ below (zQi G (fun r9 M9 => M = M9 ∧ Qr r9)) args s 0 0 (zA G)) 4 [some (.inr 639), some (.inl v1), some (.inl v2)] [] M := by
    intro v1 v2 h
    unfold T_X10_recordMany_4 at h
    refine zp2_use h (fun v1 v2 => zJ p l e (zRoom 0 0 0 0) s m args below meth c G 3 0 0 (MQ below (zQi G (fun r9 M9 => M = M9 ∧ Qr r9)) args s 0 0 (zA G)) 4 [some (.inr 639), some (.inl v1), some (.inl v2)] [] M) (fun X4 hX4 v1 v2 h => ?_)
    refine zj_iload_n (pc := 4) hc dX10_recordMany_4 rfl ?_
    refine zj_sipush (pc := 5) hc dX10_recordMany_5 (by decide) (zin _ rfl) ?_
    refine zj_icmp_ge (pc := 8) (tgt := 30) hc dX10_recordMany_8 (by decide) (fun hx1 => ?_) (fun hx1 => ?_)
    · have h := h.1 hx1
      refine zj_iload_n (pc := 30) hc dX10_recordMany_30 rfl ?_
      exact zj_iret (pc := 31) hc hr hlk dX10_recordMany_31 (by decide) (by decide) ⟨rfl, h⟩
    · have h := h.2 hx1
      refine zj_aload_n (pc := 11) hc dX10_recordMany_11 rfl ?_
      refine zg_9_20 (pc := 12) hc lk_X10_47 dX10_recordMany_12 ?_
      refine zj_iload_n (pc := 15) hc dX10_recordMany_15 rfl ?_
      refine zj_iald (pc := 16) hc dX10_recordMany_16 alen_596 h.1 ?_
      have h := h.2
      refine zj_iconst (pc := 17) hc dX10_recordMany_17 (zin _ rfl) ?_
      refine zj_icmp_eq (pc := 18) (tgt := 24) hc dX10_recordMany_18 (by decide) (fun hx2 => ?_) (fun hx2 => ?_)
      · have h := h.1 hx2
        exact k24 v1 v2 X4 hX4 h
      · have h := h.2 hx2
        refine zj_iinc (pc := 21) hc dX10_recordMany_21 rfl (by decide) h.1 ?_
        have h := h.2
        exact k24 (v1 + 1) v2 X4 hX4 h
  unfold T_X10_recordMany at h
  refine zj_iconst (pc := 0) hc dX10_recordMany_0 (zin _ rfl) ?_
  refine zj_istore_n (pc := 1) hc dX10_recordMany_1 (by decide) ?_
  refine zj_iconst (pc := 2) hc dX10_recordMany_2 (zin _ rfl) ?_
  refine zj_istore_n (pc := 3) hc dX10_recordMany_3 (by decide) ?_
  exact k4 0 0 h
set_option maxHeartbeats 4000000 in
set_option maxRecDepth 100000 in
theorem S_X10_plainOf (l : Launch) (G : zG) (v1 : Int) (v2 : Int) (M : zMem) (Qr : Int → Prop) (h : T_X10_plainOf v1 v2 Qr M) : zMetI l yX10_plainOf cX10_plainOf 5 (some .int) 0 0 0 0 G [.inr 639, .inl v1, .inl v2] M (fun r9 M9 => M = M9 ∧ Qr r9) := by
  refine zmetI (by decide) (Nat.le_of_ble_eq_true rfl) [some (.inr 639), some (.inl v1), some (.inl v2), none, none] rfl ?_
  intro p e s m args below meth c hc hr hlk
  have k34 : ∀ (v2 : Int) (v3 : Int) (v4 : Int) (X5 : Int → Int → Prop) (hX5 : ∀ (v3 : Int) (v4 : Int), X5 v3 v4 → zJ p l e (zRoom 0 0 0 0) s m args below meth c G 5 0 0 (MQ below (zQi G (fun r9 M9 => M = M9 ∧ Qr r9)) args s 0 0 (zA G)) 5 [some (.inr 639), none, some (.inl v2), some (.inl v3), some (.inl v4)] [] M), T_X10_plainOf_34 v2 v3 v4 X5 Qr M → zJ p l e (zRoom 0 0 0 0) s m args below meth c G 5 0 0 (MQ below (zQi G (fun r9 M9 => M = M9 ∧ Qr r9)) args s 0 0 (zA G)) 34 [some (.inr 639), none, some (.inl v2), some (.inl v3), some (.inl v4)] [] M := by
    intro v2 v3 v4 X5 hX5 h
    unfold T_X10_plainOf_34 at h
    refine zj_iinc (pc := 34) hc dX10_plainOf_34 rfl (by decide) h.1 ?_
    have h := h.2
    refine zj_goto (pc := 37) (tgt := 5) hc dX10_plainOf_37 (by decide) ?_
    exact hX5 v3 (v4 + 1) h
  have k5 : ∀ (v2 : Int) (v3 : Int) (v4 : Int), T_X10_plainOf_5 v2 Qr v3 v4 M → zJ p l e (zRoom 0 0 0 0) s m args below meth c G 5 0 0 (MQ below (zQi G (fun r9 M9 => M = M9 ∧ Qr r9)) args s 0 0 (zA G)) 5 [some (.inr 639), none, some (.inl v2), some (.inl v3), some (.inl v4)] [] M := by
    intro v2 v3 v4 h
    unfold T_X10_plainOf_5 at h
    refine zp2_use h (fun v3 v4 => zJ p l e (zRoom 0 0 0 0) s m args below meth c G 5 0 0 (MQ below (zQi G (fun r9 M9 => M = M9 ∧ Qr r9)) args s 0 0 (zA G)) 5 [some (.inr 639), none, some (.inl v2), some (.inl v3), some (.inl v4)] [] M) (fun X5 hX5 v3 v4 h => ?_)
    refine zj_iload (pc := 5) hc dX10_plainOf_5 rfl ?_
    refine zj_iload_n (pc := 7) hc dX10_plainOf_7 rfl ?_
    refine zj_icmp_gt (pc := 8) (tgt := 40) hc dX10_plainOf_8 (by decide) (fun hx1 => ?_) (fun hx1 => ?_)
    · have h := h.1 hx1
      refine zj_iload_n (pc := 40) hc dX10_plainOf_40 rfl ?_
      exact zj_iret (pc := 41) hc hr hlk dX10_plainOf_41 (by decide) (by decide) ⟨rfl, h⟩
    · have h := h.2 hx1
      refine zj_aload_n (pc := 11) hc dX10_plainOf_11 rfl ?_
      refine zg_9_20 (pc := 12) hc lk_X10_47 dX10_plainOf_12 ?_
      refine zj_iload (pc := 15) hc dX10_plainOf_15 rfl ?_
      refine zj_iald (pc := 17) hc dX10_plainOf_17 alen_596 h.1 ?_
      have h := h.2
      refine zj_iconst (pc := 18) hc dX10_plainOf_18 (zin _ rfl) ?_
      refine zj_icmp_eq (pc := 19) (tgt := 34) hc dX10_plainOf_19 (by decide) (fun hx2 => ?_) (fun hx2 => ?_)
      · have h := h.1 hx2
        exact k34 v2 v3 v4 X5 hX5 h
      · have h := h.2 hx2
        refine zj_iload_n (pc := 22) hc dX10_plainOf_22 rfl ?_
        refine zj_iconst (pc := 23) hc dX10_plainOf_23 (zin _ rfl) ?_
        refine zj_aload_n (pc := 24) hc dX10_plainOf_24 rfl ?_
        refine zg_9_20 (pc := 25) hc lk_X10_47 dX10_plainOf_25 ?_
        refine zj_iload (pc := 28) hc dX10_plainOf_28 rfl ?_
        refine zj_iald (pc := 30) hc dX10_plainOf_30 alen_596 h.1 ?_
        have h := h.2
        refine zj_iadd (pc := 31) hc dX10_plainOf_31 h.1 ?_
        have h := h.2
        refine zj_iadd (pc := 32) hc dX10_plainOf_32 h.1 ?_
        have h := h.2
        refine zj_istore_n (pc := 33) hc dX10_plainOf_33 (by decide) ?_
        exact k34 v2 (v3 + (2 + (M.2 596 v4))) v4 X5 hX5 h
  unfold T_X10_plainOf at h
  refine zj_iconst (pc := 0) hc dX10_plainOf_0 (zin _ rfl) ?_
  refine zj_istore_n (pc := 1) hc dX10_plainOf_1 (by decide) ?_
  refine zj_iload_n (pc := 2) hc dX10_plainOf_2 rfl ?_
  refine zj_istore (pc := 3) hc dX10_plainOf_3 (by decide) ?_
  refine zj_mask (bs := [true, false, true, true, true]) ?_
  exact k5 v2 0 v1 h
set_option maxHeartbeats 4000000 in
set_option maxRecDepth 100000 in
theorem S_X10_laysPlain (l : Launch) (G : zG) (v1 : Int) (v2 : Int) (M : zMem) (Qr : zMem → Prop) (h : T_X10_laysPlain v1 v2 Qr M) : zMetV l yX10_laysPlain cX10_laysPlain 5 none 1 21 0 0 G [.inr 639, .inl v1, .inl v2] M Qr := by
  refine zmetV (by decide) (Nat.le_of_ble_eq_true rfl) [some (.inr 639), some (.inl v1), some (.inl v2), none, none] rfl ?_
  intro p e s m args below meth c hc hr hlk
  have k76 : ∀ (M : zMem) (v2 : Int) (v3 : Int) (X7 : Int → zMem → Prop) (hX7 : ∀ (v3 : Int) (M : zMem), X7 v3 M → zJ p l e (zRoom 1 21 0 0) s m args below meth c G 5 0 0 (MQ below (zQv G (Qr)) args s 0 0 (zA G)) 7 [some (.inr 639), none, some (.inl v2), some (.inl v3), none] [] M), T_X10_laysPlain_76 v2 v3 X7 Qr M → zJ p l e (zRoom 1 21 0 0) s m args below meth c G 5 0 0 (MQ below (zQv G (Qr)) args s 0 0 (zA G)) 76 [some (.inr 639), none, some (.inl v2), some (.inl v3), none] [] M := by
    intro M v2 v3 X7 hX7 h
    unfold T_X10_laysPlain_76 at h
    refine zj_iinc (pc := 76) hc dX10_laysPlain_76 rfl (by decide) h.1 ?_
    have h := h.2
    refine zj_goto (pc := 79) (tgt := 7) hc dX10_laysPlain_79 (by decide) ?_
    exact hX7 (v3 + 1) M h
  have k43 : ∀ (M : zMem) (v2 : Int) (v3 : Int) (X7 : Int → zMem → Prop) (hX7 : ∀ (v3 : Int) (M : zMem), X7 v3 M → zJ p l e (zRoom 1 21 0 0) s m args below meth c G 5 0 0 (MQ below (zQv G (Qr)) args s 0 0 (zA G)) 7 [some (.inr 639), none, some (.inl v2), some (.inl v3), none] [] M) (v4 : Int), T_X10_laysPlain_43 v2 v3 X7 Qr v4 M → zJ p l e (zRoom 1 21 0 0) s m args below meth c G 5 0 0 (MQ below (zQv G (Qr)) args s 0 0 (zA G)) 43 [some (.inr 639), none, some (.inl v2), some (.inl v3), some (.inl v4)] [] M := by
    intro M v2 v3 X7 hX7 v4 h
    unfold T_X10_laysPlain_43 at h
    refine zl1_use h (fun v4 M => zJ p l e (zRoom 1 21 0 0) s m args below meth c G 5 0 0 (MQ below (zQv G (Qr)) args s 0 0 (zA G)) 43 [some (.inr 639), none, some (.inl v2), some (.inl v3), some (.inl v4)] [] M) (fun X43 hX43 v4 M h => ?_)
    refine zj_iload (pc := 43) hc dX10_laysPlain_43 rfl ?_
    refine zj_aload_n (pc := 45) hc dX10_laysPlain_45 rfl ?_
    refine zg_9_20 (pc := 46) hc lk_X10_47 dX10_laysPlain_46 ?_
    refine zj_iload_n (pc := 49) hc dX10_laysPlain_49 rfl ?_
    refine zj_iald (pc := 50) hc dX10_laysPlain_50 alen_596 h.1 ?_
    have h := h.2
    refine zj_icmp_ge (pc := 51) (tgt := 76) hc dX10_laysPlain_51 (by decide) (fun hx1 => ?_) (fun hx1 => ?_)
    · have h := h.1 hx1
      refine zj_mask (bs := [true, true, true, true, false]) ?_
      exact k76 M v2 v3 X7 hX7 h
    · have h := h.2 hx1
      refine zj_aload_n (pc := 54) hc dX10_laysPlain_54 rfl ?_
      refine zj_aload_n (pc := 55) hc dX10_laysPlain_55 rfl ?_
      refine zg_9_21 (pc := 56) hc lk_X10_50 dX10_laysPlain_56 ?_
      refine zj_bipush (pc := 59) hc dX10_laysPlain_59 (by decide) (zin _ rfl) ?_
      refine zj_iload_n (pc := 61) hc dX10_laysPlain_61 rfl ?_
      refine zj_imul (pc := 62) hc dX10_laysPlain_62 h.1 ?_
      have h := h.2
      refine zj_iload (pc := 63) hc dX10_laysPlain_63 rfl ?_
      refine zj_iadd (pc := 65) hc dX10_laysPlain_65 h.1 ?_
      have h := h.2
      refine zj_iald (pc := 66) hc dX10_laysPlain_66 alen_597 h.1 ?_
      have h := h.2
      refine zj_vtv (pc := 67) (st := []) hc ks_X10_comesOut iv_X10_comesOut lk_X10_134 (zrv_9 G M) (S_X10_comesOut l G (M.2 597 ((8 * v3) + v4)) M _ h) rfl ⟨Nat.le_of_ble_eq_true rfl, Nat.le_of_ble_eq_true rfl⟩ (Nat.le_of_ble_eq_true rfl) ⟨Nat.le_of_ble_eq_true rfl, Nat.le_of_ble_eq_true rfl⟩ dX10_laysPlain_67 rfl (fun M2 h => ?_)
      refine zj_iinc (pc := 70) hc dX10_laysPlain_70 rfl (by decide) h.1 ?_
      have h := h.2
      refine zj_goto (pc := 73) (tgt := 43) hc dX10_laysPlain_73 (by decide) ?_
      exact hX43 (v4 + 1) M2 h
  have k7 : ∀ (M : zMem) (v2 : Int) (v3 : Int), T_X10_laysPlain_7 v2 Qr v3 M → zJ p l e (zRoom 1 21 0 0) s m args below meth c G 5 0 0 (MQ below (zQv G (Qr)) args s 0 0 (zA G)) 7 [some (.inr 639), none, some (.inl v2), some (.inl v3), none] [] M := by
    intro M v2 v3 h
    unfold T_X10_laysPlain_7 at h
    refine zl1_use h (fun v3 M => zJ p l e (zRoom 1 21 0 0) s m args below meth c G 5 0 0 (MQ below (zQv G (Qr)) args s 0 0 (zA G)) 7 [some (.inr 639), none, some (.inl v2), some (.inl v3), none] [] M) (fun X7 hX7 v3 M h => ?_)
    refine zj_iload_n (pc := 7) hc dX10_laysPlain_7 rfl ?_
    refine zj_iload_n (pc := 8) hc dX10_laysPlain_8 rfl ?_
    refine zj_icmp_gt (pc := 9) (tgt := 82) hc dX10_laysPlain_9 (by decide) (fun hx3 => ?_) (fun hx3 => ?_)
    · have h := h.1 hx3
      exact zj_vret (pc := 82) hc hr hlk dX10_laysPlain_82 (by decide) (by decide) h
    · have h := h.2 hx3
      refine zj_aload_n (pc := 12) hc dX10_laysPlain_12 rfl ?_
      refine zg_9_20 (pc := 13) hc lk_X10_47 dX10_laysPlain_13 ?_
      refine zj_iload_n (pc := 16) hc dX10_laysPlain_16 rfl ?_
      refine zj_iald (pc := 17) hc dX10_laysPlain_17 alen_596 h.1 ?_
      have h := h.2
      refine zj_iconst (pc := 18) hc dX10_laysPlain_18 (zin _ rfl) ?_
      refine zj_icmp_ne (pc := 19) (tgt := 25) hc dX10_laysPlain_19 (by decide) (fun hx4 => ?_) (fun hx4 => ?_)
      · have h := h.1 hx4
        refine zj_aload_n (pc := 25) hc dX10_laysPlain_25 rfl ?_
        refine zj_iload_n (pc := 26) hc dX10_laysPlain_26 rfl ?_
        refine zj_vtv (pc := 27) (st := []) hc ks_X10_comesOut iv_X10_comesOut lk_X10_134 (zrv_9 G M) (S_X10_comesOut l G v3 M _ h) rfl ⟨Nat.le_of_ble_eq_true rfl, Nat.le_of_ble_eq_true rfl⟩ (Nat.le_of_ble_eq_true rfl) ⟨Nat.le_of_ble_eq_true rfl, Nat.le_of_ble_eq_true rfl⟩ dX10_laysPlain_27 rfl (fun M5 h => ?_)
        refine zj_aload_n (pc := 30) hc dX10_laysPlain_30 rfl ?_
        refine zj_aload_n (pc := 31) hc dX10_laysPlain_31 rfl ?_
        refine zg_9_20 (pc := 32) hc lk_X10_47 dX10_laysPlain_32 ?_
        refine zj_iload_n (pc := 35) hc dX10_laysPlain_35 rfl ?_
        refine zj_iald (pc := 36) hc dX10_laysPlain_36 alen_596 h.1 ?_
        have h := h.2
        refine zj_vtv (pc := 37) (st := []) hc ks_X10_comesOut iv_X10_comesOut lk_X10_134 (zrv_9 G M5) (S_X10_comesOut l G (M5.2 596 v3) M5 _ h) rfl ⟨Nat.le_of_ble_eq_true rfl, Nat.le_of_ble_eq_true rfl⟩ (Nat.le_of_ble_eq_true rfl) ⟨Nat.le_of_ble_eq_true rfl, Nat.le_of_ble_eq_true rfl⟩ dX10_laysPlain_37 rfl (fun M6 h => ?_)
        refine zj_iconst (pc := 40) hc dX10_laysPlain_40 (zin _ rfl) ?_
        refine zj_istore (pc := 41) hc dX10_laysPlain_41 (by decide) ?_
        exact k43 M6 v2 v3 X7 hX7 0 h
      · have h := h.2 hx4
        refine zj_goto (pc := 22) (tgt := 76) hc dX10_laysPlain_22 (by decide) ?_
        exact k76 M v2 v3 X7 hX7 h
  unfold T_X10_laysPlain at h
  refine zj_aload_n (pc := 0) hc dX10_laysPlain_0 rfl ?_
  refine zj_iconst (pc := 1) hc dX10_laysPlain_1 (zin _ rfl) ?_
  refine zs_9_15 (pc := 2) hc lk_X10_107 dX10_laysPlain_2 (fun M7 hM7 => ?_)
  have h := h M7 hM7
  refine zj_iload_n (pc := 5) hc dX10_laysPlain_5 rfl ?_
  refine zj_istore_n (pc := 6) hc dX10_laysPlain_6 (by decide) ?_
  refine zj_mask (bs := [true, false, true, true, true]) ?_
  exact k7 M7 v2 v1 h
