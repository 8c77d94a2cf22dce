set_option maxHeartbeats 4000000 in
set_option maxRecDepth 100000 in
theorem S_X10_group (l : Launch) (G : zG) (M : zMem) (Qr : Int → zMem → Prop) (h : T_X10_group Qr M) : zMetI l yX10_group cX10_group 3 (some .int) 10 246 0 0 G [.inr 639] M Qr := by
  refine zmetI (by decide) (Nat.le_of_ble_eq_true rfl) [some (.inr 639), none, none] rfl ?_
  intro p e s m args below meth c hc hr hlk
  unfold T_X10_group at h
  refine zj_aload_n (pc := 0) hc dX10_group_0 rfl ?_
  refine zj_iconst (pc := 1) hc dX10_group_1 (zin _ rfl) ?_
  refine zs_9_0 (pc := 2) hc lk_X10_77 dX10_group_2 (fun M1 hM1 => ?_)
  have h := h M1 hM1
  refine zj_aload_n (pc := 5) hc dX10_group_5 rfl ?_
  refine zj_vti (pc := 6) (st := []) hc ks_X10_isDown iv_X10_isDown lk_X10_292 (zrv_9 G M1) (S_X10_isDown l G M1 _ h) rfl ⟨Nat.le_of_ble_eq_true rfl, Nat.le_of_ble_eq_true rfl⟩ (Nat.le_of_ble_eq_true rfl) ⟨Nat.le_of_ble_eq_true rfl, Nat.le_of_ble_eq_true rfl⟩ dX10_group_6 rfl (fun y2 M9 h => ?_)
  obtain ⟨hM9, h⟩ := h
  subst hM9
  refine zj_if_eq (pc := 9) (tgt := 19) hc dX10_group_9 (by decide) (fun hx3 => ?_) (fun hx3 => ?_)
  · have h := h.1 hx3
    refine zj_aload_n (pc := 19) hc dX10_group_19 rfl ?_
    refine zg_9_9 (pc := 20) hc lk_X10_101 dX10_group_20 ?_
    refine zj_istore_n (pc := 23) hc dX10_group_23 (by decide) ?_
    refine zj_aload_n (pc := 24) hc dX10_group_24 rfl ?_
    refine zj_iconst (pc := 25) hc dX10_group_25 (zin _ rfl) ?_
    refine zs_9_9 (pc := 26) hc lk_X10_101 dX10_group_26 (fun M4 hM4 => ?_)
    have h := h M4 hM4
    refine zj_aload_n (pc := 29) hc dX10_group_29 rfl ?_
    refine zj_iload_n (pc := 30) hc dX10_group_30 rfl ?_
    refine zj_vti (pc := 31) (st := []) hc ks_X10_drafted iv_X10_drafted lk_X10_336 (zrv_9 G M4) (S_X10_drafted l G (M1.1 585) M4 _ h) rfl ⟨Nat.le_of_ble_eq_true rfl, Nat.le_of_ble_eq_true rfl⟩ (Nat.le_of_ble_eq_true rfl) ⟨Nat.le_of_ble_eq_true rfl, Nat.le_of_ble_eq_true rfl⟩ dX10_group_31 rfl (fun y5 M6 h => ?_)
    refine zj_istore_n (pc := 34) hc dX10_group_34 (by decide) ?_
    refine zj_aload_n (pc := 35) hc dX10_group_35 rfl ?_
    refine zj_aload_n (pc := 36) hc dX10_group_36 rfl ?_
    refine zg_9_39 (pc := 37) hc lk_X10_330 dX10_group_37 ?_
    refine zs_9_10 (pc := 40) hc lk_X10_31 dX10_group_40 (fun M7 hM7 => ?_)
    have h := h M7 hM7
    refine zj_iload_n (pc := 43) hc dX10_group_43 rfl ?_
    refine zj_if_ge (pc := 44) (tgt := 53) hc dX10_group_44 (by decide) (fun hx8 => ?_) (fun hx8 => ?_)
    · have h := h.1 hx8
      refine zj_aload_n (pc := 53) hc dX10_group_53 rfl ?_
      refine zj_iconst (pc := 54) hc dX10_group_54 (zin _ rfl) ?_
      refine zj_vtv (pc := 55) (st := []) hc ks_X10_keeps iv_X10_keeps lk_X10_305 (zrv_9 G M7) (S_X10_keeps l G 4 M7 _ h) rfl ⟨Nat.le_of_ble_eq_true rfl, Nat.le_of_ble_eq_true rfl⟩ (Nat.le_of_ble_eq_true rfl) ⟨Nat.le_of_ble_eq_true rfl, Nat.le_of_ble_eq_true rfl⟩ dX10_group_55 rfl (fun M9 h => ?_)
      refine zj_aload_n (pc := 58) hc dX10_group_58 rfl ?_
      refine zj_vtv (pc := 59) (st := []) hc ks_X10_beginsWriting iv_X10_beginsWriting lk_X10_308 (zrv_9 G M9) (S_X10_beginsWriting l G M9 _ h) rfl ⟨Nat.le_of_ble_eq_true rfl, Nat.le_of_ble_eq_true rfl⟩ (Nat.le_of_ble_eq_true rfl) ⟨Nat.le_of_ble_eq_true rfl, Nat.le_of_ble_eq_true rfl⟩ dX10_group_59 rfl (fun M10 h => ?_)
      refine zj_aload_n (pc := 62) hc dX10_group_62 rfl ?_
      refine zj_vtv (pc := 63) (st := []) hc ks_X10_throughJournal iv_X10_throughJournal lk_X10_311 (zrv_9 G M10) (S_X10_throughJournal l G M10 _ h) rfl ⟨Nat.le_of_ble_eq_true rfl, Nat.le_of_ble_eq_true rfl⟩ (Nat.le_of_ble_eq_true rfl) ⟨Nat.le_of_ble_eq_true rfl, Nat.le_of_ble_eq_true rfl⟩ dX10_group_63 rfl (fun M11 h => ?_)
      refine zj_aload_n (pc := 66) hc dX10_group_66 rfl ?_
      refine zj_iconst (pc := 67) hc dX10_group_67 (zin _ rfl) ?_
      refine zs_9_36 (pc := 68) hc lk_X10_91 dX10_group_68 (fun M12 hM12 => ?_)
      have h := h M12 hM12
      refine zj_aload_n (pc := 71) hc dX10_group_71 rfl ?_
      refine zj_iload_n (pc := 72) hc dX10_group_72 rfl ?_
      refine zj_vti (pc := 73) (st := []) hc ks_X10_ends iv_X10_ends lk_X10_314 (zrv_9 G M12) (S_X10_ends l G y5 M12 _ h) rfl ⟨Nat.le_of_ble_eq_true rfl, Nat.le_of_ble_eq_true rfl⟩ (Nat.le_of_ble_eq_true rfl) ⟨Nat.le_of_ble_eq_true rfl, Nat.le_of_ble_eq_true rfl⟩ dX10_group_73 rfl (fun y13 M14 h => ?_)
      exact zj_iret (pc := 76) hc hr hlk dX10_group_76 (by decide) (by decide) h
    · have h := h.2 hx8
      refine zj_aload_n (pc := 47) hc dX10_group_47 rfl ?_
      refine zj_iload_n (pc := 48) hc dX10_group_48 rfl ?_
      refine zj_vti (pc := 49) (st := []) hc ks_X10_refuses iv_X10_refuses lk_X10_87 (zrv_9 G M7) (S_X10_refuses l G y5 M7 _ h) rfl ⟨Nat.le_of_ble_eq_true rfl, Nat.le_of_ble_eq_true rfl⟩ (Nat.le_of_ble_eq_true rfl) ⟨Nat.le_of_ble_eq_true rfl, Nat.le_of_ble_eq_true rfl⟩ dX10_group_49 rfl (fun y15 M16 h => ?_)
      exact zj_iret (pc := 52) hc hr hlk dX10_group_52 (by decide) (by decide) h
  · have h := h.2 hx3
    refine zj_aload_n (pc := 12) hc dX10_group_12 rfl ?_
    refine zj_bipush (pc := 13) hc dX10_group_13 (by decide) (zin _ rfl) ?_
    refine zj_vti (pc := 15) (st := []) hc ks_X10_refuses iv_X10_refuses lk_X10_87 (zrv_9 G M1) (S_X10_refuses l G (-3) M1 _ h) rfl ⟨Nat.le_of_ble_eq_true rfl, Nat.le_of_ble_eq_true rfl⟩ (Nat.le_of_ble_eq_true rfl) ⟨Nat.le_of_ble_eq_true rfl, Nat.le_of_ble_eq_true rfl⟩ dX10_group_15 rfl (fun y17 M18 h => ?_)
    exact zj_iret (pc := 18) hc hr hlk dX10_group_18 (by decide) (by decide) h
set_option maxHeartbeats 4000000 in
set_option maxRecDepth 100000 in
theorem S_X10_would (l : Launch) (G : zG) (v1 : Int) (M : zMem) (Qr : Int → zMem → Prop) (h : T_X10_would v1 Qr M) : zMetI l yX10_would cX10_would 5 (some .int) 10 246 0 0 G [.inr 639, .inl v1] M Qr := by
  refine zmetI (by decide) (Nat.le_of_ble_eq_true rfl) [some (.inr 639), some (.inl v1), none, none, none] rfl ?_
  intro p e s m args below meth c hc hr hlk
  have k102 : ∀ (M : zMem) (v2 : Int) (v3 : Int) (v4 : Int), T_X10_would_102 v2 Qr v3 v4 M → zJ p l e (zRoom 10 246 0 0) s m args below meth c G 5 0 0 (MQ below (zQi G (Qr)) args s 0 0 (zA G)) 102 [some (.inr 639), none, some (.inl v2), some (.inl v3), some (.inl v4)] [] M := by
    intro M v2 v3 v4 h
    unfold T_X10_would_102 at h
    refine zp2_use h (fun v3 v4 => zJ p l e (zRoom 10 246 0 0) s m args below meth c G 5 0 0 (MQ below (zQi G (Qr)) args s 0 0 (zA G)) 102 [some (.inr 639), none, some (.inl v2), some (.inl v3), some (.inl v4)] [] M) (fun X102 hX102 v3 v4 h => ?_)
    refine zj_iload (pc := 102) hc dX10_would_102 rfl ?_
    refine zj_bipush (pc := 104) hc dX10_would_104 (by decide) (zin _ rfl) ?_
    refine zj_icmp_ge (pc := 106) (tgt := 127) hc dX10_would_106 (by decide) (fun hx1 => ?_) (fun hx1 => ?_)
    · have h := h.1 hx1
      refine zj_iload_n (pc := 127) hc dX10_would_127 rfl ?_
      refine zj_if_ge (pc := 128) (tgt := 135) hc dX10_would_128 (by decide) (fun hx2 => ?_) (fun hx2 => ?_)
      · have h := h.1 hx2
        refine zj_iconst (pc := 135) hc dX10_would_135 (zin _ rfl) ?_
        refine zj_sipush (pc := 136) hc dX10_would_136 (by decide) (zin _ rfl) ?_
        refine zj_iload_n (pc := 139) hc dX10_would_139 rfl ?_
        refine zj_imul (pc := 140) hc dX10_would_140 h.1 ?_
        have h := h.2
        refine zj_iadd (pc := 141) hc dX10_would_141 h.1 ?_
        have h := h.2
        refine zj_iconst (pc := 142) hc dX10_would_142 (zin _ rfl) ?_
        refine zj_aload_n (pc := 143) hc dX10_would_143 rfl ?_
        refine zj_aload_n (pc := 144) hc dX10_would_144 rfl ?_
        refine zg_9_7 (pc := 145) hc lk_X10_25 dX10_would_145 ?_
        refine zj_vti (pc := 148) (st := [.inl 2, .inl (3 + (129 * v3))]) hc ks_X10_directoryMany iv_X10_directoryMany lk_X10_274 (zrv_9 G M) (S_X10_directoryMany l G 583 M _ h) rfl ⟨Nat.le_of_ble_eq_true rfl, Nat.le_of_ble_eq_true rfl⟩ (Nat.le_of_ble_eq_true rfl) ⟨Nat.le_of_ble_eq_true rfl, Nat.le_of_ble_eq_true rfl⟩ dX10_would_148 rfl (fun y3 M9 h => ?_)
        obtain ⟨hM9, h⟩ := h
        subst hM9
        refine zj_imul (pc := 151) hc dX10_would_151 h.1 ?_
        have h := h.2
        refine zj_iadd (pc := 152) hc dX10_would_152 h.1 ?_
        have h := h.2
        exact zj_iret (pc := 153) hc hr hlk dX10_would_153 (by decide) (by decide) h
      · have h := h.2 hx2
        refine zj_iconst (pc := 131) hc dX10_would_131 (zin _ rfl) ?_
        refine zj_goto (pc := 132) (tgt := 153) hc dX10_would_132 (by decide) ?_
        exact zj_iret (pc := 153) hc hr hlk dX10_would_153 (by decide) (by decide) h
    · have h := h.2 hx1
      refine zj_iload_n (pc := 109) hc dX10_would_109 rfl ?_
      refine zj_aload_n (pc := 110) hc dX10_would_110 rfl ?_
      refine zg_9_30 (pc := 111) hc lk_X10_221 dX10_would_111 ?_
      refine zj_iload (pc := 114) hc dX10_would_114 rfl ?_
      refine zj_ishr (pc := 116) hc dX10_would_116 ?_
      refine zj_iconst (pc := 117) hc dX10_would_117 (zin _ rfl) ?_
      refine zj_iand (pc := 118) hc dX10_would_118 ?_
      refine zj_iadd (pc := 119) hc dX10_would_119 h.1 ?_
      have h := h.2
      refine zj_istore_n (pc := 120) hc dX10_would_120 (by decide) ?_
      refine zj_iinc (pc := 121) hc dX10_would_121 rfl (by decide) h.1 ?_
      have h := h.2
      refine zj_goto (pc := 124) (tgt := 102) hc dX10_would_124 (by decide) ?_
      exact hX102 (v3 + (zand (zshr (M.1 606) v4) 1)) (v4 + 1) h
  unfold T_X10_would at h
  refine zj_aload_n (pc := 0) hc dX10_would_0 rfl ?_
  refine zj_iconst (pc := 1) hc dX10_would_1 (zin _ rfl) ?_
  refine zs_9_0 (pc := 2) hc lk_X10_77 dX10_would_2 (fun M4 hM4 => ?_)
  have h := h M4 hM4
  refine zj_aload_n (pc := 5) hc dX10_would_5 rfl ?_
  refine zj_vti (pc := 6) (st := []) hc ks_X10_isDown iv_X10_isDown lk_X10_292 (zrv_9 G M4) (S_X10_isDown l G M4 _ h) rfl ⟨Nat.le_of_ble_eq_true rfl, Nat.le_of_ble_eq_true rfl⟩ (Nat.le_of_ble_eq_true rfl) ⟨Nat.le_of_ble_eq_true rfl, Nat.le_of_ble_eq_true rfl⟩ dX10_would_6 rfl (fun y5 M9 h => ?_)
  obtain ⟨hM9, h⟩ := h
  subst hM9
  refine zj_if_ne (pc := 9) (tgt := 21) hc dX10_would_9 (by decide) (fun hx6 => ?_) (fun hx6 => ?_)
  · have h := h.1 hx6
    refine zj_iconst (pc := 21) hc dX10_would_21 (zin _ rfl) ?_
    exact zj_iret (pc := 22) hc hr hlk dX10_would_22 (by decide) (by decide) h
  · have h := h.2 hx6
    refine zj_iload_n (pc := 12) hc dX10_would_12 rfl ?_
    refine zj_iconst (pc := 13) hc dX10_would_13 (zin _ rfl) ?_
    refine zj_iconst (pc := 14) hc dX10_would_14 (zin _ rfl) ?_
    refine zj_sti (pc := 15) (st := []) hc ks_X10_isIn st_X10_isIn lk_X10_83 (S_X10_isIn l G v1 0 3 M4 _ h) rfl ⟨Nat.le_of_ble_eq_true rfl, Nat.le_of_ble_eq_true rfl⟩ (Nat.le_of_ble_eq_true rfl) ⟨Nat.le_of_ble_eq_true rfl, Nat.le_of_ble_eq_true rfl⟩ dX10_would_15 rfl (fun y7 M9 h => ?_)
    obtain ⟨hM9, h⟩ := h
    subst hM9
    refine zj_if_ne (pc := 18) (tgt := 23) hc dX10_would_18 (by decide) (fun hx8 => ?_) (fun hx8 => ?_)
    · have h := h.1 hx8
      refine zj_aload_n (pc := 23) hc dX10_would_23 rfl ?_
      refine zj_aload_n (pc := 24) hc dX10_would_24 rfl ?_
      refine zg_9_9 (pc := 25) hc lk_X10_101 dX10_would_25 ?_
      refine zj_vti (pc := 28) (st := []) hc ks_X10_drafted iv_X10_drafted lk_X10_336 (zrv_9 G M4) (S_X10_drafted l G (M4.1 585) M4 _ h) rfl ⟨Nat.le_of_ble_eq_true rfl, Nat.le_of_ble_eq_true rfl⟩ (Nat.le_of_ble_eq_true rfl) ⟨Nat.le_of_ble_eq_true rfl, Nat.le_of_ble_eq_true rfl⟩ dX10_would_28 rfl (fun y9 M10 h => ?_)
      refine zj_istore_n (pc := 31) hc dX10_would_31 (by decide) ?_
      refine zj_iload_n (pc := 32) hc dX10_would_32 rfl ?_
      refine zj_if_ne (pc := 33) (tgt := 38) hc dX10_would_33 (by decide) (fun hx11 => ?_) (fun hx11 => ?_)
      · have h := h.1 hx11
        refine zj_iload_n (pc := 38) hc dX10_would_38 rfl ?_
        refine zj_iconst (pc := 39) hc dX10_would_39 (zin _ rfl) ?_
        refine zj_icmp_le (pc := 40) (tgt := 97) hc dX10_would_40 (by decide) (fun hx12 => ?_) (fun hx12 => ?_)
        · have h := h.1 hx12
          refine zj_iconst (pc := 97) hc dX10_would_97 (zin _ rfl) ?_
          refine zj_istore_n (pc := 98) hc dX10_would_98 (by decide) ?_
          refine zj_iconst (pc := 99) hc dX10_would_99 (zin _ rfl) ?_
          refine zj_istore (pc := 100) hc dX10_would_100 (by decide) ?_
          refine zj_mask (bs := [true, false, true, true, true]) ?_
          exact k102 M10 y9 0 0 h
        · have h := h.2 hx12
          refine zj_iload_n (pc := 43) hc dX10_would_43 rfl ?_
          refine zj_if_ge (pc := 44) (tgt := 73) hc dX10_would_44 (by decide) (fun hx13 => ?_) (fun hx13 => ?_)
          · have h := h.1 hx13
            refine zj_iload_n (pc := 73) hc dX10_would_73 rfl ?_
            refine zj_iconst (pc := 74) hc dX10_would_74 (zin _ rfl) ?_
            refine zj_icmp_ne (pc := 75) (tgt := 89) hc dX10_would_75 (by decide) (fun hx14 => ?_) (fun hx14 => ?_)
            · have h := h.1 hx14
              refine zj_aload_n (pc := 89) hc dX10_would_89 rfl ?_
              refine zg_9_7 (pc := 90) hc lk_X10_25 dX10_would_90 ?_
              refine zj_sti (pc := 93) (st := []) hc ks_X10_pagesOf st_X10_pagesOf lk_X10_151 (S_X10_pagesOf l G 583 M10 _ h) rfl ⟨Nat.le_of_ble_eq_true rfl, Nat.le_of_ble_eq_true rfl⟩ (Nat.le_of_ble_eq_true rfl) ⟨Nat.le_of_ble_eq_true rfl, Nat.le_of_ble_eq_true rfl⟩ dX10_would_93 rfl (fun y15 M9 h => ?_)
              obtain ⟨hM9, h⟩ := h
              subst hM9
              exact zj_iret (pc := 96) hc hr hlk dX10_would_96 (by decide) (by decide) h
            · have h := h.2 hx14
              refine zj_aload_n (pc := 78) hc dX10_would_78 rfl ?_
              refine zg_9_7 (pc := 79) hc lk_X10_25 dX10_would_79 ?_
              refine zj_sipush (pc := 82) hc dX10_would_82 (by decide) (zin _ rfl) ?_
              refine zj_iald (pc := 85) hc dX10_would_85 alen_583 h.1 ?_
              have h := h.2
              refine zj_goto (pc := 86) (tgt := 96) hc dX10_would_86 (by decide) ?_
              exact zj_iret (pc := 96) hc hr hlk dX10_would_96 (by decide) (by decide) h
          · have h := h.2 hx13
            refine zj_iload_n (pc := 47) hc dX10_would_47 rfl ?_
            refine zj_iconst (pc := 48) hc dX10_would_48 (zin _ rfl) ?_
            refine zj_icmp_ne (pc := 49) (tgt := 63) hc dX10_would_49 (by decide) (fun hx16 => ?_) (fun hx16 => ?_)
            · have h := h.1 hx16
              refine zj_aload_n (pc := 63) hc dX10_would_63 rfl ?_
              refine zg_9_6 (pc := 64) hc lk_X10_22 dX10_would_64 ?_
              refine zj_sti (pc := 67) (st := []) hc ks_X10_pagesOf st_X10_pagesOf lk_X10_151 (S_X10_pagesOf l G 582 M10 _ h) rfl ⟨Nat.le_of_ble_eq_true rfl, Nat.le_of_ble_eq_true rfl⟩ (Nat.le_of_ble_eq_true rfl) ⟨Nat.le_of_ble_eq_true rfl, Nat.le_of_ble_eq_true rfl⟩ dX10_would_67 rfl (fun y17 M9 h => ?_)
              obtain ⟨hM9, h⟩ := h
              subst hM9
              refine zj_goto (pc := 70) (tgt := 96) hc dX10_would_70 (by decide) ?_
              exact zj_iret (pc := 96) hc hr hlk dX10_would_96 (by decide) (by decide) h
            · have h := h.2 hx16
              refine zj_aload_n (pc := 52) hc dX10_would_52 rfl ?_
              refine zg_9_6 (pc := 53) hc lk_X10_22 dX10_would_53 ?_
              refine zj_sipush (pc := 56) hc dX10_would_56 (by decide) (zin _ rfl) ?_
              refine zj_iald (pc := 59) hc dX10_would_59 alen_582 h.1 ?_
              have h := h.2
              refine zj_goto (pc := 60) (tgt := 96) hc dX10_would_60 (by decide) ?_
              exact zj_iret (pc := 96) hc hr hlk dX10_would_96 (by decide) (by decide) h
      · have h := h.2 hx11
        refine zj_iload_n (pc := 36) hc dX10_would_36 rfl ?_
        exact zj_iret (pc := 37) hc hr hlk dX10_would_37 (by decide) (by decide) h
    · have h := h.2 hx8
      refine zj_iconst (pc := 21) hc dX10_would_21 (zin _ rfl) ?_
      exact zj_iret (pc := 22) hc hr hlk dX10_would_22 (by decide) (by decide) h
set_option maxHeartbeats 4000000 in
set_option maxRecDepth 100000 in
theorem S_X10_lastTogether (l : Launch) (G : zG) (v1 : Int) (M : zMem) (Qr : Int → zMem → Prop) (h : T_X10_lastTogether v1 Qr M) : zMetI l yX10_lastTogether cX10_lastTogether 4 (some .int) 5 120 0 0 G [.inr 639, .inl v1] M Qr := by
  refine zmetI (by decide) (Nat.le_of_ble_eq_true rfl) [some (.inr 639), some (.inl v1), none, none] rfl ?_
  intro p e s m args below meth c hc hr hlk
  have k52 : ∀ (M : zMem) (v1 : Int) (v2 : Int) (v3 : Int) (X6 : Int → Int → zMem → Prop) (hX6 : ∀ (v2 : Int) (v3 : Int) (M : zMem), X6 v2 v3 M → zJ p l e (zRoom 5 120 0 0) s m args below meth c G 4 0 0 (MQ below (zQi G (Qr)) args s 0 0 (zA G)) 6 [some (.inr 639), some (.inl v1), some (.inl v2), some (.inl v3)] [] M), T_X10_lastTogether_52 v1 v2 v3 X6 Qr M → zJ p l e (zRoom 5 120 0 0) s m args below meth c G 4 0 0 (MQ below (zQi G (Qr)) args s 0 0 (zA G)) 52 [some (.inr 639), some (.inl v1), some (.inl v2), some (.inl v3)] [] M := by
    intro M v1 v2 v3 X6 hX6 h
    unfold T_X10_lastTogether_52 at h
    refine zj_iinc (pc := 52) hc dX10_lastTogether_52 rfl (by decide) h.1 ?_
    have h := h.2
    refine zj_goto (pc := 55) (tgt := 6) hc dX10_lastTogether_55 (by decide) ?_
    exact hX6 v2 (v3 + 1) M h
  have k6 : ∀ (M : zMem) (v1 : Int) (v2 : Int) (v3 : Int), T_X10_lastTogether_6 v1 Qr v2 v3 M → zJ p l e (zRoom 5 120 0 0) s m args below meth c G 4 0 0 (MQ below (zQi G (Qr)) args s 0 0 (zA G)) 6 [some (.inr 639), some (.inl v1), some (.inl v2), some (.inl v3)] [] M := by
    intro M v1 v2 v3 h
    unfold T_X10_lastTogether_6 at h
    refine zl2_use h (fun v2 v3 M => zJ p l e (zRoom 5 120 0 0) s m args below meth c G 4 0 0 (MQ below (zQi G (Qr)) args s 0 0 (zA G)) 6 [some (.inr 639), some (.inl v1), some (.inl v2), some (.inl v3)] [] M) (fun X6 hX6 v2 v3 M h => ?_)
    refine zj_iload_n (pc := 6) hc dX10_lastTogether_6 rfl ?_
    refine zj_sipush (pc := 7) hc dX10_lastTogether_7 (by decide) (zin _ rfl) ?_
    refine zj_icmp_ge (pc := 10) (tgt := 58) hc dX10_lastTogether_10 (by decide) (fun hx1 => ?_) (fun hx1 => ?_)
    · have h := h.1 hx1
      refine zj_iload_n (pc := 58) hc dX10_lastTogether_58 rfl ?_
      exact zj_iret (pc := 59) hc hr hlk dX10_lastTogether_59 (by decide) (by decide) h
    · have h := h.2 hx1
      refine zj_aload_n (pc := 13) hc dX10_lastTogether_13 rfl ?_
      refine zg_9_20 (pc := 14) hc lk_X10_47 dX10_lastTogether_14 ?_
      refine zj_iload_n (pc := 17) hc dX10_lastTogether_17 rfl ?_
      refine zj_iald (pc := 18) hc dX10_lastTogether_18 alen_596 h.1 ?_
      have h := h.2
      refine zj_iconst (pc := 19) hc dX10_lastTogether_19 (zin _ rfl) ?_
      refine zj_icmp_ne (pc := 20) (tgt := 26) hc dX10_lastTogether_20 (by decide) (fun hx2 => ?_) (fun hx2 => ?_)
      · have h := h.1 hx2
        refine zj_aload_n (pc := 26) hc dX10_lastTogether_26 rfl ?_
        refine zj_iload_n (pc := 27) hc dX10_lastTogether_27 rfl ?_
        refine zj_iload_n (pc := 28) hc dX10_lastTogether_28 rfl ?_
        refine zj_vti (pc := 29) (st := []) hc ks_X10_plainOf iv_X10_plainOf lk_X10_195 (zrv_9 G M) (S_X10_plainOf l G v1 v3 M _ h) rfl ⟨Nat.le_of_ble_eq_true rfl, Nat.le_of_ble_eq_true rfl⟩ (Nat.le_of_ble_eq_true rfl) ⟨Nat.le_of_ble_eq_true rfl, Nat.le_of_ble_eq_true rfl⟩ dX10_lastTogether_29 rfl (fun y3 M9 h => ?_)
        obtain ⟨hM9, h⟩ := h
        subst hM9
        refine zj_aload_n (pc := 32) hc dX10_lastTogether_32 rfl ?_
        refine zj_vti (pc := 33) (st := [.inl y3]) hc ks_X10_full iv_X10_full lk_X10_198 (zrv_9 G M) (S_X10_full l G M _ h) rfl ⟨Nat.le_of_ble_eq_true rfl, Nat.le_of_ble_eq_true rfl⟩ (Nat.le_of_ble_eq_true rfl) ⟨Nat.le_of_ble_eq_true rfl, Nat.le_of_ble_eq_true rfl⟩ dX10_lastTogether_33 rfl (fun y4 M9 h => ?_)
        obtain ⟨hM9, h⟩ := h
        subst hM9
        refine zj_icmp_gt (pc := 36) (tgt := 48) hc dX10_lastTogether_36 (by decide) (fun hx5 => ?_) (fun hx5 => ?_)
        · have h := h.1 hx5
          refine zj_iload_n (pc := 48) hc dX10_lastTogether_48 rfl ?_
          exact zj_iret (pc := 49) hc hr hlk dX10_lastTogether_49 (by decide) (by decide) h
        · have h := h.2 hx5
          refine zj_aload_n (pc := 39) hc dX10_lastTogether_39 rfl ?_
          refine zj_iload_n (pc := 40) hc dX10_lastTogether_40 rfl ?_
          refine zj_iload_n (pc := 41) hc dX10_lastTogether_41 rfl ?_
          refine zj_vti (pc := 42) (st := []) hc ks_X10_fits iv_X10_fits lk_X10_201 (zrv_9 G M) (S_X10_fits l G v1 v3 M _ h) rfl ⟨Nat.le_of_ble_eq_true rfl, Nat.le_of_ble_eq_true rfl⟩ (Nat.le_of_ble_eq_true rfl) ⟨Nat.le_of_ble_eq_true rfl, Nat.le_of_ble_eq_true rfl⟩ dX10_lastTogether_42 rfl (fun y6 M7 h => ?_)
          refine zj_if_ne (pc := 45) (tgt := 50) hc dX10_lastTogether_45 (by decide) (fun hx8 => ?_) (fun hx8 => ?_)
          · have h := h.1 hx8
            refine zj_iload_n (pc := 50) hc dX10_lastTogether_50 rfl ?_
            refine zj_istore_n (pc := 51) hc dX10_lastTogether_51 (by decide) ?_
            exact k52 M7 v1 v3 v3 X6 hX6 h
          · have h := h.2 hx8
            refine zj_iload_n (pc := 48) hc dX10_lastTogether_48 rfl ?_
            exact zj_iret (pc := 49) hc hr hlk dX10_lastTogether_49 (by decide) (by decide) h
      · have h := h.2 hx2
        refine zj_goto (pc := 23) (tgt := 52) hc dX10_lastTogether_23 (by decide) ?_
        exact k52 M v1 v2 v3 X6 hX6 h
  unfold T_X10_lastTogether at h
  refine zj_iload_n (pc := 0) hc dX10_lastTogether_0 rfl ?_
  refine zj_istore_n (pc := 1) hc dX10_lastTogether_1 (by decide) ?_
  refine zj_iload_n (pc := 2) hc dX10_lastTogether_2 rfl ?_
  refine zj_iconst (pc := 3) hc dX10_lastTogether_3 (zin _ rfl) ?_
  refine zj_iadd (pc := 4) hc dX10_lastTogether_4 h.1 ?_
  have h := h.2
  refine zj_istore_n (pc := 5) hc dX10_lastTogether_5 (by decide) ?_
  exact k6 M v1 v1 (v1 + 1) h
set_option maxHeartbeats 4000000 in
set_option maxRecDepth 100000 in
theorem S_X10_compact (l : Launch) (G : zG) (M : zMem) (Qr : Int → zMem → Prop) (h : T_X10_compact Qr M) : zMetI l yX10_compact cX10_compact 3 (some .int) 6 143 0 0 G [.inr 639] M Qr := by
  refine zmetI (by decide) (Nat.le_of_ble_eq_true rfl) [some (.inr 639), none, none] rfl ?_
  intro p e s m args below meth c hc hr hlk
  have k227 : ∀ (M : zMem) (v2 : Int) (s1 : Int) (s2 : Int) (X164 : Int → zMem → Prop) (hX164 : ∀ (v2 : Int) (M : zMem), X164 v2 M → zJ p l e (zRoom 6 143 0 0) s m args below meth c G 3 0 0 (MQ below (zQi G (Qr)) args s 0 0 (zA G)) 164 [some (.inr 639), none, some (.inl v2)] [] M), T_X10_compact_227 v2 s1 s2 X164 Qr M → zJ p l e (zRoom 6 143 0 0) s m args below meth c G 3 0 0 (MQ below (zQi G (Qr)) args s 0 0 (zA G)) 227 [some (.inr 639), none, some (.inl v2)] [.inl s2, .inl s1, .inr 583] M := by
    intro M v2 s1 s2 X164 hX164 h
    unfold T_X10_compact_227 at h
    refine zj_iast (pc := 227) hc dX10_compact_227 alen_583 h.1 (fun M1 hM1 => ?_)
    have h := h.2 M1 hM1
    refine zj_iinc (pc := 228) hc dX10_compact_228 rfl (by decide) h.1 ?_
    have h := h.2
    refine zj_goto (pc := 231) (tgt := 164) hc dX10_compact_231 (by decide) ?_
    exact hX164 (v2 + 1) M1 h
  have k164 : ∀ (M : zMem) (v2 : Int), T_X10_compact_164 Qr v2 M → zJ p l e (zRoom 6 143 0 0) s m args below meth c G 3 0 0 (MQ below (zQi G (Qr)) args s 0 0 (zA G)) 164 [some (.inr 639), none, some (.inl v2)] [] M := by
    intro M v2 h
    unfold T_X10_compact_164 at h
    refine zl1_use h (fun v2 M => zJ p l e (zRoom 6 143 0 0) s m args below meth c G 3 0 0 (MQ below (zQi G (Qr)) args s 0 0 (zA G)) 164 [some (.inr 639), none, some (.inl v2)] [] M) (fun X164 hX164 v2 M h => ?_)
    refine zj_iload_n (pc := 164) hc dX10_compact_164 rfl ?_
    refine zj_aload_n (pc := 165) hc dX10_compact_165 rfl ?_
    refine zg_9_24 (pc := 166) hc lk_X10_215 dX10_compact_166 ?_
    refine zj_icmp_ge (pc := 169) (tgt := 234) hc dX10_compact_169 (by decide) (fun hx2 => ?_) (fun hx2 => ?_)
    · have h := h.1 hx2
      refine zj_aload_n (pc := 234) hc dX10_compact_234 rfl ?_
      refine zj_iconst (pc := 235) hc dX10_compact_235 (zin _ rfl) ?_
      refine zj_aload_n (pc := 236) hc dX10_compact_236 rfl ?_
      refine zg_9_24 (pc := 237) hc lk_X10_215 dX10_compact_237 ?_
      refine zj_ishl (pc := 240) hc dX10_compact_240 ?_
      refine zj_iconst (pc := 241) hc dX10_compact_241 (zin _ rfl) ?_
      refine zj_isub (pc := 242) hc dX10_compact_242 h.1 ?_
      have h := h.2
      refine zs_9_30 (pc := 243) hc lk_X10_221 dX10_compact_243 (fun M3 hM3 => ?_)
      have h := h M3 hM3
      refine zj_aload_n (pc := 246) hc dX10_compact_246 rfl ?_
      refine zj_iconst (pc := 247) hc dX10_compact_247 (zin _ rfl) ?_
      refine zj_vtv (pc := 248) (st := []) hc ks_X10_keeps iv_X10_keeps lk_X10_305 (zrv_9 G M3) (S_X10_keeps l G 5 M3 _ h) rfl ⟨Nat.le_of_ble_eq_true rfl, Nat.le_of_ble_eq_true rfl⟩ (Nat.le_of_ble_eq_true rfl) ⟨Nat.le_of_ble_eq_true rfl, Nat.le_of_ble_eq_true rfl⟩ dX10_compact_248 rfl (fun M4 h => ?_)
      refine zj_aload_n (pc := 251) hc dX10_compact_251 rfl ?_
      refine zj_vtv (pc := 252) (st := []) hc ks_X10_beginsWriting iv_X10_beginsWriting lk_X10_308 (zrv_9 G M4) (S_X10_beginsWriting l G M4 _ h) rfl ⟨Nat.le_of_ble_eq_true rfl, Nat.le_of_ble_eq_true rfl⟩ (Nat.le_of_ble_eq_true rfl) ⟨Nat.le_of_ble_eq_true rfl, Nat.le_of_ble_eq_true rfl⟩ dX10_compact_252 rfl (fun M5 h => ?_)
      refine zj_aload_n (pc := 255) hc dX10_compact_255 rfl ?_
      refine zj_vtv (pc := 256) (st := []) hc ks_X10_throughJournal iv_X10_throughJournal lk_X10_311 (zrv_9 G M5) (S_X10_throughJournal l G M5 _ h) rfl ⟨Nat.le_of_ble_eq_true rfl, Nat.le_of_ble_eq_true rfl⟩ (Nat.le_of_ble_eq_true rfl) ⟨Nat.le_of_ble_eq_true rfl, Nat.le_of_ble_eq_true rfl⟩ dX10_compact_256 rfl (fun M6 h => ?_)
      refine zj_aload_n (pc := 259) hc dX10_compact_259 rfl ?_
      refine zj_iconst (pc := 260) hc dX10_compact_260 (zin _ rfl) ?_
      refine zs_9_36 (pc := 261) hc lk_X10_91 dX10_compact_261 (fun M7 hM7 => ?_)
      have h := h M7 hM7
      refine zj_aload_n (pc := 264) hc dX10_compact_264 rfl ?_
      refine zj_aload_n (pc := 265) hc dX10_compact_265 rfl ?_
      refine zg_9_24 (pc := 266) hc lk_X10_215 dX10_compact_266 ?_
      refine zj_vti (pc := 269) (st := []) hc ks_X10_ends iv_X10_ends lk_X10_314 (zrv_9 G M7) (S_X10_ends l G (M7.1 600) M7 _ h) rfl ⟨Nat.le_of_ble_eq_true rfl, Nat.le_of_ble_eq_true rfl⟩ (Nat.le_of_ble_eq_true rfl) ⟨Nat.le_of_ble_eq_true rfl, Nat.le_of_ble_eq_true rfl⟩ dX10_compact_269 rfl (fun y8 M9 h => ?_)
      exact zj_iret (pc := 272) hc hr hlk dX10_compact_272 (by decide) (by decide) h
    · have h := h.2 hx2
      refine zj_aload_n (pc := 172) hc dX10_compact_172 rfl ?_
      refine zj_iload_n (pc := 173) hc dX10_compact_173 rfl ?_
      refine zj_aload_n (pc := 174) hc dX10_compact_174 rfl ?_
      refine zg_9_22 (pc := 175) hc lk_X10_53 dX10_compact_175 ?_
      refine zj_iload_n (pc := 178) hc dX10_compact_178 rfl ?_
      refine zj_iald (pc := 179) hc dX10_compact_179 alen_598 h.1 ?_
      have h := h.2
      refine zj_aload_n (pc := 180) hc dX10_compact_180 rfl ?_
      refine zg_9_23 (pc := 181) hc lk_X10_56 dX10_compact_181 ?_
      refine zj_iload_n (pc := 184) hc dX10_compact_184 rfl ?_
      refine zj_iald (pc := 185) hc dX10_compact_185 alen_599 h.1 ?_
      have h := h.2
      refine zj_vtv (pc := 186) (st := []) hc ks_X10_shapes iv_X10_shapes lk_X10_254 (zrv_9 G M) (S_X10_shapes l G v2 (M.2 598 v2) (M.2 599 v2) M _ h) rfl ⟨Nat.le_of_ble_eq_true rfl, Nat.le_of_ble_eq_true rfl⟩ (Nat.le_of_ble_eq_true rfl) ⟨Nat.le_of_ble_eq_true rfl, Nat.le_of_ble_eq_true rfl⟩ dX10_compact_186 rfl (fun M10 h => ?_)
      refine zj_aload_n (pc := 189) hc dX10_compact_189 rfl ?_
      refine zg_9_7 (pc := 190) hc lk_X10_25 dX10_compact_190 ?_
      refine zj_sipush (pc := 193) hc dX10_compact_193 (by decide) (zin _ rfl) ?_
      refine zj_iconst (pc := 196) hc dX10_compact_196 (zin _ rfl) ?_
      refine zj_iload_n (pc := 197) hc dX10_compact_197 rfl ?_
      refine zj_imul (pc := 198) hc dX10_compact_198 h.1 ?_
      have h := h.2
      refine zj_iadd (pc := 199) hc dX10_compact_199 h.1 ?_
      have h := h.2
      refine zj_iload_n (pc := 200) hc dX10_compact_200 rfl ?_
      refine zj_iast (pc := 201) hc dX10_compact_201 alen_583 h.1 (fun M11 hM11 => ?_)
      have h := h.2 M11 hM11
      refine zj_aload_n (pc := 202) hc dX10_compact_202 rfl ?_
      refine zg_9_7 (pc := 203) hc lk_X10_25 dX10_compact_203 ?_
      refine zj_sipush (pc := 206) hc dX10_compact_206 (by decide) (zin _ rfl) ?_
      refine zj_iconst (pc := 209) hc dX10_compact_209 (zin _ rfl) ?_
      refine zj_iload_n (pc := 210) hc dX10_compact_210 rfl ?_
      refine zj_imul (pc := 211) hc dX10_compact_211 h.1 ?_
      have h := h.2
      refine zj_iadd (pc := 212) hc dX10_compact_212 h.1 ?_
      have h := h.2
      refine zj_iload_n (pc := 213) hc dX10_compact_213 rfl ?_
      refine zj_if_ne (pc := 214) (tgt := 221) hc dX10_compact_214 (by decide) (fun hx12 => ?_) (fun hx12 => ?_)
      · have h := h.1 hx12
        refine zj_aload_n (pc := 221) hc dX10_compact_221 rfl ?_
        refine zg_9_22 (pc := 222) hc lk_X10_53 dX10_compact_222 ?_
        refine zj_iload_n (pc := 225) hc dX10_compact_225 rfl ?_
        refine zj_iald (pc := 226) hc dX10_compact_226 alen_598 h.1 ?_
        have h := h.2
        exact k227 M11 v2 (642 + (2 * v2)) (M11.2 598 v2) X164 hX164 h
      · have h := h.2 hx12
        refine zj_iconst (pc := 217) hc dX10_compact_217 (zin _ rfl) ?_
        refine zj_goto (pc := 218) (tgt := 227) hc dX10_compact_218 (by decide) ?_
        exact k227 M11 v2 (642 + (2 * v2)) 0 X164 hX164 h
  have k150 : ∀ (M : zMem), T_X10_compact_150 Qr M → zJ p l e (zRoom 6 143 0 0) s m args below meth c G 3 0 0 (MQ below (zQi G (Qr)) args s 0 0 (zA G)) 150 [some (.inr 639), none, none] [] M := by
    intro M h
    unfold T_X10_compact_150 at h
    refine zj_aload_n (pc := 150) hc dX10_compact_150 rfl ?_
    refine zg_9_7 (pc := 151) hc lk_X10_25 dX10_compact_151 ?_
    refine zj_sipush (pc := 154) hc dX10_compact_154 (by decide) (zin _ rfl) ?_
    refine zj_aload_n (pc := 157) hc dX10_compact_157 rfl ?_
    refine zg_9_24 (pc := 158) hc lk_X10_215 dX10_compact_158 ?_
    refine zj_iast (pc := 161) hc dX10_compact_161 alen_583 h.1 (fun M13 hM13 => ?_)
    have h := h.2 M13 hM13
    refine zj_iconst (pc := 162) hc dX10_compact_162 (zin _ rfl) ?_
    refine zj_istore_n (pc := 163) hc dX10_compact_163 (by decide) ?_
    exact k164 M13 0 h
  have k45 : ∀ (M : zMem) (v1 : Int), T_X10_compact_45 Qr v1 M → zJ p l e (zRoom 6 143 0 0) s m args below meth c G 3 0 0 (MQ below (zQi G (Qr)) args s 0 0 (zA G)) 45 [some (.inr 639), some (.inl v1), none] [] M := by
    intro M v1 h
    unfold T_X10_compact_45 at h
    refine zl1_use h (fun v1 M => zJ p l e (zRoom 6 143 0 0) s m args below meth c G 3 0 0 (MQ below (zQi G (Qr)) args s 0 0 (zA G)) 45 [some (.inr 639), some (.inl v1), none] [] M) (fun X45 hX45 v1 M h => ?_)
    refine zj_iload_n (pc := 45) hc dX10_compact_45 rfl ?_
    refine zj_sipush (pc := 46) hc dX10_compact_46 (by decide) (zin _ rfl) ?_
    refine zj_icmp_ge (pc := 49) (tgt := 108) hc dX10_compact_49 (by decide) (fun hx14 => ?_) (fun hx14 => ?_)
    · have h := h.1 hx14
      refine zj_aload_n (pc := 108) hc dX10_compact_108 rfl ?_
      refine zg_9_24 (pc := 109) hc lk_X10_215 dX10_compact_109 ?_
      refine zj_bipush (pc := 112) hc dX10_compact_112 (by decide) (zin _ rfl) ?_
      refine zj_icmp_le (pc := 114) (tgt := 124) hc dX10_compact_114 (by decide) (fun hx15 => ?_) (fun hx15 => ?_)
      · have h := h.1 hx15
        refine zj_aload_n (pc := 124) hc dX10_compact_124 rfl ?_
        refine zg_9_24 (pc := 125) hc lk_X10_215 dX10_compact_125 ?_
        refine zj_if_ne (pc := 128) (tgt := 150) hc dX10_compact_128 (by decide) (fun hx16 => ?_) (fun hx16 => ?_)
        · have h := h.1 hx16
          refine zj_mask (bs := [true, false, true]) ?_
          exact k150 M h
        · have h := h.2 hx16
          refine zj_aload_n (pc := 131) hc dX10_compact_131 rfl ?_
          refine zg_9_22 (pc := 132) hc lk_X10_53 dX10_compact_132 ?_
          refine zj_iconst (pc := 135) hc dX10_compact_135 (zin _ rfl) ?_
          refine zj_iconst (pc := 136) hc dX10_compact_136 (zin _ rfl) ?_
          refine zj_iast (pc := 137) hc dX10_compact_137 alen_598 h.1 (fun M17 hM17 => ?_)
          have h := h.2 M17 hM17
          refine zj_aload_n (pc := 138) hc dX10_compact_138 rfl ?_
          refine zg_9_23 (pc := 139) hc lk_X10_56 dX10_compact_139 ?_
          refine zj_iconst (pc := 142) hc dX10_compact_142 (zin _ rfl) ?_
          refine zj_iconst (pc := 143) hc dX10_compact_143 (zin _ rfl) ?_
          refine zj_iast (pc := 144) hc dX10_compact_144 alen_599 h.1 (fun M18 hM18 => ?_)
          have h := h.2 M18 hM18
          refine zj_aload_n (pc := 145) hc dX10_compact_145 rfl ?_
          refine zj_iconst (pc := 146) hc dX10_compact_146 (zin _ rfl) ?_
          refine zs_9_24 (pc := 147) hc lk_X10_215 dX10_compact_147 (fun M19 hM19 => ?_)
          have h := h M19 hM19
          refine zj_mask (bs := [true, false, true]) ?_
          exact k150 M19 h
      · have h := h.2 hx15
        refine zj_aload_n (pc := 117) hc dX10_compact_117 rfl ?_
        refine zj_bipush (pc := 118) hc dX10_compact_118 (by decide) (zin _ rfl) ?_
        refine zj_vti (pc := 120) (st := []) hc ks_X10_refuses iv_X10_refuses lk_X10_87 (zrv_9 G M) (S_X10_refuses l G (-5) M _ h) rfl ⟨Nat.le_of_ble_eq_true rfl, Nat.le_of_ble_eq_true rfl⟩ (Nat.le_of_ble_eq_true rfl) ⟨Nat.le_of_ble_eq_true rfl, Nat.le_of_ble_eq_true rfl⟩ dX10_compact_120 rfl (fun y20 M21 h => ?_)
        exact zj_iret (pc := 123) hc hr hlk dX10_compact_123 (by decide) (by decide) h
    · have h := h.2 hx14
      refine zj_aload_n (pc := 52) hc dX10_compact_52 rfl ?_
      refine zg_9_22 (pc := 53) hc lk_X10_53 dX10_compact_53 ?_
      refine zj_aload_n (pc := 56) hc dX10_compact_56 rfl ?_
      refine zg_9_24 (pc := 57) hc lk_X10_215 dX10_compact_57 ?_
      refine zj_iload_n (pc := 60) hc dX10_compact_60 rfl ?_
      refine zj_iast (pc := 61) hc dX10_compact_61 alen_598 h.1 (fun M22 hM22 => ?_)
      have h := h.2 M22 hM22
      refine zj_aload_n (pc := 62) hc dX10_compact_62 rfl ?_
      refine zg_9_23 (pc := 63) hc lk_X10_56 dX10_compact_63 ?_
      refine zj_aload_n (pc := 66) hc dX10_compact_66 rfl ?_
      refine zg_9_24 (pc := 67) hc lk_X10_215 dX10_compact_67 ?_
      refine zj_aload_n (pc := 70) hc dX10_compact_70 rfl ?_
      refine zj_iload_n (pc := 71) hc dX10_compact_71 rfl ?_
      refine zj_vti (pc := 72) (st := [.inl (M22.1 600), .inr 599]) hc ks_X10_lastTogether iv_X10_lastTogether lk_X10_343 (zrv_9 G M22) (S_X10_lastTogether l G v1 M22 _ h) rfl ⟨Nat.le_of_ble_eq_true rfl, Nat.le_of_ble_eq_true rfl⟩ (Nat.le_of_ble_eq_true rfl) ⟨Nat.le_of_ble_eq_true rfl, Nat.le_of_ble_eq_true rfl⟩ dX10_compact_72 rfl (fun y23 M24 h => ?_)
      refine zj_iast (pc := 75) hc dX10_compact_75 alen_599 h.1 (fun M25 hM25 => ?_)
      have h := h.2 M25 hM25
      refine zj_aload_n (pc := 76) hc dX10_compact_76 rfl ?_
      refine zj_aload_n (pc := 77) hc dX10_compact_77 rfl ?_
      refine zg_9_23 (pc := 78) hc lk_X10_56 dX10_compact_78 ?_
      refine zj_aload_n (pc := 81) hc dX10_compact_81 rfl ?_
      refine zg_9_24 (pc := 82) hc lk_X10_215 dX10_compact_82 ?_
      refine zj_iald (pc := 85) hc dX10_compact_85 alen_599 h.1 ?_
      have h := h.2
      refine zj_iconst (pc := 86) hc dX10_compact_86 (zin _ rfl) ?_
      refine zj_iadd (pc := 87) hc dX10_compact_87 h.1 ?_
      have h := h.2
      refine zj_sipush (pc := 88) hc dX10_compact_88 (by decide) (zin _ rfl) ?_
      refine zj_vti (pc := 91) (st := []) hc ks_X10_lowestKey iv_X10_lowestKey lk_X10_258 (zrv_9 G M25) (S_X10_lowestKey l G ((M25.2 599 (M25.1 600)) + 1) 256 M25 _ h) rfl ⟨Nat.le_of_ble_eq_true rfl, Nat.le_of_ble_eq_true rfl⟩ (Nat.le_of_ble_eq_true rfl) ⟨Nat.le_of_ble_eq_true rfl, Nat.le_of_ble_eq_true rfl⟩ dX10_compact_91 rfl (fun y26 M9 h => ?_)
      obtain ⟨hM9, h⟩ := h
      subst hM9
      refine zj_istore_n (pc := 94) hc dX10_compact_94 (by decide) ?_
      refine zj_aload_n (pc := 95) hc dX10_compact_95 rfl ?_
      refine zj_dup (pc := 96) hc dX10_compact_96 ?_
      refine zg_9_24 (pc := 97) hc lk_X10_215 dX10_compact_97 ?_
      refine zj_iconst (pc := 100) hc dX10_compact_100 (zin _ rfl) ?_
      refine zj_iadd (pc := 101) hc dX10_compact_101 h.1 ?_
      have h := h.2
      refine zs_9_24 (pc := 102) hc lk_X10_215 dX10_compact_102 (fun M27 hM27 => ?_)
      have h := h M27 hM27
      refine zj_goto (pc := 105) (tgt := 45) hc dX10_compact_105 (by decide) ?_
      exact hX45 y26 M27 h
  unfold T_X10_compact at h
  refine zj_aload_n (pc := 0) hc dX10_compact_0 rfl ?_
  refine zj_iconst (pc := 1) hc dX10_compact_1 (zin _ rfl) ?_
  refine zs_9_0 (pc := 2) hc lk_X10_77 dX10_compact_2 (fun M28 hM28 => ?_)
  have h := h M28 hM28
  refine zj_aload_n (pc := 5) hc dX10_compact_5 rfl ?_
  refine zj_vti (pc := 6) (st := []) hc ks_X10_isDown iv_X10_isDown lk_X10_292 (zrv_9 G M28) (S_X10_isDown l G M28 _ h) rfl ⟨Nat.le_of_ble_eq_true rfl, Nat.le_of_ble_eq_true rfl⟩ (Nat.le_of_ble_eq_true rfl) ⟨Nat.le_of_ble_eq_true rfl, Nat.le_of_ble_eq_true rfl⟩ dX10_compact_6 rfl (fun y29 M9 h => ?_)
  obtain ⟨hM9, h⟩ := h
  subst hM9
  refine zj_if_eq (pc := 9) (tgt := 19) hc dX10_compact_9 (by decide) (fun hx30 => ?_) (fun hx30 => ?_)
  · have h := h.1 hx30
    refine zj_aload_n (pc := 19) hc dX10_compact_19 rfl ?_
    refine zj_vtv (pc := 20) (st := []) hc ks_X10_drafts iv_X10_drafts lk_X10_299 (zrv_9 G M28) (S_X10_drafts l G M28 _ h) rfl ⟨Nat.le_of_ble_eq_true rfl, Nat.le_of_ble_eq_true rfl⟩ (Nat.le_of_ble_eq_true rfl) ⟨Nat.le_of_ble_eq_true rfl, Nat.le_of_ble_eq_true rfl⟩ dX10_compact_20 rfl (fun M31 h => ?_)
    refine zj_aload_n (pc := 23) hc dX10_compact_23 rfl ?_
    refine zj_aload_n (pc := 24) hc dX10_compact_24 rfl ?_
    refine zg_9_7 (pc := 25) hc lk_X10_25 dX10_compact_25 ?_
    refine zj_vtv (pc := 28) (st := []) hc ks_X10_laysAll iv_X10_laysAll lk_X10_339 (zrv_9 G M31) (S_X10_laysAll l G 583 M31 _ h) rfl ⟨Nat.le_of_ble_eq_true rfl, Nat.le_of_ble_eq_true rfl⟩ (Nat.le_of_ble_eq_true rfl) ⟨Nat.le_of_ble_eq_true rfl, Nat.le_of_ble_eq_true rfl⟩ dX10_compact_28 rfl (fun M32 h => ?_)
    refine zj_aload_n (pc := 31) hc dX10_compact_31 rfl ?_
    refine zj_iconst (pc := 32) hc dX10_compact_32 (zin _ rfl) ?_
    refine zs_9_24 (pc := 33) hc lk_X10_215 dX10_compact_33 (fun M33 hM33 => ?_)
    have h := h M33 hM33
    refine zj_aload_n (pc := 36) hc dX10_compact_36 rfl ?_
    refine zj_iconst (pc := 37) hc dX10_compact_37 (zin _ rfl) ?_
    refine zj_sipush (pc := 38) hc dX10_compact_38 (by decide) (zin _ rfl) ?_
    refine zj_vti (pc := 41) (st := []) hc ks_X10_lowestKey iv_X10_lowestKey lk_X10_258 (zrv_9 G M33) (S_X10_lowestKey l G 0 256 M33 _ h) rfl ⟨Nat.le_of_ble_eq_true rfl, Nat.le_of_ble_eq_true rfl⟩ (Nat.le_of_ble_eq_true rfl) ⟨Nat.le_of_ble_eq_true rfl, Nat.le_of_ble_eq_true rfl⟩ dX10_compact_41 rfl (fun y34 M9 h => ?_)
    obtain ⟨hM9, h⟩ := h
    subst hM9
    refine zj_istore_n (pc := 44) hc dX10_compact_44 (by decide) ?_
    exact k45 M33 y34 h
  · have h := h.2 hx30
    refine zj_aload_n (pc := 12) hc dX10_compact_12 rfl ?_
    refine zj_bipush (pc := 13) hc dX10_compact_13 (by decide) (zin _ rfl) ?_
    refine zj_vti (pc := 15) (st := []) hc ks_X10_refuses iv_X10_refuses lk_X10_87 (zrv_9 G M28) (S_X10_refuses l G (-3) M28 _ h) rfl ⟨Nat.le_of_ble_eq_true rfl, Nat.le_of_ble_eq_true rfl⟩ (Nat.le_of_ble_eq_true rfl) ⟨Nat.le_of_ble_eq_true rfl, Nat.le_of_ble_eq_true rfl⟩ dX10_compact_15 rfl (fun y35 M36 h => ?_)
    exact zj_iret (pc := 18) hc hr hlk dX10_compact_18 (by decide) (by decide) h
