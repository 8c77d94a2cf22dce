set_option maxHeartbeats 4000000 in
set_option maxRecDepth 100000 in
theorem S_X1_writeBlock (l : Launch) (G : zG) (v1 : Int) (M : zMem) (Qr : zMem → Prop) (h : T_X1_writeBlock v1 Qr M) : zMetV l yX1_writeBlock cX1_writeBlock 4 none 2 46 0 0 G [.inr 191, .inl v1] M Qr := by
  refine zmetV (by decide) (Nat.le_of_ble_eq_true rfl) [some (.inr 191), some (.inl v1), none, none] rfl ?_
  intro p e s m args below meth c hc hr hlk
  unfold T_X1_writeBlock at h
  refine zj_iload_n (pc := 0) hc dX1_writeBlock_0 rfl ?_
  refine zj_bipush (pc := 1) hc dX1_writeBlock_1 (by decide) (zin _ rfl) ?_
  refine zj_imul (pc := 3) hc dX1_writeBlock_3 h.1 ?_
  have h := h.2
  refine zj_istore_n (pc := 4) hc dX1_writeBlock_4 (by decide) ?_
  refine zj_aload_n (pc := 5) hc dX1_writeBlock_5 rfl ?_
  refine zg_2_7 (pc := 6) hc lk_X1_38 dX1_writeBlock_6 ?_
  refine zj_bipush (pc := 9) hc dX1_writeBlock_9 (by decide) (zin _ rfl) ?_
  refine zj_min (pc := 11) hc dX1_writeBlock_11 lk_X1_145 st_min in_Math co_min (Nat.le_of_ble_eq_true rfl) (Nat.le_of_ble_eq_true rfl) ⟨Nat.le_of_ble_eq_true rfl, Nat.le_of_ble_eq_true rfl⟩ ?_
  refine zj_istore_n (pc := 14) hc dX1_writeBlock_14 (by decide) ?_
  refine zj_aload_n (pc := 15) hc dX1_writeBlock_15 rfl ?_
  refine zg_2_0 (pc := 16) hc lk_X1_9 dX1_writeBlock_16 ?_
  refine zj_iload_n (pc := 19) hc dX1_writeBlock_19 rfl ?_
  refine zj_iload_n (pc := 20) hc dX1_writeBlock_20 rfl ?_
  refine zj_bipush (pc := 21) hc dX1_writeBlock_21 (by decide) (zin _ rfl) ?_
  refine zj_iadd (pc := 23) hc dX1_writeBlock_23 h.1 ?_
  have h := h.2
  refine zj_iconst (pc := 24) hc dX1_writeBlock_24 (zin _ rfl) ?_
  refine zj_stv (pc := 25) (st := []) hc ks_J7_fill_fda19 st_J7_fill_fda19 lk_X1_153 (S_J7_fill_fda19 l G 128 (v1 * 64) ((v1 * 64) + 64) 0 M _ h) rfl ⟨Nat.le_of_ble_eq_true rfl, Nat.le_of_ble_eq_true rfl⟩ (Nat.le_of_ble_eq_true rfl) ⟨Nat.le_of_ble_eq_true rfl, Nat.le_of_ble_eq_true rfl⟩ dX1_writeBlock_25 rfl (fun M1 h => ?_)
  refine zj_aload_n (pc := 28) hc dX1_writeBlock_28 rfl ?_
  refine zg_2_0 (pc := 29) hc lk_X1_9 dX1_writeBlock_29 ?_
  refine zj_iload_n (pc := 32) hc dX1_writeBlock_32 rfl ?_
  refine zj_aload_n (pc := 33) hc dX1_writeBlock_33 rfl ?_
  refine zg_2_4 (pc := 34) hc lk_X1_28 dX1_writeBlock_34 ?_
  refine zg_3_0 (pc := 37) hc lk_X1_125 dX1_writeBlock_37 ?_
  refine zg_4_3 (pc := 40) hc lk_X1_156 dX1_writeBlock_40 ?_
  refine zj_iast (pc := 43) hc dX1_writeBlock_43 alen_128 h.1 (fun M2 hM2 => ?_)
  have h := h.2 M2 hM2
  refine zj_aload_n (pc := 44) hc dX1_writeBlock_44 rfl ?_
  refine zg_2_0 (pc := 45) hc lk_X1_9 dX1_writeBlock_45 ?_
  refine zj_iload_n (pc := 48) hc dX1_writeBlock_48 rfl ?_
  refine zj_iconst (pc := 49) hc dX1_writeBlock_49 (zin _ rfl) ?_
  refine zj_iadd (pc := 50) hc dX1_writeBlock_50 h.1 ?_
  have h := h.2
  refine zj_iload_n (pc := 51) hc dX1_writeBlock_51 rfl ?_
  refine zj_iast (pc := 52) hc dX1_writeBlock_52 alen_128 h.1 (fun M3 hM3 => ?_)
  have h := h.2 M3 hM3
  refine zj_aload_n (pc := 53) hc dX1_writeBlock_53 rfl ?_
  refine zg_2_4 (pc := 54) hc lk_X1_28 dX1_writeBlock_54 ?_
  refine zg_3_0 (pc := 57) hc lk_X1_125 dX1_writeBlock_57 ?_
  refine zg_4_0 (pc := 60) hc lk_X1_159 dX1_writeBlock_60 ?_
  refine zj_iconst (pc := 63) hc dX1_writeBlock_63 (zin _ rfl) ?_
  refine zj_aload_n (pc := 64) hc dX1_writeBlock_64 rfl ?_
  refine zg_2_0 (pc := 65) hc lk_X1_9 dX1_writeBlock_65 ?_
  refine zj_iload_n (pc := 68) hc dX1_writeBlock_68 rfl ?_
  refine zj_iconst (pc := 69) hc dX1_writeBlock_69 (zin _ rfl) ?_
  refine zj_iadd (pc := 70) hc dX1_writeBlock_70 h.1 ?_
  have h := h.2
  refine zj_iload_n (pc := 71) hc dX1_writeBlock_71 rfl ?_
  refine zj_copy (pc := 72) hc dX1_writeBlock_72 lk_X1_41 na_copy st_copy in_System alen_256 alen_128 h.1 (Nat.le_of_ble_eq_true rfl) (Nat.le_of_ble_eq_true rfl) (fun M4 hM4 => ?_)
  have h := h.2 M4 hM4
  refine zj_aload_n (pc := 75) hc dX1_writeBlock_75 rfl ?_
  refine zg_2_2 (pc := 76) hc lk_X1_18 dX1_writeBlock_76 ?_
  refine zj_iload_n (pc := 79) hc dX1_writeBlock_79 rfl ?_
  refine zj_iconst (pc := 80) hc dX1_writeBlock_80 (zin _ rfl) ?_
  refine zj_iast (pc := 81) hc dX1_writeBlock_81 alen_130 h.1 (fun M5 hM5 => ?_)
  have h := h.2 M5 hM5
  exact zj_vret (pc := 82) hc hr hlk dX1_writeBlock_82 (by decide) (by decide) h
set_option maxHeartbeats 4000000 in
set_option maxRecDepth 100000 in
theorem S_X1_spread (l : Launch) (G : zG) (v1 : Int) (M : zMem) (Qr : Int → zMem → Prop) (h : T_X1_spread v1 Qr M) : zMetI l yX1_spread cX1_spread 7 (some .int) 4 106 0 0 G [.inr 191, .inl v1] M Qr := by
  refine zmetI (by decide) (Nat.le_of_ble_eq_true rfl) [some (.inr 191), some (.inl v1), none, none, none, none, none] rfl ?_
  intro p e s m args below meth c hc hr hlk
  have k142 : ∀ (M : zMem) (v2 : Int), T_X1_spread_142 v2 Qr M → zJ p l e (zRoom 4 106 0 0) s m args below meth c G 7 0 0 (MQ below (zQi G (Qr)) args s 0 0 (zA G)) 142 [none, none, some (.inl v2), none, none, none, none] [] M := by
    intro M v2 h
    unfold T_X1_spread_142 at h
    refine zj_iload_n (pc := 142) hc dX1_spread_142 rfl ?_
    refine zj_iconst (pc := 143) hc dX1_spread_143 (zin _ rfl) ?_
    refine zj_icmp_ne (pc := 144) (tgt := 151) hc dX1_spread_144 (by decide) (fun hx1 => ?_) (fun hx1 => ?_)
    · have h := h.1 hx1
      refine zj_bipush (pc := 151) hc dX1_spread_151 (by decide) (zin _ rfl) ?_
      refine zj_iload_n (pc := 153) hc dX1_spread_153 rfl ?_
      refine zj_iadd (pc := 154) hc dX1_spread_154 h.1 ?_
      have h := h.2
      exact zj_iret (pc := 155) hc hr hlk dX1_spread_155 (by decide) (by decide) h
    · have h := h.2 hx1
      refine zj_iconst (pc := 147) hc dX1_spread_147 (zin _ rfl) ?_
      refine zj_goto (pc := 148) (tgt := 155) hc dX1_spread_148 (by decide) ?_
      exact zj_iret (pc := 155) hc hr hlk dX1_spread_155 (by decide) (by decide) h
  have k136 : ∀ (M : zMem) (v1 : Int) (v2 : Int) (v3 : Int) (v4 : Int) (v5 : Int) (X19 : Int → Int → Int → Int → zMem → Prop) (hX19 : ∀ (v2 : Int) (v3 : Int) (v4 : Int) (v5 : Int) (M : zMem), X19 v2 v3 v4 v5 M → zJ p l e (zRoom 4 106 0 0) s m args below meth c G 7 0 0 (MQ below (zQi G (Qr)) args s 0 0 (zA G)) 19 [some (.inr 191), some (.inl v1), some (.inl v2), some (.inl v3), some (.inl v4), some (.inl v5), none] [] M), T_X1_spread_136 v1 v2 v3 v4 v5 X19 Qr M → zJ p l e (zRoom 4 106 0 0) s m args below meth c G 7 0 0 (MQ below (zQi G (Qr)) args s 0 0 (zA G)) 136 [some (.inr 191), some (.inl v1), some (.inl v2), some (.inl v3), some (.inl v4), some (.inl v5), none] [] M := by
    intro M v1 v2 v3 v4 v5 X19 hX19 h
    unfold T_X1_spread_136 at h
    refine zj_iinc (pc := 136) hc dX1_spread_136 rfl (by decide) h.1 ?_
    have h := h.2
    refine zj_goto (pc := 139) (tgt := 19) hc dX1_spread_139 (by decide) ?_
    exact hX19 v2 v3 v4 (v5 + 1) M h
  have k80 : ∀ (M : zMem) (v1 : Int) (v2 : Int) (v4 : Int) (v5 : Int) (v6 : Int) (X19 : Int → Int → Int → Int → zMem → Prop) (hX19 : ∀ (v2 : Int) (v3 : Int) (v4 : Int) (v5 : Int) (M : zMem), X19 v2 v3 v4 v5 M → zJ p l e (zRoom 4 106 0 0) s m args below meth c G 7 0 0 (MQ below (zQi G (Qr)) args s 0 0 (zA G)) 19 [some (.inr 191), some (.inl v1), some (.inl v2), some (.inl v3), some (.inl v4), some (.inl v5), none] [] M), T_X1_spread_80 v1 v2 v4 v5 v6 X19 Qr M → zJ p l e (zRoom 4 106 0 0) s m args below meth c G 7 0 0 (MQ below (zQi G (Qr)) args s 0 0 (zA G)) 80 [some (.inr 191), some (.inl v1), some (.inl v2), none, some (.inl v4), some (.inl v5), some (.inl v6)] [] M := by
    intro M v1 v2 v4 v5 v6 X19 hX19 h
    unfold T_X1_spread_80 at h
    refine zj_aload_n (pc := 80) hc dX1_spread_80 rfl ?_
    refine zj_aload_n (pc := 81) hc dX1_spread_81 rfl ?_
    refine zg_2_0 (pc := 82) hc lk_X1_9 dX1_spread_82 ?_
    refine zj_iload_n (pc := 85) hc dX1_spread_85 rfl ?_
    refine zj_iload_n (pc := 86) hc dX1_spread_86 rfl ?_
    refine zj_iadd (pc := 87) hc dX1_spread_87 h.1 ?_
    have h := h.2
    refine zj_sti (pc := 88) (st := [.inr 191]) hc ks_X4_pageAt st_X4_pageAt lk_X1_65 (S_X4_pageAt l G 128 (v1 + v2) M _ h) rfl ⟨Nat.le_of_ble_eq_true rfl, Nat.le_of_ble_eq_true rfl⟩ (Nat.le_of_ble_eq_true rfl) ⟨Nat.le_of_ble_eq_true rfl, Nat.le_of_ble_eq_true rfl⟩ dX1_spread_88 rfl (fun y2 M9 h => ?_)
    obtain ⟨hM9, h⟩ := h
    subst hM9
    refine zj_vtv (pc := 91) (st := []) hc ks_X1_writeBlock iv_X1_writeBlock lk_X1_113 (zrv_2 G M) (S_X1_writeBlock l G y2 M _ h) rfl ⟨Nat.le_of_ble_eq_true rfl, Nat.le_of_ble_eq_true rfl⟩ (Nat.le_of_ble_eq_true rfl) ⟨Nat.le_of_ble_eq_true rfl, Nat.le_of_ble_eq_true rfl⟩ dX1_spread_91 rfl (fun M3 h => ?_)
    refine zj_iinc (pc := 94) hc dX1_spread_94 rfl (by decide) h.1 ?_
    have h := h.2
    refine zj_iload (pc := 97) hc dX1_spread_97 rfl ?_
    refine zj_istore_n (pc := 99) hc dX1_spread_99 (by decide) ?_
    refine zj_iinc (pc := 100) hc dX1_spread_100 rfl (by decide) h.1 ?_
    have h := h.2
    refine zj_goto (pc := 103) (tgt := 136) hc dX1_spread_103 (by decide) ?_
    refine zj_mask (bs := [true, true, true, true, true, true, false]) ?_
    exact k136 M3 v1 (v2 + 1) v6 (v4 + (-1)) v5 X19 hX19 h
  have k19 : ∀ (M : zMem) (v1 : Int) (v2 : Int) (v3 : Int) (v4 : Int) (v5 : Int), T_X1_spread_19 v1 Qr v2 v3 v4 v5 M → zJ p l e (zRoom 4 106 0 0) s m args below meth c G 7 0 0 (MQ below (zQi G (Qr)) args s 0 0 (zA G)) 19 [some (.inr 191), some (.inl v1), some (.inl v2), some (.inl v3), some (.inl v4), some (.inl v5), none] [] M := by
    intro M v1 v2 v3 v4 v5 h
    unfold T_X1_spread_19 at h
    refine zl4_use h (fun v2 v3 v4 v5 M => zJ p l e (zRoom 4 106 0 0) s m args below meth c G 7 0 0 (MQ below (zQi G (Qr)) args s 0 0 (zA G)) 19 [some (.inr 191), some (.inl v1), some (.inl v2), some (.inl v3), some (.inl v4), some (.inl v5), none] [] M) (fun X19 hX19 v2 v3 v4 v5 M h => ?_)
    refine zj_iload (pc := 19) hc dX1_spread_19 rfl ?_
    refine zj_sipush (pc := 21) hc dX1_spread_21 (by decide) (zin _ rfl) ?_
    refine zj_icmp_ge (pc := 24) (tgt := 142) hc dX1_spread_24 (by decide) (fun hx4 => ?_) (fun hx4 => ?_)
    · have h := h.1 hx4
      refine zj_mask (bs := [false, false, true, false, false, false, true]) ?_
      exact k142 M v2 h
    · have h := h.2 hx4
      refine zj_iload (pc := 27) hc dX1_spread_27 rfl ?_
      refine zj_if_le (pc := 29) (tgt := 142) hc dX1_spread_29 (by decide) (fun hx5 => ?_) (fun hx5 => ?_)
      · have h := h.1 hx5
        refine zj_mask (bs := [false, false, true, false, false, false, true]) ?_
        exact k142 M v2 h
      · have h := h.2 hx5
        refine zj_aload_n (pc := 32) hc dX1_spread_32 rfl ?_
        refine zg_2_6 (pc := 33) hc lk_X1_35 dX1_spread_33 ?_
        refine zj_iload (pc := 36) hc dX1_spread_36 rfl ?_
        refine zj_iconst (pc := 38) hc dX1_spread_38 (zin _ rfl) ?_
        refine zj_isub (pc := 39) hc dX1_spread_39 h.1 ?_
        have h := h.2
        refine zj_iald (pc := 40) hc dX1_spread_40 alen_134 h.1 ?_
        have h := h.2
        refine zj_istore (pc := 41) hc dX1_spread_41 (by decide) ?_
        refine zj_aload_n (pc := 43) hc dX1_spread_43 rfl ?_
        refine zj_iload_n (pc := 44) hc dX1_spread_44 rfl ?_
        refine zj_iload (pc := 45) hc dX1_spread_45 rfl ?_
        refine zj_vti (pc := 47) (st := []) hc ks_X1_tryShape iv_X1_tryShape lk_X1_103 (zrv_2 G M) (S_X1_tryShape l G v3 (M.2 134 (v4 - 1)) M _ h) rfl ⟨Nat.le_of_ble_eq_true rfl, Nat.le_of_ble_eq_true rfl⟩ (Nat.le_of_ble_eq_true rfl) ⟨Nat.le_of_ble_eq_true rfl, Nat.le_of_ble_eq_true rfl⟩ dX1_spread_47 rfl (fun y6 M7 h => ?_)
        refine zj_if_eq (pc := 50) (tgt := 106) hc dX1_spread_50 (by decide) (fun hx8 => ?_) (fun hx8 => ?_)
        · have h := h.1 hx8
          refine zj_iload (pc := 106) hc dX1_spread_106 rfl ?_
          refine zj_aload_n (pc := 108) hc dX1_spread_108 rfl ?_
          refine zg_2_6 (pc := 109) hc lk_X1_35 dX1_spread_109 ?_
          refine zj_alen (pc := 112) hc dX1_spread_112 alen_134 (by decide) ?_
          refine zj_icmp_ge (pc := 113) (tgt := 136) hc dX1_spread_113 (by decide) (fun hx9 => ?_) (fun hx9 => ?_)
          · have h := h.1 hx9
            refine zj_mask (bs := [true, true, true, true, true, true, false]) ?_
            exact k136 M7 v1 v2 v3 v4 v5 X19 hX19 h
          · have h := h.2 hx9
            refine zj_aload_n (pc := 116) hc dX1_spread_116 rfl ?_
            refine zg_2_6 (pc := 117) hc lk_X1_35 dX1_spread_117 ?_
            refine zj_iload (pc := 120) hc dX1_spread_120 rfl ?_
            refine zj_aload_n (pc := 122) hc dX1_spread_122 rfl ?_
            refine zg_2_4 (pc := 123) hc lk_X1_28 dX1_spread_123 ?_
            refine zj_iload_n (pc := 126) hc dX1_spread_126 rfl ?_
            refine zj_iload (pc := 127) hc dX1_spread_127 rfl ?_
            refine zj_vti (pc := 129) (st := [.inl v4, .inr 134]) hc ks_X8_cutOf iv_X8_cutOf lk_X1_116 (zrv_3 G M7) (S_X8_cutOf l G (Or.inl rfl) v3 (M.2 134 (v4 - 1)) M7 _ h) rfl ⟨Nat.le_of_ble_eq_true rfl, Nat.le_of_ble_eq_true rfl⟩ (Nat.le_of_ble_eq_true rfl) ⟨Nat.le_of_ble_eq_true rfl, Nat.le_of_ble_eq_true rfl⟩ dX1_spread_129 rfl (fun y10 M9 h => ?_)
            obtain ⟨hM9, h⟩ := h
            subst hM9
            refine zj_iast (pc := 132) hc dX1_spread_132 alen_134 h.1 (fun M11 hM11 => ?_)
            have h := h.2 M11 hM11
            refine zj_iinc (pc := 133) hc dX1_spread_133 rfl (by decide) h.1 ?_
            have h := h.2
            refine zj_mask (bs := [true, true, true, true, true, true, false]) ?_
            exact k136 M11 v1 v2 v3 (v4 + 1) v5 X19 hX19 h
        · have h := h.2 hx8
          refine zj_iload_n (pc := 53) hc dX1_spread_53 rfl ?_
          refine zj_if_le (pc := 54) (tgt := 80) hc dX1_spread_54 (by decide) (fun hx12 => ?_) (fun hx12 => ?_)
          · have h := h.1 hx12
            refine zj_mask (bs := [true, true, true, false, true, true, true]) ?_
            exact k80 M7 v1 v2 v4 v5 (M.2 134 (v4 - 1)) X19 hX19 h
          · have h := h.2 hx12
            refine zj_aload_n (pc := 57) hc dX1_spread_57 rfl ?_
            refine zj_iload_n (pc := 58) hc dX1_spread_58 rfl ?_
            refine zj_iload_n (pc := 59) hc dX1_spread_59 rfl ?_
            refine zj_iadd (pc := 60) hc dX1_spread_60 h.1 ?_
            have h := h.2
            refine zj_aload_n (pc := 61) hc dX1_spread_61 rfl ?_
            refine zg_2_4 (pc := 62) hc lk_X1_28 dX1_spread_62 ?_
            refine zj_iload_n (pc := 65) hc dX1_spread_65 rfl ?_
            refine zj_iload (pc := 66) hc dX1_spread_66 rfl ?_
            refine zj_vti (pc := 68) (st := [.inl (v1 + v2), .inr 191]) hc ks_X8_lowestIn iv_X8_lowestIn lk_X1_107 (zrv_3 G M7) (S_X8_lowestIn l G (Or.inl rfl) v3 (M.2 134 (v4 - 1)) M7 _ h) rfl ⟨Nat.le_of_ble_eq_true rfl, Nat.le_of_ble_eq_true rfl⟩ (Nat.le_of_ble_eq_true rfl) ⟨Nat.le_of_ble_eq_true rfl, Nat.le_of_ble_eq_true rfl⟩ dX1_spread_68 rfl (fun y13 M9 h => ?_)
            obtain ⟨hM9, h⟩ := h
            subst hM9
            refine zj_vti (pc := 71) (st := []) hc ks_X1_insertIntoDirectory iv_X1_insertIntoDirectory lk_X1_110 (zrv_2 G M7) (S_X1_insertIntoDirectory l G (v1 + v2) y13 M7 _ h) rfl ⟨Nat.le_of_ble_eq_true rfl, Nat.le_of_ble_eq_true rfl⟩ (Nat.le_of_ble_eq_true rfl) ⟨Nat.le_of_ble_eq_true rfl, Nat.le_of_ble_eq_true rfl⟩ dX1_spread_71 rfl (fun y14 M15 h => ?_)
            refine zj_if_ne (pc := 74) (tgt := 80) hc dX1_spread_74 (by decide) (fun hx16 => ?_) (fun hx16 => ?_)
            · have h := h.1 hx16
              refine zj_mask (bs := [true, true, true, false, true, true, true]) ?_
              exact k80 M15 v1 v2 v4 v5 (M.2 134 (v4 - 1)) X19 hX19 h
            · have h := h.2 hx16
              refine zj_bipush (pc := 77) hc dX1_spread_77 (by decide) (zin _ rfl) ?_
              exact zj_iret (pc := 79) hc hr hlk dX1_spread_79 (by decide) (by decide) h
  unfold T_X1_spread at h
  refine zj_iconst (pc := 0) hc dX1_spread_0 (zin _ rfl) ?_
  refine zj_istore_n (pc := 1) hc dX1_spread_1 (by decide) ?_
  refine zj_iconst (pc := 2) hc dX1_spread_2 (zin _ rfl) ?_
  refine zj_istore_n (pc := 3) hc dX1_spread_3 (by decide) ?_
  refine zj_iconst (pc := 4) hc dX1_spread_4 (zin _ rfl) ?_
  refine zj_istore (pc := 5) hc dX1_spread_5 (by decide) ?_
  refine zj_aload_n (pc := 7) hc dX1_spread_7 rfl ?_
  refine zg_2_6 (pc := 8) hc lk_X1_35 dX1_spread_8 ?_
  refine zj_iconst (pc := 11) hc dX1_spread_11 (zin _ rfl) ?_
  refine zj_sipush (pc := 12) hc dX1_spread_12 (by decide) (zin _ rfl) ?_
  refine zj_iast (pc := 15) hc dX1_spread_15 alen_134 h.1 (fun M17 hM17 => ?_)
  have h := h.2 M17 hM17
  refine zj_iconst (pc := 16) hc dX1_spread_16 (zin _ rfl) ?_
  refine zj_istore (pc := 17) hc dX1_spread_17 (by decide) ?_
  exact k19 M17 v1 0 0 1 0 h
set_option maxHeartbeats 4000000 in
set_option maxRecDepth 100000 in
theorem S_X1_edit (l : Launch) (G : zG) (r1 : Nat) (v2 : Int) (M : zMem) (Qr : Int → zMem → Prop) (h : T_X1_edit r1 v2 Qr M) : zMetI l yX1_edit cX1_edit 13 (some .int) 5 132 0 0 G [.inr 191, .inr r1, .inl v2] M Qr := by
  refine zmetI (by decide) (Nat.le_of_ble_eq_true rfl) [some (.inr 191), some (.inr r1), some (.inl v2), none, none, none, none, none, none, none, none, none, none] rfl ?_
  intro p e s m args below meth c hc hr hlk
  have k229 : ∀ (M : zMem) (r1 : Nat) (v2 : Int) (v3 : Int) (v10 : Int), T_X1_edit_229 r1 v2 v3 v10 Qr M → zJ p l e (zRoom 5 132 0 0) s m args below meth c G 13 0 0 (MQ below (zQi G (Qr)) args s 0 0 (zA G)) 229 [some (.inr 191), some (.inr r1), some (.inl v2), some (.inl v3), none, none, none, none, none, none, some (.inl v10), none, none] [] M := by
    intro M r1 v2 v3 v10 h
    unfold T_X1_edit_229 at h
    refine zj_aload_n (pc := 229) hc dX1_edit_229 rfl ?_
    refine zj_iload_n (pc := 230) hc dX1_edit_230 rfl ?_
    refine zj_aload_n (pc := 231) hc dX1_edit_231 rfl ?_
    refine zg_2_0 (pc := 232) hc lk_X1_9 dX1_edit_232 ?_
    refine zj_iload (pc := 235) hc dX1_edit_235 rfl ?_
    refine zj_iload_n (pc := 237) hc dX1_edit_237 rfl ?_
    refine zj_copy (pc := 238) hc dX1_edit_238 lk_X1_41 na_copy st_copy in_System rfl alen_128 h.1 (Nat.le_of_ble_eq_true rfl) (Nat.le_of_ble_eq_true rfl) (fun M1 hM1 => ?_)
    have h := h.2 M1 hM1
    refine zj_aload_n (pc := 241) hc dX1_edit_241 rfl ?_
    refine zj_iload (pc := 242) hc dX1_edit_242 rfl ?_
    refine zs_2_3 (pc := 244) hc lk_X1_21 dX1_edit_244 (fun M2 hM2 => ?_)
    have h := h M2 hM2
    refine zj_iconst (pc := 247) hc dX1_edit_247 (zin _ rfl) ?_
    exact zj_iret (pc := 248) hc hr hlk dX1_edit_248 (by decide) (by decide) h
  have k206 : ∀ (M : zMem) (r1 : Nat) (v2 : Int) (v3 : Int) (v4 : Int) (v7 : Int) (v8 : Int) (v10 : Int) (s0 : Int), T_X1_edit_206 r1 v2 v3 v4 v7 v8 v10 s0 Qr M → zJ p l e (zRoom 5 132 0 0) s m args below meth c G 13 0 0 (MQ below (zQi G (Qr)) args s 0 0 (zA G)) 206 [some (.inr 191), some (.inr r1), some (.inl v2), some (.inl v3), some (.inl v4), none, none, some (.inl v7), some (.inl v8), none, some (.inl v10), none, none] [.inl s0] M := by
    intro M r1 v2 v3 v4 v7 v8 v10 s0 h
    unfold T_X1_edit_206 at h
    refine zj_istore (pc := 206) hc dX1_edit_206 (by decide) ?_
    refine zj_iload (pc := 208) hc dX1_edit_208 rfl ?_
    refine zj_if_eq (pc := 210) (tgt := 249) hc dX1_edit_210 (by decide) (fun hx3 => ?_) (fun hx3 => ?_)
    · have h := h.1 hx3
      refine zj_aload_n (pc := 249) hc dX1_edit_249 rfl ?_
      refine zj_iload (pc := 250) hc dX1_edit_250 rfl ?_
      refine zj_vti (pc := 252) (st := []) hc ks_X1_spread iv_X1_spread lk_X1_100 (zrv_2 G M) (S_X1_spread l G v4 M _ h) rfl ⟨Nat.le_of_ble_eq_true rfl, Nat.le_of_ble_eq_true rfl⟩ (Nat.le_of_ble_eq_true rfl) ⟨Nat.le_of_ble_eq_true rfl, Nat.le_of_ble_eq_true rfl⟩ dX1_edit_252 rfl (fun y4 M5 h => ?_)
      exact zj_iret (pc := 255) hc hr hlk dX1_edit_255 (by decide) (by decide) h
    · have h := h.2 hx3
      refine zj_iload (pc := 213) hc dX1_edit_213 rfl ?_
      refine zj_aload_n (pc := 215) hc dX1_edit_215 rfl ?_
      refine zj_vti (pc := 216) (st := [.inl v8]) hc ks_X1_full iv_X1_full lk_X1_96 (zrv_2 G M) (S_X1_full l G M _ h) rfl ⟨Nat.le_of_ble_eq_true rfl, Nat.le_of_ble_eq_true rfl⟩ (Nat.le_of_ble_eq_true rfl) ⟨Nat.le_of_ble_eq_true rfl, Nat.le_of_ble_eq_true rfl⟩ dX1_edit_216 rfl (fun y6 M9 h => ?_)
      obtain ⟨hM9, h⟩ := h
      subst hM9
      refine zj_icmp_le (pc := 219) (tgt := 229) hc dX1_edit_219 (by decide) (fun hx7 => ?_) (fun hx7 => ?_)
      · have h := h.1 hx7
        refine zj_mask (bs := [true, true, true, true, false, true, true, false, false, true, true, true, false]) ?_
        exact k229 M r1 v2 v3 v10 h
      · have h := h.2 hx7
        refine zj_iload (pc := 222) hc dX1_edit_222 rfl ?_
        refine zj_iload (pc := 224) hc dX1_edit_224 rfl ?_
        refine zj_icmp_gt (pc := 226) (tgt := 249) hc dX1_edit_226 (by decide) (fun hx8 => ?_) (fun hx8 => ?_)
        · have h := h.1 hx8
          refine zj_aload_n (pc := 249) hc dX1_edit_249 rfl ?_
          refine zj_iload (pc := 250) hc dX1_edit_250 rfl ?_
          refine zj_vti (pc := 252) (st := []) hc ks_X1_spread iv_X1_spread lk_X1_100 (zrv_2 G M) (S_X1_spread l G v4 M _ h) rfl ⟨Nat.le_of_ble_eq_true rfl, Nat.le_of_ble_eq_true rfl⟩ (Nat.le_of_ble_eq_true rfl) ⟨Nat.le_of_ble_eq_true rfl, Nat.le_of_ble_eq_true rfl⟩ dX1_edit_252 rfl (fun y9 M10 h => ?_)
          exact zj_iret (pc := 255) hc hr hlk dX1_edit_255 (by decide) (by decide) h
        · have h := h.2 hx8
          refine zj_mask (bs := [true, true, true, true, false, true, true, false, false, true, true, true, false]) ?_
          exact k229 M r1 v2 v3 v10 h
  have k198 : ∀ (M : zMem) (r1 : Nat) (v2 : Int) (v3 : Int) (v4 : Int) (v7 : Int) (v8 : Int) (v10 : Int) (s0 : Int) (s1 : Int), T_X1_edit_198 r1 v2 v3 v4 v7 v8 v10 s0 s1 Qr M → zJ p l e (zRoom 5 132 0 0) s m args below meth c G 13 0 0 (MQ below (zQi G (Qr)) args s 0 0 (zA G)) 198 [some (.inr 191), some (.inr r1), some (.inl v2), some (.inl v3), some (.inl v4), none, none, some (.inl v7), some (.inl v8), none, some (.inl v10), none, none] [.inl s1, .inl s0] M := by
    intro M r1 v2 v3 v4 v7 v8 v10 s0 s1 h
    unfold T_X1_edit_198 at h
    refine zj_icmp_lt (pc := 198) (tgt := 205) hc dX1_edit_198 (by decide) (fun hx11 => ?_) (fun hx11 => ?_)
    · have h := h.1 hx11
      refine zj_iconst (pc := 205) hc dX1_edit_205 (zin _ rfl) ?_
      exact k206 M r1 v2 v3 v4 v7 v8 v10 0 h
    · have h := h.2 hx11
      refine zj_iconst (pc := 201) hc dX1_edit_201 (zin _ rfl) ?_
      refine zj_goto (pc := 202) (tgt := 206) hc dX1_edit_202 (by decide) ?_
      exact k206 M r1 v2 v3 v4 v7 v8 v10 1 h
  have k156 : ∀ (M : zMem) (r1 : Nat) (v2 : Int) (v3 : Int) (v4 : Int) (v5 : Int) (v7 : Int) (v8 : Int) (v9 : Int), T_X1_edit_156 r1 v2 v3 v4 v5 v7 v8 v9 Qr M → zJ p l e (zRoom 5 132 0 0) s m args below meth c G 13 0 0 (MQ below (zQi G (Qr)) args s 0 0 (zA G)) 156 [some (.inr 191), some (.inr r1), some (.inl v2), some (.inl v3), some (.inl v4), some (.inl v5), none, some (.inl v7), some (.inl v8), some (.inl v9), none, none, none] [] M := by
    intro M r1 v2 v3 v4 v5 v7 v8 v9 h
    unfold T_X1_edit_156 at h
    refine zj_aload_n (pc := 156) hc dX1_edit_156 rfl ?_
    refine zg_2_0 (pc := 157) hc lk_X1_9 dX1_edit_157 ?_
    refine zj_iload (pc := 160) hc dX1_edit_160 rfl ?_
    refine zj_sti (pc := 162) (st := []) hc ks_X4_logEnd st_X4_logEnd lk_X1_93 (S_X4_logEnd l G 128 v5 M _ h) rfl ⟨Nat.le_of_ble_eq_true rfl, Nat.le_of_ble_eq_true rfl⟩ (Nat.le_of_ble_eq_true rfl) ⟨Nat.le_of_ble_eq_true rfl, Nat.le_of_ble_eq_true rfl⟩ dX1_edit_162 rfl (fun y12 M9 h => ?_)
    obtain ⟨hM9, h⟩ := h
    subst hM9
    refine zj_istore (pc := 165) hc dX1_edit_165 (by decide) ?_
    refine zj_iload (pc := 167) hc dX1_edit_167 rfl ?_
    refine zj_iconst (pc := 169) hc dX1_edit_169 (zin _ rfl) ?_
    refine zj_iadd (pc := 170) hc dX1_edit_170 h.1 ?_
    have h := h.2
    refine zj_bipush (pc := 171) hc dX1_edit_171 (by decide) (zin _ rfl) ?_
    refine zj_imul (pc := 173) hc dX1_edit_173 h.1 ?_
    have h := h.2
    refine zj_iload (pc := 174) hc dX1_edit_174 rfl ?_
    refine zj_isub (pc := 176) hc dX1_edit_176 h.1 ?_
    have h := h.2
    refine zj_iload_n (pc := 177) hc dX1_edit_177 rfl ?_
    refine zj_isub (pc := 178) hc dX1_edit_178 h.1 ?_
    have h := h.2
    refine zj_istore (pc := 179) hc dX1_edit_179 (by decide) ?_
    refine zj_iload (pc := 181) hc dX1_edit_181 rfl ?_
    refine zj_iload (pc := 183) hc dX1_edit_183 rfl ?_
    refine zj_if_eq (pc := 185) (tgt := 192) hc dX1_edit_185 (by decide) (fun hx13 => ?_) (fun hx13 => ?_)
    · have h := h.1 hx13
      refine zj_aload_n (pc := 192) hc dX1_edit_192 rfl ?_
      refine zg_2_5 (pc := 193) hc lk_X1_32 dX1_edit_193 ?_
      refine zj_iconst (pc := 196) hc dX1_edit_196 (zin _ rfl) ?_
      refine zj_iald (pc := 197) hc dX1_edit_197 alen_133 h.1 ?_
      have h := h.2
      refine zj_mask (bs := [true, true, true, true, true, false, true, true, true, false, true, false, true]) ?_
      exact k198 M r1 v2 v3 v4 v7 v8 y12 ((((v5 + 1) * 64) - y12) - v3) (M.2 133 0) h
    · have h := h.2 hx13
      refine zj_iconst (pc := 188) hc dX1_edit_188 (zin _ rfl) ?_
      refine zj_goto (pc := 189) (tgt := 198) hc dX1_edit_189 (by decide) ?_
      refine zj_mask (bs := [true, true, true, true, true, false, true, true, true, false, true, false, true]) ?_
      exact k198 M r1 v2 v3 v4 v7 v8 y12 ((((v5 + 1) * 64) - y12) - v3) 0 h
  have k124 : ∀ (M : zMem) (r1 : Nat) (v2 : Int) (v3 : Int) (v4 : Int) (v5 : Int) (v7 : Int) (v8 : Int) (s0 : Int), T_X1_edit_124 r1 v2 v3 v4 v5 v7 v8 s0 Qr M → zJ p l e (zRoom 5 132 0 0) s m args below meth c G 13 0 0 (MQ below (zQi G (Qr)) args s 0 0 (zA G)) 124 [some (.inr 191), some (.inr r1), some (.inl v2), some (.inl v3), some (.inl v4), some (.inl v5), none, some (.inl v7), some (.inl v8), none, none, none, none] [.inl s0] M := by
    intro M r1 v2 v3 v4 v5 v7 v8 s0 h
    unfold T_X1_edit_124 at h
    refine zj_istore (pc := 124) hc dX1_edit_124 (by decide) ?_
    refine zj_iload (pc := 126) hc dX1_edit_126 rfl ?_
    refine zj_if_eq (pc := 128) (tgt := 156) hc dX1_edit_128 (by decide) (fun hx14 => ?_) (fun hx14 => ?_)
    · have h := h.1 hx14
      exact k156 M r1 v2 v3 v4 v5 v7 v8 s0 h
    · have h := h.2 hx14
      refine zj_iload (pc := 131) hc dX1_edit_131 rfl ?_
      refine zj_if_ne (pc := 133) (tgt := 156) hc dX1_edit_133 (by decide) (fun hx15 => ?_) (fun hx15 => ?_)
      · have h := h.1 hx15
        exact k156 M r1 v2 v3 v4 v5 v7 v8 s0 h
      · have h := h.2 hx15
        refine zj_aload_n (pc := 136) hc dX1_edit_136 rfl ?_
        refine zg_2_0 (pc := 137) hc lk_X1_9 dX1_edit_137 ?_
        refine zj_iload (pc := 140) hc dX1_edit_140 rfl ?_
        refine zj_sti (pc := 142) (st := []) hc ks_X4_fenceAt st_X4_fenceAt lk_X1_86 (S_X4_fenceAt l G 128 v4 M _ h) rfl ⟨Nat.le_of_ble_eq_true rfl, Nat.le_of_ble_eq_true rfl⟩ (Nat.le_of_ble_eq_true rfl) ⟨Nat.le_of_ble_eq_true rfl, Nat.le_of_ble_eq_true rfl⟩ dX1_edit_142 rfl (fun y16 M9 h => ?_)
        obtain ⟨hM9, h⟩ := h
        subst hM9
        refine zj_if_eq (pc := 145) (tgt := 156) hc dX1_edit_145 (by decide) (fun hx17 => ?_) (fun hx17 => ?_)
        · have h := h.1 hx17
          exact k156 M r1 v2 v3 v4 v5 v7 v8 s0 h
        · have h := h.2 hx17
          refine zj_aload_n (pc := 148) hc dX1_edit_148 rfl ?_
          refine zj_iload (pc := 149) hc dX1_edit_149 rfl ?_
          refine zj_vtv (pc := 151) (st := []) hc ks_X1_removeFromDirectory iv_X1_removeFromDirectory lk_X1_89 (zrv_2 G M) (S_X1_removeFromDirectory l G v4 M _ h) rfl ⟨Nat.le_of_ble_eq_true rfl, Nat.le_of_ble_eq_true rfl⟩ (Nat.le_of_ble_eq_true rfl) ⟨Nat.le_of_ble_eq_true rfl, Nat.le_of_ble_eq_true rfl⟩ dX1_edit_151 rfl (fun M18 h => ?_)
          refine zj_iconst (pc := 154) hc dX1_edit_154 (zin _ rfl) ?_
          exact zj_iret (pc := 155) hc hr hlk dX1_edit_155 (by decide) (by decide) h
  unfold T_X1_edit at h
  refine zj_aload_n (pc := 0) hc dX1_edit_0 rfl ?_
  refine zj_iload_n (pc := 1) hc dX1_edit_1 rfl ?_
  refine zj_aload_n (pc := 2) hc dX1_edit_2 rfl ?_
  refine zj_alen (pc := 3) hc dX1_edit_3 rfl h.1 ?_
  have h := h.2
  refine zj_sti (pc := 4) (st := []) hc ks_X2_sizeAt st_X2_sizeAt lk_X1_53 (S_X2_sizeAt l G r1 v2 (alen r1) M _ h) rfl ⟨Nat.le_of_ble_eq_true rfl, Nat.le_of_ble_eq_true rfl⟩ (Nat.le_of_ble_eq_true rfl) ⟨Nat.le_of_ble_eq_true rfl, Nat.le_of_ble_eq_true rfl⟩ dX1_edit_4 rfl (fun y19 M9 h => ?_)
  obtain ⟨hM9, h⟩ := h
  subst hM9
  refine zj_istore_n (pc := 7) hc dX1_edit_7 (by decide) ?_
  refine zj_iload_n (pc := 8) hc dX1_edit_8 rfl ?_
  refine zj_if_ne (pc := 9) (tgt := 15) hc dX1_edit_9 (by decide) (fun hx20 => ?_) (fun hx20 => ?_)
  · have h := h.1 hx20
    refine zj_aload_n (pc := 15) hc dX1_edit_15 rfl ?_
    refine zg_2_0 (pc := 16) hc lk_X1_9 dX1_edit_16 ?_
    refine zj_aload_n (pc := 19) hc dX1_edit_19 rfl ?_
    refine zj_iload_n (pc := 20) hc dX1_edit_20 rfl ?_
    refine zj_iconst (pc := 21) hc dX1_edit_21 (zin _ rfl) ?_
    refine zj_iadd (pc := 22) hc dX1_edit_22 h.1 ?_
    have h := h.2
    refine zj_iald (pc := 23) hc dX1_edit_23 rfl h.1 ?_
    have h := h.2
    refine zj_sti (pc := 24) (st := []) hc ks_X4_orderFor st_X4_orderFor lk_X1_59 (S_X4_orderFor l G 128 (M.2 r1 (v2 + 1)) M _ h) rfl ⟨Nat.le_of_ble_eq_true rfl, Nat.le_of_ble_eq_true rfl⟩ (Nat.le_of_ble_eq_true rfl) ⟨Nat.le_of_ble_eq_true rfl, Nat.le_of_ble_eq_true rfl⟩ dX1_edit_24 rfl (fun y21 M9 h => ?_)
    obtain ⟨hM9, h⟩ := h
    subst hM9
    refine zj_istore (pc := 27) hc dX1_edit_27 (by decide) ?_
    refine zj_aload_n (pc := 29) hc dX1_edit_29 rfl ?_
    refine zg_2_0 (pc := 30) hc lk_X1_9 dX1_edit_30 ?_
    refine zj_iload (pc := 33) hc dX1_edit_33 rfl ?_
    refine zj_sti (pc := 35) (st := []) hc ks_X4_pageAt st_X4_pageAt lk_X1_65 (S_X4_pageAt l G 128 y21 M _ h) rfl ⟨Nat.le_of_ble_eq_true rfl, Nat.le_of_ble_eq_true rfl⟩ (Nat.le_of_ble_eq_true rfl) ⟨Nat.le_of_ble_eq_true rfl, Nat.le_of_ble_eq_true rfl⟩ dX1_edit_35 rfl (fun y22 M9 h => ?_)
    obtain ⟨hM9, h⟩ := h
    subst hM9
    refine zj_istore (pc := 38) hc dX1_edit_38 (by decide) ?_
    refine zj_aload_n (pc := 40) hc dX1_edit_40 rfl ?_
    refine zg_2_4 (pc := 41) hc lk_X1_28 dX1_edit_41 ?_
    refine zj_aload_n (pc := 44) hc dX1_edit_44 rfl ?_
    refine zg_2_0 (pc := 45) hc lk_X1_9 dX1_edit_45 ?_
    refine zj_iload (pc := 48) hc dX1_edit_48 rfl ?_
    refine zj_bipush (pc := 50) hc dX1_edit_50 (by decide) (zin _ rfl) ?_
    refine zj_vtv (pc := 52) (st := []) hc ks_X8_loadOnly iv_X8_loadOnly lk_X1_68 (zrv_3 G M) (S_X8_loadOnly l G (Or.inl rfl) 128 y22 64 M _ h) rfl ⟨Nat.le_of_ble_eq_true rfl, Nat.le_of_ble_eq_true rfl⟩ (Nat.le_of_ble_eq_true rfl) ⟨Nat.le_of_ble_eq_true rfl, Nat.le_of_ble_eq_true rfl⟩ dX1_edit_52 rfl (fun M23 h => ?_)
    refine zj_aload_n (pc := 55) hc dX1_edit_55 rfl ?_
    refine zg_2_4 (pc := 56) hc lk_X1_28 dX1_edit_56 ?_
    refine zj_aload_n (pc := 59) hc dX1_edit_59 rfl ?_
    refine zj_iload_n (pc := 60) hc dX1_edit_60 rfl ?_
    refine zj_vti (pc := 61) (st := []) hc ks_X8_refusalOf iv_X8_refusalOf lk_X1_72 (zrv_3 G M23) (S_X8_refusalOf l G (Or.inl rfl) r1 v2 M23 _ h) rfl ⟨Nat.le_of_ble_eq_true rfl, Nat.le_of_ble_eq_true rfl⟩ (Nat.le_of_ble_eq_true rfl) ⟨Nat.le_of_ble_eq_true rfl, Nat.le_of_ble_eq_true rfl⟩ dX1_edit_61 rfl (fun y24 M9 h => ?_)
    obtain ⟨hM9, h⟩ := h
    subst hM9
    refine zj_istore (pc := 64) hc dX1_edit_64 (by decide) ?_
    refine zj_iload (pc := 66) hc dX1_edit_66 rfl ?_
    refine zj_if_eq (pc := 68) (tgt := 74) hc dX1_edit_68 (by decide) (fun hx25 => ?_) (fun hx25 => ?_)
    · have h := h.1 hx25
      refine zj_aload_n (pc := 74) hc dX1_edit_74 rfl ?_
      refine zg_2_4 (pc := 75) hc lk_X1_28 dX1_edit_75 ?_
      refine zj_iconst (pc := 78) hc dX1_edit_78 (zin _ rfl) ?_
      refine zj_sipush (pc := 79) hc dX1_edit_79 (by decide) (zin _ rfl) ?_
      refine zj_vti (pc := 82) (st := []) hc ks_X8_plainSize iv_X8_plainSize lk_X1_75 (zrv_3 G M23) (S_X8_plainSize l G (Or.inl rfl) 0 256 M23 _ h) rfl ⟨Nat.le_of_ble_eq_true rfl, Nat.le_of_ble_eq_true rfl⟩ (Nat.le_of_ble_eq_true rfl) ⟨Nat.le_of_ble_eq_true rfl, Nat.le_of_ble_eq_true rfl⟩ dX1_edit_82 rfl (fun y26 M9 h => ?_)
      obtain ⟨hM9, h⟩ := h
      subst hM9
      refine zj_istore (pc := 85) hc dX1_edit_85 (by decide) ?_
      refine zj_aload_n (pc := 87) hc dX1_edit_87 rfl ?_
      refine zg_2_4 (pc := 88) hc lk_X1_28 dX1_edit_88 ?_
      refine zj_aload_n (pc := 91) hc dX1_edit_91 rfl ?_
      refine zj_iload_n (pc := 92) hc dX1_edit_92 rfl ?_
      refine zj_vtv (pc := 93) (st := []) hc ks_X8_apply iv_X8_apply lk_X1_79 (zrv_3 G M23) (S_X8_apply l G (Or.inl rfl) r1 v2 M23 _ h) rfl ⟨Nat.le_of_ble_eq_true rfl, Nat.le_of_ble_eq_true rfl⟩ (Nat.le_of_ble_eq_true rfl) ⟨Nat.le_of_ble_eq_true rfl, Nat.le_of_ble_eq_true rfl⟩ dX1_edit_93 rfl (fun M27 h => ?_)
      refine zj_aload_n (pc := 96) hc dX1_edit_96 rfl ?_
      refine zg_2_4 (pc := 97) hc lk_X1_28 dX1_edit_97 ?_
      refine zj_iconst (pc := 100) hc dX1_edit_100 (zin _ rfl) ?_
      refine zj_sipush (pc := 101) hc dX1_edit_101 (by decide) (zin _ rfl) ?_
      refine zj_vti (pc := 104) (st := []) hc ks_X8_plainSize iv_X8_plainSize lk_X1_75 (zrv_3 G M27) (S_X8_plainSize l G (Or.inl rfl) 0 256 M27 _ h) rfl ⟨Nat.le_of_ble_eq_true rfl, Nat.le_of_ble_eq_true rfl⟩ (Nat.le_of_ble_eq_true rfl) ⟨Nat.le_of_ble_eq_true rfl, Nat.le_of_ble_eq_true rfl⟩ dX1_edit_104 rfl (fun y28 M9 h => ?_)
      obtain ⟨hM9, h⟩ := h
      subst hM9
      refine zj_istore (pc := 107) hc dX1_edit_107 (by decide) ?_
      refine zj_aload_n (pc := 109) hc dX1_edit_109 rfl ?_
      refine zj_iload_n (pc := 110) hc dX1_edit_110 rfl ?_
      refine zj_iald (pc := 111) hc dX1_edit_111 rfl h.1 ?_
      have h := h.2
      refine zj_sti (pc := 112) (st := []) hc ks_X2_kindOf st_X2_kindOf lk_X1_82 (S_X2_kindOf l G (M27.2 r1 v2) M27 _ h) rfl ⟨Nat.le_of_ble_eq_true rfl, Nat.le_of_ble_eq_true rfl⟩ (Nat.le_of_ble_eq_true rfl) ⟨Nat.le_of_ble_eq_true rfl, Nat.le_of_ble_eq_true rfl⟩ dX1_edit_112 rfl (fun y29 M9 h => ?_)
      obtain ⟨hM9, h⟩ := h
      subst hM9
      refine zj_iconst (pc := 115) hc dX1_edit_115 (zin _ rfl) ?_
      refine zj_icmp_ne (pc := 116) (tgt := 123) hc dX1_edit_116 (by decide) (fun hx30 => ?_) (fun hx30 => ?_)
      · have h := h.1 hx30
        refine zj_iconst (pc := 123) hc dX1_edit_123 (zin _ rfl) ?_
        refine zj_mask (bs := [true, true, true, true, true, true, false, true, true, true, true, true, true]) ?_
        exact k124 M27 r1 v2 y19 y21 y22 y26 y28 0 h
      · have h := h.2 hx30
        refine zj_iconst (pc := 119) hc dX1_edit_119 (zin _ rfl) ?_
        refine zj_goto (pc := 120) (tgt := 124) hc dX1_edit_120 (by decide) ?_
        refine zj_mask (bs := [true, true, true, true, true, true, false, true, true, true, true, true, true]) ?_
        exact k124 M27 r1 v2 y19 y21 y22 y26 y28 1 h
    · have h := h.2 hx25
      refine zj_iload (pc := 71) hc dX1_edit_71 rfl ?_
      exact zj_iret (pc := 73) hc hr hlk dX1_edit_73 (by decide) (by decide) h
  · have h := h.2 hx20
    refine zj_bipush (pc := 12) hc dX1_edit_12 (by decide) (zin _ rfl) ?_
    exact zj_iret (pc := 14) hc hr hlk dX1_edit_14 (by decide) (by decide) h
