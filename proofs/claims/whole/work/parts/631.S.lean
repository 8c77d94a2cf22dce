set_option maxHeartbeats 4000000 in
set_option maxRecDepth 100000 in
theorem S_X10_entry (l : Launch) (G : zG) (v1 : Int) (v2 : Int) (v3 : Int) (M : zMem) (Qr : Int → zMem → Prop) (h : T_X10_entry v1 v2 v3 Qr M) : zMetI l yX10_entry cX10_entry 6 (some .int) 5 110 0 0 G [.inr 639, .inl v1, .inl v2, .inl v3] M Qr := by
  refine zmetI (by decide) (Nat.le_of_ble_eq_true rfl) [some (.inr 639), some (.inl v1), some (.inl v2), some (.inl v3), none, none] rfl ?_
  intro p e s m args below meth c hc hr hlk
  unfold T_X10_entry at h
  refine zj_aload_n (pc := 0) hc dX10_entry_0 rfl ?_
  refine zj_iconst (pc := 1) hc dX10_entry_1 (zin _ rfl) ?_
  refine zs_9_0 (pc := 2) hc lk_X10_77 dX10_entry_2 (fun M1 hM1 => ?_)
  have h := h M1 hM1
  refine zj_aload_n (pc := 5) hc dX10_entry_5 rfl ?_
  refine zj_iload_n (pc := 6) hc dX10_entry_6 rfl ?_
  refine zj_vti (pc := 7) (st := []) hc ks_X10_isPlace iv_X10_isPlace lk_X10_352 (zrv_9 G M1) (S_X10_isPlace l G v1 M1 _ h) rfl ⟨Nat.le_of_ble_eq_true rfl, Nat.le_of_ble_eq_true rfl⟩ (Nat.le_of_ble_eq_true rfl) ⟨Nat.le_of_ble_eq_true rfl, Nat.le_of_ble_eq_true rfl⟩ dX10_entry_7 rfl (fun y2 M9 h => ?_)
  obtain ⟨hM9, h⟩ := h
  subst hM9
  refine zj_if_ne (pc := 10) (tgt := 15) hc dX10_entry_10 (by decide) (fun hx3 => ?_) (fun hx3 => ?_)
  · have h := h.1 hx3
    refine zj_aload_n (pc := 15) hc dX10_entry_15 rfl ?_
    refine zg_9_6 (pc := 16) hc lk_X10_22 dX10_entry_16 ?_
    refine zj_iload_n (pc := 19) hc dX10_entry_19 rfl ?_
    refine zj_sti (pc := 20) (st := []) hc ks_X10_numberOf st_X10_numberOf lk_X10_183 (S_X10_numberOf l G 582 v1 M1 _ h) rfl ⟨Nat.le_of_ble_eq_true rfl, Nat.le_of_ble_eq_true rfl⟩ (Nat.le_of_ble_eq_true rfl) ⟨Nat.le_of_ble_eq_true rfl, Nat.le_of_ble_eq_true rfl⟩ dX10_entry_20 rfl (fun y4 M9 h => ?_)
    obtain ⟨hM9, h⟩ := h
    subst hM9
    refine zj_istore (pc := 23) hc dX10_entry_23 (by decide) ?_
    refine zj_iload_n (pc := 25) hc dX10_entry_25 rfl ?_
    refine zj_iconst (pc := 26) hc dX10_entry_26 (zin _ rfl) ?_
    refine zj_aload_n (pc := 27) hc dX10_entry_27 rfl ?_
    refine zg_9_6 (pc := 28) hc lk_X10_22 dX10_entry_28 ?_
    refine zj_iload (pc := 31) hc dX10_entry_31 rfl ?_
    refine zj_sti (pc := 33) (st := [.inl 0, .inl v2]) hc ks_X10_entriesOf st_X10_entriesOf lk_X10_355 (S_X10_entriesOf l G 582 y4 M1 _ h) rfl ⟨Nat.le_of_ble_eq_true rfl, Nat.le_of_ble_eq_true rfl⟩ (Nat.le_of_ble_eq_true rfl) ⟨Nat.le_of_ble_eq_true rfl, Nat.le_of_ble_eq_true rfl⟩ dX10_entry_33 rfl (fun y5 M9 h => ?_)
    obtain ⟨hM9, h⟩ := h
    subst hM9
    refine zj_iconst (pc := 36) hc dX10_entry_36 (zin _ rfl) ?_
    refine zj_isub (pc := 37) hc dX10_entry_37 h.1 ?_
    have h := h.2
    refine zj_sti (pc := 38) (st := []) hc ks_X10_isIn st_X10_isIn lk_X10_83 (S_X10_isIn l G v2 0 (y5 - 1) M1 _ h) rfl ⟨Nat.le_of_ble_eq_true rfl, Nat.le_of_ble_eq_true rfl⟩ (Nat.le_of_ble_eq_true rfl) ⟨Nat.le_of_ble_eq_true rfl, Nat.le_of_ble_eq_true rfl⟩ dX10_entry_38 rfl (fun y6 M9 h => ?_)
    obtain ⟨hM9, h⟩ := h
    subst hM9
    refine zj_if_ne (pc := 41) (tgt := 46) hc dX10_entry_41 (by decide) (fun hx7 => ?_) (fun hx7 => ?_)
    · have h := h.1 hx7
      refine zj_bipush (pc := 46) hc dX10_entry_46 (by decide) (zin _ rfl) ?_
      refine zj_iload (pc := 48) hc dX10_entry_48 rfl ?_
      refine zj_imul (pc := 50) hc dX10_entry_50 h.1 ?_
      have h := h.2
      refine zj_aload_n (pc := 51) hc dX10_entry_51 rfl ?_
      refine zg_9_6 (pc := 52) hc lk_X10_22 dX10_entry_52 ?_
      refine zj_iload (pc := 55) hc dX10_entry_55 rfl ?_
      refine zj_iload_n (pc := 57) hc dX10_entry_57 rfl ?_
      refine zj_sti (pc := 58) (st := [.inl (64 * y4)]) hc ks_X10_entryAt st_X10_entryAt lk_X10_162 (S_X10_entryAt l G 582 y4 v2 M1 _ h) rfl ⟨Nat.le_of_ble_eq_true rfl, Nat.le_of_ble_eq_true rfl⟩ (Nat.le_of_ble_eq_true rfl) ⟨Nat.le_of_ble_eq_true rfl, Nat.le_of_ble_eq_true rfl⟩ dX10_entry_58 rfl (fun y8 M9 h => ?_)
      obtain ⟨hM9, h⟩ := h
      subst hM9
      refine zj_iadd (pc := 61) hc dX10_entry_61 h.1 ?_
      have h := h.2
      refine zj_istore (pc := 62) hc dX10_entry_62 (by decide) ?_
      refine zj_iload_n (pc := 64) hc dX10_entry_64 rfl ?_
      refine zj_if_ne (pc := 65) (tgt := 79) hc dX10_entry_65 (by decide) (fun hx9 => ?_) (fun hx9 => ?_)
      · have h := h.1 hx9
        refine zj_iload_n (pc := 79) hc dX10_entry_79 rfl ?_
        refine zj_iconst (pc := 80) hc dX10_entry_80 (zin _ rfl) ?_
        refine zj_icmp_ne (pc := 81) (tgt := 95) hc dX10_entry_81 (by decide) (fun hx10 => ?_) (fun hx10 => ?_)
        · have h := h.1 hx10
          refine zj_iload_n (pc := 95) hc dX10_entry_95 rfl ?_
          refine zj_iconst (pc := 96) hc dX10_entry_96 (zin _ rfl) ?_
          refine zj_icmp_ne (pc := 97) (tgt := 110) hc dX10_entry_97 (by decide) (fun hx11 => ?_) (fun hx11 => ?_)
          · have h := h.1 hx11
            refine zj_iload_n (pc := 110) hc dX10_entry_110 rfl ?_
            refine zj_iconst (pc := 111) hc dX10_entry_111 (zin _ rfl) ?_
            refine zj_aload_n (pc := 112) hc dX10_entry_112 rfl ?_
            refine zg_9_6 (pc := 113) hc lk_X10_22 dX10_entry_113 ?_
            refine zj_iload (pc := 116) hc dX10_entry_116 rfl ?_
            refine zj_iald (pc := 118) hc dX10_entry_118 alen_582 h.1 ?_
            have h := h.2
            refine zj_sti (pc := 119) (st := [.inl 3, .inl v3]) hc ks_X10_lengthOf st_X10_lengthOf lk_X10_159 (S_X10_lengthOf l G (M1.2 582 ((64 * y4) + y8)) M1 _ h) rfl ⟨Nat.le_of_ble_eq_true rfl, Nat.le_of_ble_eq_true rfl⟩ (Nat.le_of_ble_eq_true rfl) ⟨Nat.le_of_ble_eq_true rfl, Nat.le_of_ble_eq_true rfl⟩ dX10_entry_119 rfl (fun y12 M9 h => ?_)
            obtain ⟨hM9, h⟩ := h
            subst hM9
            refine zj_sti (pc := 122) (st := []) hc ks_X10_isIn st_X10_isIn lk_X10_83 (S_X10_isIn l G v3 3 y12 M1 _ h) rfl ⟨Nat.le_of_ble_eq_true rfl, Nat.le_of_ble_eq_true rfl⟩ (Nat.le_of_ble_eq_true rfl) ⟨Nat.le_of_ble_eq_true rfl, Nat.le_of_ble_eq_true rfl⟩ dX10_entry_122 rfl (fun y13 M9 h => ?_)
            obtain ⟨hM9, h⟩ := h
            subst hM9
            refine zj_if_eq (pc := 125) (tgt := 142) hc dX10_entry_125 (by decide) (fun hx14 => ?_) (fun hx14 => ?_)
            · have h := h.1 hx14
              refine zj_iconst (pc := 142) hc dX10_entry_142 (zin _ rfl) ?_
              exact zj_iret (pc := 143) hc hr hlk dX10_entry_143 (by decide) (by decide) h
            · have h := h.2 hx14
              refine zj_aload_n (pc := 128) hc dX10_entry_128 rfl ?_
              refine zg_9_6 (pc := 129) hc lk_X10_22 dX10_entry_129 ?_
              refine zj_iload (pc := 132) hc dX10_entry_132 rfl ?_
              refine zj_iload_n (pc := 134) hc dX10_entry_134 rfl ?_
              refine zj_iadd (pc := 135) hc dX10_entry_135 h.1 ?_
              have h := h.2
              refine zj_iconst (pc := 136) hc dX10_entry_136 (zin _ rfl) ?_
              refine zj_isub (pc := 137) hc dX10_entry_137 h.1 ?_
              have h := h.2
              refine zj_iald (pc := 138) hc dX10_entry_138 alen_582 h.1 ?_
              have h := h.2
              refine zj_goto (pc := 139) (tgt := 143) hc dX10_entry_139 (by decide) ?_
              exact zj_iret (pc := 143) hc hr hlk dX10_entry_143 (by decide) (by decide) h
          · have h := h.2 hx11
            refine zj_aload_n (pc := 100) hc dX10_entry_100 rfl ?_
            refine zg_9_6 (pc := 101) hc lk_X10_22 dX10_entry_101 ?_
            refine zj_iload (pc := 104) hc dX10_entry_104 rfl ?_
            refine zj_iconst (pc := 106) hc dX10_entry_106 (zin _ rfl) ?_
            refine zj_iadd (pc := 107) hc dX10_entry_107 h.1 ?_
            have h := h.2
            refine zj_iald (pc := 108) hc dX10_entry_108 alen_582 h.1 ?_
            have h := h.2
            exact zj_iret (pc := 109) hc hr hlk dX10_entry_109 (by decide) (by decide) h
        · have h := h.2 hx10
          refine zj_aload_n (pc := 84) hc dX10_entry_84 rfl ?_
          refine zg_9_6 (pc := 85) hc lk_X10_22 dX10_entry_85 ?_
          refine zj_iload (pc := 88) hc dX10_entry_88 rfl ?_
          refine zj_iald (pc := 90) hc dX10_entry_90 alen_582 h.1 ?_
          have h := h.2
          refine zj_bipush (pc := 91) hc dX10_entry_91 (by decide) (zin _ rfl) ?_
          refine zj_irem (pc := 93) hc dX10_entry_93 (by decide) ?_
          exact zj_iret (pc := 94) hc hr hlk dX10_entry_94 (by decide) (by decide) h
      · have h := h.2 hx9
        refine zj_aload_n (pc := 68) hc dX10_entry_68 rfl ?_
        refine zg_9_6 (pc := 69) hc lk_X10_22 dX10_entry_69 ?_
        refine zj_iload (pc := 72) hc dX10_entry_72 rfl ?_
        refine zj_iald (pc := 74) hc dX10_entry_74 alen_582 h.1 ?_
        have h := h.2
        refine zj_sti (pc := 75) (st := []) hc ks_X10_kindOf st_X10_kindOf lk_X10_148 (S_X10_kindOf l G (M1.2 582 ((64 * y4) + y8)) M1 _ h) rfl ⟨Nat.le_of_ble_eq_true rfl, Nat.le_of_ble_eq_true rfl⟩ (Nat.le_of_ble_eq_true rfl) ⟨Nat.le_of_ble_eq_true rfl, Nat.le_of_ble_eq_true rfl⟩ dX10_entry_75 rfl (fun y15 M9 h => ?_)
        obtain ⟨hM9, h⟩ := h
        subst hM9
        exact zj_iret (pc := 78) hc hr hlk dX10_entry_78 (by decide) (by decide) h
    · have h := h.2 hx7
      refine zj_iconst (pc := 44) hc dX10_entry_44 (zin _ rfl) ?_
      exact zj_iret (pc := 45) hc hr hlk dX10_entry_45 (by decide) (by decide) h
  · have h := h.2 hx3
    refine zj_iconst (pc := 13) hc dX10_entry_13 (zin _ rfl) ?_
    exact zj_iret (pc := 14) hc hr hlk dX10_entry_14 (by decide) (by decide) h
set_option maxHeartbeats 4000000 in
set_option maxRecDepth 100000 in
theorem S_X10_behind (l : Launch) (G : zG) (v1 : Int) (v2 : Int) (v3 : Int) (M : zMem) (Qr : Int → zMem → Prop) (h : T_X10_behind v1 v2 v3 Qr M) : zMetI l yX10_behind cX10_behind 5 (some .int) 5 110 0 0 G [.inr 639, .inl v1, .inl v2, .inl v3] M Qr := by
  refine zmetI (by decide) (Nat.le_of_ble_eq_true rfl) [some (.inr 639), some (.inl v1), some (.inl v2), some (.inl v3), none] rfl ?_
  intro p e s m args below meth c hc hr hlk
  have k27 : ∀ (M : zMem) (v1 : Int) (v2 : Int) (v3 : Int), T_X10_behind_27 v1 v2 v3 Qr M → zJ p l e (zRoom 5 110 0 0) s m args below meth c G 5 0 0 (MQ below (zQi G (Qr)) args s 0 0 (zA G)) 27 [some (.inr 639), some (.inl v1), some (.inl v2), some (.inl v3), none] [] M := by
    intro M v1 v2 v3 h
    unfold T_X10_behind_27 at h
    refine zj_aload_n (pc := 27) hc dX10_behind_27 rfl ?_
    refine zg_9_6 (pc := 28) hc lk_X10_22 dX10_behind_28 ?_
    refine zj_iload_n (pc := 31) hc dX10_behind_31 rfl ?_
    refine zj_sti (pc := 32) (st := []) hc ks_X10_numberOf st_X10_numberOf lk_X10_183 (S_X10_numberOf l G 582 v1 M _ h) rfl ⟨Nat.le_of_ble_eq_true rfl, Nat.le_of_ble_eq_true rfl⟩ (Nat.le_of_ble_eq_true rfl) ⟨Nat.le_of_ble_eq_true rfl, Nat.le_of_ble_eq_true rfl⟩ dX10_behind_32 rfl (fun y1 M9 h => ?_)
    obtain ⟨hM9, h⟩ := h
    subst hM9
    refine zj_istore (pc := 35) hc dX10_behind_35 (by decide) ?_
    refine zj_iload_n (pc := 37) hc dX10_behind_37 rfl ?_
    refine zj_iconst (pc := 38) hc dX10_behind_38 (zin _ rfl) ?_
    refine zj_aload_n (pc := 39) hc dX10_behind_39 rfl ?_
    refine zg_9_6 (pc := 40) hc lk_X10_22 dX10_behind_40 ?_
    refine zj_iload (pc := 43) hc dX10_behind_43 rfl ?_
    refine zj_sti (pc := 45) (st := [.inl 0, .inl v2]) hc ks_X10_entriesOf st_X10_entriesOf lk_X10_355 (S_X10_entriesOf l G 582 y1 M _ h) rfl ⟨Nat.le_of_ble_eq_true rfl, Nat.le_of_ble_eq_true rfl⟩ (Nat.le_of_ble_eq_true rfl) ⟨Nat.le_of_ble_eq_true rfl, Nat.le_of_ble_eq_true rfl⟩ dX10_behind_45 rfl (fun y2 M9 h => ?_)
    obtain ⟨hM9, h⟩ := h
    subst hM9
    refine zj_sti (pc := 48) (st := []) hc ks_X10_isIn st_X10_isIn lk_X10_83 (S_X10_isIn l G v2 0 y2 M _ h) rfl ⟨Nat.le_of_ble_eq_true rfl, Nat.le_of_ble_eq_true rfl⟩ (Nat.le_of_ble_eq_true rfl) ⟨Nat.le_of_ble_eq_true rfl, Nat.le_of_ble_eq_true rfl⟩ dX10_behind_48 rfl (fun y3 M9 h => ?_)
    obtain ⟨hM9, h⟩ := h
    subst hM9
    refine zj_if_ne (pc := 51) (tgt := 56) hc dX10_behind_51 (by decide) (fun hx4 => ?_) (fun hx4 => ?_)
    · have h := h.1 hx4
      refine zj_aload_n (pc := 56) hc dX10_behind_56 rfl ?_
      refine zj_vtv (pc := 57) (st := []) hc ks_X10_clears iv_X10_clears lk_X10_176 (zrv_9 G M) (S_X10_clears l G M _ h) rfl ⟨Nat.le_of_ble_eq_true rfl, Nat.le_of_ble_eq_true rfl⟩ (Nat.le_of_ble_eq_true rfl) ⟨Nat.le_of_ble_eq_true rfl, Nat.le_of_ble_eq_true rfl⟩ dX10_behind_57 rfl (fun M5 h => ?_)
      refine zj_aload_n (pc := 60) hc dX10_behind_60 rfl ?_
      refine zj_aload_n (pc := 61) hc dX10_behind_61 rfl ?_
      refine zg_9_6 (pc := 62) hc lk_X10_22 dX10_behind_62 ?_
      refine zj_iload (pc := 65) hc dX10_behind_65 rfl ?_
      refine zj_iload_n (pc := 67) hc dX10_behind_67 rfl ?_
      refine zj_vtv (pc := 68) (st := []) hc ks_X10_lays iv_X10_lays lk_X10_179 (zrv_9 G M5) (S_X10_lays l G 582 y1 v2 M5 _ h) rfl ⟨Nat.le_of_ble_eq_true rfl, Nat.le_of_ble_eq_true rfl⟩ (Nat.le_of_ble_eq_true rfl) ⟨Nat.le_of_ble_eq_true rfl, Nat.le_of_ble_eq_true rfl⟩ dX10_behind_68 rfl (fun M6 h => ?_)
      refine zj_iload_n (pc := 71) hc dX10_behind_71 rfl ?_
      refine zj_iconst (pc := 72) hc dX10_behind_72 (zin _ rfl) ?_
      refine zj_icmp_ne (pc := 73) (tgt := 83) hc dX10_behind_73 (by decide) (fun hx7 => ?_) (fun hx7 => ?_)
      · have h := h.1 hx7
        refine zj_aload_n (pc := 83) hc dX10_behind_83 rfl ?_
        refine zg_9_20 (pc := 84) hc lk_X10_47 dX10_behind_84 ?_
        refine zj_iload_n (pc := 87) hc dX10_behind_87 rfl ?_
        refine zj_iald (pc := 88) hc dX10_behind_88 alen_596 h.1 ?_
        have h := h.2
        exact zj_iret (pc := 89) hc hr hlk dX10_behind_89 (by decide) (by decide) h
      · have h := h.2 hx7
        refine zj_aload_n (pc := 76) hc dX10_behind_76 rfl ?_
        refine zj_vti (pc := 77) (st := []) hc ks_X10_recordMany iv_X10_recordMany lk_X10_233 (zrv_9 G M6) (S_X10_recordMany l G M6 _ h) rfl ⟨Nat.le_of_ble_eq_true rfl, Nat.le_of_ble_eq_true rfl⟩ (Nat.le_of_ble_eq_true rfl) ⟨Nat.le_of_ble_eq_true rfl, Nat.le_of_ble_eq_true rfl⟩ dX10_behind_77 rfl (fun y8 M9 h => ?_)
        obtain ⟨hM9, h⟩ := h
        subst hM9
        refine zj_goto (pc := 80) (tgt := 89) hc dX10_behind_80 (by decide) ?_
        exact zj_iret (pc := 89) hc hr hlk dX10_behind_89 (by decide) (by decide) h
    · have h := h.2 hx4
      refine zj_iconst (pc := 54) hc dX10_behind_54 (zin _ rfl) ?_
      exact zj_iret (pc := 55) hc hr hlk dX10_behind_55 (by decide) (by decide) h
  unfold T_X10_behind at h
  refine zj_aload_n (pc := 0) hc dX10_behind_0 rfl ?_
  refine zj_iconst (pc := 1) hc dX10_behind_1 (zin _ rfl) ?_
  refine zs_9_0 (pc := 2) hc lk_X10_77 dX10_behind_2 (fun M9 hM9 => ?_)
  have h := h M9 hM9
  refine zj_aload_n (pc := 5) hc dX10_behind_5 rfl ?_
  refine zj_iload_n (pc := 6) hc dX10_behind_6 rfl ?_
  refine zj_vti (pc := 7) (st := []) hc ks_X10_isPlace iv_X10_isPlace lk_X10_352 (zrv_9 G M9) (S_X10_isPlace l G v1 M9 _ h) rfl ⟨Nat.le_of_ble_eq_true rfl, Nat.le_of_ble_eq_true rfl⟩ (Nat.le_of_ble_eq_true rfl) ⟨Nat.le_of_ble_eq_true rfl, Nat.le_of_ble_eq_true rfl⟩ dX10_behind_7 rfl (fun y10 M9 h => ?_)
  obtain ⟨hM9, h⟩ := h
  subst hM9
  refine zj_if_eq (pc := 10) (tgt := 25) hc dX10_behind_10 (by decide) (fun hx11 => ?_) (fun hx11 => ?_)
  · have h := h.1 hx11
    refine zj_iconst (pc := 25) hc dX10_behind_25 (zin _ rfl) ?_
    exact zj_iret (pc := 26) hc hr hlk dX10_behind_26 (by decide) (by decide) h
  · have h := h.2 hx11
    refine zj_iload_n (pc := 13) hc dX10_behind_13 rfl ?_
    refine zj_iconst (pc := 14) hc dX10_behind_14 (zin _ rfl) ?_
    refine zj_icmp_eq (pc := 15) (tgt := 27) hc dX10_behind_15 (by decide) (fun hx12 => ?_) (fun hx12 => ?_)
    · have h := h.1 hx12
      exact k27 M9 v1 v2 v3 h
    · have h := h.2 hx12
      refine zj_iload_n (pc := 18) hc dX10_behind_18 rfl ?_
      refine zj_sti (pc := 19) (st := []) hc ks_X10_isKey st_X10_isKey lk_X10_323 (S_X10_isKey l G v3 M9 _ h) rfl ⟨Nat.le_of_ble_eq_true rfl, Nat.le_of_ble_eq_true rfl⟩ (Nat.le_of_ble_eq_true rfl) ⟨Nat.le_of_ble_eq_true rfl, Nat.le_of_ble_eq_true rfl⟩ dX10_behind_19 rfl (fun y13 M9 h => ?_)
      obtain ⟨hM9, h⟩ := h
      subst hM9
      refine zj_if_ne (pc := 22) (tgt := 27) hc dX10_behind_22 (by decide) (fun hx14 => ?_) (fun hx14 => ?_)
      · have h := h.1 hx14
        exact k27 M9 v1 v2 v3 h
      · have h := h.2 hx14
        refine zj_iconst (pc := 25) hc dX10_behind_25 (zin _ rfl) ?_
        exact zj_iret (pc := 26) hc hr hlk dX10_behind_26 (by decide) (by decide) h
set_option maxHeartbeats 4000000 in
set_option maxRecDepth 100000 in
theorem S_X10_block (l : Launch) (G : zG) (v1 : Int) (v2 : Int) (M : zMem) (Qr : Int → zMem → Prop) (h : T_X10_block v1 v2 Qr M) : zMetI l yX10_block cX10_block 3 (some .int) 1 22 0 0 G [.inr 639, .inl v1, .inl v2] M Qr := by
  refine zmetI (by decide) (Nat.le_of_ble_eq_true rfl) [some (.inr 639), some (.inl v1), some (.inl v2)] rfl ?_
  intro p e s m args below meth c hc hr hlk
  unfold T_X10_block at h
  refine zj_aload_n (pc := 0) hc dX10_block_0 rfl ?_
  refine zj_iconst (pc := 1) hc dX10_block_1 (zin _ rfl) ?_
  refine zs_9_0 (pc := 2) hc lk_X10_77 dX10_block_2 (fun M1 hM1 => ?_)
  have h := h M1 hM1
  refine zj_iload_n (pc := 5) hc dX10_block_5 rfl ?_
  refine zj_iconst (pc := 6) hc dX10_block_6 (zin _ rfl) ?_
  refine zj_bipush (pc := 7) hc dX10_block_7 (by decide) (zin _ rfl) ?_
  refine zj_sti (pc := 9) (st := []) hc ks_X10_isIn st_X10_isIn lk_X10_83 (S_X10_isIn l G v1 0 9 M1 _ h) rfl ⟨Nat.le_of_ble_eq_true rfl, Nat.le_of_ble_eq_true rfl⟩ (Nat.le_of_ble_eq_true rfl) ⟨Nat.le_of_ble_eq_true rfl, Nat.le_of_ble_eq_true rfl⟩ dX10_block_9 rfl (fun y2 M9 h => ?_)
  obtain ⟨hM9, h⟩ := h
  subst hM9
  refine zj_if_eq (pc := 12) (tgt := 39) hc dX10_block_12 (by decide) (fun hx3 => ?_) (fun hx3 => ?_)
  · have h := h.1 hx3
    refine zj_iconst (pc := 39) hc dX10_block_39 (zin _ rfl) ?_
    exact zj_iret (pc := 40) hc hr hlk dX10_block_40 (by decide) (by decide) h
  · have h := h.2 hx3
    refine zj_iload_n (pc := 15) hc dX10_block_15 rfl ?_
    refine zj_iconst (pc := 16) hc dX10_block_16 (zin _ rfl) ?_
    refine zj_bipush (pc := 17) hc dX10_block_17 (by decide) (zin _ rfl) ?_
    refine zj_sti (pc := 19) (st := []) hc ks_X10_isIn st_X10_isIn lk_X10_83 (S_X10_isIn l G v2 0 63 M1 _ h) rfl ⟨Nat.le_of_ble_eq_true rfl, Nat.le_of_ble_eq_true rfl⟩ (Nat.le_of_ble_eq_true rfl) ⟨Nat.le_of_ble_eq_true rfl, Nat.le_of_ble_eq_true rfl⟩ dX10_block_19 rfl (fun y4 M9 h => ?_)
    obtain ⟨hM9, h⟩ := h
    subst hM9
    refine zj_if_eq (pc := 22) (tgt := 39) hc dX10_block_22 (by decide) (fun hx5 => ?_) (fun hx5 => ?_)
    · have h := h.1 hx5
      refine zj_iconst (pc := 39) hc dX10_block_39 (zin _ rfl) ?_
      exact zj_iret (pc := 40) hc hr hlk dX10_block_40 (by decide) (by decide) h
    · have h := h.2 hx5
      refine zj_aload_n (pc := 25) hc dX10_block_25 rfl ?_
      refine zg_9_6 (pc := 26) hc lk_X10_22 dX10_block_26 ?_
      refine zj_bipush (pc := 29) hc dX10_block_29 (by decide) (zin _ rfl) ?_
      refine zj_iload_n (pc := 31) hc dX10_block_31 rfl ?_
      refine zj_imul (pc := 32) hc dX10_block_32 h.1 ?_
      have h := h.2
      refine zj_iload_n (pc := 33) hc dX10_block_33 rfl ?_
      refine zj_iadd (pc := 34) hc dX10_block_34 h.1 ?_
      have h := h.2
      refine zj_iald (pc := 35) hc dX10_block_35 alen_582 h.1 ?_
      have h := h.2
      refine zj_goto (pc := 36) (tgt := 40) hc dX10_block_36 (by decide) ?_
      exact zj_iret (pc := 40) hc hr hlk dX10_block_40 (by decide) (by decide) h
set_option maxHeartbeats 4000000 in
set_option maxRecDepth 100000 in
theorem S_X10_directory (l : Launch) (G : zG) (v1 : Int) (M : zMem) (Qr : Int → zMem → Prop) (h : T_X10_directory v1 Qr M) : zMetI l yX10_directory cX10_directory 2 (some .int) 1 22 0 0 G [.inr 639, .inl v1] M Qr := by
  refine zmetI (by decide) (Nat.le_of_ble_eq_true rfl) [some (.inr 639), some (.inl v1)] rfl ?_
  intro p e s m args below meth c hc hr hlk
  unfold T_X10_directory at h
  refine zj_aload_n (pc := 0) hc dX10_directory_0 rfl ?_
  refine zj_iconst (pc := 1) hc dX10_directory_1 (zin _ rfl) ?_
  refine zs_9_0 (pc := 2) hc lk_X10_77 dX10_directory_2 (fun M1 hM1 => ?_)
  have h := h M1 hM1
  refine zj_iload_n (pc := 5) hc dX10_directory_5 rfl ?_
  refine zj_iconst (pc := 6) hc dX10_directory_6 (zin _ rfl) ?_
  refine zj_bipush (pc := 7) hc dX10_directory_7 (by decide) (zin _ rfl) ?_
  refine zj_sti (pc := 9) (st := []) hc ks_X10_isIn st_X10_isIn lk_X10_83 (S_X10_isIn l G v1 0 20 M1 _ h) rfl ⟨Nat.le_of_ble_eq_true rfl, Nat.le_of_ble_eq_true rfl⟩ (Nat.le_of_ble_eq_true rfl) ⟨Nat.le_of_ble_eq_true rfl, Nat.le_of_ble_eq_true rfl⟩ dX10_directory_9 rfl (fun y2 M9 h => ?_)
  obtain ⟨hM9, h⟩ := h
  subst hM9
  refine zj_if_eq (pc := 12) (tgt := 28) hc dX10_directory_12 (by decide) (fun hx3 => ?_) (fun hx3 => ?_)
  · have h := h.1 hx3
    refine zj_iconst (pc := 28) hc dX10_directory_28 (zin _ rfl) ?_
    exact zj_iret (pc := 29) hc hr hlk dX10_directory_29 (by decide) (by decide) h
  · have h := h.2 hx3
    refine zj_aload_n (pc := 15) hc dX10_directory_15 rfl ?_
    refine zg_9_6 (pc := 16) hc lk_X10_22 dX10_directory_16 ?_
    refine zj_sipush (pc := 19) hc dX10_directory_19 (by decide) (zin _ rfl) ?_
    refine zj_iload_n (pc := 22) hc dX10_directory_22 rfl ?_
    refine zj_iadd (pc := 23) hc dX10_directory_23 h.1 ?_
    have h := h.2
    refine zj_iald (pc := 24) hc dX10_directory_24 alen_582 h.1 ?_
    have h := h.2
    refine zj_goto (pc := 25) (tgt := 29) hc dX10_directory_25 (by decide) ?_
    exact zj_iret (pc := 29) hc hr hlk dX10_directory_29 (by decide) (by decide) h
set_option maxHeartbeats 4000000 in
set_option maxRecDepth 100000 in
theorem S_X10_journal (l : Launch) (G : zG) (v1 : Int) (M : zMem) (Qr : Int → zMem → Prop) (h : T_X10_journal v1 Qr M) : zMetI l yX10_journal cX10_journal 2 (some .int) 1 22 0 0 G [.inr 639, .inl v1] M Qr := by
  refine zmetI (by decide) (Nat.le_of_ble_eq_true rfl) [some (.inr 639), some (.inl v1)] rfl ?_
  intro p e s m args below meth c hc hr hlk
  unfold T_X10_journal at h
  refine zj_aload_n (pc := 0) hc dX10_journal_0 rfl ?_
  refine zj_iconst (pc := 1) hc dX10_journal_1 (zin _ rfl) ?_
  refine zs_9_0 (pc := 2) hc lk_X10_77 dX10_journal_2 (fun M1 hM1 => ?_)
  have h := h M1 hM1
  refine zj_iload_n (pc := 5) hc dX10_journal_5 rfl ?_
  refine zj_iconst (pc := 6) hc dX10_journal_6 (zin _ rfl) ?_
  refine zj_sipush (pc := 7) hc dX10_journal_7 (by decide) (zin _ rfl) ?_
  refine zj_sti (pc := 10) (st := []) hc ks_X10_isIn st_X10_isIn lk_X10_83 (S_X10_isIn l G v1 0 672 M1 _ h) rfl ⟨Nat.le_of_ble_eq_true rfl, Nat.le_of_ble_eq_true rfl⟩ (Nat.le_of_ble_eq_true rfl) ⟨Nat.le_of_ble_eq_true rfl, Nat.le_of_ble_eq_true rfl⟩ dX10_journal_10 rfl (fun y2 M9 h => ?_)
  obtain ⟨hM9, h⟩ := h
  subst hM9
  refine zj_if_eq (pc := 13) (tgt := 29) hc dX10_journal_13 (by decide) (fun hx3 => ?_) (fun hx3 => ?_)
  · have h := h.1 hx3
    refine zj_iconst (pc := 29) hc dX10_journal_29 (zin _ rfl) ?_
    exact zj_iret (pc := 30) hc hr hlk dX10_journal_30 (by decide) (by decide) h
  · have h := h.2 hx3
    refine zj_aload_n (pc := 16) hc dX10_journal_16 rfl ?_
    refine zg_9_6 (pc := 17) hc lk_X10_22 dX10_journal_17 ?_
    refine zj_sipush (pc := 20) hc dX10_journal_20 (by decide) (zin _ rfl) ?_
    refine zj_iload_n (pc := 23) hc dX10_journal_23 rfl ?_
    refine zj_iadd (pc := 24) hc dX10_journal_24 h.1 ?_
    have h := h.2
    refine zj_iald (pc := 25) hc dX10_journal_25 alen_582 h.1 ?_
    have h := h.2
    refine zj_goto (pc := 26) (tgt := 30) hc dX10_journal_26 (by decide) ?_
    exact zj_iret (pc := 30) hc hr hlk dX10_journal_30 (by decide) (by decide) h
set_option maxHeartbeats 4000000 in
set_option maxRecDepth 100000 in
theorem S_X10_ofAll (l : Launch) (G : zG) (v1 : Int) (M : zMem) (Qr : Int → zMem → Prop) (h : T_X10_ofAll v1 Qr M) : zMetI l yX10_ofAll cX10_ofAll 4 (some .int) 5 124 0 0 G [.inr 639, .inl v1] M Qr := by
  refine zmetI (by decide) (Nat.le_of_ble_eq_true rfl) [some (.inr 639), some (.inl v1), none, none] rfl ?_
  intro p e s m args below meth c hc hr hlk
  have k80 : ∀ (M : zMem) (v1 : Int) (v3 : Int) (s0 : Int) (s1 : Int) (X26 : Int → Int → zMem → Prop) (hX26 : ∀ (v2 : Int) (v3 : Int) (M : zMem), X26 v2 v3 M → zJ p l e (zRoom 5 124 0 0) s m args below meth c G 4 0 0 (MQ below (zQi G (Qr)) args s 0 0 (zA G)) 26 [some (.inr 639), some (.inl v1), some (.inl v2), some (.inl v3)] [] M), T_X10_ofAll_80 v1 v3 s0 s1 X26 Qr M → zJ p l e (zRoom 5 124 0 0) s m args below meth c G 4 0 0 (MQ below (zQi G (Qr)) args s 0 0 (zA G)) 80 [some (.inr 639), some (.inl v1), none, some (.inl v3)] [.inl s1, .inl s0] M := by
    intro M v1 v3 s0 s1 X26 hX26 h
    unfold T_X10_ofAll_80 at h
    refine zj_iadd (pc := 80) hc dX10_ofAll_80 h.1 ?_
    have h := h.2
    refine zj_istore_n (pc := 81) hc dX10_ofAll_81 (by decide) ?_
    refine zj_iinc (pc := 82) hc dX10_ofAll_82 rfl (by decide) h.1 ?_
    have h := h.2
    refine zj_goto (pc := 85) (tgt := 26) hc dX10_ofAll_85 (by decide) ?_
    exact hX26 (s0 + s1) (v3 + 1) M h
  have k26 : ∀ (M : zMem) (v1 : Int) (v2 : Int) (v3 : Int), T_X10_ofAll_26 v1 Qr v2 v3 M → zJ p l e (zRoom 5 124 0 0) s m args below meth c G 4 0 0 (MQ below (zQi G (Qr)) args s 0 0 (zA G)) 26 [some (.inr 639), some (.inl v1), some (.inl v2), some (.inl v3)] [] M := by
    intro M v1 v2 v3 h
    unfold T_X10_ofAll_26 at h
    refine zl2_use h (fun v2 v3 M => zJ p l e (zRoom 5 124 0 0) s m args below meth c G 4 0 0 (MQ below (zQi G (Qr)) args s 0 0 (zA G)) 26 [some (.inr 639), some (.inl v1), some (.inl v2), some (.inl v3)] [] M) (fun X26 hX26 v2 v3 M h => ?_)
    refine zj_iload_n (pc := 26) hc dX10_ofAll_26 rfl ?_
    refine zj_aload_n (pc := 27) hc dX10_ofAll_27 rfl ?_
    refine zg_9_6 (pc := 28) hc lk_X10_22 dX10_ofAll_28 ?_
    refine zj_sti (pc := 31) (st := [.inl v3]) hc ks_X10_pagesOf st_X10_pagesOf lk_X10_151 (S_X10_pagesOf l G 582 M _ h) rfl ⟨Nat.le_of_ble_eq_true rfl, Nat.le_of_ble_eq_true rfl⟩ (Nat.le_of_ble_eq_true rfl) ⟨Nat.le_of_ble_eq_true rfl, Nat.le_of_ble_eq_true rfl⟩ dX10_ofAll_31 rfl (fun y1 M9 h => ?_)
    obtain ⟨hM9, h⟩ := h
    subst hM9
    refine zj_icmp_ge (pc := 34) (tgt := 88) hc dX10_ofAll_34 (by decide) (fun hx2 => ?_) (fun hx2 => ?_)
    · have h := h.1 hx2
      refine zj_iload_n (pc := 88) hc dX10_ofAll_88 rfl ?_
      exact zj_iret (pc := 89) hc hr hlk dX10_ofAll_89 (by decide) (by decide) h
    · have h := h.2 hx2
      refine zj_aload_n (pc := 37) hc dX10_ofAll_37 rfl ?_
      refine zj_aload_n (pc := 38) hc dX10_ofAll_38 rfl ?_
      refine zg_9_6 (pc := 39) hc lk_X10_22 dX10_ofAll_39 ?_
      refine zj_aload_n (pc := 42) hc dX10_ofAll_42 rfl ?_
      refine zg_9_6 (pc := 43) hc lk_X10_22 dX10_ofAll_43 ?_
      refine zj_iload_n (pc := 46) hc dX10_ofAll_46 rfl ?_
      refine zj_sti (pc := 47) (st := [.inr 582, .inr 639]) hc ks_X10_numberOf st_X10_numberOf lk_X10_183 (S_X10_numberOf l G 582 v3 M _ h) rfl ⟨Nat.le_of_ble_eq_true rfl, Nat.le_of_ble_eq_true rfl⟩ (Nat.le_of_ble_eq_true rfl) ⟨Nat.le_of_ble_eq_true rfl, Nat.le_of_ble_eq_true rfl⟩ dX10_ofAll_47 rfl (fun y3 M9 h => ?_)
      obtain ⟨hM9, h⟩ := h
      subst hM9
      refine zj_vtv (pc := 50) (st := []) hc ks_X10_laysAlone iv_X10_laysAlone lk_X10_227 (zrv_9 G M) (S_X10_laysAlone l G 582 y3 M _ h) rfl ⟨Nat.le_of_ble_eq_true rfl, Nat.le_of_ble_eq_true rfl⟩ (Nat.le_of_ble_eq_true rfl) ⟨Nat.le_of_ble_eq_true rfl, Nat.le_of_ble_eq_true rfl⟩ dX10_ofAll_50 rfl (fun M4 h => ?_)
      refine zj_iload_n (pc := 53) hc dX10_ofAll_53 rfl ?_
      refine zj_iload_n (pc := 54) hc dX10_ofAll_54 rfl ?_
      refine zj_if_ne (pc := 55) (tgt := 65) hc dX10_ofAll_55 (by decide) (fun hx5 => ?_) (fun hx5 => ?_)
      · have h := h.1 hx5
        refine zj_aload_n (pc := 65) hc dX10_ofAll_65 rfl ?_
        refine zg_9_6 (pc := 66) hc lk_X10_22 dX10_ofAll_66 ?_
        refine zj_aload_n (pc := 69) hc dX10_ofAll_69 rfl ?_
        refine zg_9_6 (pc := 70) hc lk_X10_22 dX10_ofAll_70 ?_
        refine zj_iload_n (pc := 73) hc dX10_ofAll_73 rfl ?_
        refine zj_sti (pc := 74) (st := [.inr 582, .inl v2]) hc ks_X10_numberOf st_X10_numberOf lk_X10_183 (S_X10_numberOf l G 582 v3 M4 _ h) rfl ⟨Nat.le_of_ble_eq_true rfl, Nat.le_of_ble_eq_true rfl⟩ (Nat.le_of_ble_eq_true rfl) ⟨Nat.le_of_ble_eq_true rfl, Nat.le_of_ble_eq_true rfl⟩ dX10_ofAll_74 rfl (fun y6 M9 h => ?_)
        obtain ⟨hM9, h⟩ := h
        subst hM9
        refine zj_sti (pc := 77) (st := [.inl v2]) hc ks_X10_entriesOf st_X10_entriesOf lk_X10_355 (S_X10_entriesOf l G 582 y6 M4 _ h) rfl ⟨Nat.le_of_ble_eq_true rfl, Nat.le_of_ble_eq_true rfl⟩ (Nat.le_of_ble_eq_true rfl) ⟨Nat.le_of_ble_eq_true rfl, Nat.le_of_ble_eq_true rfl⟩ dX10_ofAll_77 rfl (fun y7 M9 h => ?_)
        obtain ⟨hM9, h⟩ := h
        subst hM9
        refine zj_mask (bs := [true, true, false, true]) ?_
        exact k80 M4 v1 v3 v2 y7 X26 hX26 h
      · have h := h.2 hx5
        refine zj_aload_n (pc := 58) hc dX10_ofAll_58 rfl ?_
        refine zj_vti (pc := 59) (st := [.inl v2]) hc ks_X10_recordMany iv_X10_recordMany lk_X10_233 (zrv_9 G M4) (S_X10_recordMany l G M4 _ h) rfl ⟨Nat.le_of_ble_eq_true rfl, Nat.le_of_ble_eq_true rfl⟩ (Nat.le_of_ble_eq_true rfl) ⟨Nat.le_of_ble_eq_true rfl, Nat.le_of_ble_eq_true rfl⟩ dX10_ofAll_59 rfl (fun y8 M9 h => ?_)
        obtain ⟨hM9, h⟩ := h
        subst hM9
        refine zj_goto (pc := 62) (tgt := 80) hc dX10_ofAll_62 (by decide) ?_
        refine zj_mask (bs := [true, true, false, true]) ?_
        exact k80 M4 v1 v3 v2 y8 X26 hX26 h
  unfold T_X10_ofAll at h
  refine zj_aload_n (pc := 0) hc dX10_ofAll_0 rfl ?_
  refine zj_vti (pc := 1) (st := []) hc ks_X10_isDown iv_X10_isDown lk_X10_292 (zrv_9 G M) (S_X10_isDown l G M _ h) rfl ⟨Nat.le_of_ble_eq_true rfl, Nat.le_of_ble_eq_true rfl⟩ (Nat.le_of_ble_eq_true rfl) ⟨Nat.le_of_ble_eq_true rfl, Nat.le_of_ble_eq_true rfl⟩ dX10_ofAll_1 rfl (fun y9 M9 h => ?_)
  obtain ⟨hM9, h⟩ := h
  subst hM9
  refine zj_if_eq (pc := 4) (tgt := 9) hc dX10_ofAll_4 (by decide) (fun hx10 => ?_) (fun hx10 => ?_)
  · have h := h.1 hx10
    refine zj_iload_n (pc := 9) hc dX10_ofAll_9 rfl ?_
    refine zj_iconst (pc := 10) hc dX10_ofAll_10 (zin _ rfl) ?_
    refine zj_icmp_ne (pc := 11) (tgt := 22) hc dX10_ofAll_11 (by decide) (fun hx11 => ?_) (fun hx11 => ?_)
    · have h := h.1 hx11
      refine zj_iconst (pc := 22) hc dX10_ofAll_22 (zin _ rfl) ?_
      refine zj_istore_n (pc := 23) hc dX10_ofAll_23 (by decide) ?_
      refine zj_iconst (pc := 24) hc dX10_ofAll_24 (zin _ rfl) ?_
      refine zj_istore_n (pc := 25) hc dX10_ofAll_25 (by decide) ?_
      exact k26 M v1 0 0 h
    · have h := h.2 hx11
      refine zj_aload_n (pc := 14) hc dX10_ofAll_14 rfl ?_
      refine zg_9_6 (pc := 15) hc lk_X10_22 dX10_ofAll_15 ?_
      refine zj_sti (pc := 18) (st := []) hc ks_X10_pagesOf st_X10_pagesOf lk_X10_151 (S_X10_pagesOf l G 582 M _ h) rfl ⟨Nat.le_of_ble_eq_true rfl, Nat.le_of_ble_eq_true rfl⟩ (Nat.le_of_ble_eq_true rfl) ⟨Nat.le_of_ble_eq_true rfl, Nat.le_of_ble_eq_true rfl⟩ dX10_ofAll_18 rfl (fun y12 M9 h => ?_)
      obtain ⟨hM9, h⟩ := h
      subst hM9
      exact zj_iret (pc := 21) hc hr hlk dX10_ofAll_21 (by decide) (by decide) h
  · have h := h.2 hx10
    refine zj_iconst (pc := 7) hc dX10_ofAll_7 (zin _ rfl) ?_
    exact zj_iret (pc := 8) hc hr hlk dX10_ofAll_8 (by decide) (by decide) h
