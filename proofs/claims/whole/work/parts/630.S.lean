set_option maxHeartbeats 4000000 in
set_option maxRecDepth 100000 in
theorem S_X10_value (l : Launch) (G : zG) (v1 : Int) (v2 : Int) (M : zMem) (Qr : Int → zMem → Prop) (h : T_X10_value v1 v2 Qr M) : zMetI l yX10_value cX10_value 4 (some .int) 5 124 0 0 G [.inr 639, .inl v1, .inl v2] M Qr := by
  refine zmetI (by decide) (Nat.le_of_ble_eq_true rfl) [some (.inr 639), some (.inl v1), some (.inl v2), none] rfl ?_
  intro p e s m args below meth c hc hr hlk
  unfold T_X10_value at h
  refine zj_aload_n (pc := 0) hc dX10_value_0 rfl ?_
  refine zj_iconst (pc := 1) hc dX10_value_1 (zin _ rfl) ?_
  refine zs_9_0 (pc := 2) hc lk_X10_77 dX10_value_2 (fun M1 hM1 => ?_)
  have h := h M1 hM1
  refine zj_aload_n (pc := 5) hc dX10_value_5 rfl ?_
  refine zj_vti (pc := 6) (st := []) hc ks_X10_isDown iv_X10_isDown lk_X10_292 (zrv_9 G M1) (S_X10_isDown l G M1 _ h) rfl ⟨Nat.le_of_ble_eq_true rfl, Nat.le_of_ble_eq_true rfl⟩ (Nat.le_of_ble_eq_true rfl) ⟨Nat.le_of_ble_eq_true rfl, Nat.le_of_ble_eq_true rfl⟩ dX10_value_6 rfl (fun y2 M9 h => ?_)
  obtain ⟨hM9, h⟩ := h
  subst hM9
  refine zj_if_ne (pc := 9) (tgt := 19) hc dX10_value_9 (by decide) (fun hx3 => ?_) (fun hx3 => ?_)
  · have h := h.1 hx3
    refine zj_iconst (pc := 19) hc dX10_value_19 (zin _ rfl) ?_
    exact zj_iret (pc := 20) hc hr hlk dX10_value_20 (by decide) (by decide) h
  · have h := h.2 hx3
    refine zj_iload_n (pc := 12) hc dX10_value_12 rfl ?_
    refine zj_sti (pc := 13) (st := []) hc ks_X10_isKey st_X10_isKey lk_X10_323 (S_X10_isKey l G v1 M1 _ h) rfl ⟨Nat.le_of_ble_eq_true rfl, Nat.le_of_ble_eq_true rfl⟩ (Nat.le_of_ble_eq_true rfl) ⟨Nat.le_of_ble_eq_true rfl, Nat.le_of_ble_eq_true rfl⟩ dX10_value_13 rfl (fun y4 M9 h => ?_)
    obtain ⟨hM9, h⟩ := h
    subst hM9
    refine zj_if_ne (pc := 16) (tgt := 21) hc dX10_value_16 (by decide) (fun hx5 => ?_) (fun hx5 => ?_)
    · have h := h.1 hx5
      refine zj_aload_n (pc := 21) hc dX10_value_21 rfl ?_
      refine zg_9_6 (pc := 22) hc lk_X10_22 dX10_value_22 ?_
      refine zj_aload_n (pc := 25) hc dX10_value_25 rfl ?_
      refine zg_9_6 (pc := 26) hc lk_X10_22 dX10_value_26 ?_
      refine zj_iload_n (pc := 29) hc dX10_value_29 rfl ?_
      refine zj_sti (pc := 30) (st := [.inr 582]) hc ks_X10_placeFor st_X10_placeFor lk_X10_224 (S_X10_placeFor l G 582 v1 M1 _ h) rfl ⟨Nat.le_of_ble_eq_true rfl, Nat.le_of_ble_eq_true rfl⟩ (Nat.le_of_ble_eq_true rfl) ⟨Nat.le_of_ble_eq_true rfl, Nat.le_of_ble_eq_true rfl⟩ dX10_value_30 rfl (fun y6 M9 h => ?_)
      obtain ⟨hM9, h⟩ := h
      subst hM9
      refine zj_sti (pc := 33) (st := []) hc ks_X10_numberOf st_X10_numberOf lk_X10_183 (S_X10_numberOf l G 582 y6 M1 _ h) rfl ⟨Nat.le_of_ble_eq_true rfl, Nat.le_of_ble_eq_true rfl⟩ (Nat.le_of_ble_eq_true rfl) ⟨Nat.le_of_ble_eq_true rfl, Nat.le_of_ble_eq_true rfl⟩ dX10_value_33 rfl (fun y7 M9 h => ?_)
      obtain ⟨hM9, h⟩ := h
      subst hM9
      refine zj_istore_n (pc := 36) hc dX10_value_36 (by decide) ?_
      refine zj_iload_n (pc := 37) hc dX10_value_37 rfl ?_
      refine zj_iconst (pc := 38) hc dX10_value_38 (zin _ rfl) ?_
      refine zj_icmp_ne (pc := 39) (tgt := 44) hc dX10_value_39 (by decide) (fun hx8 => ?_) (fun hx8 => ?_)
      · have h := h.1 hx8
        refine zj_aload_n (pc := 44) hc dX10_value_44 rfl ?_
        refine zj_aload_n (pc := 45) hc dX10_value_45 rfl ?_
        refine zg_9_6 (pc := 46) hc lk_X10_22 dX10_value_46 ?_
        refine zj_iload_n (pc := 49) hc dX10_value_49 rfl ?_
        refine zj_vtv (pc := 50) (st := []) hc ks_X10_laysAlone iv_X10_laysAlone lk_X10_227 (zrv_9 G M1) (S_X10_laysAlone l G 582 y7 M1 _ h) rfl ⟨Nat.le_of_ble_eq_true rfl, Nat.le_of_ble_eq_true rfl⟩ (Nat.le_of_ble_eq_true rfl) ⟨Nat.le_of_ble_eq_true rfl, Nat.le_of_ble_eq_true rfl⟩ dX10_value_50 rfl (fun M9 h => ?_)
        refine zj_iload_n (pc := 53) hc dX10_value_53 rfl ?_
        refine zj_if_ne (pc := 54) (tgt := 64) hc dX10_value_54 (by decide) (fun hx10 => ?_) (fun hx10 => ?_)
        · have h := h.1 hx10
          refine zj_iload_n (pc := 64) hc dX10_value_64 rfl ?_
          refine zj_iconst (pc := 65) hc dX10_value_65 (zin _ rfl) ?_
          refine zj_iconst (pc := 66) hc dX10_value_66 (zin _ rfl) ?_
          refine zj_aload_n (pc := 67) hc dX10_value_67 rfl ?_
          refine zg_9_20 (pc := 68) hc lk_X10_47 dX10_value_68 ?_
          refine zj_iload_n (pc := 71) hc dX10_value_71 rfl ?_
          refine zj_iald (pc := 72) hc dX10_value_72 alen_596 h.1 ?_
          have h := h.2
          refine zj_iadd (pc := 73) hc dX10_value_73 h.1 ?_
          have h := h.2
          refine zj_sti (pc := 74) (st := []) hc ks_X10_isIn st_X10_isIn lk_X10_83 (S_X10_isIn l G v2 2 (1 + (M9.2 596 v1)) M9 _ h) rfl ⟨Nat.le_of_ble_eq_true rfl, Nat.le_of_ble_eq_true rfl⟩ (Nat.le_of_ble_eq_true rfl) ⟨Nat.le_of_ble_eq_true rfl, Nat.le_of_ble_eq_true rfl⟩ dX10_value_74 rfl (fun y11 M9 h => ?_)
          obtain ⟨hM9, h⟩ := h
          subst hM9
          refine zj_if_eq (pc := 77) (tgt := 96) hc dX10_value_77 (by decide) (fun hx12 => ?_) (fun hx12 => ?_)
          · have h := h.1 hx12
            refine zj_iconst (pc := 96) hc dX10_value_96 (zin _ rfl) ?_
            exact zj_iret (pc := 97) hc hr hlk dX10_value_97 (by decide) (by decide) h
          · have h := h.2 hx12
            refine zj_aload_n (pc := 80) hc dX10_value_80 rfl ?_
            refine zg_9_21 (pc := 81) hc lk_X10_50 dX10_value_81 ?_
            refine zj_bipush (pc := 84) hc dX10_value_84 (by decide) (zin _ rfl) ?_
            refine zj_iload_n (pc := 86) hc dX10_value_86 rfl ?_
            refine zj_imul (pc := 87) hc dX10_value_87 h.1 ?_
            have h := h.2
            refine zj_iload_n (pc := 88) hc dX10_value_88 rfl ?_
            refine zj_iadd (pc := 89) hc dX10_value_89 h.1 ?_
            have h := h.2
            refine zj_iconst (pc := 90) hc dX10_value_90 (zin _ rfl) ?_
            refine zj_isub (pc := 91) hc dX10_value_91 h.1 ?_
            have h := h.2
            refine zj_iald (pc := 92) hc dX10_value_92 alen_597 h.1 ?_
            have h := h.2
            refine zj_goto (pc := 93) (tgt := 97) hc dX10_value_93 (by decide) ?_
            exact zj_iret (pc := 97) hc hr hlk dX10_value_97 (by decide) (by decide) h
        · have h := h.2 hx10
          refine zj_aload_n (pc := 57) hc dX10_value_57 rfl ?_
          refine zg_9_20 (pc := 58) hc lk_X10_47 dX10_value_58 ?_
          refine zj_iload_n (pc := 61) hc dX10_value_61 rfl ?_
          refine zj_iald (pc := 62) hc dX10_value_62 alen_596 h.1 ?_
          have h := h.2
          exact zj_iret (pc := 63) hc hr hlk dX10_value_63 (by decide) (by decide) h
      · have h := h.2 hx8
        refine zj_iload_n (pc := 42) hc dX10_value_42 rfl ?_
        exact zj_iret (pc := 43) hc hr hlk dX10_value_43 (by decide) (by decide) h
    · have h := h.2 hx5
      refine zj_iconst (pc := 19) hc dX10_value_19 (zin _ rfl) ?_
      exact zj_iret (pc := 20) hc hr hlk dX10_value_20 (by decide) (by decide) h
set_option maxHeartbeats 4000000 in
set_option maxRecDepth 100000 in
theorem S_X10_next (l : Launch) (G : zG) (v1 : Int) (M : zMem) (Qr : Int → zMem → Prop) (h : T_X10_next v1 Qr M) : zMetI l yX10_next cX10_next 3 (some .int) 5 124 0 0 G [.inr 639, .inl v1] M Qr := by
  refine zmetI (by decide) (Nat.le_of_ble_eq_true rfl) [some (.inr 639), some (.inl v1), none] rfl ?_
  intro p e s m args below meth c hc hr hlk
  unfold T_X10_next at h
  refine zj_aload_n (pc := 0) hc dX10_next_0 rfl ?_
  refine zj_iconst (pc := 1) hc dX10_next_1 (zin _ rfl) ?_
  refine zs_9_0 (pc := 2) hc lk_X10_77 dX10_next_2 (fun M1 hM1 => ?_)
  have h := h M1 hM1
  refine zj_aload_n (pc := 5) hc dX10_next_5 rfl ?_
  refine zj_vti (pc := 6) (st := []) hc ks_X10_isDown iv_X10_isDown lk_X10_292 (zrv_9 G M1) (S_X10_isDown l G M1 _ h) rfl ⟨Nat.le_of_ble_eq_true rfl, Nat.le_of_ble_eq_true rfl⟩ (Nat.le_of_ble_eq_true rfl) ⟨Nat.le_of_ble_eq_true rfl, Nat.le_of_ble_eq_true rfl⟩ dX10_next_6 rfl (fun y2 M9 h => ?_)
  obtain ⟨hM9, h⟩ := h
  subst hM9
  refine zj_if_ne (pc := 9) (tgt := 19) hc dX10_next_9 (by decide) (fun hx3 => ?_) (fun hx3 => ?_)
  · have h := h.1 hx3
    refine zj_iconst (pc := 19) hc dX10_next_19 (zin _ rfl) ?_
    exact zj_iret (pc := 20) hc hr hlk dX10_next_20 (by decide) (by decide) h
  · have h := h.2 hx3
    refine zj_iload_n (pc := 12) hc dX10_next_12 rfl ?_
    refine zj_sti (pc := 13) (st := []) hc ks_X10_isKey st_X10_isKey lk_X10_323 (S_X10_isKey l G v1 M1 _ h) rfl ⟨Nat.le_of_ble_eq_true rfl, Nat.le_of_ble_eq_true rfl⟩ (Nat.le_of_ble_eq_true rfl) ⟨Nat.le_of_ble_eq_true rfl, Nat.le_of_ble_eq_true rfl⟩ dX10_next_13 rfl (fun y4 M9 h => ?_)
    obtain ⟨hM9, h⟩ := h
    subst hM9
    refine zj_if_ne (pc := 16) (tgt := 21) hc dX10_next_16 (by decide) (fun hx5 => ?_) (fun hx5 => ?_)
    · have h := h.1 hx5
      refine zj_aload_n (pc := 21) hc dX10_next_21 rfl ?_
      refine zj_aload_n (pc := 22) hc dX10_next_22 rfl ?_
      refine zg_9_6 (pc := 23) hc lk_X10_22 dX10_next_23 ?_
      refine zj_vtv (pc := 26) (st := []) hc ks_X10_laysAll iv_X10_laysAll lk_X10_339 (zrv_9 G M1) (S_X10_laysAll l G 582 M1 _ h) rfl ⟨Nat.le_of_ble_eq_true rfl, Nat.le_of_ble_eq_true rfl⟩ (Nat.le_of_ble_eq_true rfl) ⟨Nat.le_of_ble_eq_true rfl, Nat.le_of_ble_eq_true rfl⟩ dX10_next_26 rfl (fun M6 h => ?_)
      refine zj_aload_n (pc := 29) hc dX10_next_29 rfl ?_
      refine zj_iload_n (pc := 30) hc dX10_next_30 rfl ?_
      refine zj_sipush (pc := 31) hc dX10_next_31 (by decide) (zin _ rfl) ?_
      refine zj_vti (pc := 34) (st := []) hc ks_X10_lowestKey iv_X10_lowestKey lk_X10_258 (zrv_9 G M6) (S_X10_lowestKey l G v1 256 M6 _ h) rfl ⟨Nat.le_of_ble_eq_true rfl, Nat.le_of_ble_eq_true rfl⟩ (Nat.le_of_ble_eq_true rfl) ⟨Nat.le_of_ble_eq_true rfl, Nat.le_of_ble_eq_true rfl⟩ dX10_next_34 rfl (fun y7 M9 h => ?_)
      obtain ⟨hM9, h⟩ := h
      subst hM9
      refine zj_istore_n (pc := 37) hc dX10_next_37 (by decide) ?_
      refine zj_iload_n (pc := 38) hc dX10_next_38 rfl ?_
      refine zj_sipush (pc := 39) hc dX10_next_39 (by decide) (zin _ rfl) ?_
      refine zj_icmp_ge (pc := 42) (tgt := 49) hc dX10_next_42 (by decide) (fun hx8 => ?_) (fun hx8 => ?_)
      · have h := h.1 hx8
        refine zj_iconst (pc := 49) hc dX10_next_49 (zin _ rfl) ?_
        exact zj_iret (pc := 50) hc hr hlk dX10_next_50 (by decide) (by decide) h
      · have h := h.2 hx8
        refine zj_iload_n (pc := 45) hc dX10_next_45 rfl ?_
        refine zj_goto (pc := 46) (tgt := 50) hc dX10_next_46 (by decide) ?_
        exact zj_iret (pc := 50) hc hr hlk dX10_next_50 (by decide) (by decide) h
    · have h := h.2 hx5
      refine zj_iconst (pc := 19) hc dX10_next_19 (zin _ rfl) ?_
      exact zj_iret (pc := 20) hc hr hlk dX10_next_20 (by decide) (by decide) h
set_option maxHeartbeats 4000000 in
set_option maxRecDepth 100000 in
theorem S_X10_isPlace (l : Launch) (G : zG) (v1 : Int) (M : zMem) (Qr : Int → Prop) (h : T_X10_isPlace v1 Qr M) : zMetI l yX10_isPlace cX10_isPlace 2 (some .boolean) 1 22 0 0 G [.inr 639, .inl v1] M (fun r9 M9 => M = M9 ∧ Qr r9) := by
  refine zmetI (by decide) (Nat.le_of_ble_eq_true rfl) [some (.inr 639), some (.inl v1)] rfl ?_
  intro p e s m args below meth c hc hr hlk
  unfold T_X10_isPlace at h
  refine zj_aload_n (pc := 0) hc dX10_isPlace_0 rfl ?_
  refine zj_vti (pc := 1) (st := []) hc ks_X10_isDown iv_X10_isDown lk_X10_292 (zrv_9 G M) (S_X10_isDown l G M _ h) rfl ⟨Nat.le_of_ble_eq_true rfl, Nat.le_of_ble_eq_true rfl⟩ (Nat.le_of_ble_eq_true rfl) ⟨Nat.le_of_ble_eq_true rfl, Nat.le_of_ble_eq_true rfl⟩ dX10_isPlace_1 rfl (fun y1 M9 h => ?_)
  obtain ⟨hM9, h⟩ := h
  subst hM9
  refine zj_if_ne (pc := 4) (tgt := 28) hc dX10_isPlace_4 (by decide) (fun hx2 => ?_) (fun hx2 => ?_)
  · have h := h.1 hx2
    refine zj_iconst (pc := 28) hc dX10_isPlace_28 (zin _ rfl) ?_
    exact zj_zret (pc := 29) hc hr hlk dX10_isPlace_29 (by decide) (by decide) (Or.inl rfl) ⟨rfl, h⟩
  · have h := h.2 hx2
    refine zj_iload_n (pc := 7) hc dX10_isPlace_7 rfl ?_
    refine zj_iconst (pc := 8) hc dX10_isPlace_8 (zin _ rfl) ?_
    refine zj_aload_n (pc := 9) hc dX10_isPlace_9 rfl ?_
    refine zg_9_6 (pc := 10) hc lk_X10_22 dX10_isPlace_10 ?_
    refine zj_sti (pc := 13) (st := [.inl 0, .inl v1]) hc ks_X10_pagesOf st_X10_pagesOf lk_X10_151 (S_X10_pagesOf l G 582 M _ h) rfl ⟨Nat.le_of_ble_eq_true rfl, Nat.le_of_ble_eq_true rfl⟩ (Nat.le_of_ble_eq_true rfl) ⟨Nat.le_of_ble_eq_true rfl, Nat.le_of_ble_eq_true rfl⟩ dX10_isPlace_13 rfl (fun y3 M9 h => ?_)
    obtain ⟨hM9, h⟩ := h
    subst hM9
    refine zj_iconst (pc := 16) hc dX10_isPlace_16 (zin _ rfl) ?_
    refine zj_isub (pc := 17) hc dX10_isPlace_17 h.1 ?_
    have h := h.2
    refine zj_sti (pc := 18) (st := []) hc ks_X10_isIn st_X10_isIn lk_X10_83 (S_X10_isIn l G v1 0 (y3 - 1) M _ h) rfl ⟨Nat.le_of_ble_eq_true rfl, Nat.le_of_ble_eq_true rfl⟩ (Nat.le_of_ble_eq_true rfl) ⟨Nat.le_of_ble_eq_true rfl, Nat.le_of_ble_eq_true rfl⟩ dX10_isPlace_18 rfl (fun y4 M9 h => ?_)
    obtain ⟨hM9, h⟩ := h
    subst hM9
    refine zj_if_eq (pc := 21) (tgt := 28) hc dX10_isPlace_21 (by decide) (fun hx5 => ?_) (fun hx5 => ?_)
    · have h := h.1 hx5
      refine zj_iconst (pc := 28) hc dX10_isPlace_28 (zin _ rfl) ?_
      exact zj_zret (pc := 29) hc hr hlk dX10_isPlace_29 (by decide) (by decide) (Or.inl rfl) ⟨rfl, h⟩
    · have h := h.2 hx5
      refine zj_iconst (pc := 24) hc dX10_isPlace_24 (zin _ rfl) ?_
      refine zj_goto (pc := 25) (tgt := 29) hc dX10_isPlace_25 (by decide) ?_
      exact zj_zret (pc := 29) hc hr hlk dX10_isPlace_29 (by decide) (by decide) (Or.inr rfl) ⟨rfl, h⟩
set_option maxHeartbeats 4000000 in
set_option maxRecDepth 100000 in
theorem S_X10_page (l : Launch) (G : zG) (v1 : Int) (v2 : Int) (M : zMem) (Qr : Int → zMem → Prop) (h : T_X10_page v1 v2 Qr M) : zMetI l yX10_page cX10_page 5 (some .int) 5 124 0 0 G [.inr 639, .inl v1, .inl v2] M Qr := by
  refine zmetI (by decide) (Nat.le_of_ble_eq_true rfl) [some (.inr 639), some (.inl v1), some (.inl v2), none, none] rfl ?_
  intro p e s m args below meth c hc hr hlk
  unfold T_X10_page at h
  refine zj_aload_n (pc := 0) hc dX10_page_0 rfl ?_
  refine zj_iconst (pc := 1) hc dX10_page_1 (zin _ rfl) ?_
  refine zs_9_0 (pc := 2) hc lk_X10_77 dX10_page_2 (fun M1 hM1 => ?_)
  have h := h M1 hM1
  refine zj_aload_n (pc := 5) hc dX10_page_5 rfl ?_
  refine zj_iload_n (pc := 6) hc dX10_page_6 rfl ?_
  refine zj_vti (pc := 7) (st := []) hc ks_X10_isPlace iv_X10_isPlace lk_X10_352 (zrv_9 G M1) (S_X10_isPlace l G v1 M1 _ h) rfl ⟨Nat.le_of_ble_eq_true rfl, Nat.le_of_ble_eq_true rfl⟩ (Nat.le_of_ble_eq_true rfl) ⟨Nat.le_of_ble_eq_true rfl, Nat.le_of_ble_eq_true rfl⟩ dX10_page_7 rfl (fun y2 M9 h => ?_)
  obtain ⟨hM9, h⟩ := h
  subst hM9
  refine zj_if_eq (pc := 10) (tgt := 23) hc dX10_page_10 (by decide) (fun hx3 => ?_) (fun hx3 => ?_)
  · have h := h.1 hx3
    refine zj_iconst (pc := 23) hc dX10_page_23 (zin _ rfl) ?_
    exact zj_iret (pc := 24) hc hr hlk dX10_page_24 (by decide) (by decide) h
  · have h := h.2 hx3
    refine zj_iload_n (pc := 13) hc dX10_page_13 rfl ?_
    refine zj_iconst (pc := 14) hc dX10_page_14 (zin _ rfl) ?_
    refine zj_bipush (pc := 15) hc dX10_page_15 (by decide) (zin _ rfl) ?_
    refine zj_sti (pc := 17) (st := []) hc ks_X10_isIn st_X10_isIn lk_X10_83 (S_X10_isIn l G v2 0 9 M1 _ h) rfl ⟨Nat.le_of_ble_eq_true rfl, Nat.le_of_ble_eq_true rfl⟩ (Nat.le_of_ble_eq_true rfl) ⟨Nat.le_of_ble_eq_true rfl, Nat.le_of_ble_eq_true rfl⟩ dX10_page_17 rfl (fun y4 M9 h => ?_)
    obtain ⟨hM9, h⟩ := h
    subst hM9
    refine zj_if_ne (pc := 20) (tgt := 25) hc dX10_page_20 (by decide) (fun hx5 => ?_) (fun hx5 => ?_)
    · have h := h.1 hx5
      refine zj_aload_n (pc := 25) hc dX10_page_25 rfl ?_
      refine zg_9_6 (pc := 26) hc lk_X10_22 dX10_page_26 ?_
      refine zj_iload_n (pc := 29) hc dX10_page_29 rfl ?_
      refine zj_sti (pc := 30) (st := []) hc ks_X10_numberOf st_X10_numberOf lk_X10_183 (S_X10_numberOf l G 582 v1 M1 _ h) rfl ⟨Nat.le_of_ble_eq_true rfl, Nat.le_of_ble_eq_true rfl⟩ (Nat.le_of_ble_eq_true rfl) ⟨Nat.le_of_ble_eq_true rfl, Nat.le_of_ble_eq_true rfl⟩ dX10_page_30 rfl (fun y6 M9 h => ?_)
      obtain ⟨hM9, h⟩ := h
      subst hM9
      refine zj_istore_n (pc := 33) hc dX10_page_33 (by decide) ?_
      refine zj_aload_n (pc := 34) hc dX10_page_34 rfl ?_
      refine zg_9_6 (pc := 35) hc lk_X10_22 dX10_page_35 ?_
      refine zj_iload_n (pc := 38) hc dX10_page_38 rfl ?_
      refine zj_sti (pc := 39) (st := []) hc ks_X10_endOf st_X10_endOf lk_X10_166 (S_X10_endOf l G 582 y6 M1 _ h) rfl ⟨Nat.le_of_ble_eq_true rfl, Nat.le_of_ble_eq_true rfl⟩ (Nat.le_of_ble_eq_true rfl) ⟨Nat.le_of_ble_eq_true rfl, Nat.le_of_ble_eq_true rfl⟩ dX10_page_39 rfl (fun y7 M9 h => ?_)
      obtain ⟨hM9, h⟩ := h
      subst hM9
      refine zj_istore (pc := 42) hc dX10_page_42 (by decide) ?_
      refine zj_aload_n (pc := 44) hc dX10_page_44 rfl ?_
      refine zj_aload_n (pc := 45) hc dX10_page_45 rfl ?_
      refine zg_9_6 (pc := 46) hc lk_X10_22 dX10_page_46 ?_
      refine zj_iload_n (pc := 49) hc dX10_page_49 rfl ?_
      refine zj_vtv (pc := 50) (st := []) hc ks_X10_laysAlone iv_X10_laysAlone lk_X10_227 (zrv_9 G M1) (S_X10_laysAlone l G 582 y6 M1 _ h) rfl ⟨Nat.le_of_ble_eq_true rfl, Nat.le_of_ble_eq_true rfl⟩ (Nat.le_of_ble_eq_true rfl) ⟨Nat.le_of_ble_eq_true rfl, Nat.le_of_ble_eq_true rfl⟩ dX10_page_50 rfl (fun M8 h => ?_)
      refine zj_iload_n (pc := 53) hc dX10_page_53 rfl ?_
      by_cases hx9 : v2 < 0 ∨ 8 < v2
      · have h := h.2.2.2.2.2.2.2.2.2 hx9
        refine zj_tableOut (pc := 54) (tgt := 183) hc dX10_page_54 hx9 (by decide) ?_
        refine zj_aload_n (pc := 183) hc dX10_page_183 rfl ?_
        refine zj_iload_n (pc := 184) hc dX10_page_184 rfl ?_
        refine zj_vti (pc := 185) (st := []) hc ks_X10_placeHeld iv_X10_placeHeld lk_X10_283 (zrv_9 G M8) (S_X10_placeHeld l G y6 M8 _ h) rfl ⟨Nat.le_of_ble_eq_true rfl, Nat.le_of_ble_eq_true rfl⟩ (Nat.le_of_ble_eq_true rfl) ⟨Nat.le_of_ble_eq_true rfl, Nat.le_of_ble_eq_true rfl⟩ dX10_page_185 rfl (fun y10 M9 h => ?_)
        obtain ⟨hM9, h⟩ := h
        subst hM9
        refine zj_iconst (pc := 188) hc dX10_page_188 (zin _ rfl) ?_
        refine zj_icmp_ne (pc := 189) (tgt := 196) hc dX10_page_189 (by decide) (fun hx11 => ?_) (fun hx11 => ?_)
        · have h := h.1 hx11
          refine zj_iconst (pc := 196) hc dX10_page_196 (zin _ rfl) ?_
          exact zj_iret (pc := 197) hc hr hlk dX10_page_197 (by decide) (by decide) h
        · have h := h.2 hx11
          refine zj_iconst (pc := 192) hc dX10_page_192 (zin _ rfl) ?_
          refine zj_goto (pc := 193) (tgt := 197) hc dX10_page_193 (by decide) ?_
          exact zj_iret (pc := 197) hc hr hlk dX10_page_197 (by decide) (by decide) h
      · have hx9 : v2 = 0 ∨ v2 = 1 ∨ v2 = 2 ∨ v2 = 3 ∨ v2 = 4 ∨ v2 = 5 ∨ v2 = 6 ∨ v2 = 7 ∨ v2 = 8 := by clear h; omega
        rcases hx9 with hx9 | hx9 | hx9 | hx9 | hx9 | hx9 | hx9 | hx9 | hx9
        · have h := h.1 hx9
          refine zj_tableIn (pc := 54) (tgt := 104) (off := 50) hc dX10_page_54 (by rw [hx9]; decide) (by rw [hx9]; rfl) (by decide) ?_
          refine zj_iload_n (pc := 104) hc dX10_page_104 rfl ?_
          exact zj_iret (pc := 105) hc hr hlk dX10_page_105 (by decide) (by decide) h
        · have h := h.2.1 hx9
          refine zj_tableIn (pc := 54) (tgt := 106) (off := 52) hc dX10_page_54 (by rw [hx9]; decide) (by rw [hx9]; rfl) (by decide) ?_
          refine zj_aload_n (pc := 106) hc dX10_page_106 rfl ?_
          refine zg_9_6 (pc := 107) hc lk_X10_22 dX10_page_107 ?_
          refine zj_iload_n (pc := 110) hc dX10_page_110 rfl ?_
          refine zj_sti (pc := 111) (st := []) hc ks_X10_fenceOf st_X10_fenceOf lk_X10_155 (S_X10_fenceOf l G 582 v1 M8 _ h) rfl ⟨Nat.le_of_ble_eq_true rfl, Nat.le_of_ble_eq_true rfl⟩ (Nat.le_of_ble_eq_true rfl) ⟨Nat.le_of_ble_eq_true rfl, Nat.le_of_ble_eq_true rfl⟩ dX10_page_111 rfl (fun y12 M9 h => ?_)
          obtain ⟨hM9, h⟩ := h
          subst hM9
          exact zj_iret (pc := 114) hc hr hlk dX10_page_114 (by decide) (by decide) h
        · have h := h.2.2.1 hx9
          refine zj_tableIn (pc := 54) (tgt := 115) (off := 61) hc dX10_page_54 (by rw [hx9]; decide) (by rw [hx9]; rfl) (by decide) ?_
          refine zj_aload_n (pc := 115) hc dX10_page_115 rfl ?_
          refine zj_vti (pc := 116) (st := []) hc ks_X10_recordMany iv_X10_recordMany lk_X10_233 (zrv_9 G M8) (S_X10_recordMany l G M8 _ h) rfl ⟨Nat.le_of_ble_eq_true rfl, Nat.le_of_ble_eq_true rfl⟩ (Nat.le_of_ble_eq_true rfl) ⟨Nat.le_of_ble_eq_true rfl, Nat.le_of_ble_eq_true rfl⟩ dX10_page_116 rfl (fun y13 M9 h => ?_)
          obtain ⟨hM9, h⟩ := h
          subst hM9
          exact zj_iret (pc := 119) hc hr hlk dX10_page_119 (by decide) (by decide) h
        · have h := h.2.2.2.1 hx9
          refine zj_tableIn (pc := 54) (tgt := 120) (off := 66) hc dX10_page_54 (by rw [hx9]; decide) (by rw [hx9]; rfl) (by decide) ?_
          refine zj_aload_n (pc := 120) hc dX10_page_120 rfl ?_
          refine zj_iconst (pc := 121) hc dX10_page_121 (zin _ rfl) ?_
          refine zj_sipush (pc := 122) hc dX10_page_122 (by decide) (zin _ rfl) ?_
          refine zj_vti (pc := 125) (st := []) hc ks_X10_plainOf iv_X10_plainOf lk_X10_195 (zrv_9 G M8) (S_X10_plainOf l G 0 255 M8 _ h) rfl ⟨Nat.le_of_ble_eq_true rfl, Nat.le_of_ble_eq_true rfl⟩ (Nat.le_of_ble_eq_true rfl) ⟨Nat.le_of_ble_eq_true rfl, Nat.le_of_ble_eq_true rfl⟩ dX10_page_125 rfl (fun y14 M9 h => ?_)
          obtain ⟨hM9, h⟩ := h
          subst hM9
          exact zj_iret (pc := 128) hc hr hlk dX10_page_128 (by decide) (by decide) h
        · have h := h.2.2.2.2.1 hx9
          refine zj_tableIn (pc := 54) (tgt := 129) (off := 75) hc dX10_page_54 (by rw [hx9]; decide) (by rw [hx9]; rfl) (by decide) ?_
          refine zj_aload_n (pc := 129) hc dX10_page_129 rfl ?_
          refine zg_9_6 (pc := 130) hc lk_X10_22 dX10_page_130 ?_
          refine zj_bipush (pc := 133) hc dX10_page_133 (by decide) (zin _ rfl) ?_
          refine zj_iload_n (pc := 135) hc dX10_page_135 rfl ?_
          refine zj_imul (pc := 136) hc dX10_page_136 h.1 ?_
          have h := h.2
          refine zj_iald (pc := 137) hc dX10_page_137 alen_582 h.1 ?_
          have h := h.2
          exact zj_iret (pc := 138) hc hr hlk dX10_page_138 (by decide) (by decide) h
        · have h := h.2.2.2.2.2.1 hx9
          refine zj_tableIn (pc := 54) (tgt := 139) (off := 85) hc dX10_page_54 (by rw [hx9]; decide) (by rw [hx9]; rfl) (by decide) ?_
          refine zj_aload_n (pc := 139) hc dX10_page_139 rfl ?_
          refine zg_9_6 (pc := 140) hc lk_X10_22 dX10_page_140 ?_
          refine zj_bipush (pc := 143) hc dX10_page_143 (by decide) (zin _ rfl) ?_
          refine zj_iload_n (pc := 145) hc dX10_page_145 rfl ?_
          refine zj_imul (pc := 146) hc dX10_page_146 h.1 ?_
          have h := h.2
          refine zj_iconst (pc := 147) hc dX10_page_147 (zin _ rfl) ?_
          refine zj_iadd (pc := 148) hc dX10_page_148 h.1 ?_
          have h := h.2
          refine zj_iald (pc := 149) hc dX10_page_149 alen_582 h.1 ?_
          have h := h.2
          exact zj_iret (pc := 150) hc hr hlk dX10_page_150 (by decide) (by decide) h
        · have h := h.2.2.2.2.2.2.1 hx9
          refine zj_tableIn (pc := 54) (tgt := 151) (off := 97) hc dX10_page_54 (by rw [hx9]; decide) (by rw [hx9]; rfl) (by decide) ?_
          refine zj_aload_n (pc := 151) hc dX10_page_151 rfl ?_
          refine zg_9_6 (pc := 152) hc lk_X10_22 dX10_page_152 ?_
          refine zj_iload_n (pc := 155) hc dX10_page_155 rfl ?_
          refine zj_sti (pc := 156) (st := []) hc ks_X10_entriesOf st_X10_entriesOf lk_X10_355 (S_X10_entriesOf l G 582 y6 M8 _ h) rfl ⟨Nat.le_of_ble_eq_true rfl, Nat.le_of_ble_eq_true rfl⟩ (Nat.le_of_ble_eq_true rfl) ⟨Nat.le_of_ble_eq_true rfl, Nat.le_of_ble_eq_true rfl⟩ dX10_page_156 rfl (fun y15 M9 h => ?_)
          obtain ⟨hM9, h⟩ := h
          subst hM9
          exact zj_iret (pc := 159) hc hr hlk dX10_page_159 (by decide) (by decide) h
        · have h := h.2.2.2.2.2.2.2.1 hx9
          refine zj_tableIn (pc := 54) (tgt := 160) (off := 106) hc dX10_page_54 (by rw [hx9]; decide) (by rw [hx9]; rfl) (by decide) ?_
          refine zj_iload (pc := 160) hc dX10_page_160 rfl ?_
          refine zj_iconst (pc := 162) hc dX10_page_162 (zin _ rfl) ?_
          refine zj_isub (pc := 163) hc dX10_page_163 h.1 ?_
          have h := h.2
          refine zj_aload_n (pc := 164) hc dX10_page_164 rfl ?_
          refine zg_9_6 (pc := 165) hc lk_X10_22 dX10_page_165 ?_
          refine zj_bipush (pc := 168) hc dX10_page_168 (by decide) (zin _ rfl) ?_
          refine zj_iload_n (pc := 170) hc dX10_page_170 rfl ?_
          refine zj_imul (pc := 171) hc dX10_page_171 h.1 ?_
          have h := h.2
          refine zj_iconst (pc := 172) hc dX10_page_172 (zin _ rfl) ?_
          refine zj_iadd (pc := 173) hc dX10_page_173 h.1 ?_
          have h := h.2
          refine zj_iald (pc := 174) hc dX10_page_174 alen_582 h.1 ?_
          have h := h.2
          refine zj_isub (pc := 175) hc dX10_page_175 h.1 ?_
          have h := h.2
          exact zj_iret (pc := 176) hc hr hlk dX10_page_176 (by decide) (by decide) h
        · have h := h.2.2.2.2.2.2.2.2.1 hx9
          refine zj_tableIn (pc := 54) (tgt := 177) (off := 123) hc dX10_page_54 (by rw [hx9]; decide) (by rw [hx9]; rfl) (by decide) ?_
          refine zj_bipush (pc := 177) hc dX10_page_177 (by decide) (zin _ rfl) ?_
          refine zj_iload (pc := 179) hc dX10_page_179 rfl ?_
          refine zj_isub (pc := 181) hc dX10_page_181 h.1 ?_
          have h := h.2
          exact zj_iret (pc := 182) hc hr hlk dX10_page_182 (by decide) (by decide) h
    · have h := h.2 hx5
      refine zj_iconst (pc := 23) hc dX10_page_23 (zin _ rfl) ?_
      exact zj_iret (pc := 24) hc hr hlk dX10_page_24 (by decide) (by decide) h
set_option maxHeartbeats 4000000 in
set_option maxRecDepth 100000 in
theorem S_X10_packing (l : Launch) (G : zG) (v1 : Int) (v2 : Int) (M : zMem) (Qr : Int → zMem → Prop) (h : T_X10_packing v1 v2 Qr M) : zMetI l yX10_packing cX10_packing 3 (some .int) 5 124 0 0 G [.inr 639, .inl v1, .inl v2] M Qr := by
  refine zmetI (by decide) (Nat.le_of_ble_eq_true rfl) [some (.inr 639), some (.inl v1), some (.inl v2)] rfl ?_
  intro p e s m args below meth c hc hr hlk
  unfold T_X10_packing at h
  refine zj_aload_n (pc := 0) hc dX10_packing_0 rfl ?_
  refine zj_iconst (pc := 1) hc dX10_packing_1 (zin _ rfl) ?_
  refine zs_9_0 (pc := 2) hc lk_X10_77 dX10_packing_2 (fun M1 hM1 => ?_)
  have h := h M1 hM1
  refine zj_aload_n (pc := 5) hc dX10_packing_5 rfl ?_
  refine zj_iload_n (pc := 6) hc dX10_packing_6 rfl ?_
  refine zj_vti (pc := 7) (st := []) hc ks_X10_isPlace iv_X10_isPlace lk_X10_352 (zrv_9 G M1) (S_X10_isPlace l G v1 M1 _ h) rfl ⟨Nat.le_of_ble_eq_true rfl, Nat.le_of_ble_eq_true rfl⟩ (Nat.le_of_ble_eq_true rfl) ⟨Nat.le_of_ble_eq_true rfl, Nat.le_of_ble_eq_true rfl⟩ dX10_packing_7 rfl (fun y2 M9 h => ?_)
  obtain ⟨hM9, h⟩ := h
  subst hM9
  refine zj_if_eq (pc := 10) (tgt := 22) hc dX10_packing_10 (by decide) (fun hx3 => ?_) (fun hx3 => ?_)
  · have h := h.1 hx3
    refine zj_iconst (pc := 22) hc dX10_packing_22 (zin _ rfl) ?_
    exact zj_iret (pc := 23) hc hr hlk dX10_packing_23 (by decide) (by decide) h
  · have h := h.2 hx3
    refine zj_iload_n (pc := 13) hc dX10_packing_13 rfl ?_
    refine zj_iconst (pc := 14) hc dX10_packing_14 (zin _ rfl) ?_
    refine zj_iconst (pc := 15) hc dX10_packing_15 (zin _ rfl) ?_
    refine zj_sti (pc := 16) (st := []) hc ks_X10_isIn st_X10_isIn lk_X10_83 (S_X10_isIn l G v2 0 3 M1 _ h) rfl ⟨Nat.le_of_ble_eq_true rfl, Nat.le_of_ble_eq_true rfl⟩ (Nat.le_of_ble_eq_true rfl) ⟨Nat.le_of_ble_eq_true rfl, Nat.le_of_ble_eq_true rfl⟩ dX10_packing_16 rfl (fun y4 M9 h => ?_)
    obtain ⟨hM9, h⟩ := h
    subst hM9
    refine zj_if_ne (pc := 19) (tgt := 24) hc dX10_packing_19 (by decide) (fun hx5 => ?_) (fun hx5 => ?_)
    · have h := h.1 hx5
      refine zj_aload_n (pc := 24) hc dX10_packing_24 rfl ?_
      refine zj_aload_n (pc := 25) hc dX10_packing_25 rfl ?_
      refine zg_9_6 (pc := 26) hc lk_X10_22 dX10_packing_26 ?_
      refine zj_aload_n (pc := 29) hc dX10_packing_29 rfl ?_
      refine zg_9_6 (pc := 30) hc lk_X10_22 dX10_packing_30 ?_
      refine zj_iload_n (pc := 33) hc dX10_packing_33 rfl ?_
      refine zj_sti (pc := 34) (st := [.inr 582, .inr 639]) hc ks_X10_numberOf st_X10_numberOf lk_X10_183 (S_X10_numberOf l G 582 v1 M1 _ h) rfl ⟨Nat.le_of_ble_eq_true rfl, Nat.le_of_ble_eq_true rfl⟩ (Nat.le_of_ble_eq_true rfl) ⟨Nat.le_of_ble_eq_true rfl, Nat.le_of_ble_eq_true rfl⟩ dX10_packing_34 rfl (fun y6 M9 h => ?_)
      obtain ⟨hM9, h⟩ := h
      subst hM9
      refine zj_vtv (pc := 37) (st := []) hc ks_X10_laysAlone iv_X10_laysAlone lk_X10_227 (zrv_9 G M1) (S_X10_laysAlone l G 582 y6 M1 _ h) rfl ⟨Nat.le_of_ble_eq_true rfl, Nat.le_of_ble_eq_true rfl⟩ (Nat.le_of_ble_eq_true rfl) ⟨Nat.le_of_ble_eq_true rfl, Nat.le_of_ble_eq_true rfl⟩ dX10_packing_37 rfl (fun M7 h => ?_)
      refine zj_aload_n (pc := 40) hc dX10_packing_40 rfl ?_
      refine zj_iconst (pc := 41) hc dX10_packing_41 (zin _ rfl) ?_
      refine zj_sipush (pc := 42) hc dX10_packing_42 (by decide) (zin _ rfl) ?_
      refine zj_vtv (pc := 45) (st := []) hc ks_X10_laysPlain iv_X10_laysPlain lk_X10_189 (zrv_9 G M7) (S_X10_laysPlain l G 0 255 M7 _ h) rfl ⟨Nat.le_of_ble_eq_true rfl, Nat.le_of_ble_eq_true rfl⟩ (Nat.le_of_ble_eq_true rfl) ⟨Nat.le_of_ble_eq_true rfl, Nat.le_of_ble_eq_true rfl⟩ dX10_packing_45 rfl (fun M8 h => ?_)
      refine zj_aload_n (pc := 48) hc dX10_packing_48 rfl ?_
      refine zj_iload_n (pc := 49) hc dX10_packing_49 rfl ?_
      refine zj_vti (pc := 50) (st := []) hc ks_X10_packs iv_X10_packs lk_X10_127 (zrv_9 G M8) (S_X10_packs l G v2 M8 _ h) rfl ⟨Nat.le_of_ble_eq_true rfl, Nat.le_of_ble_eq_true rfl⟩ (Nat.le_of_ble_eq_true rfl) ⟨Nat.le_of_ble_eq_true rfl, Nat.le_of_ble_eq_true rfl⟩ dX10_packing_50 rfl (fun y9 M10 h => ?_)
      exact zj_iret (pc := 53) hc hr hlk dX10_packing_53 (by decide) (by decide) h
    · have h := h.2 hx5
      refine zj_iconst (pc := 22) hc dX10_packing_22 (zin _ rfl) ?_
      exact zj_iret (pc := 23) hc hr hlk dX10_packing_23 (by decide) (by decide) h
