set_option maxHeartbeats 4000000 in
set_option maxRecDepth 100000 in
theorem S_X9_isByte (l : Launch) (G : zG) (v0 : Int) (M : zMem) (Qr : Int → Prop) (h : T_X9_isByte v0 Qr M) : zMetI l yX9_isByte cX9_isByte 1 (some .boolean) 0 0 0 0 G [.inl v0] M (fun r9 M9 => M = M9 ∧ Qr r9) := by
  refine zmetI (by decide) (Nat.le_of_ble_eq_true rfl) [some (.inl v0)] rfl ?_
  intro p e s m args below meth c hc hr hlk
  unfold T_X9_isByte at h
  refine zj_iload_n (pc := 0) hc dX9_isByte_0 rfl ?_
  refine zj_if_lt (pc := 1) (tgt := 15) hc dX9_isByte_1 (by decide) (fun hx1 => ?_) (fun hx1 => ?_)
  · have h := h.1 hx1
    refine zj_iconst (pc := 15) hc dX9_isByte_15 (zin _ rfl) ?_
    exact zj_zret (pc := 16) hc hr hlk dX9_isByte_16 (by decide) (by decide) (Or.inl rfl) ⟨rfl, h⟩
  · have h := h.2 hx1
    refine zj_iload_n (pc := 4) hc dX9_isByte_4 rfl ?_
    refine zj_sipush (pc := 5) hc dX9_isByte_5 (by decide) (zin _ rfl) ?_
    refine zj_icmp_gt (pc := 8) (tgt := 15) hc dX9_isByte_8 (by decide) (fun hx2 => ?_) (fun hx2 => ?_)
    · have h := h.1 hx2
      refine zj_iconst (pc := 15) hc dX9_isByte_15 (zin _ rfl) ?_
      exact zj_zret (pc := 16) hc hr hlk dX9_isByte_16 (by decide) (by decide) (Or.inl rfl) ⟨rfl, h⟩
    · have h := h.2 hx2
      refine zj_iconst (pc := 11) hc dX9_isByte_11 (zin _ rfl) ?_
      refine zj_goto (pc := 12) (tgt := 16) hc dX9_isByte_12 (by decide) ?_
      exact zj_zret (pc := 16) hc hr hlk dX9_isByte_16 (by decide) (by decide) (Or.inr rfl) ⟨rfl, h⟩
set_option maxHeartbeats 4000000 in
set_option maxRecDepth 100000 in
theorem S_X8_takePlain (l : Launch) (G : zG) {o : Nat} (ho : o = 3 ∨ o = 5) (v1 : Int) (M : zMem) (Qr : zMem → Prop) (h : T_X8_takePlain o v1 Qr M) : zMetV l yX8_takePlain cX8_takePlain 7 none 1 26 0 0 G [.inr (64 * o + 63), .inl v1] M Qr := by
  refine zmetV (by decide) (Nat.le_of_ble_eq_true rfl) [some (.inr (64 * o + 63)), some (.inl v1), none, none, none, none, none] rfl ?_
  intro p e s m args below meth c hc hr hlk
  have k13 : ∀ (M : zMem) (v1 : Int) (v3 : Int) (v4 : Int), T_X8_takePlain_13 o v1 Qr v3 v4 M → zJ p l e (zRoom 1 26 0 0) s m args below meth c G 7 0 0 (MQ below (zQv G (Qr)) args s 0 0 (zA G)) 13 [some (.inr (64 * o + 63)), some (.inl v1), some (.inr (64 * (o + 1) + 1)), some (.inl v3), some (.inl v4), none, none] [] M := by
    intro M v1 v3 v4 h
    unfold T_X8_takePlain_13 at h
    refine zl2_use h (fun v3 v4 M => zJ p l e (zRoom 1 26 0 0) s m args below meth c G 7 0 0 (MQ below (zQv G (Qr)) args s 0 0 (zA G)) 13 [some (.inr (64 * o + 63)), some (.inl v1), some (.inr (64 * (o + 1) + 1)), some (.inl v3), some (.inl v4), none, none] [] M) (fun X13 hX13 v3 v4 M h => ?_)
    refine zj_iload (pc := 13) hc dX8_takePlain_13 rfl ?_
    refine zj_sipush (pc := 15) hc dX8_takePlain_15 (by decide) (zin _ rfl) ?_
    refine zj_icmp_ge (pc := 18) (tgt := 113) hc dX8_takePlain_18 (by decide) (fun hx1 => ?_) (fun hx1 => ?_)
    · have h := h.1 hx1
      exact zj_vret (pc := 113) hc hr hlk dX8_takePlain_113 (by decide) (by decide) h
    · have h := h.2 hx1
      refine zj_iload_n (pc := 21) hc dX8_takePlain_21 rfl ?_
      refine zj_iconst (pc := 22) hc dX8_takePlain_22 (zin _ rfl) ?_
      refine zj_iadd (pc := 23) hc dX8_takePlain_23 h.1 ?_
      have h := h.2
      refine zj_iload_n (pc := 24) hc dX8_takePlain_24 rfl ?_
      refine zj_icmp_ge (pc := 25) (tgt := 113) hc dX8_takePlain_25 (by decide) (fun hx2 => ?_) (fun hx2 => ?_)
      · have h := h.1 hx2
        exact zj_vret (pc := 113) hc hr hlk dX8_takePlain_113 (by decide) (by decide) h
      · have h := h.2 hx2
        refine zj_aload_n (pc := 28) hc dX8_takePlain_28 rfl ?_
        refine zj_iload_n (pc := 29) hc dX8_takePlain_29 rfl ?_
        refine zj_iald (pc := 30) hc dX8_takePlain_30 (alenv_X6_1 (zho1 ho)) h.1 ?_
        have h := h.2
        refine zj_istore (pc := 31) hc dX8_takePlain_31 (by decide) ?_
        refine zj_aload_n (pc := 33) hc dX8_takePlain_33 rfl ?_
        refine zj_iload_n (pc := 34) hc dX8_takePlain_34 rfl ?_
        refine zj_iconst (pc := 35) hc dX8_takePlain_35 (zin _ rfl) ?_
        refine zj_iadd (pc := 36) hc dX8_takePlain_36 h.1 ?_
        have h := h.2
        refine zj_iald (pc := 37) hc dX8_takePlain_37 (alenv_X6_1 (zho1 ho)) h.1 ?_
        have h := h.2
        refine zj_istore (pc := 38) hc dX8_takePlain_38 (by decide) ?_
        refine zj_iload (pc := 40) hc dX8_takePlain_40 rfl ?_
        refine zj_sni (pc := 42) (st := []) hc ks_X9_isByte st_X9_isByte (nw_X8_74) (S_X9_isByte l G (M.2 (64 * (o + 1) + 1) v3) M _ h) rfl ⟨Nat.le_of_ble_eq_true rfl, Nat.le_of_ble_eq_true rfl⟩ (Nat.le_of_ble_eq_true rfl) ⟨Nat.le_of_ble_eq_true rfl, Nat.le_of_ble_eq_true rfl⟩ dX8_takePlain_42 rfl (fun y3 M9 h => ?_)
        obtain ⟨hM9, h⟩ := h
        subst hM9
        refine zj_if_eq (pc := 45) (tgt := 113) hc dX8_takePlain_45 (by decide) (fun hx4 => ?_) (fun hx4 => ?_)
        · have h := h.1 hx4
          exact zj_vret (pc := 113) hc hr hlk dX8_takePlain_113 (by decide) (by decide) h
        · have h := h.2 hx4
          refine zj_iload (pc := 48) hc dX8_takePlain_48 rfl ?_
          refine zj_if_lt (pc := 50) (tgt := 113) hc dX8_takePlain_50 (by decide) (fun hx5 => ?_) (fun hx5 => ?_)
          · have h := h.1 hx5
            exact zj_vret (pc := 113) hc hr hlk dX8_takePlain_113 (by decide) (by decide) h
          · have h := h.2 hx5
            refine zj_iload (pc := 53) hc dX8_takePlain_53 rfl ?_
            refine zj_bipush (pc := 55) hc dX8_takePlain_55 (by decide) (zin _ rfl) ?_
            refine zj_icmp_gt (pc := 57) (tgt := 113) hc dX8_takePlain_57 (by decide) (fun hx6 => ?_) (fun hx6 => ?_)
            · have h := h.1 hx6
              exact zj_vret (pc := 113) hc hr hlk dX8_takePlain_113 (by decide) (by decide) h
            · have h := h.2 hx6
              refine zj_iload_n (pc := 60) hc dX8_takePlain_60 rfl ?_
              refine zj_iconst (pc := 61) hc dX8_takePlain_61 (zin _ rfl) ?_
              refine zj_iadd (pc := 62) hc dX8_takePlain_62 h.1 ?_
              have h := h.2
              refine zj_iload (pc := 63) hc dX8_takePlain_63 rfl ?_
              refine zj_iadd (pc := 65) hc dX8_takePlain_65 h.1 ?_
              have h := h.2
              refine zj_iload_n (pc := 66) hc dX8_takePlain_66 rfl ?_
              refine zj_icmp_le (pc := 67) (tgt := 73) hc dX8_takePlain_67 (by decide) (fun hx7 => ?_) (fun hx7 => ?_)
              · have h := h.1 hx7
                refine zj_aload_n (pc := 73) hc dX8_takePlain_73 rfl ?_
                refine zgv_X8_2 (pc := 74) ho hc lk_X8_22 dX8_takePlain_74 ?_
                refine zj_iload (pc := 77) hc dX8_takePlain_77 rfl ?_
                refine zj_iload (pc := 79) hc dX8_takePlain_79 rfl ?_
                refine zj_iast (pc := 81) hc dX8_takePlain_81 (alenv_X8_2 ho) h.1 (fun M8 hM8 => ?_)
                have h := h.2 M8 hM8
                refine zj_aload_n (pc := 82) hc dX8_takePlain_82 rfl ?_
                refine zj_iload_n (pc := 83) hc dX8_takePlain_83 rfl ?_
                refine zj_iconst (pc := 84) hc dX8_takePlain_84 (zin _ rfl) ?_
                refine zj_iadd (pc := 85) hc dX8_takePlain_85 h.1 ?_
                have h := h.2
                refine zj_aload_n (pc := 86) hc dX8_takePlain_86 rfl ?_
                refine zgv_X8_3 (pc := 87) ho hc lk_X8_25 dX8_takePlain_87 ?_
                refine zj_iload (pc := 90) hc dX8_takePlain_90 rfl ?_
                refine zj_bipush (pc := 92) hc dX8_takePlain_92 (by decide) (zin _ rfl) ?_
                refine zj_imul (pc := 94) hc dX8_takePlain_94 h.1 ?_
                have h := h.2
                refine zj_iload (pc := 95) hc dX8_takePlain_95 rfl ?_
                refine zj_copy (pc := 97) hc dX8_takePlain_97 lk_X8_78 na_copy st_copy in_System (alenv_X6_1 (zho1 ho)) (alenv_X8_3 ho) h.1 (Nat.le_of_ble_eq_true rfl) (Nat.le_of_ble_eq_true rfl) (fun M9 hM9 => ?_)
                have h := h.2 M9 hM9
                refine zj_iload_n (pc := 100) hc dX8_takePlain_100 rfl ?_
                refine zj_iconst (pc := 101) hc dX8_takePlain_101 (zin _ rfl) ?_
                refine zj_iload (pc := 102) hc dX8_takePlain_102 rfl ?_
                refine zj_iadd (pc := 104) hc dX8_takePlain_104 h.1 ?_
                have h := h.2
                refine zj_iadd (pc := 105) hc dX8_takePlain_105 h.1 ?_
                have h := h.2
                refine zj_nm (fun v3_10 hv3_10 => ?_)
                have h := h v3_10 hv3_10
                refine zj_istore_n (pc := 106) hc dX8_takePlain_106 (by decide) ?_
                refine zj_iinc (pc := 107) hc dX8_takePlain_107 rfl (by decide) h.1 ?_
                have h := h.2
                refine zj_goto (pc := 110) (tgt := 13) hc dX8_takePlain_110 (by decide) ?_
                refine zj_mask (bs := [true, true, true, true, true, false, false]) ?_
                exact hX13 v3_10 (v4 + 1) M9 h
              · have h := h.2 hx7
                refine zj_goto (pc := 70) (tgt := 113) hc dX8_takePlain_70 (by decide) ?_
                exact zj_vret (pc := 113) hc hr hlk dX8_takePlain_113 (by decide) (by decide) h
  unfold T_X8_takePlain at h
  refine zj_aload_n (pc := 0) hc dX8_takePlain_0 rfl ?_
  refine zgv_X8_0 (pc := 1) ho hc lk_X8_12 dX8_takePlain_1 ?_
  refine zgv_X6_1 (pc := 4) (zho1 ho) hc lk_X8_71 dX8_takePlain_4 ?_
  refine zj_astore_n (pc := 7) hc dX8_takePlain_7 (by decide) ?_
  refine zj_iconst (pc := 8) hc dX8_takePlain_8 (zin _ rfl) ?_
  refine zj_istore_n (pc := 9) hc dX8_takePlain_9 (by decide) ?_
  refine zj_iconst (pc := 10) hc dX8_takePlain_10 (zin _ rfl) ?_
  refine zj_istore (pc := 11) hc dX8_takePlain_11 (by decide) ?_
  exact k13 M v1 0 0 h
set_option maxHeartbeats 4000000 in
set_option maxRecDepth 100000 in
theorem S_X8_addPage (l : Launch) (G : zG) {o : Nat} (ho : o = 3 ∨ o = 5) (r1 : Nat) (v2 : Int) (v3 : Int) (M : zMem) (Qr : zMem → Prop) (h : T_X8_addPage o r1 v2 v3 Qr M) : zMetV l yX8_addPage cX8_addPage 9 none 3 80 0 0 G [.inr (64 * o + 63), .inr r1, .inl v2, .inl v3] M Qr := by
  refine zmetV (by decide) (Nat.le_of_ble_eq_true rfl) [some (.inr (64 * o + 63)), some (.inr r1), some (.inl v2), some (.inl v3), none, none, none, none, none] rfl ?_
  intro p e s m args below meth c hc hr hlk
  have k51 : ∀ (M : zMem) (r1 : Nat) (v3 : Int) (v6 : Int) (v5 : Int) (v7 : Int), T_X8_addPage_51 o r1 v3 v6 Qr v5 v7 M → zJ p l e (zRoom 3 80 0 0) s m args below meth c G 9 0 0 (MQ below (zQv G (Qr)) args s 0 0 (zA G)) 51 [some (.inr (64 * o + 63)), some (.inr r1), none, some (.inl v3), none, some (.inl v5), some (.inl v6), some (.inl v7), none] [] M := by
    intro M r1 v3 v6 v5 v7 h
    unfold T_X8_addPage_51 at h
    refine zl2_use h (fun v5 v7 M => zJ p l e (zRoom 3 80 0 0) s m args below meth c G 9 0 0 (MQ below (zQv G (Qr)) args s 0 0 (zA G)) 51 [some (.inr (64 * o + 63)), some (.inr r1), none, some (.inl v3), none, some (.inl v5), some (.inl v6), some (.inl v7), none] [] M) (fun X51 hX51 v5 v7 M h => ?_)
    refine zj_iload (pc := 51) hc dX8_addPage_51 rfl ?_
    refine zj_bipush (pc := 53) hc dX8_addPage_53 (by decide) (zin _ rfl) ?_
    refine zj_icmp_ge (pc := 55) (tgt := 102) hc dX8_addPage_55 (by decide) (fun hx1 => ?_) (fun hx1 => ?_)
    · have h := h.1 hx1
      exact zj_vret (pc := 102) hc hr hlk dX8_addPage_102 (by decide) (by decide) h
    · have h := h.2 hx1
      refine zj_iload (pc := 58) hc dX8_addPage_58 rfl ?_
      refine zj_iload_n (pc := 60) hc dX8_addPage_60 rfl ?_
      refine zj_icmp_ge (pc := 61) (tgt := 102) hc dX8_addPage_61 (by decide) (fun hx2 => ?_) (fun hx2 => ?_)
      · have h := h.1 hx2
        exact zj_vret (pc := 102) hc hr hlk dX8_addPage_102 (by decide) (by decide) h
      · have h := h.2 hx2
        refine zj_aload_n (pc := 64) hc dX8_addPage_64 rfl ?_
        refine zj_iload (pc := 65) hc dX8_addPage_65 rfl ?_
        refine zj_iload (pc := 67) hc dX8_addPage_67 rfl ?_
        refine zj_sti (pc := 69) (st := []) hc ks_X2_sizeAt st_X2_sizeAt lk_X8_62 (S_X2_sizeAt l G r1 v5 v6 M _ h) rfl ⟨Nat.le_of_ble_eq_true rfl, Nat.le_of_ble_eq_true rfl⟩ (Nat.le_of_ble_eq_true rfl) ⟨Nat.le_of_ble_eq_true rfl, Nat.le_of_ble_eq_true rfl⟩ dX8_addPage_69 rfl (fun y3 M9 h => ?_)
        obtain ⟨hM9, h⟩ := h
        subst hM9
        refine zj_istore (pc := 72) hc dX8_addPage_72 (by decide) ?_
        refine zj_iload (pc := 74) hc dX8_addPage_74 rfl ?_
        refine zj_if_ne (pc := 76) (tgt := 82) hc dX8_addPage_76 (by decide) (fun hx4 => ?_) (fun hx4 => ?_)
        · have h := h.1 hx4
          refine zj_aload_n (pc := 82) hc dX8_addPage_82 rfl ?_
          refine zj_aload_n (pc := 83) hc dX8_addPage_83 rfl ?_
          refine zj_iload (pc := 84) hc dX8_addPage_84 rfl ?_
          refine zj_vtv (pc := 86) (st := []) hc ks_X8_apply iv_X8_apply lk_X8_68 (zrvv_X8 G M ho) (S_X8_apply l G ho r1 v5 M _ h) rfl ⟨Nat.le_of_ble_eq_true rfl, Nat.le_of_ble_eq_true rfl⟩ (Nat.le_of_ble_eq_true rfl) ⟨Nat.le_of_ble_eq_true rfl, Nat.le_of_ble_eq_true rfl⟩ dX8_addPage_86 rfl (fun M5 h => ?_)
          refine zj_iload (pc := 89) hc dX8_addPage_89 rfl ?_
          refine zj_iload (pc := 91) hc dX8_addPage_91 rfl ?_
          refine zj_iadd (pc := 93) hc dX8_addPage_93 h.1 ?_
          have h := h.2
          refine zj_istore (pc := 94) hc dX8_addPage_94 (by decide) ?_
          refine zj_iinc (pc := 96) hc dX8_addPage_96 rfl (by decide) h.1 ?_
          have h := h.2
          refine zj_goto (pc := 99) (tgt := 51) hc dX8_addPage_99 (by decide) ?_
          refine zj_mask (bs := [true, true, true, true, true, true, true, true, false]) ?_
          exact hX51 (v5 + y3) (v7 + 1) M5 h
        · have h := h.2 hx4
          refine zj_goto (pc := 79) (tgt := 102) hc dX8_addPage_79 (by decide) ?_
          exact zj_vret (pc := 102) hc hr hlk dX8_addPage_102 (by decide) (by decide) h
  unfold T_X8_addPage at h
  refine zj_aload_n (pc := 0) hc dX8_addPage_0 rfl ?_
  refine zgv_X8_0 (pc := 1) ho hc lk_X8_12 dX8_addPage_1 ?_
  refine zj_aload_n (pc := 4) hc dX8_addPage_4 rfl ?_
  refine zj_iload_n (pc := 5) hc dX8_addPage_5 rfl ?_
  refine zj_bipush (pc := 6) hc dX8_addPage_6 (by decide) (zin _ rfl) ?_
  refine zj_imul (pc := 8) hc dX8_addPage_8 h.1 ?_
  have h := h.2
  refine zj_iconst (pc := 9) hc dX8_addPage_9 (zin _ rfl) ?_
  refine zj_iadd (pc := 10) hc dX8_addPage_10 h.1 ?_
  have h := h.2
  refine zj_aload_n (pc := 11) hc dX8_addPage_11 rfl ?_
  refine zj_iload_n (pc := 12) hc dX8_addPage_12 rfl ?_
  refine zj_sti (pc := 13) (st := [.inl ((v2 * 64) + 2), .inr r1, .inr (64 * (o + 1) + 63)]) hc ks_X4_packedSize st_X4_packedSize lk_X8_48 (S_X4_packedSize l G r1 v2 M _ h) rfl ⟨Nat.le_of_ble_eq_true rfl, Nat.le_of_ble_eq_true rfl⟩ (Nat.le_of_ble_eq_true rfl) ⟨Nat.le_of_ble_eq_true rfl, Nat.le_of_ble_eq_true rfl⟩ dX8_addPage_13 rfl (fun y6 M9 h => ?_)
  obtain ⟨hM9, h⟩ := h
  subst hM9
  refine zj_aload_n (pc := 16) hc dX8_addPage_16 rfl ?_
  refine zj_iload_n (pc := 17) hc dX8_addPage_17 rfl ?_
  refine zj_bipush (pc := 18) hc dX8_addPage_18 (by decide) (zin _ rfl) ?_
  refine zj_imul (pc := 20) hc dX8_addPage_20 h.1 ?_
  have h := h.2
  refine zj_iald (pc := 21) hc dX8_addPage_21 rfl h.1 ?_
  have h := h.2
  refine zj_vti (pc := 22) (st := []) hc ks_X6_unpackRow iv_X6_unpackRow lk_X8_51 (zrvv_X6 G M (zho1 ho)) (S_X6_unpackRow l G (zho1 ho) r1 ((v2 * 64) + 2) y6 (M.2 r1 (v2 * 64)) M _ h) rfl ⟨Nat.le_of_ble_eq_true rfl, Nat.le_of_ble_eq_true rfl⟩ (Nat.le_of_ble_eq_true rfl) ⟨Nat.le_of_ble_eq_true rfl, Nat.le_of_ble_eq_true rfl⟩ dX8_addPage_22 rfl (fun y7 M8 h => ?_)
  refine zj_istore (pc := 25) hc dX8_addPage_25 (by decide) ?_
  refine zj_aload_n (pc := 27) hc dX8_addPage_27 rfl ?_
  refine zj_iload (pc := 28) hc dX8_addPage_28 rfl ?_
  refine zj_vtv (pc := 30) (st := []) hc ks_X8_takePlain iv_X8_takePlain lk_X8_55 (zrvv_X8 G M8 ho) (S_X8_takePlain l G ho y7 M8 _ h) rfl ⟨Nat.le_of_ble_eq_true rfl, Nat.le_of_ble_eq_true rfl⟩ (Nat.le_of_ble_eq_true rfl) ⟨Nat.le_of_ble_eq_true rfl, Nat.le_of_ble_eq_true rfl⟩ dX8_addPage_30 rfl (fun M9 h => ?_)
  refine zj_aload_n (pc := 33) hc dX8_addPage_33 rfl ?_
  refine zj_iload_n (pc := 34) hc dX8_addPage_34 rfl ?_
  refine zj_sti (pc := 35) (st := []) hc ks_X4_logStart st_X4_logStart lk_X8_59 (S_X4_logStart l G r1 v2 M9 _ h) rfl ⟨Nat.le_of_ble_eq_true rfl, Nat.le_of_ble_eq_true rfl⟩ (Nat.le_of_ble_eq_true rfl) ⟨Nat.le_of_ble_eq_true rfl, Nat.le_of_ble_eq_true rfl⟩ dX8_addPage_35 rfl (fun y10 M9 h => ?_)
  obtain ⟨hM9, h⟩ := h
  subst hM9
  refine zj_istore (pc := 38) hc dX8_addPage_38 (by decide) ?_
  refine zj_iload_n (pc := 40) hc dX8_addPage_40 rfl ?_
  refine zj_iconst (pc := 41) hc dX8_addPage_41 (zin _ rfl) ?_
  refine zj_iadd (pc := 42) hc dX8_addPage_42 h.1 ?_
  have h := h.2
  refine zj_bipush (pc := 43) hc dX8_addPage_43 (by decide) (zin _ rfl) ?_
  refine zj_imul (pc := 45) hc dX8_addPage_45 h.1 ?_
  have h := h.2
  refine zj_istore (pc := 46) hc dX8_addPage_46 (by decide) ?_
  refine zj_iconst (pc := 48) hc dX8_addPage_48 (zin _ rfl) ?_
  refine zj_istore (pc := 49) hc dX8_addPage_49 (by decide) ?_
  refine zj_mask (bs := [true, true, false, true, false, true, true, true, true]) ?_
  exact k51 M9 r1 v3 ((v2 + 1) * 64) y10 0 h
set_option maxHeartbeats 4000000 in
set_option maxRecDepth 100000 in
theorem S_X8_loadOnly (l : Launch) (G : zG) {o : Nat} (ho : o = 3 ∨ o = 5) (r1 : Nat) (v2 : Int) (v3 : Int) (M : zMem) (Qr : zMem → Prop) (h : T_X8_loadOnly o r1 v2 v3 Qr M) : zMetV l yX8_loadOnly cX8_loadOnly 4 none 4 108 0 0 G [.inr (64 * o + 63), .inr r1, .inl v2, .inl v3] M Qr := by
  refine zmetV (by decide) (Nat.le_of_ble_eq_true rfl) [some (.inr (64 * o + 63)), some (.inr r1), some (.inl v2), some (.inl v3)] rfl ?_
  intro p e s m args below meth c hc hr hlk
  unfold T_X8_loadOnly at h
  refine zj_aload_n (pc := 0) hc dX8_loadOnly_0 rfl ?_
  refine zgv_X8_2 (pc := 1) ho hc lk_X8_22 dX8_loadOnly_1 ?_
  refine zj_iconst (pc := 4) hc dX8_loadOnly_4 (zin _ rfl) ?_
  refine zj_stv (pc := 5) (st := []) hc ks_J7_fill_53178 st_J7_fill_53178 lk_X8_28 (S_J7_fill_53178 l G (64 * o + 2) (-1) M _ h) rfl ⟨Nat.le_of_ble_eq_true rfl, Nat.le_of_ble_eq_true rfl⟩ (Nat.le_of_ble_eq_true rfl) ⟨Nat.le_of_ble_eq_true rfl, Nat.le_of_ble_eq_true rfl⟩ dX8_loadOnly_5 rfl (fun M1 h => ?_)
  refine zj_aload_n (pc := 8) hc dX8_loadOnly_8 rfl ?_
  refine zj_aload_n (pc := 9) hc dX8_loadOnly_9 rfl ?_
  refine zj_iload_n (pc := 10) hc dX8_loadOnly_10 rfl ?_
  refine zj_iload_n (pc := 11) hc dX8_loadOnly_11 rfl ?_
  refine zj_vtv (pc := 12) (st := []) hc ks_X8_addPage iv_X8_addPage lk_X8_34 (zrvv_X8 G M1 ho) (S_X8_addPage l G ho r1 v2 v3 M1 _ h) rfl ⟨Nat.le_of_ble_eq_true rfl, Nat.le_of_ble_eq_true rfl⟩ (Nat.le_of_ble_eq_true rfl) ⟨Nat.le_of_ble_eq_true rfl, Nat.le_of_ble_eq_true rfl⟩ dX8_loadOnly_12 rfl (fun M2 h => ?_)
  exact zj_vret (pc := 15) hc hr hlk dX8_loadOnly_15 (by decide) (by decide) h
set_option maxHeartbeats 4000000 in
set_option maxRecDepth 100000 in
theorem S_X8_loadAll (l : Launch) (G : zG) {o : Nat} (ho : o = 3 ∨ o = 5) (r1 : Nat) (M : zMem) (Qr : zMem → Prop) (h : T_X8_loadAll o r1 Qr M) : zMetV l yX8_loadAll cX8_loadAll 4 none 4 108 0 0 G [.inr (64 * o + 63), .inr r1] M Qr := by
  refine zmetV (by decide) (Nat.le_of_ble_eq_true rfl) [some (.inr (64 * o + 63)), some (.inr r1), none, none] rfl ?_
  intro p e s m args below meth c hc hr hlk
  have k15 : ∀ (M : zMem) (r1 : Nat) (v2 : Int) (v3 : Int), T_X8_loadAll_15 o r1 v2 Qr v3 M → zJ p l e (zRoom 4 108 0 0) s m args below meth c G 4 0 0 (MQ below (zQv G (Qr)) args s 0 0 (zA G)) 15 [some (.inr (64 * o + 63)), some (.inr r1), some (.inl v2), some (.inl v3)] [] M := by
    intro M r1 v2 v3 h
    unfold T_X8_loadAll_15 at h
    refine zl1_use h (fun v3 M => zJ p l e (zRoom 4 108 0 0) s m args below meth c G 4 0 0 (MQ below (zQv G (Qr)) args s 0 0 (zA G)) 15 [some (.inr (64 * o + 63)), some (.inr r1), some (.inl v2), some (.inl v3)] [] M) (fun X15 hX15 v3 M h => ?_)
    refine zj_iload_n (pc := 15) hc dX8_loadAll_15 rfl ?_
    refine zj_iload_n (pc := 16) hc dX8_loadAll_16 rfl ?_
    refine zj_icmp_ge (pc := 17) (tgt := 38) hc dX8_loadAll_17 (by decide) (fun hx1 => ?_) (fun hx1 => ?_)
    · have h := h.1 hx1
      exact zj_vret (pc := 38) hc hr hlk dX8_loadAll_38 (by decide) (by decide) h
    · have h := h.2 hx1
      refine zj_aload_n (pc := 20) hc dX8_loadAll_20 rfl ?_
      refine zj_aload_n (pc := 21) hc dX8_loadAll_21 rfl ?_
      refine zj_aload_n (pc := 22) hc dX8_loadAll_22 rfl ?_
      refine zj_iload_n (pc := 23) hc dX8_loadAll_23 rfl ?_
      refine zj_sti (pc := 24) (st := [.inr r1, .inr (64 * o + 63)]) hc ks_X4_pageAt st_X4_pageAt lk_X8_44 (S_X4_pageAt l G r1 v3 M _ h) rfl ⟨Nat.le_of_ble_eq_true rfl, Nat.le_of_ble_eq_true rfl⟩ (Nat.le_of_ble_eq_true rfl) ⟨Nat.le_of_ble_eq_true rfl, Nat.le_of_ble_eq_true rfl⟩ dX8_loadAll_24 rfl (fun y2 M9 h => ?_)
      obtain ⟨hM9, h⟩ := h
      subst hM9
      refine zj_bipush (pc := 27) hc dX8_loadAll_27 (by decide) (zin _ rfl) ?_
      refine zj_vtv (pc := 29) (st := []) hc ks_X8_addPage iv_X8_addPage lk_X8_34 (zrvv_X8 G M ho) (S_X8_addPage l G ho r1 y2 64 M _ h) rfl ⟨Nat.le_of_ble_eq_true rfl, Nat.le_of_ble_eq_true rfl⟩ (Nat.le_of_ble_eq_true rfl) ⟨Nat.le_of_ble_eq_true rfl, Nat.le_of_ble_eq_true rfl⟩ dX8_loadAll_29 rfl (fun M3 h => ?_)
      refine zj_iinc (pc := 32) hc dX8_loadAll_32 rfl (by decide) h.1 ?_
      have h := h.2
      refine zj_goto (pc := 35) (tgt := 15) hc dX8_loadAll_35 (by decide) ?_
      exact hX15 (v3 + 1) M3 h
  unfold T_X8_loadAll at h
  refine zj_aload_n (pc := 0) hc dX8_loadAll_0 rfl ?_
  refine zgv_X8_2 (pc := 1) ho hc lk_X8_22 dX8_loadAll_1 ?_
  refine zj_iconst (pc := 4) hc dX8_loadAll_4 (zin _ rfl) ?_
  refine zj_stv (pc := 5) (st := []) hc ks_J7_fill_53178 st_J7_fill_53178 lk_X8_28 (S_J7_fill_53178 l G (64 * o + 2) (-1) M _ h) rfl ⟨Nat.le_of_ble_eq_true rfl, Nat.le_of_ble_eq_true rfl⟩ (Nat.le_of_ble_eq_true rfl) ⟨Nat.le_of_ble_eq_true rfl, Nat.le_of_ble_eq_true rfl⟩ dX8_loadAll_5 rfl (fun M4 h => ?_)
  refine zj_aload_n (pc := 8) hc dX8_loadAll_8 rfl ?_
  refine zj_sti (pc := 9) (st := []) hc ks_X4_inUse st_X4_inUse lk_X8_38 (S_X4_inUse l G r1 M4 _ h) rfl ⟨Nat.le_of_ble_eq_true rfl, Nat.le_of_ble_eq_true rfl⟩ (Nat.le_of_ble_eq_true rfl) ⟨Nat.le_of_ble_eq_true rfl, Nat.le_of_ble_eq_true rfl⟩ dX8_loadAll_9 rfl (fun y5 M9 h => ?_)
  obtain ⟨hM9, h⟩ := h
  subst hM9
  refine zj_istore_n (pc := 12) hc dX8_loadAll_12 (by decide) ?_
  refine zj_iconst (pc := 13) hc dX8_loadAll_13 (zin _ rfl) ?_
  refine zj_istore_n (pc := 14) hc dX8_loadAll_14 (by decide) ?_
  exact k15 M4 r1 y5 0 h
set_option maxHeartbeats 4000000 in
set_option maxRecDepth 100000 in
theorem S_X8_holdsBytes (l : Launch) (G : zG) {o : Nat} (ho : o = 3 ∨ o = 5) (v1 : Int) (r2 : Nat) (v3 : Int) (M : zMem) (Qr : Int → Prop) (h : T_X8_holdsBytes o v1 r2 v3 Qr M) : zMetI l yX8_holdsBytes cX8_holdsBytes 5 (some .boolean) 0 0 0 0 G [.inr (64 * o + 63), .inl v1, .inr r2, .inl v3] M (fun r9 M9 => M = M9 ∧ Qr r9) := by
  refine zmetI (by decide) (Nat.le_of_ble_eq_true rfl) [some (.inr (64 * o + 63)), some (.inl v1), some (.inr r2), some (.inl v3), none] rfl ?_
  intro p e s m args below meth c hc hr hlk
  have k3 : ∀ (v1 : Int) (r2 : Nat) (v3 : Int) (v4 : Int), T_X8_holdsBytes_3 o v1 r2 v3 Qr v4 M → zJ p l e (zRoom 0 0 0 0) s m args below meth c G 5 0 0 (MQ below (zQi G (fun r9 M9 => M = M9 ∧ Qr r9)) args s 0 0 (zA G)) 3 [some (.inr (64 * o + 63)), some (.inl v1), some (.inr r2), some (.inl v3), some (.inl v4)] [] M := by
    intro v1 r2 v3 v4 h
    unfold T_X8_holdsBytes_3 at h
    refine zp1_use h (fun v4 => zJ p l e (zRoom 0 0 0 0) s m args below meth c G 5 0 0 (MQ below (zQi G (fun r9 M9 => M = M9 ∧ Qr r9)) args s 0 0 (zA G)) 3 [some (.inr (64 * o + 63)), some (.inl v1), some (.inr r2), some (.inl v3), some (.inl v4)] [] M) (fun X3 hX3 v4 h => ?_)
    refine zj_iload (pc := 3) hc dX8_holdsBytes_3 rfl ?_
    refine zj_aload_n (pc := 5) hc dX8_holdsBytes_5 rfl ?_
    refine zgv_X8_2 (pc := 6) ho hc lk_X8_22 dX8_holdsBytes_6 ?_
    refine zj_iload_n (pc := 9) hc dX8_holdsBytes_9 rfl ?_
    refine zj_iald (pc := 10) hc dX8_holdsBytes_10 (alenv_X8_2 ho) h.1 ?_
    have h := h.2
    refine zj_icmp_ge (pc := 11) (tgt := 43) hc dX8_holdsBytes_11 (by decide) (fun hx1 => ?_) (fun hx1 => ?_)
    · have h := h.1 hx1
      refine zj_iconst (pc := 43) hc dX8_holdsBytes_43 (zin _ rfl) ?_
      exact zj_zret (pc := 44) hc hr hlk dX8_holdsBytes_44 (by decide) (by decide) (Or.inr rfl) ⟨rfl, h⟩
    · have h := h.2 hx1
      refine zj_aload_n (pc := 14) hc dX8_holdsBytes_14 rfl ?_
      refine zgv_X8_3 (pc := 15) ho hc lk_X8_25 dX8_holdsBytes_15 ?_
      refine zj_iload_n (pc := 18) hc dX8_holdsBytes_18 rfl ?_
      refine zj_bipush (pc := 19) hc dX8_holdsBytes_19 (by decide) (zin _ rfl) ?_
      refine zj_imul (pc := 21) hc dX8_holdsBytes_21 h.1 ?_
      have h := h.2
      refine zj_iload (pc := 22) hc dX8_holdsBytes_22 rfl ?_
      refine zj_iadd (pc := 24) hc dX8_holdsBytes_24 h.1 ?_
      have h := h.2
      refine zj_iald (pc := 25) hc dX8_holdsBytes_25 (alenv_X8_3 ho) h.1 ?_
      have h := h.2
      refine zj_aload_n (pc := 26) hc dX8_holdsBytes_26 rfl ?_
      refine zj_iload_n (pc := 27) hc dX8_holdsBytes_27 rfl ?_
      refine zj_iload (pc := 28) hc dX8_holdsBytes_28 rfl ?_
      refine zj_iadd (pc := 30) hc dX8_holdsBytes_30 h.1 ?_
      have h := h.2
      refine zj_iald (pc := 31) hc dX8_holdsBytes_31 rfl h.1 ?_
      have h := h.2
      refine zj_icmp_eq (pc := 32) (tgt := 37) hc dX8_holdsBytes_32 (by decide) (fun hx2 => ?_) (fun hx2 => ?_)
      · have h := h.1 hx2
        refine zj_iinc (pc := 37) hc dX8_holdsBytes_37 rfl (by decide) h.1 ?_
        have h := h.2
        refine zj_goto (pc := 40) (tgt := 3) hc dX8_holdsBytes_40 (by decide) ?_
        exact hX3 (v4 + 1) h
      · have h := h.2 hx2
        refine zj_iconst (pc := 35) hc dX8_holdsBytes_35 (zin _ rfl) ?_
        exact zj_zret (pc := 36) hc hr hlk dX8_holdsBytes_36 (by decide) (by decide) (Or.inl rfl) ⟨rfl, h⟩
  unfold T_X8_holdsBytes at h
  refine zj_iconst (pc := 0) hc dX8_holdsBytes_0 (zin _ rfl) ?_
  refine zj_istore (pc := 1) hc dX8_holdsBytes_1 (by decide) ?_
  exact k3 v1 r2 v3 0 h
set_option maxHeartbeats 4000000 in
set_option maxRecDepth 100000 in
theorem S_X8_refusalOf (l : Launch) (G : zG) {o : Nat} (ho : o = 3 ∨ o = 5) (r1 : Nat) (v2 : Int) (M : zMem) (Qr : Int → Prop) (h : T_X8_refusalOf o r1 v2 Qr M) : zMetI l yX8_refusalOf cX8_refusalOf 7 (some .int) 1 24 0 0 G [.inr (64 * o + 63), .inr r1, .inl v2] M (fun r9 M9 => M = M9 ∧ Qr r9) := by
  refine zmetI (by decide) (Nat.le_of_ble_eq_true rfl) [some (.inr (64 * o + 63)), some (.inr r1), some (.inl v2), none, none, none, none] rfl ?_
  intro p e s m args below meth c hc hr hlk
  unfold T_X8_refusalOf at h
  refine zj_aload_n (pc := 0) hc dX8_refusalOf_0 rfl ?_
  refine zj_iload_n (pc := 1) hc dX8_refusalOf_1 rfl ?_
  refine zj_iald (pc := 2) hc dX8_refusalOf_2 rfl h.1 ?_
  have h := h.2
  refine zj_sti (pc := 3) (st := []) hc ks_X2_kindOf st_X2_kindOf lk_X8_84 (S_X2_kindOf l G (M.2 r1 v2) M _ h) rfl ⟨Nat.le_of_ble_eq_true rfl, Nat.le_of_ble_eq_true rfl⟩ (Nat.le_of_ble_eq_true rfl) ⟨Nat.le_of_ble_eq_true rfl, Nat.le_of_ble_eq_true rfl⟩ dX8_refusalOf_3 rfl (fun y1 M9 h => ?_)
  obtain ⟨hM9, h⟩ := h
  subst hM9
  refine zj_istore_n (pc := 6) hc dX8_refusalOf_6 (by decide) ?_
  refine zj_aload_n (pc := 7) hc dX8_refusalOf_7 rfl ?_
  refine zj_iload_n (pc := 8) hc dX8_refusalOf_8 rfl ?_
  refine zj_iald (pc := 9) hc dX8_refusalOf_9 rfl h.1 ?_
  have h := h.2
  refine zj_sti (pc := 10) (st := []) hc ks_X2_numberOf st_X2_numberOf lk_X8_88 (S_X2_numberOf l G (M.2 r1 v2) M _ h) rfl ⟨Nat.le_of_ble_eq_true rfl, Nat.le_of_ble_eq_true rfl⟩ (Nat.le_of_ble_eq_true rfl) ⟨Nat.le_of_ble_eq_true rfl, Nat.le_of_ble_eq_true rfl⟩ dX8_refusalOf_10 rfl (fun y2 M9 h => ?_)
  obtain ⟨hM9, h⟩ := h
  subst hM9
  refine zj_istore (pc := 13) hc dX8_refusalOf_13 (by decide) ?_
  refine zj_aload_n (pc := 15) hc dX8_refusalOf_15 rfl ?_
  refine zj_iload_n (pc := 16) hc dX8_refusalOf_16 rfl ?_
  refine zj_iconst (pc := 17) hc dX8_refusalOf_17 (zin _ rfl) ?_
  refine zj_iadd (pc := 18) hc dX8_refusalOf_18 h.1 ?_
  have h := h.2
  refine zj_iald (pc := 19) hc dX8_refusalOf_19 rfl h.1 ?_
  have h := h.2
  refine zj_sipush (pc := 20) hc dX8_refusalOf_20 (by decide) (zin _ rfl) ?_
  refine zj_iand (pc := 23) hc dX8_refusalOf_23 ?_
  refine zj_istore (pc := 24) hc dX8_refusalOf_24 (by decide) ?_
  refine zj_aload_n (pc := 26) hc dX8_refusalOf_26 rfl ?_
  refine zgv_X8_2 (pc := 27) ho hc lk_X8_22 dX8_refusalOf_27 ?_
  refine zj_iload (pc := 30) hc dX8_refusalOf_30 rfl ?_
  refine zj_iald (pc := 32) hc dX8_refusalOf_32 (alenv_X8_2 ho) h.1 ?_
  have h := h.2
  refine zj_nm (fun v6_3 hv6_3 => ?_)
  have h := h v6_3 hv6_3
  refine zj_istore (pc := 33) hc dX8_refusalOf_33 (by decide) ?_
  refine zj_iload_n (pc := 35) hc dX8_refusalOf_35 rfl ?_
  refine zj_iconst (pc := 36) hc dX8_refusalOf_36 (zin _ rfl) ?_
  refine zj_icmp_ne (pc := 37) (tgt := 67) hc dX8_refusalOf_37 (by decide) (fun hx4 => ?_) (fun hx4 => ?_)
  · have h := h.1 hx4
    refine zj_iload (pc := 67) hc dX8_refusalOf_67 rfl ?_
    refine zj_iconst (pc := 69) hc dX8_refusalOf_69 (zin _ rfl) ?_
    refine zj_icmp_ne (pc := 70) (tgt := 76) hc dX8_refusalOf_70 (by decide) (fun hx5 => ?_) (fun hx5 => ?_)
    · have h := h.1 hx5
      refine zj_iload_n (pc := 76) hc dX8_refusalOf_76 rfl ?_
      refine zj_iconst (pc := 77) hc dX8_refusalOf_77 (zin _ rfl) ?_
      refine zj_icmp_ne (pc := 78) (tgt := 116) hc dX8_refusalOf_78 (by decide) (fun hx6 => ?_) (fun hx6 => ?_)
      · have h := h.1 hx6
        refine zj_iload_n (pc := 116) hc dX8_refusalOf_116 rfl ?_
        refine zj_iconst (pc := 117) hc dX8_refusalOf_117 (zin _ rfl) ?_
        refine zj_icmp_ne (pc := 118) (tgt := 136) hc dX8_refusalOf_118 (by decide) (fun hx7 => ?_) (fun hx7 => ?_)
        · have h := h.1 hx7
          refine zj_iconst (pc := 136) hc dX8_refusalOf_136 (zin _ rfl) ?_
          exact zj_iret (pc := 137) hc hr hlk dX8_refusalOf_137 (by decide) (by decide) ⟨rfl, h⟩
        · have h := h.2 hx7
          refine zj_iload (pc := 121) hc dX8_refusalOf_121 rfl ?_
          refine zj_iload (pc := 123) hc dX8_refusalOf_123 rfl ?_
          refine zj_iadd (pc := 125) hc dX8_refusalOf_125 h.1 ?_
          have h := h.2
          refine zj_bipush (pc := 126) hc dX8_refusalOf_126 (by decide) (zin _ rfl) ?_
          refine zj_icmp_le (pc := 128) (tgt := 136) hc dX8_refusalOf_128 (by decide) (fun hx8 => ?_) (fun hx8 => ?_)
          · have h := h.1 hx8
            refine zj_iconst (pc := 136) hc dX8_refusalOf_136 (zin _ rfl) ?_
            exact zj_iret (pc := 137) hc hr hlk dX8_refusalOf_137 (by decide) (by decide) ⟨rfl, h⟩
          · have h := h.2 hx8
            refine zj_bipush (pc := 131) hc dX8_refusalOf_131 (by decide) (zin _ rfl) ?_
            refine zj_goto (pc := 133) (tgt := 137) hc dX8_refusalOf_133 (by decide) ?_
            exact zj_iret (pc := 137) hc hr hlk dX8_refusalOf_137 (by decide) (by decide) ⟨rfl, h⟩
      · have h := h.2 hx6
        refine zj_iload (pc := 81) hc dX8_refusalOf_81 rfl ?_
        refine zj_iload (pc := 83) hc dX8_refusalOf_83 rfl ?_
        refine zj_icmp_ge (pc := 85) (tgt := 109) hc dX8_refusalOf_85 (by decide) (fun hx9 => ?_) (fun hx9 => ?_)
        · have h := h.1 hx9
          refine zj_bipush (pc := 109) hc dX8_refusalOf_109 (by decide) (zin _ rfl) ?_
          refine zj_goto (pc := 111) (tgt := 115) hc dX8_refusalOf_111 (by decide) ?_
          exact zj_iret (pc := 115) hc hr hlk dX8_refusalOf_115 (by decide) (by decide) ⟨rfl, h⟩
        · have h := h.2 hx9
          refine zj_aload_n (pc := 88) hc dX8_refusalOf_88 rfl ?_
          refine zgv_X8_3 (pc := 89) ho hc lk_X8_25 dX8_refusalOf_89 ?_
          refine zj_iload (pc := 92) hc dX8_refusalOf_92 rfl ?_
          refine zj_bipush (pc := 94) hc dX8_refusalOf_94 (by decide) (zin _ rfl) ?_
          refine zj_imul (pc := 96) hc dX8_refusalOf_96 h.1 ?_
          have h := h.2
          refine zj_iload (pc := 97) hc dX8_refusalOf_97 rfl ?_
          refine zj_iadd (pc := 99) hc dX8_refusalOf_99 h.1 ?_
          have h := h.2
          refine zj_iald (pc := 100) hc dX8_refusalOf_100 (alenv_X8_3 ho) h.1 ?_
          have h := h.2
          refine zj_aload_n (pc := 101) hc dX8_refusalOf_101 rfl ?_
          refine zj_iload_n (pc := 102) hc dX8_refusalOf_102 rfl ?_
          refine zj_iconst (pc := 103) hc dX8_refusalOf_103 (zin _ rfl) ?_
          refine zj_iadd (pc := 104) hc dX8_refusalOf_104 h.1 ?_
          have h := h.2
          refine zj_iald (pc := 105) hc dX8_refusalOf_105 rfl h.1 ?_
          have h := h.2
          refine zj_icmp_ne (pc := 106) (tgt := 114) hc dX8_refusalOf_106 (by decide) (fun hx10 => ?_) (fun hx10 => ?_)
          · have h := h.1 hx10
            refine zj_iconst (pc := 114) hc dX8_refusalOf_114 (zin _ rfl) ?_
            exact zj_iret (pc := 115) hc hr hlk dX8_refusalOf_115 (by decide) (by decide) ⟨rfl, h⟩
          · have h := h.2 hx10
            refine zj_bipush (pc := 109) hc dX8_refusalOf_109 (by decide) (zin _ rfl) ?_
            refine zj_goto (pc := 111) (tgt := 115) hc dX8_refusalOf_111 (by decide) ?_
            exact zj_iret (pc := 115) hc hr hlk dX8_refusalOf_115 (by decide) (by decide) ⟨rfl, h⟩
    · have h := h.2 hx5
      refine zj_bipush (pc := 73) hc dX8_refusalOf_73 (by decide) (zin _ rfl) ?_
      exact zj_iret (pc := 75) hc hr hlk dX8_refusalOf_75 (by decide) (by decide) ⟨rfl, h⟩
  · have h := h.2 hx4
    refine zj_iload (pc := 40) hc dX8_refusalOf_40 rfl ?_
    refine zj_iload (pc := 42) hc dX8_refusalOf_42 rfl ?_
    refine zj_icmp_ne (pc := 44) (tgt := 65) hc dX8_refusalOf_44 (by decide) (fun hx11 => ?_) (fun hx11 => ?_)
    · have h := h.1 hx11
      refine zj_iconst (pc := 65) hc dX8_refusalOf_65 (zin _ rfl) ?_
      exact zj_iret (pc := 66) hc hr hlk dX8_refusalOf_66 (by decide) (by decide) ⟨rfl, h⟩
    · have h := h.2 hx11
      refine zj_aload_n (pc := 47) hc dX8_refusalOf_47 rfl ?_
      refine zj_iload (pc := 48) hc dX8_refusalOf_48 rfl ?_
      refine zj_aload_n (pc := 50) hc dX8_refusalOf_50 rfl ?_
      refine zj_iload_n (pc := 51) hc dX8_refusalOf_51 rfl ?_
      refine zj_iconst (pc := 52) hc dX8_refusalOf_52 (zin _ rfl) ?_
      refine zj_iadd (pc := 53) hc dX8_refusalOf_53 h.1 ?_
      have h := h.2
      refine zj_vti (pc := 54) (st := []) hc ks_X8_holdsBytes iv_X8_holdsBytes lk_X8_91 (zrvv_X8 G M ho) (S_X8_holdsBytes l G ho (zand (M.2 r1 (v2 + 1)) 255) r1 (v2 + 2) M _ h) rfl ⟨Nat.le_of_ble_eq_true rfl, Nat.le_of_ble_eq_true rfl⟩ (Nat.le_of_ble_eq_true rfl) ⟨Nat.le_of_ble_eq_true rfl, Nat.le_of_ble_eq_true rfl⟩ dX8_refusalOf_54 rfl (fun y12 M9 h => ?_)
      obtain ⟨hM9, h⟩ := h
      subst hM9
      refine zj_if_eq (pc := 57) (tgt := 65) hc dX8_refusalOf_57 (by decide) (fun hx13 => ?_) (fun hx13 => ?_)
      · have h := h.1 hx13
        refine zj_iconst (pc := 65) hc dX8_refusalOf_65 (zin _ rfl) ?_
        exact zj_iret (pc := 66) hc hr hlk dX8_refusalOf_66 (by decide) (by decide) ⟨rfl, h⟩
      · have h := h.2 hx13
        refine zj_bipush (pc := 60) hc dX8_refusalOf_60 (by decide) (zin _ rfl) ?_
        refine zj_goto (pc := 62) (tgt := 66) hc dX8_refusalOf_62 (by decide) ?_
        exact zj_iret (pc := 66) hc hr hlk dX8_refusalOf_66 (by decide) (by decide) ⟨rfl, h⟩
