set_option maxHeartbeats 4000000 in
set_option maxRecDepth 100000 in
theorem S_X6_unpackSingles (l : Launch) (G : zG) {o : Nat} (ho : o = 4 ∨ o = 6) (r1 : Nat) (v2 : Int) (v3 : Int) (v4 : Int) (M : zMem) (Qr : Int → zMem → Prop) (h : T_X6_unpackSingles o r1 v2 v3 v4 Qr M) : zMetI l yX6_unpackSingles cX6_unpackSingles 6 (some .int) 1 26 0 0 G [.inr (64 * o + 63), .inr r1, .inl v2, .inl v3, .inl v4] M Qr := by
  refine zmetI (by decide) (Nat.le_of_ble_eq_true rfl) [some (.inr (64 * o + 63)), some (.inr r1), some (.inl v2), some (.inl v3), some (.inl v4), none] rfl ?_
  intro p e s m args below meth c hc hr hlk
  unfold T_X6_unpackSingles at h
  refine zj_aload_n (pc := 0) hc dX6_unpackSingles_0 rfl ?_
  refine zj_iload_n (pc := 1) hc dX6_unpackSingles_1 rfl ?_
  refine zj_iald (pc := 2) hc dX6_unpackSingles_2 rfl h.1 ?_
  have h := h.2
  refine zj_iconst (pc := 3) hc dX6_unpackSingles_3 (zin _ rfl) ?_
  refine zj_iadd (pc := 4) hc dX6_unpackSingles_4 h.1 ?_
  have h := h.2
  refine zj_istore (pc := 5) hc dX6_unpackSingles_5 (by decide) ?_
  refine zj_iload (pc := 7) hc dX6_unpackSingles_7 rfl ?_
  refine zj_iconst (pc := 9) hc dX6_unpackSingles_9 (zin _ rfl) ?_
  refine zj_icmp_lt (pc := 10) (tgt := 24) hc dX6_unpackSingles_10 (by decide) (fun hx1 => ?_) (fun hx1 => ?_)
  · have h := h.1 hx1
    refine zj_aload_n (pc := 24) hc dX6_unpackSingles_24 rfl ?_
    refine zj_iload_n (pc := 25) hc dX6_unpackSingles_25 rfl ?_
    refine zsv_X6_2 (pc := 26) ho hc lk_X6_18 dX6_unpackSingles_26 (fun M2 hM2 => ?_)
    have h := h M2 hM2
    refine zj_iload (pc := 29) hc dX6_unpackSingles_29 rfl ?_
    exact zj_iret (pc := 31) hc hr hlk dX6_unpackSingles_31 (by decide) (by decide) h
  · have h := h.2 hx1
    refine zj_iload (pc := 13) hc dX6_unpackSingles_13 rfl ?_
    refine zj_iload (pc := 15) hc dX6_unpackSingles_15 rfl ?_
    refine zj_iadd (pc := 17) hc dX6_unpackSingles_17 h.1 ?_
    have h := h.2
    refine zj_sipush (pc := 18) hc dX6_unpackSingles_18 (by decide) (zin _ rfl) ?_
    refine zj_icmp_le (pc := 21) (tgt := 32) hc dX6_unpackSingles_21 (by decide) (fun hx3 => ?_) (fun hx3 => ?_)
    · have h := h.1 hx3
      refine zj_iload_n (pc := 32) hc dX6_unpackSingles_32 rfl ?_
      refine zj_iconst (pc := 33) hc dX6_unpackSingles_33 (zin _ rfl) ?_
      refine zj_iadd (pc := 34) hc dX6_unpackSingles_34 h.1 ?_
      have h := h.2
      refine zj_iload (pc := 35) hc dX6_unpackSingles_35 rfl ?_
      refine zj_iadd (pc := 37) hc dX6_unpackSingles_37 h.1 ?_
      have h := h.2
      refine zj_iload_n (pc := 38) hc dX6_unpackSingles_38 rfl ?_
      refine zj_icmp_le (pc := 39) (tgt := 50) hc dX6_unpackSingles_39 (by decide) (fun hx4 => ?_) (fun hx4 => ?_)
      · have h := h.1 hx4
        refine zj_aload_n (pc := 50) hc dX6_unpackSingles_50 rfl ?_
        refine zj_iload_n (pc := 51) hc dX6_unpackSingles_51 rfl ?_
        refine zj_iconst (pc := 52) hc dX6_unpackSingles_52 (zin _ rfl) ?_
        refine zj_iadd (pc := 53) hc dX6_unpackSingles_53 h.1 ?_
        have h := h.2
        refine zj_aload_n (pc := 54) hc dX6_unpackSingles_54 rfl ?_
        refine zgv_X6_1 (pc := 55) ho hc lk_X6_15 dX6_unpackSingles_55 ?_
        refine zj_iload (pc := 58) hc dX6_unpackSingles_58 rfl ?_
        refine zj_iload (pc := 60) hc dX6_unpackSingles_60 rfl ?_
        refine zj_copy (pc := 62) hc dX6_unpackSingles_62 lk_X6_79 na_copy st_copy in_System rfl (alenv_X6_1 ho) h.1 (Nat.le_of_ble_eq_true rfl) (Nat.le_of_ble_eq_true rfl) (fun M5 hM5 => ?_)
        have h := h.2 M5 hM5
        refine zj_iload (pc := 65) hc dX6_unpackSingles_65 rfl ?_
        refine zj_iload (pc := 67) hc dX6_unpackSingles_67 rfl ?_
        refine zj_iadd (pc := 69) hc dX6_unpackSingles_69 h.1 ?_
        have h := h.2
        exact zj_iret (pc := 70) hc hr hlk dX6_unpackSingles_70 (by decide) (by decide) h
      · have h := h.2 hx4
        refine zj_aload_n (pc := 42) hc dX6_unpackSingles_42 rfl ?_
        refine zj_iload_n (pc := 43) hc dX6_unpackSingles_43 rfl ?_
        refine zsv_X6_2 (pc := 44) ho hc lk_X6_18 dX6_unpackSingles_44 (fun M6 hM6 => ?_)
        have h := h M6 hM6
        refine zj_iload (pc := 47) hc dX6_unpackSingles_47 rfl ?_
        exact zj_iret (pc := 49) hc hr hlk dX6_unpackSingles_49 (by decide) (by decide) h
    · have h := h.2 hx3
      refine zj_aload_n (pc := 24) hc dX6_unpackSingles_24 rfl ?_
      refine zj_iload_n (pc := 25) hc dX6_unpackSingles_25 rfl ?_
      refine zsv_X6_2 (pc := 26) ho hc lk_X6_18 dX6_unpackSingles_26 (fun M7 hM7 => ?_)
      have h := h M7 hM7
      refine zj_iload (pc := 29) hc dX6_unpackSingles_29 rfl ?_
      exact zj_iret (pc := 31) hc hr hlk dX6_unpackSingles_31 (by decide) (by decide) h
set_option maxHeartbeats 4000000 in
set_option maxRecDepth 100000 in
theorem S_X6_unpackRow (l : Launch) (G : zG) {o : Nat} (ho : o = 4 ∨ o = 6) (r1 : Nat) (v2 : Int) (v3 : Int) (v4 : Int) (M : zMem) (Qr : Int → zMem → Prop) (h : T_X6_unpackRow o r1 v2 v3 v4 Qr M) : zMetI l yX6_unpackRow cX6_unpackRow 10 (some .int) 2 51 0 0 G [.inr (64 * o + 63), .inr r1, .inl v2, .inl v3, .inl v4] M Qr := by
  refine zmetI (by decide) (Nat.le_of_ble_eq_true rfl) [some (.inr (64 * o + 63)), some (.inr r1), some (.inl v2), some (.inl v3), some (.inl v4), none, none, none, none, none] rfl ?_
  intro p e s m args below meth c hc hr hlk
  have k113 : ∀ (M : zMem) (v2 : Int) (v4 : Int) (v7 : Int), T_X6_unpackRow_113 o v2 v4 v7 Qr M → zJ p l e (zRoom 2 51 0 0) s m args below meth c G 10 0 0 (MQ below (zQi G (Qr)) args s 0 0 (zA G)) 113 [some (.inr (64 * o + 63)), none, some (.inl v2), none, some (.inl v4), none, none, some (.inl v7), none, none] [] M := by
    intro M v2 v4 v7 h
    unfold T_X6_unpackRow_113 at h
    refine zj_aload_n (pc := 113) hc dX6_unpackRow_113 rfl ?_
    refine zgv_X6_2 (pc := 114) ho hc lk_X6_18 dX6_unpackRow_114 ?_
    refine zj_iconst (pc := 117) hc dX6_unpackRow_117 (zin _ rfl) ?_
    refine zj_icmp_eq (pc := 118) (tgt := 133) hc dX6_unpackRow_118 (by decide) (fun hx1 => ?_) (fun hx1 => ?_)
    · have h := h.1 hx1
      refine zj_aload_n (pc := 133) hc dX6_unpackRow_133 rfl ?_
      refine zj_iload (pc := 134) hc dX6_unpackRow_134 rfl ?_
      refine zj_iload (pc := 136) hc dX6_unpackRow_136 rfl ?_
      refine zj_vtv (pc := 138) (st := []) hc ks_X6_turnBack iv_X6_turnBack lk_X6_75 (zrvv_X6 G M ho) (S_X6_turnBack l G ho v7 v4 M _ h) rfl ⟨Nat.le_of_ble_eq_true rfl, Nat.le_of_ble_eq_true rfl⟩ (Nat.le_of_ble_eq_true rfl) ⟨Nat.le_of_ble_eq_true rfl, Nat.le_of_ble_eq_true rfl⟩ dX6_unpackRow_138 rfl (fun M2 h => ?_)
      refine zj_iload (pc := 141) hc dX6_unpackRow_141 rfl ?_
      exact zj_iret (pc := 143) hc hr hlk dX6_unpackRow_143 (by decide) (by decide) h
    · have h := h.2 hx1
      refine zj_aload_n (pc := 121) hc dX6_unpackRow_121 rfl ?_
      refine zj_dup (pc := 122) hc dX6_unpackRow_122 ?_
      refine zgv_X6_2 (pc := 123) ho hc lk_X6_18 dX6_unpackRow_123 ?_
      refine zj_iload_n (pc := 126) hc dX6_unpackRow_126 rfl ?_
      refine zj_isub (pc := 127) hc dX6_unpackRow_127 h.1 ?_
      have h := h.2
      refine zsv_X6_2 (pc := 128) ho hc lk_X6_18 dX6_unpackRow_128 (fun M3 hM3 => ?_)
      have h := h M3 hM3
      refine zj_iconst (pc := 131) hc dX6_unpackRow_131 (zin _ rfl) ?_
      exact zj_iret (pc := 132) hc hr hlk dX6_unpackRow_132 (by decide) (by decide) h
  have k107 : ∀ (M : zMem) (r1 : Nat) (v2 : Int) (v4 : Int) (v5 : Int) (v6 : Int) (v7 : Int) (v8 : Int) (X24 : Int → Int → Int → zMem → Prop) (hX24 : ∀ (v6 : Int) (v7 : Int) (v8 : Int) (M : zMem), X24 v6 v7 v8 M → zJ p l e (zRoom 2 51 0 0) s m args below meth c G 10 0 0 (MQ below (zQi G (Qr)) args s 0 0 (zA G)) 24 [some (.inr (64 * o + 63)), some (.inr r1), some (.inl v2), none, some (.inl v4), some (.inl v5), some (.inl v6), some (.inl v7), some (.inl v8), none] [] M), T_X6_unpackRow_107 o r1 v2 v4 v5 v6 v7 v8 X24 Qr M → zJ p l e (zRoom 2 51 0 0) s m args below meth c G 10 0 0 (MQ below (zQi G (Qr)) args s 0 0 (zA G)) 107 [some (.inr (64 * o + 63)), some (.inr r1), some (.inl v2), none, some (.inl v4), some (.inl v5), some (.inl v6), some (.inl v7), some (.inl v8), none] [] M := by
    intro M r1 v2 v4 v5 v6 v7 v8 X24 hX24 h
    unfold T_X6_unpackRow_107 at h
    refine zj_iinc (pc := 107) hc dX6_unpackRow_107 rfl (by decide) h.1 ?_
    have h := h.2
    refine zj_goto (pc := 110) (tgt := 24) hc dX6_unpackRow_110 (by decide) ?_
    exact hX24 v6 v7 (v8 + 1) M h
  have k24 : ∀ (M : zMem) (r1 : Nat) (v2 : Int) (v4 : Int) (v5 : Int) (v6 : Int) (v7 : Int) (v8 : Int), T_X6_unpackRow_24 o r1 v2 v4 v5 Qr v6 v7 v8 M → zJ p l e (zRoom 2 51 0 0) s m args below meth c G 10 0 0 (MQ below (zQi G (Qr)) args s 0 0 (zA G)) 24 [some (.inr (64 * o + 63)), some (.inr r1), some (.inl v2), none, some (.inl v4), some (.inl v5), some (.inl v6), some (.inl v7), some (.inl v8), none] [] M := by
    intro M r1 v2 v4 v5 v6 v7 v8 h
    unfold T_X6_unpackRow_24 at h
    refine zl3_use h (fun v6 v7 v8 M => zJ p l e (zRoom 2 51 0 0) s m args below meth c G 10 0 0 (MQ below (zQi G (Qr)) args s 0 0 (zA G)) 24 [some (.inr (64 * o + 63)), some (.inr r1), some (.inl v2), none, some (.inl v4), some (.inl v5), some (.inl v6), some (.inl v7), some (.inl v8), none] [] M) (fun X24 hX24 v6 v7 v8 M h => ?_)
    refine zj_iload (pc := 24) hc dX6_unpackRow_24 rfl ?_
    refine zj_sipush (pc := 26) hc dX6_unpackRow_26 (by decide) (zin _ rfl) ?_
    refine zj_icmp_ge (pc := 29) (tgt := 113) hc dX6_unpackRow_29 (by decide) (fun hx4 => ?_) (fun hx4 => ?_)
    · have h := h.1 hx4
      refine zj_mask (bs := [true, false, true, true, true, false, false, true, false, true]) ?_
      exact k113 M v2 v4 v7 h
    · have h := h.2 hx4
      refine zj_iload (pc := 32) hc dX6_unpackRow_32 rfl ?_
      refine zj_if_lt (pc := 34) (tgt := 113) hc dX6_unpackRow_34 (by decide) (fun hx5 => ?_) (fun hx5 => ?_)
      · have h := h.1 hx5
        refine zj_mask (bs := [true, false, true, true, true, false, false, true, false, true]) ?_
        exact k113 M v2 v4 v7 h
      · have h := h.2 hx5
        refine zj_iload (pc := 37) hc dX6_unpackRow_37 rfl ?_
        refine zj_iload (pc := 39) hc dX6_unpackRow_39 rfl ?_
        refine zj_icmp_ge (pc := 41) (tgt := 113) hc dX6_unpackRow_41 (by decide) (fun hx6 => ?_) (fun hx6 => ?_)
        · have h := h.1 hx6
          refine zj_mask (bs := [true, false, true, true, true, false, false, true, false, true]) ?_
          exact k113 M v2 v4 v7 h
        · have h := h.2 hx6
          refine zj_aload_n (pc := 44) hc dX6_unpackRow_44 rfl ?_
          refine zgv_X6_2 (pc := 45) ho hc lk_X6_18 dX6_unpackRow_45 ?_
          refine zj_iconst (pc := 48) hc dX6_unpackRow_48 (zin _ rfl) ?_
          refine zj_icmp_ne (pc := 49) (tgt := 113) hc dX6_unpackRow_49 (by decide) (fun hx7 => ?_) (fun hx7 => ?_)
          · have h := h.1 hx7
            refine zj_mask (bs := [true, false, true, true, true, false, false, true, false, true]) ?_
            exact k113 M v2 v4 v7 h
          · have h := h.2 hx7
            refine zj_aload_n (pc := 52) hc dX6_unpackRow_52 rfl ?_
            refine zj_iload (pc := 53) hc dX6_unpackRow_53 rfl ?_
            refine zj_iald (pc := 55) hc dX6_unpackRow_55 rfl h.1 ?_
            have h := h.2
            refine zj_istore (pc := 56) hc dX6_unpackRow_56 (by decide) ?_
            refine zj_iload (pc := 58) hc dX6_unpackRow_58 rfl ?_
            refine zj_sipush (pc := 60) hc dX6_unpackRow_60 (by decide) (zin _ rfl) ?_
            refine zj_icmp_ge (pc := 63) (tgt := 91) hc dX6_unpackRow_63 (by decide) (fun hx8 => ?_) (fun hx8 => ?_)
            · have h := h.1 hx8
              refine zj_aload_n (pc := 91) hc dX6_unpackRow_91 rfl ?_
              refine zj_aload_n (pc := 92) hc dX6_unpackRow_92 rfl ?_
              refine zj_iload (pc := 93) hc dX6_unpackRow_93 rfl ?_
              refine zj_iload (pc := 95) hc dX6_unpackRow_95 rfl ?_
              refine zj_iload (pc := 97) hc dX6_unpackRow_97 rfl ?_
              refine zj_vti (pc := 99) (st := []) hc ks_X6_unpackLike iv_X6_unpackLike lk_X6_72 (zrvv_X6 G M ho) (S_X6_unpackLike l G ho r1 v6 v5 v7 M _ h) rfl ⟨Nat.le_of_ble_eq_true rfl, Nat.le_of_ble_eq_true rfl⟩ (Nat.le_of_ble_eq_true rfl) ⟨Nat.le_of_ble_eq_true rfl, Nat.le_of_ble_eq_true rfl⟩ dX6_unpackRow_99 rfl (fun y9 M10 h => ?_)
              refine zj_istore (pc := 102) hc dX6_unpackRow_102 (by decide) ?_
              refine zj_iinc (pc := 104) hc dX6_unpackRow_104 rfl (by decide) h.1 ?_
              have h := h.2
              refine zj_mask (bs := [true, true, true, true, true, true, true, true, true, false]) ?_
              exact k107 M10 r1 v2 v4 v5 (v6 + 2) y9 v8 X24 hX24 h
            · have h := h.2 hx8
              refine zj_aload_n (pc := 66) hc dX6_unpackRow_66 rfl ?_
              refine zj_aload_n (pc := 67) hc dX6_unpackRow_67 rfl ?_
              refine zj_iload (pc := 68) hc dX6_unpackRow_68 rfl ?_
              refine zj_iload (pc := 70) hc dX6_unpackRow_70 rfl ?_
              refine zj_iload (pc := 72) hc dX6_unpackRow_72 rfl ?_
              refine zj_vti (pc := 74) (st := []) hc ks_X6_unpackSingles iv_X6_unpackSingles lk_X6_68 (zrvv_X6 G M ho) (S_X6_unpackSingles l G ho r1 v6 v5 v7 M _ h) rfl ⟨Nat.le_of_ble_eq_true rfl, Nat.le_of_ble_eq_true rfl⟩ (Nat.le_of_ble_eq_true rfl) ⟨Nat.le_of_ble_eq_true rfl, Nat.le_of_ble_eq_true rfl⟩ dX6_unpackRow_74 rfl (fun y11 M12 h => ?_)
              refine zj_istore (pc := 77) hc dX6_unpackRow_77 (by decide) ?_
              refine zj_iload (pc := 79) hc dX6_unpackRow_79 rfl ?_
              refine zj_iconst (pc := 81) hc dX6_unpackRow_81 (zin _ rfl) ?_
              refine zj_iload (pc := 82) hc dX6_unpackRow_82 rfl ?_
              refine zj_iadd (pc := 84) hc dX6_unpackRow_84 h.1 ?_
              have h := h.2
              refine zj_iadd (pc := 85) hc dX6_unpackRow_85 h.1 ?_
              have h := h.2
              refine zj_istore (pc := 86) hc dX6_unpackRow_86 (by decide) ?_
              refine zj_goto (pc := 88) (tgt := 107) hc dX6_unpackRow_88 (by decide) ?_
              refine zj_mask (bs := [true, true, true, true, true, true, true, true, true, false]) ?_
              exact k107 M12 r1 v2 v4 v5 (v6 + (2 + (M.2 r1 v6))) y11 v8 X24 hX24 h
  unfold T_X6_unpackRow at h
  refine zj_aload_n (pc := 0) hc dX6_unpackRow_0 rfl ?_
  refine zj_iconst (pc := 1) hc dX6_unpackRow_1 (zin _ rfl) ?_
  refine zsv_X6_2 (pc := 2) ho hc lk_X6_18 dX6_unpackRow_2 (fun M13 hM13 => ?_)
  have h := h M13 hM13
  refine zj_aload_n (pc := 5) hc dX6_unpackRow_5 rfl ?_
  refine zj_alen (pc := 6) hc dX6_unpackRow_6 rfl h.1 ?_
  have h := h.2
  refine zj_iload_n (pc := 7) hc dX6_unpackRow_7 rfl ?_
  refine zj_iload_n (pc := 8) hc dX6_unpackRow_8 rfl ?_
  refine zj_iadd (pc := 9) hc dX6_unpackRow_9 h.1 ?_
  have h := h.2
  refine zj_min (pc := 10) hc dX6_unpackRow_10 lk_X6_41 st_min in_Math co_min (Nat.le_of_ble_eq_true rfl) (Nat.le_of_ble_eq_true rfl) ⟨Nat.le_of_ble_eq_true rfl, Nat.le_of_ble_eq_true rfl⟩ ?_
  refine zj_istore (pc := 13) hc dX6_unpackRow_13 (by decide) ?_
  refine zj_iload_n (pc := 15) hc dX6_unpackRow_15 rfl ?_
  refine zj_istore (pc := 16) hc dX6_unpackRow_16 (by decide) ?_
  refine zj_iconst (pc := 18) hc dX6_unpackRow_18 (zin _ rfl) ?_
  refine zj_istore (pc := 19) hc dX6_unpackRow_19 (by decide) ?_
  refine zj_iconst (pc := 21) hc dX6_unpackRow_21 (zin _ rfl) ?_
  refine zj_istore (pc := 22) hc dX6_unpackRow_22 (by decide) ?_
  refine zj_mask (bs := [true, true, true, false, true, true, true, true, true, true]) ?_
  exact k24 M13 r1 v2 v4 (min (alen r1) (v2 + v3)) v2 0 0 h
set_option maxHeartbeats 4000000 in
set_option maxRecDepth 100000 in
theorem S_X8_apply (l : Launch) (G : zG) {o : Nat} (ho : o = 3 ∨ o = 5) (r1 : Nat) (v2 : Int) (M : zMem) (Qr : zMem → Prop) (h : T_X8_apply o r1 v2 Qr M) : zMetV l yX8_apply cX8_apply 7 none 1 26 0 0 G [.inr (64 * o + 63), .inr r1, .inl v2] M Qr := by
  refine zmetV (by decide) (Nat.le_of_ble_eq_true rfl) [some (.inr (64 * o + 63)), some (.inr r1), some (.inl v2), none, none, none, none] rfl ?_
  intro p e s m args below meth c hc hr hlk
  have k116 : ∀ (M : zMem) (r1 : Nat) (v2 : Int) (v3 : Int) (v4 : Int) (v5 : Int) (v6 : Int), T_X8_apply_116 o r1 v2 v3 v4 v5 v6 Qr M → zJ p l e (zRoom 1 26 0 0) s m args below meth c G 7 0 0 (MQ below (zQv G (Qr)) args s 0 0 (zA G)) 116 [some (.inr (64 * o + 63)), some (.inr r1), some (.inl v2), some (.inl v3), some (.inl v4), some (.inl v5), some (.inl v6)] [] M := by
    intro M r1 v2 v3 v4 v5 v6 h
    unfold T_X8_apply_116 at h
    refine zj_iload_n (pc := 116) hc dX8_apply_116 rfl ?_
    refine zj_iconst (pc := 117) hc dX8_apply_117 (zin _ rfl) ?_
    refine zj_icmp_ne (pc := 118) (tgt := 182) hc dX8_apply_118 (by decide) (fun hx1 => ?_) (fun hx1 => ?_)
    · have h := h.1 hx1
      exact zj_vret (pc := 182) hc hr hlk dX8_apply_182 (by decide) (by decide) h
    · have h := h.2 hx1
      refine zj_aload_n (pc := 121) hc dX8_apply_121 rfl ?_
      refine zgv_X8_2 (pc := 122) ho hc lk_X8_22 dX8_apply_122 ?_
      refine zj_iload (pc := 125) hc dX8_apply_125 rfl ?_
      refine zj_iald (pc := 127) hc dX8_apply_127 (alenv_X8_2 ho) h.1 ?_
      have h := h.2
      refine zj_iconst (pc := 128) hc dX8_apply_128 (zin _ rfl) ?_
      refine zj_icmp_eq (pc := 129) (tgt := 182) hc dX8_apply_129 (by decide) (fun hx2 => ?_) (fun hx2 => ?_)
      · have h := h.1 hx2
        exact zj_vret (pc := 182) hc hr hlk dX8_apply_182 (by decide) (by decide) h
      · have h := h.2 hx2
        refine zj_aload_n (pc := 132) hc dX8_apply_132 rfl ?_
        refine zgv_X8_2 (pc := 133) ho hc lk_X8_22 dX8_apply_133 ?_
        refine zj_iload (pc := 136) hc dX8_apply_136 rfl ?_
        refine zj_iald (pc := 138) hc dX8_apply_138 (alenv_X8_2 ho) h.1 ?_
        have h := h.2
        refine zj_iload (pc := 139) hc dX8_apply_139 rfl ?_
        refine zj_iadd (pc := 141) hc dX8_apply_141 h.1 ?_
        have h := h.2
        refine zj_bipush (pc := 142) hc dX8_apply_142 (by decide) (zin _ rfl) ?_
        refine zj_icmp_gt (pc := 144) (tgt := 182) hc dX8_apply_144 (by decide) (fun hx3 => ?_) (fun hx3 => ?_)
        · have h := h.1 hx3
          exact zj_vret (pc := 182) hc hr hlk dX8_apply_182 (by decide) (by decide) h
        · have h := h.2 hx3
          refine zj_aload_n (pc := 147) hc dX8_apply_147 rfl ?_
          refine zj_iload_n (pc := 148) hc dX8_apply_148 rfl ?_
          refine zj_iconst (pc := 149) hc dX8_apply_149 (zin _ rfl) ?_
          refine zj_iadd (pc := 150) hc dX8_apply_150 h.1 ?_
          have h := h.2
          refine zj_aload_n (pc := 151) hc dX8_apply_151 rfl ?_
          refine zgv_X8_3 (pc := 152) ho hc lk_X8_25 dX8_apply_152 ?_
          refine zj_iload (pc := 155) hc dX8_apply_155 rfl ?_
          refine zj_aload_n (pc := 157) hc dX8_apply_157 rfl ?_
          refine zgv_X8_2 (pc := 158) ho hc lk_X8_22 dX8_apply_158 ?_
          refine zj_iload (pc := 161) hc dX8_apply_161 rfl ?_
          refine zj_iald (pc := 163) hc dX8_apply_163 (alenv_X8_2 ho) h.1 ?_
          have h := h.2
          refine zj_iadd (pc := 164) hc dX8_apply_164 h.1 ?_
          have h := h.2
          refine zj_iload (pc := 165) hc dX8_apply_165 rfl ?_
          refine zj_copy (pc := 167) hc dX8_apply_167 lk_X8_78 na_copy st_copy in_System rfl (alenv_X8_3 ho) h.1 (Nat.le_of_ble_eq_true rfl) (Nat.le_of_ble_eq_true rfl) (fun M4 hM4 => ?_)
          have h := h.2 M4 hM4
          refine zj_aload_n (pc := 170) hc dX8_apply_170 rfl ?_
          refine zgv_X8_2 (pc := 171) ho hc lk_X8_22 dX8_apply_171 ?_
          refine zj_iload (pc := 174) hc dX8_apply_174 rfl ?_
          refine zj_dup2 (pc := 176) hc dX8_apply_176 ?_
          refine zj_iald (pc := 177) hc dX8_apply_177 (alenv_X8_2 ho) h.1 ?_
          have h := h.2
          refine zj_iload (pc := 178) hc dX8_apply_178 rfl ?_
          refine zj_iadd (pc := 180) hc dX8_apply_180 h.1 ?_
          have h := h.2
          refine zj_iast (pc := 181) hc dX8_apply_181 (alenv_X8_2 ho) h.1 (fun M5 hM5 => ?_)
          have h := h.2 M5 hM5
          exact zj_vret (pc := 182) hc hr hlk dX8_apply_182 (by decide) (by decide) h
  unfold T_X8_apply at h
  refine zj_aload_n (pc := 0) hc dX8_apply_0 rfl ?_
  refine zj_iload_n (pc := 1) hc dX8_apply_1 rfl ?_
  refine zj_iald (pc := 2) hc dX8_apply_2 rfl h.1 ?_
  have h := h.2
  refine zj_sti (pc := 3) (st := []) hc ks_X2_kindOf st_X2_kindOf lk_X8_84 (S_X2_kindOf l G (M.2 r1 v2) M _ h) rfl ⟨Nat.le_of_ble_eq_true rfl, Nat.le_of_ble_eq_true rfl⟩ (Nat.le_of_ble_eq_true rfl) ⟨Nat.le_of_ble_eq_true rfl, Nat.le_of_ble_eq_true rfl⟩ dX8_apply_3 rfl (fun y6 M9 h => ?_)
  obtain ⟨hM9, h⟩ := h
  subst hM9
  refine zj_istore_n (pc := 6) hc dX8_apply_6 (by decide) ?_
  refine zj_aload_n (pc := 7) hc dX8_apply_7 rfl ?_
  refine zj_iload_n (pc := 8) hc dX8_apply_8 rfl ?_
  refine zj_iald (pc := 9) hc dX8_apply_9 rfl h.1 ?_
  have h := h.2
  refine zj_sti (pc := 10) (st := []) hc ks_X2_numberOf st_X2_numberOf lk_X8_88 (S_X2_numberOf l G (M.2 r1 v2) M _ h) rfl ⟨Nat.le_of_ble_eq_true rfl, Nat.le_of_ble_eq_true rfl⟩ (Nat.le_of_ble_eq_true rfl) ⟨Nat.le_of_ble_eq_true rfl, Nat.le_of_ble_eq_true rfl⟩ dX8_apply_10 rfl (fun y7 M9 h => ?_)
  obtain ⟨hM9, h⟩ := h
  subst hM9
  refine zj_istore (pc := 13) hc dX8_apply_13 (by decide) ?_
  refine zj_aload_n (pc := 15) hc dX8_apply_15 rfl ?_
  refine zj_iload_n (pc := 16) hc dX8_apply_16 rfl ?_
  refine zj_iconst (pc := 17) hc dX8_apply_17 (zin _ rfl) ?_
  refine zj_iadd (pc := 18) hc dX8_apply_18 h.1 ?_
  have h := h.2
  refine zj_iald (pc := 19) hc dX8_apply_19 rfl h.1 ?_
  have h := h.2
  refine zj_sipush (pc := 20) hc dX8_apply_20 (by decide) (zin _ rfl) ?_
  refine zj_iand (pc := 23) hc dX8_apply_23 ?_
  refine zj_istore (pc := 24) hc dX8_apply_24 (by decide) ?_
  refine zj_iload (pc := 26) hc dX8_apply_26 rfl ?_
  refine zj_bipush (pc := 28) hc dX8_apply_28 (by decide) (zin _ rfl) ?_
  refine zj_imul (pc := 30) hc dX8_apply_30 h.1 ?_
  have h := h.2
  refine zj_istore (pc := 31) hc dX8_apply_31 (by decide) ?_
  refine zj_iload_n (pc := 33) hc dX8_apply_33 rfl ?_
  refine zj_iconst (pc := 34) hc dX8_apply_34 (zin _ rfl) ?_
  refine zj_icmp_ne (pc := 35) (tgt := 65) hc dX8_apply_35 (by decide) (fun hx8 => ?_) (fun hx8 => ?_)
  · have h := h.1 hx8
    refine zj_iload_n (pc := 65) hc dX8_apply_65 rfl ?_
    refine zj_iconst (pc := 66) hc dX8_apply_66 (zin _ rfl) ?_
    refine zj_icmp_ne (pc := 67) (tgt := 81) hc dX8_apply_67 (by decide) (fun hx9 => ?_) (fun hx9 => ?_)
    · have h := h.1 hx9
      refine zj_iload_n (pc := 81) hc dX8_apply_81 rfl ?_
      refine zj_iconst (pc := 82) hc dX8_apply_82 (zin _ rfl) ?_
      refine zj_icmp_ne (pc := 83) (tgt := 116) hc dX8_apply_83 (by decide) (fun hx10 => ?_) (fun hx10 => ?_)
      · have h := h.1 hx10
        exact k116 M r1 v2 y6 y7 (zand (M.2 r1 (v2 + 1)) 255) ((zand (M.2 r1 (v2 + 1)) 255) * 8) h
      · have h := h.2 hx10
        refine zj_iload (pc := 86) hc dX8_apply_86 rfl ?_
        refine zj_aload_n (pc := 88) hc dX8_apply_88 rfl ?_
        refine zgv_X8_2 (pc := 89) ho hc lk_X8_22 dX8_apply_89 ?_
        refine zj_iload (pc := 92) hc dX8_apply_92 rfl ?_
        refine zj_iald (pc := 94) hc dX8_apply_94 (alenv_X8_2 ho) h.1 ?_
        have h := h.2
        refine zj_icmp_ge (pc := 95) (tgt := 116) hc dX8_apply_95 (by decide) (fun hx11 => ?_) (fun hx11 => ?_)
        · have h := h.1 hx11
          exact k116 M r1 v2 y6 y7 (zand (M.2 r1 (v2 + 1)) 255) ((zand (M.2 r1 (v2 + 1)) 255) * 8) h
        · have h := h.2 hx11
          refine zj_aload_n (pc := 98) hc dX8_apply_98 rfl ?_
          refine zgv_X8_3 (pc := 99) ho hc lk_X8_25 dX8_apply_99 ?_
          refine zj_iload (pc := 102) hc dX8_apply_102 rfl ?_
          refine zj_iload (pc := 104) hc dX8_apply_104 rfl ?_
          refine zj_iadd (pc := 106) hc dX8_apply_106 h.1 ?_
          have h := h.2
          refine zj_aload_n (pc := 107) hc dX8_apply_107 rfl ?_
          refine zj_iload_n (pc := 108) hc dX8_apply_108 rfl ?_
          refine zj_iconst (pc := 109) hc dX8_apply_109 (zin _ rfl) ?_
          refine zj_iadd (pc := 110) hc dX8_apply_110 h.1 ?_
          have h := h.2
          refine zj_iald (pc := 111) hc dX8_apply_111 rfl h.1 ?_
          have h := h.2
          refine zj_iast (pc := 112) hc dX8_apply_112 (alenv_X8_3 ho) h.1 (fun M12 hM12 => ?_)
          have h := h.2 M12 hM12
          refine zj_goto (pc := 113) (tgt := 182) hc dX8_apply_113 (by decide) ?_
          exact zj_vret (pc := 182) hc hr hlk dX8_apply_182 (by decide) (by decide) h
    · have h := h.2 hx9
      refine zj_aload_n (pc := 70) hc dX8_apply_70 rfl ?_
      refine zgv_X8_2 (pc := 71) ho hc lk_X8_22 dX8_apply_71 ?_
      refine zj_iload (pc := 74) hc dX8_apply_74 rfl ?_
      refine zj_iconst (pc := 76) hc dX8_apply_76 (zin _ rfl) ?_
      refine zj_iast (pc := 77) hc dX8_apply_77 (alenv_X8_2 ho) h.1 (fun M13 hM13 => ?_)
      have h := h.2 M13 hM13
      refine zj_goto (pc := 78) (tgt := 182) hc dX8_apply_78 (by decide) ?_
      exact zj_vret (pc := 182) hc hr hlk dX8_apply_182 (by decide) (by decide) h
  · have h := h.2 hx8
    refine zj_aload_n (pc := 38) hc dX8_apply_38 rfl ?_
    refine zj_iload_n (pc := 39) hc dX8_apply_39 rfl ?_
    refine zj_iconst (pc := 40) hc dX8_apply_40 (zin _ rfl) ?_
    refine zj_iadd (pc := 41) hc dX8_apply_41 h.1 ?_
    have h := h.2
    refine zj_aload_n (pc := 42) hc dX8_apply_42 rfl ?_
    refine zgv_X8_3 (pc := 43) ho hc lk_X8_25 dX8_apply_43 ?_
    refine zj_iload (pc := 46) hc dX8_apply_46 rfl ?_
    refine zj_iload (pc := 48) hc dX8_apply_48 rfl ?_
    refine zj_copy (pc := 50) hc dX8_apply_50 lk_X8_78 na_copy st_copy in_System rfl (alenv_X8_3 ho) h.1 (Nat.le_of_ble_eq_true rfl) (Nat.le_of_ble_eq_true rfl) (fun M14 hM14 => ?_)
    have h := h.2 M14 hM14
    refine zj_aload_n (pc := 53) hc dX8_apply_53 rfl ?_
    refine zgv_X8_2 (pc := 54) ho hc lk_X8_22 dX8_apply_54 ?_
    refine zj_iload (pc := 57) hc dX8_apply_57 rfl ?_
    refine zj_iload (pc := 59) hc dX8_apply_59 rfl ?_
    refine zj_iast (pc := 61) hc dX8_apply_61 (alenv_X8_2 ho) h.1 (fun M15 hM15 => ?_)
    have h := h.2 M15 hM15
    refine zj_goto (pc := 62) (tgt := 182) hc dX8_apply_62 (by decide) ?_
    exact zj_vret (pc := 182) hc hr hlk dX8_apply_182 (by decide) (by decide) h
