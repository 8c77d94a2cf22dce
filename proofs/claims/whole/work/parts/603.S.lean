set_option maxHeartbeats 4000000 in
set_option maxRecDepth 100000 in
theorem S_X6_packRow (l : Launch) (G : zG) {o : Nat} (ho : o = 4 ∨ o = 6) (r1 : Nat) (v2 : Int) (v3 : Int) (M : zMem) (Qr : Int → zMem → Prop) (h : T_X6_packRow o r1 v2 v3 Qr M) : zMetI l yX6_packRow cX6_packRow 10 (some .int) 1 27 0 0 G [.inr (64 * o + 63), .inr r1, .inl v2, .inl v3] M Qr := by
  refine zmetI (by decide) (Nat.le_of_ble_eq_true rfl) [some (.inr (64 * o + 63)), some (.inr r1), some (.inl v2), some (.inl v3), none, none, none, none, none, none] rfl ?_
  intro p e s m args below meth c hc hr hlk
  have k147 : ∀ (M : zMem) (v4 : Int) (v5 : Int) (v6 : Int) (v7 : Int) (v8 : Int) (X48 : Int → Int → Int → Int → zMem → Prop) (hX48 : ∀ (v5 : Int) (v6 : Int) (v7 : Int) (v8 : Int) (M : zMem), X48 v5 v6 v7 v8 M → zJ p l e (zRoom 1 27 0 0) s m args below meth c G 10 0 0 (MQ below (zQi G (Qr)) args s 0 0 (zA G)) 48 [some (.inr (64 * o + 63)), none, none, none, some (.inl v4), some (.inl v5), some (.inl v6), some (.inl v7), some (.inl v8), none] [] M), T_X6_packRow_147 o v4 v5 v6 v7 v8 X48 Qr M → zJ p l e (zRoom 1 27 0 0) s m args below meth c G 10 0 0 (MQ below (zQi G (Qr)) args s 0 0 (zA G)) 147 [some (.inr (64 * o + 63)), none, none, none, some (.inl v4), some (.inl v5), some (.inl v6), some (.inl v7), some (.inl v8), none] [] M := by
    intro M v4 v5 v6 v7 v8 X48 hX48 h
    unfold T_X6_packRow_147 at h
    refine zj_iinc (pc := 147) hc dX6_packRow_147 rfl (by decide) h.1 ?_
    have h := h.2
    refine zj_goto (pc := 150) (tgt := 48) hc dX6_packRow_150 (by decide) ?_
    exact hX48 v5 v6 v7 (v8 + 1) M h
  have k136 : ∀ (M : zMem) (v4 : Int) (v5 : Int) (v6 : Int) (v8 : Int) (v9 : Int) (X48 : Int → Int → Int → Int → zMem → Prop) (hX48 : ∀ (v5 : Int) (v6 : Int) (v7 : Int) (v8 : Int) (M : zMem), X48 v5 v6 v7 v8 M → zJ p l e (zRoom 1 27 0 0) s m args below meth c G 10 0 0 (MQ below (zQi G (Qr)) args s 0 0 (zA G)) 48 [some (.inr (64 * o + 63)), none, none, none, some (.inl v4), some (.inl v5), some (.inl v6), some (.inl v7), some (.inl v8), none] [] M), T_X6_packRow_136 o v4 v5 v6 v8 v9 X48 Qr M → zJ p l e (zRoom 1 27 0 0) s m args below meth c G 10 0 0 (MQ below (zQi G (Qr)) args s 0 0 (zA G)) 136 [some (.inr (64 * o + 63)), none, none, none, some (.inl v4), some (.inl v5), some (.inl v6), none, some (.inl v8), some (.inl v9)] [] M := by
    intro M v4 v5 v6 v8 v9 X48 hX48 h
    unfold T_X6_packRow_136 at h
    refine zj_iload (pc := 136) hc dX6_packRow_136 rfl ?_
    refine zj_iload (pc := 138) hc dX6_packRow_138 rfl ?_
    refine zj_iadd (pc := 140) hc dX6_packRow_140 h.1 ?_
    have h := h.2
    refine zj_istore (pc := 141) hc dX6_packRow_141 (by decide) ?_
    refine zj_iload (pc := 143) hc dX6_packRow_143 rfl ?_
    refine zj_istore (pc := 145) hc dX6_packRow_145 (by decide) ?_
    refine zj_mask (bs := [true, true, true, true, true, true, true, true, true, false]) ?_
    exact k147 M v4 v5 (v6 + v9) (v6 + v9) v8 X48 hX48 h
  have k48 : ∀ (M : zMem) (v4 : Int) (v5 : Int) (v6 : Int) (v7 : Int) (v8 : Int), T_X6_packRow_48 o v4 Qr v5 v6 v7 v8 M → zJ p l e (zRoom 1 27 0 0) s m args below meth c G 10 0 0 (MQ below (zQi G (Qr)) args s 0 0 (zA G)) 48 [some (.inr (64 * o + 63)), none, none, none, some (.inl v4), some (.inl v5), some (.inl v6), some (.inl v7), some (.inl v8), none] [] M := by
    intro M v4 v5 v6 v7 v8 h
    unfold T_X6_packRow_48 at h
    refine zl4_use h (fun v5 v6 v7 v8 M => zJ p l e (zRoom 1 27 0 0) s m args below meth c G 10 0 0 (MQ below (zQi G (Qr)) args s 0 0 (zA G)) 48 [some (.inr (64 * o + 63)), none, none, none, some (.inl v4), some (.inl v5), some (.inl v6), some (.inl v7), some (.inl v8), none] [] M) (fun X48 hX48 v5 v6 v7 v8 M h => ?_)
    refine zj_iload (pc := 48) hc dX6_packRow_48 rfl ?_
    refine zj_sipush (pc := 50) hc dX6_packRow_50 (by decide) (zin _ rfl) ?_
    refine zj_icmp_ge (pc := 53) (tgt := 153) hc dX6_packRow_53 (by decide) (fun hx1 => ?_) (fun hx1 => ?_)
    · have h := h.1 hx1
      refine zj_aload_n (pc := 153) hc dX6_packRow_153 rfl ?_
      refine zj_iload (pc := 154) hc dX6_packRow_154 rfl ?_
      refine zj_iload (pc := 156) hc dX6_packRow_156 rfl ?_
      refine zj_iload (pc := 158) hc dX6_packRow_158 rfl ?_
      refine zj_vti (pc := 160) (st := []) hc ks_X6_tellSingles iv_X6_tellSingles lk_X6_64 (zrvv_X6 G M ho) (S_X6_tellSingles l G ho v7 v4 v5 M _ h) rfl ⟨Nat.le_of_ble_eq_true rfl, Nat.le_of_ble_eq_true rfl⟩ (Nat.le_of_ble_eq_true rfl) ⟨Nat.le_of_ble_eq_true rfl, Nat.le_of_ble_eq_true rfl⟩ dX6_packRow_160 rfl (fun y2 M3 h => ?_)
      exact zj_iret (pc := 163) hc hr hlk dX6_packRow_163 (by decide) (by decide) h
    · have h := h.2 hx1
      refine zj_iload (pc := 56) hc dX6_packRow_56 rfl ?_
      refine zj_iload (pc := 58) hc dX6_packRow_58 rfl ?_
      refine zj_icmp_ge (pc := 60) (tgt := 153) hc dX6_packRow_60 (by decide) (fun hx4 => ?_) (fun hx4 => ?_)
      · have h := h.1 hx4
        refine zj_aload_n (pc := 153) hc dX6_packRow_153 rfl ?_
        refine zj_iload (pc := 154) hc dX6_packRow_154 rfl ?_
        refine zj_iload (pc := 156) hc dX6_packRow_156 rfl ?_
        refine zj_iload (pc := 158) hc dX6_packRow_158 rfl ?_
        refine zj_vti (pc := 160) (st := []) hc ks_X6_tellSingles iv_X6_tellSingles lk_X6_64 (zrvv_X6 G M ho) (S_X6_tellSingles l G ho v7 v4 v5 M _ h) rfl ⟨Nat.le_of_ble_eq_true rfl, Nat.le_of_ble_eq_true rfl⟩ (Nat.le_of_ble_eq_true rfl) ⟨Nat.le_of_ble_eq_true rfl, Nat.le_of_ble_eq_true rfl⟩ dX6_packRow_160 rfl (fun y5 M6 h => ?_)
        exact zj_iret (pc := 163) hc hr hlk dX6_packRow_163 (by decide) (by decide) h
      · have h := h.2 hx4
        refine zj_aload_n (pc := 63) hc dX6_packRow_63 rfl ?_
        refine zj_iload (pc := 64) hc dX6_packRow_64 rfl ?_
        refine zj_iload (pc := 66) hc dX6_packRow_66 rfl ?_
        refine zj_vti (pc := 68) (st := []) hc ks_X6_longestLike iv_X6_longestLike lk_X6_61 (zrvv_X6 G M ho) (S_X6_longestLike l G ho v6 v4 M _ h) rfl ⟨Nat.le_of_ble_eq_true rfl, Nat.le_of_ble_eq_true rfl⟩ (Nat.le_of_ble_eq_true rfl) ⟨Nat.le_of_ble_eq_true rfl, Nat.le_of_ble_eq_true rfl⟩ dX6_packRow_68 rfl (fun y7 M8 h => ?_)
        refine zj_istore (pc := 71) hc dX6_packRow_71 (by decide) ?_
        refine zj_iload (pc := 73) hc dX6_packRow_73 rfl ?_
        refine zj_if_ne (pc := 75) (tgt := 84) hc dX6_packRow_75 (by decide) (fun hx9 => ?_) (fun hx9 => ?_)
        · have h := h.1 hx9
          refine zj_aload_n (pc := 84) hc dX6_packRow_84 rfl ?_
          refine zj_iload (pc := 85) hc dX6_packRow_85 rfl ?_
          refine zj_iload (pc := 87) hc dX6_packRow_87 rfl ?_
          refine zj_iload (pc := 89) hc dX6_packRow_89 rfl ?_
          refine zj_vti (pc := 91) (st := []) hc ks_X6_tellSingles iv_X6_tellSingles lk_X6_64 (zrvv_X6 G M8 ho) (S_X6_tellSingles l G ho v7 v6 v5 M8 _ h) rfl ⟨Nat.le_of_ble_eq_true rfl, Nat.le_of_ble_eq_true rfl⟩ (Nat.le_of_ble_eq_true rfl) ⟨Nat.le_of_ble_eq_true rfl, Nat.le_of_ble_eq_true rfl⟩ dX6_packRow_91 rfl (fun y10 M11 h => ?_)
          refine zj_istore (pc := 94) hc dX6_packRow_94 (by decide) ?_
          refine zj_iload (pc := 96) hc dX6_packRow_96 rfl ?_
          refine zj_iconst (pc := 98) hc dX6_packRow_98 (zin _ rfl) ?_
          refine zj_iadd (pc := 99) hc dX6_packRow_99 h.1 ?_
          have h := h.2
          refine zj_aload_n (pc := 100) hc dX6_packRow_100 rfl ?_
          refine zgv_X6_0 (pc := 101) ho hc lk_X6_9 dX6_packRow_101 ?_
          refine zj_alen (pc := 104) hc dX6_packRow_104 (alenv_X6_0 ho) (by decide) ?_
          refine zj_icmp_gt (pc := 105) (tgt := 136) hc dX6_packRow_105 (by decide) (fun hx12 => ?_) (fun hx12 => ?_)
          · have h := h.1 hx12
            refine zj_mask (bs := [true, true, true, true, true, true, true, false, true, true]) ?_
            exact k136 M11 v4 y10 v6 v8 y7 X48 hX48 h
          · have h := h.2 hx12
            refine zj_aload_n (pc := 108) hc dX6_packRow_108 rfl ?_
            refine zgv_X6_0 (pc := 109) ho hc lk_X6_9 dX6_packRow_109 ?_
            refine zj_iload (pc := 112) hc dX6_packRow_112 rfl ?_
            refine zj_bipush (pc := 114) hc dX6_packRow_114 (by decide) (zin _ rfl) ?_
            refine zj_iload (pc := 116) hc dX6_packRow_116 rfl ?_
            refine zj_iadd (pc := 118) hc dX6_packRow_118 h.1 ?_
            have h := h.2
            refine zj_iast (pc := 119) hc dX6_packRow_119 (alenv_X6_0 ho) h.1 (fun M13 hM13 => ?_)
            have h := h.2 M13 hM13
            refine zj_aload_n (pc := 120) hc dX6_packRow_120 rfl ?_
            refine zgv_X6_0 (pc := 121) ho hc lk_X6_9 dX6_packRow_121 ?_
            refine zj_iload (pc := 124) hc dX6_packRow_124 rfl ?_
            refine zj_iconst (pc := 126) hc dX6_packRow_126 (zin _ rfl) ?_
            refine zj_iadd (pc := 127) hc dX6_packRow_127 h.1 ?_
            have h := h.2
            refine zj_aload_n (pc := 128) hc dX6_packRow_128 rfl ?_
            refine zgv_X6_7 (pc := 129) ho hc lk_X6_34 dX6_packRow_129 ?_
            refine zj_iast (pc := 132) hc dX6_packRow_132 (alenv_X6_0 ho) h.1 (fun M14 hM14 => ?_)
            have h := h.2 M14 hM14
            refine zj_iinc (pc := 133) hc dX6_packRow_133 rfl (by decide) h.1 ?_
            have h := h.2
            refine zj_mask (bs := [true, true, true, true, true, true, true, false, true, true]) ?_
            exact k136 M14 v4 (y10 + 2) v6 v8 y7 X48 hX48 h
        · have h := h.2 hx9
          refine zj_iinc (pc := 78) hc dX6_packRow_78 rfl (by decide) h.1 ?_
          have h := h.2
          refine zj_goto (pc := 81) (tgt := 147) hc dX6_packRow_81 (by decide) ?_
          refine zj_mask (bs := [true, true, true, true, true, true, true, true, true, false]) ?_
          exact k147 M8 v4 v5 (v6 + 1) v7 v8 X48 hX48 h
  unfold T_X6_packRow at h
  refine zj_iload_n (pc := 0) hc dX6_packRow_0 rfl ?_
  refine zj_aload_n (pc := 1) hc dX6_packRow_1 rfl ?_
  refine zj_alen (pc := 2) hc dX6_packRow_2 rfl h.1 ?_
  have h := h.2
  refine zj_sipush (pc := 3) hc dX6_packRow_3 (by decide) (zin _ rfl) ?_
  refine zj_min (pc := 6) hc dX6_packRow_6 lk_X6_41 st_min in_Math co_min (Nat.le_of_ble_eq_true rfl) (Nat.le_of_ble_eq_true rfl) ⟨Nat.le_of_ble_eq_true rfl, Nat.le_of_ble_eq_true rfl⟩ ?_
  refine zj_min (pc := 9) hc dX6_packRow_9 lk_X6_41 st_min in_Math co_min (Nat.le_of_ble_eq_true rfl) (Nat.le_of_ble_eq_true rfl) ⟨Nat.le_of_ble_eq_true rfl, Nat.le_of_ble_eq_true rfl⟩ ?_
  refine zj_istore (pc := 12) hc dX6_packRow_12 (by decide) ?_
  refine zj_aload_n (pc := 14) hc dX6_packRow_14 rfl ?_
  refine zj_aload_n (pc := 15) hc dX6_packRow_15 rfl ?_
  refine zj_iload (pc := 16) hc dX6_packRow_16 rfl ?_
  refine zj_iload_n (pc := 18) hc dX6_packRow_18 rfl ?_
  refine zj_vtv (pc := 19) (st := []) hc ks_X6_filterRow iv_X6_filterRow lk_X6_47 (zrvv_X6 G M ho) (S_X6_filterRow l G ho r1 (min v2 (min (alen r1) 400)) v3 M _ h) rfl ⟨Nat.le_of_ble_eq_true rfl, Nat.le_of_ble_eq_true rfl⟩ (Nat.le_of_ble_eq_true rfl) ⟨Nat.le_of_ble_eq_true rfl, Nat.le_of_ble_eq_true rfl⟩ dX6_packRow_19 rfl (fun M15 h => ?_)
  refine zj_aload_n (pc := 22) hc dX6_packRow_22 rfl ?_
  refine zgv_X6_6 (pc := 23) ho hc lk_X6_31 dX6_packRow_23 ?_
  refine zj_iconst (pc := 26) hc dX6_packRow_26 (zin _ rfl) ?_
  refine zj_stv (pc := 27) (st := []) hc ks_J7_fill_53178 st_J7_fill_53178 lk_X6_51 (S_J7_fill_53178 l G (64 * o + 6) (-1) M15 _ h) rfl ⟨Nat.le_of_ble_eq_true rfl, Nat.le_of_ble_eq_true rfl⟩ (Nat.le_of_ble_eq_true rfl) ⟨Nat.le_of_ble_eq_true rfl, Nat.le_of_ble_eq_true rfl⟩ dX6_packRow_27 rfl (fun M16 h => ?_)
  refine zj_aload_n (pc := 30) hc dX6_packRow_30 rfl ?_
  refine zj_iload (pc := 31) hc dX6_packRow_31 rfl ?_
  refine zj_vtv (pc := 33) (st := []) hc ks_X6_linkSame iv_X6_linkSame lk_X6_57 (zrvv_X6 G M16 ho) (S_X6_linkSame l G ho (min v2 (min (alen r1) 400)) M16 _ h) rfl ⟨Nat.le_of_ble_eq_true rfl, Nat.le_of_ble_eq_true rfl⟩ (Nat.le_of_ble_eq_true rfl) ⟨Nat.le_of_ble_eq_true rfl, Nat.le_of_ble_eq_true rfl⟩ dX6_packRow_33 rfl (fun M17 h => ?_)
  refine zj_iconst (pc := 36) hc dX6_packRow_36 (zin _ rfl) ?_
  refine zj_istore (pc := 37) hc dX6_packRow_37 (by decide) ?_
  refine zj_iconst (pc := 39) hc dX6_packRow_39 (zin _ rfl) ?_
  refine zj_istore (pc := 40) hc dX6_packRow_40 (by decide) ?_
  refine zj_iconst (pc := 42) hc dX6_packRow_42 (zin _ rfl) ?_
  refine zj_istore (pc := 43) hc dX6_packRow_43 (by decide) ?_
  refine zj_iconst (pc := 45) hc dX6_packRow_45 (zin _ rfl) ?_
  refine zj_istore (pc := 46) hc dX6_packRow_46 (by decide) ?_
  refine zj_mask (bs := [true, false, false, false, true, true, true, true, true, true]) ?_
  exact k48 M17 (min v2 (min (alen r1) 400)) 0 0 0 0 h
set_option maxHeartbeats 4000000 in
set_option maxRecDepth 100000 in
theorem S_X6_packBest (l : Launch) (G : zG) {o : Nat} (ho : o = 4 ∨ o = 6) (r1 : Nat) (v2 : Int) (M : zMem) (Qr : Int → zMem → Prop) (h : T_X6_packBest o r1 v2 Qr M) : zMetI l yX6_packBest cX6_packBest 6 (some .int) 2 56 0 0 G [.inr (64 * o + 63), .inr r1, .inl v2] M Qr := by
  refine zmetI (by decide) (Nat.le_of_ble_eq_true rfl) [some (.inr (64 * o + 63)), some (.inr r1), some (.inl v2), none, none, none] rfl ?_
  intro p e s m args below meth c hc hr hlk
  have k47 : ∀ (M : zMem) (r1 : Nat) (v2 : Int) (v3 : Int) (v4 : Int) (X16 : Int → Int → zMem → Prop) (hX16 : ∀ (v3 : Int) (v4 : Int) (M : zMem), X16 v3 v4 M → zJ p l e (zRoom 2 56 0 0) s m args below meth c G 6 0 0 (MQ below (zQi G (Qr)) args s 0 0 (zA G)) 16 [some (.inr (64 * o + 63)), some (.inr r1), some (.inl v2), some (.inl v3), some (.inl v4), none] [] M), T_X6_packBest_47 o r1 v2 v3 v4 X16 Qr M → zJ p l e (zRoom 2 56 0 0) s m args below meth c G 6 0 0 (MQ below (zQi G (Qr)) args s 0 0 (zA G)) 47 [some (.inr (64 * o + 63)), some (.inr r1), some (.inl v2), some (.inl v3), some (.inl v4), none] [] M := by
    intro M r1 v2 v3 v4 X16 hX16 h
    unfold T_X6_packBest_47 at h
    refine zj_iinc (pc := 47) hc dX6_packBest_47 rfl (by decide) h.1 ?_
    have h := h.2
    refine zj_goto (pc := 50) (tgt := 16) hc dX6_packBest_50 (by decide) ?_
    exact hX16 v3 (v4 + 1) M h
  have k16 : ∀ (M : zMem) (r1 : Nat) (v2 : Int) (v3 : Int) (v4 : Int), T_X6_packBest_16 o r1 v2 Qr v3 v4 M → zJ p l e (zRoom 2 56 0 0) s m args below meth c G 6 0 0 (MQ below (zQi G (Qr)) args s 0 0 (zA G)) 16 [some (.inr (64 * o + 63)), some (.inr r1), some (.inl v2), some (.inl v3), some (.inl v4), none] [] M := by
    intro M r1 v2 v3 v4 h
    unfold T_X6_packBest_16 at h
    refine zl2_use h (fun v3 v4 M => zJ p l e (zRoom 2 56 0 0) s m args below meth c G 6 0 0 (MQ below (zQi G (Qr)) args s 0 0 (zA G)) 16 [some (.inr (64 * o + 63)), some (.inr r1), some (.inl v2), some (.inl v3), some (.inl v4), none] [] M) (fun X16 hX16 v3 v4 M h => ?_)
    refine zj_iload (pc := 16) hc dX6_packBest_16 rfl ?_
    refine zj_iconst (pc := 18) hc dX6_packBest_18 (zin _ rfl) ?_
    refine zj_icmp_ge (pc := 19) (tgt := 53) hc dX6_packBest_19 (by decide) (fun hx1 => ?_) (fun hx1 => ?_)
    · have h := h.1 hx1
      refine zj_aload_n (pc := 53) hc dX6_packBest_53 rfl ?_
      refine zj_aload_n (pc := 54) hc dX6_packBest_54 rfl ?_
      refine zj_iload_n (pc := 55) hc dX6_packBest_55 rfl ?_
      refine zj_aload_n (pc := 56) hc dX6_packBest_56 rfl ?_
      refine zgv_X6_3 (pc := 57) ho hc lk_X6_22 dX6_packBest_57 ?_
      refine zj_vti (pc := 60) (st := []) hc ks_X6_packRow iv_X6_packRow lk_X6_37 (zrvv_X6 G M ho) (S_X6_packRow l G ho r1 v2 (M.1 (64 * o + 3)) M _ h) rfl ⟨Nat.le_of_ble_eq_true rfl, Nat.le_of_ble_eq_true rfl⟩ (Nat.le_of_ble_eq_true rfl) ⟨Nat.le_of_ble_eq_true rfl, Nat.le_of_ble_eq_true rfl⟩ dX6_packBest_60 rfl (fun y2 M3 h => ?_)
      exact zj_iret (pc := 63) hc hr hlk dX6_packBest_63 (by decide) (by decide) h
    · have h := h.2 hx1
      refine zj_aload_n (pc := 22) hc dX6_packBest_22 rfl ?_
      refine zj_aload_n (pc := 23) hc dX6_packBest_23 rfl ?_
      refine zj_iload_n (pc := 24) hc dX6_packBest_24 rfl ?_
      refine zj_iload (pc := 25) hc dX6_packBest_25 rfl ?_
      refine zj_vti (pc := 27) (st := []) hc ks_X6_packRow iv_X6_packRow lk_X6_37 (zrvv_X6 G M ho) (S_X6_packRow l G ho r1 v2 v4 M _ h) rfl ⟨Nat.le_of_ble_eq_true rfl, Nat.le_of_ble_eq_true rfl⟩ (Nat.le_of_ble_eq_true rfl) ⟨Nat.le_of_ble_eq_true rfl, Nat.le_of_ble_eq_true rfl⟩ dX6_packBest_27 rfl (fun y4 M5 h => ?_)
      refine zj_istore (pc := 30) hc dX6_packBest_30 (by decide) ?_
      refine zj_iload (pc := 32) hc dX6_packBest_32 rfl ?_
      refine zj_iload_n (pc := 34) hc dX6_packBest_34 rfl ?_
      refine zj_icmp_ge (pc := 35) (tgt := 47) hc dX6_packBest_35 (by decide) (fun hx6 => ?_) (fun hx6 => ?_)
      · have h := h.1 hx6
        refine zj_mask (bs := [true, true, true, true, true, false]) ?_
        exact k47 M5 r1 v2 v3 v4 X16 hX16 h
      · have h := h.2 hx6
        refine zj_iload (pc := 38) hc dX6_packBest_38 rfl ?_
        refine zj_istore_n (pc := 40) hc dX6_packBest_40 (by decide) ?_
        refine zj_aload_n (pc := 41) hc dX6_packBest_41 rfl ?_
        refine zj_iload (pc := 42) hc dX6_packBest_42 rfl ?_
        refine zsv_X6_3 (pc := 44) ho hc lk_X6_22 dX6_packBest_44 (fun M7 hM7 => ?_)
        have h := h M7 hM7
        refine zj_mask (bs := [true, true, true, true, true, false]) ?_
        exact k47 M7 r1 v2 y4 v4 X16 hX16 h
  unfold T_X6_packBest at h
  refine zj_aload_n (pc := 0) hc dX6_packBest_0 rfl ?_
  refine zj_aload_n (pc := 1) hc dX6_packBest_1 rfl ?_
  refine zj_iload_n (pc := 2) hc dX6_packBest_2 rfl ?_
  refine zj_iconst (pc := 3) hc dX6_packBest_3 (zin _ rfl) ?_
  refine zj_vti (pc := 4) (st := []) hc ks_X6_packRow iv_X6_packRow lk_X6_37 (zrvv_X6 G M ho) (S_X6_packRow l G ho r1 v2 0 M _ h) rfl ⟨Nat.le_of_ble_eq_true rfl, Nat.le_of_ble_eq_true rfl⟩ (Nat.le_of_ble_eq_true rfl) ⟨Nat.le_of_ble_eq_true rfl, Nat.le_of_ble_eq_true rfl⟩ dX6_packBest_4 rfl (fun y8 M9 h => ?_)
  refine zj_istore_n (pc := 7) hc dX6_packBest_7 (by decide) ?_
  refine zj_aload_n (pc := 8) hc dX6_packBest_8 rfl ?_
  refine zj_iconst (pc := 9) hc dX6_packBest_9 (zin _ rfl) ?_
  refine zsv_X6_3 (pc := 10) ho hc lk_X6_22 dX6_packBest_10 (fun M10 hM10 => ?_)
  have h := h M10 hM10
  refine zj_iconst (pc := 13) hc dX6_packBest_13 (zin _ rfl) ?_
  refine zj_istore (pc := 14) hc dX6_packBest_14 (by decide) ?_
  exact k16 M10 r1 v2 y8 1 h
set_option maxHeartbeats 4000000 in
set_option maxRecDepth 100000 in
theorem S_X6_turnBack (l : Launch) (G : zG) {o : Nat} (ho : o = 4 ∨ o = 6) (v1 : Int) (v2 : Int) (M : zMem) (Qr : zMem → Prop) (h : T_X6_turnBack o v1 v2 Qr M) : zMetV l yX6_turnBack cX6_turnBack 7 none 0 0 0 0 G [.inr (64 * o + 63), .inl v1, .inl v2] M Qr := by
  refine zmetV (by decide) (Nat.le_of_ble_eq_true rfl) [some (.inr (64 * o + 63)), some (.inl v1), some (.inl v2), none, none, none, none] rfl ?_
  intro p e s m args below meth c hc hr hlk
  have k95 : ∀ (M : zMem) (v1 : Int) (v2 : Int) (v3 : Int) (v6 : Int) (X2 : Int → zMem → Prop) (hX2 : ∀ (v3 : Int) (M : zMem), X2 v3 M → zJ p l e (zRoom 0 0 0 0) s m args below meth c G 7 0 0 (MQ below (zQv G (Qr)) args s 0 0 (zA G)) 2 [some (.inr (64 * o + 63)), some (.inl v1), some (.inl v2), some (.inl v3), none, none, none] [] M), T_X6_turnBack_95 o v1 v2 v3 v6 X2 Qr M → zJ p l e (zRoom 0 0 0 0) s m args below meth c G 7 0 0 (MQ below (zQv G (Qr)) args s 0 0 (zA G)) 95 [some (.inr (64 * o + 63)), some (.inl v1), some (.inl v2), some (.inl v3), none, none, some (.inl v6)] [] M := by
    intro M v1 v2 v3 v6 X2 hX2 h
    unfold T_X6_turnBack_95 at h
    refine zj_aload_n (pc := 95) hc dX6_turnBack_95 rfl ?_
    refine zgv_X6_1 (pc := 96) ho hc lk_X6_15 dX6_turnBack_96 ?_
    refine zj_iload_n (pc := 99) hc dX6_turnBack_99 rfl ?_
    refine zj_iload (pc := 100) hc dX6_turnBack_100 rfl ?_
    refine zj_sipush (pc := 102) hc dX6_turnBack_102 (by decide) (zin _ rfl) ?_
    refine zj_iand (pc := 105) hc dX6_turnBack_105 ?_
    refine zj_iast (pc := 106) hc dX6_turnBack_106 (alenv_X6_1 ho) h.1 (fun M1 hM1 => ?_)
    have h := h.2 M1 hM1
    refine zj_iinc (pc := 107) hc dX6_turnBack_107 rfl (by decide) h.1 ?_
    have h := h.2
    refine zj_goto (pc := 110) (tgt := 2) hc dX6_turnBack_110 (by decide) ?_
    refine zj_mask (bs := [true, true, true, true, true, true, false]) ?_
    exact hX2 (v3 + 1) M1 h
  have k43 : ∀ (M : zMem) (v1 : Int) (v2 : Int) (v3 : Int) (v4 : Int) (s0 : Int) (X2 : Int → zMem → Prop) (hX2 : ∀ (v3 : Int) (M : zMem), X2 v3 M → zJ p l e (zRoom 0 0 0 0) s m args below meth c G 7 0 0 (MQ below (zQv G (Qr)) args s 0 0 (zA G)) 2 [some (.inr (64 * o + 63)), some (.inl v1), some (.inl v2), some (.inl v3), none, none, none] [] M), T_X6_turnBack_43 o v1 v2 v3 v4 s0 X2 Qr M → zJ p l e (zRoom 0 0 0 0) s m args below meth c G 7 0 0 (MQ below (zQv G (Qr)) args s 0 0 (zA G)) 43 [some (.inr (64 * o + 63)), some (.inl v1), some (.inl v2), some (.inl v3), some (.inl v4), none, none] [.inl s0] M := by
    intro M v1 v2 v3 v4 s0 X2 hX2 h
    unfold T_X6_turnBack_43 at h
    refine zj_istore (pc := 43) hc dX6_turnBack_43 (by decide) ?_
    refine zj_aload_n (pc := 45) hc dX6_turnBack_45 rfl ?_
    refine zgv_X6_1 (pc := 46) ho hc lk_X6_15 dX6_turnBack_46 ?_
    refine zj_iload_n (pc := 49) hc dX6_turnBack_49 rfl ?_
    refine zj_iald (pc := 50) hc dX6_turnBack_50 (alenv_X6_1 ho) h.1 ?_
    have h := h.2
    refine zj_istore (pc := 51) hc dX6_turnBack_51 (by decide) ?_
    refine zj_iload_n (pc := 53) hc dX6_turnBack_53 rfl ?_
    refine zj_iconst (pc := 54) hc dX6_turnBack_54 (zin _ rfl) ?_
    refine zj_icmp_ne (pc := 55) (tgt := 68) hc dX6_turnBack_55 (by decide) (fun hx2 => ?_) (fun hx2 => ?_)
    · have h := h.1 hx2
      refine zj_iload_n (pc := 68) hc dX6_turnBack_68 rfl ?_
      refine zj_iconst (pc := 69) hc dX6_turnBack_69 (zin _ rfl) ?_
      refine zj_icmp_ne (pc := 70) (tgt := 83) hc dX6_turnBack_70 (by decide) (fun hx3 => ?_) (fun hx3 => ?_)
      · have h := h.1 hx3
        refine zj_iload_n (pc := 83) hc dX6_turnBack_83 rfl ?_
        refine zj_iconst (pc := 84) hc dX6_turnBack_84 (zin _ rfl) ?_
        refine zj_icmp_ne (pc := 85) (tgt := 95) hc dX6_turnBack_85 (by decide) (fun hx4 => ?_) (fun hx4 => ?_)
        · have h := h.1 hx4
          refine zj_mask (bs := [true, true, true, true, false, false, true]) ?_
          exact k95 M v1 v2 v3 (M.2 (64 * o + 1) v3) X2 hX2 h
        · have h := h.2 hx4
          refine zj_iload (pc := 88) hc dX6_turnBack_88 rfl ?_
          refine zj_iload (pc := 90) hc dX6_turnBack_90 rfl ?_
          refine zj_iadd (pc := 92) hc dX6_turnBack_92 h.1 ?_
          have h := h.2
          refine zj_istore (pc := 93) hc dX6_turnBack_93 (by decide) ?_
          refine zj_mask (bs := [true, true, true, true, false, false, true]) ?_
          exact k95 M v1 v2 v3 ((M.2 (64 * o + 1) v3) + s0) X2 hX2 h
      · have h := h.2 hx3
        refine zj_iload (pc := 73) hc dX6_turnBack_73 rfl ?_
        refine zj_iload (pc := 75) hc dX6_turnBack_75 rfl ?_
        refine zj_ixor (pc := 77) hc dX6_turnBack_77 ?_
        refine zj_istore (pc := 78) hc dX6_turnBack_78 (by decide) ?_
        refine zj_goto (pc := 80) (tgt := 95) hc dX6_turnBack_80 (by decide) ?_
        refine zj_mask (bs := [true, true, true, true, false, false, true]) ?_
        exact k95 M v1 v2 v3 (zxor (M.2 (64 * o + 1) v3) v4) X2 hX2 h
    · have h := h.2 hx2
      refine zj_iload (pc := 58) hc dX6_turnBack_58 rfl ?_
      refine zj_iload (pc := 60) hc dX6_turnBack_60 rfl ?_
      refine zj_iadd (pc := 62) hc dX6_turnBack_62 h.1 ?_
      have h := h.2
      refine zj_istore (pc := 63) hc dX6_turnBack_63 (by decide) ?_
      refine zj_goto (pc := 65) (tgt := 95) hc dX6_turnBack_65 (by decide) ?_
      refine zj_mask (bs := [true, true, true, true, false, false, true]) ?_
      exact k95 M v1 v2 v3 ((M.2 (64 * o + 1) v3) + v4) X2 hX2 h
  have k24 : ∀ (M : zMem) (v1 : Int) (v2 : Int) (v3 : Int) (s0 : Int) (X2 : Int → zMem → Prop) (hX2 : ∀ (v3 : Int) (M : zMem), X2 v3 M → zJ p l e (zRoom 0 0 0 0) s m args below meth c G 7 0 0 (MQ below (zQv G (Qr)) args s 0 0 (zA G)) 2 [some (.inr (64 * o + 63)), some (.inl v1), some (.inl v2), some (.inl v3), none, none, none] [] M), T_X6_turnBack_24 o v1 v2 v3 s0 X2 Qr M → zJ p l e (zRoom 0 0 0 0) s m args below meth c G 7 0 0 (MQ below (zQv G (Qr)) args s 0 0 (zA G)) 24 [some (.inr (64 * o + 63)), some (.inl v1), some (.inl v2), some (.inl v3), none, none, none] [.inl s0] M := by
    intro M v1 v2 v3 s0 X2 hX2 h
    unfold T_X6_turnBack_24 at h
    refine zj_istore (pc := 24) hc dX6_turnBack_24 (by decide) ?_
    refine zj_iload_n (pc := 26) hc dX6_turnBack_26 rfl ?_
    refine zj_iconst (pc := 27) hc dX6_turnBack_27 (zin _ rfl) ?_
    refine zj_icmp_lt (pc := 28) (tgt := 42) hc dX6_turnBack_28 (by decide) (fun hx5 => ?_) (fun hx5 => ?_)
    · have h := h.1 hx5
      refine zj_iconst (pc := 42) hc dX6_turnBack_42 (zin _ rfl) ?_
      exact k43 M v1 v2 v3 s0 0 X2 hX2 h
    · have h := h.2 hx5
      refine zj_aload_n (pc := 31) hc dX6_turnBack_31 rfl ?_
      refine zgv_X6_1 (pc := 32) ho hc lk_X6_15 dX6_turnBack_32 ?_
      refine zj_iload_n (pc := 35) hc dX6_turnBack_35 rfl ?_
      refine zj_iconst (pc := 36) hc dX6_turnBack_36 (zin _ rfl) ?_
      refine zj_isub (pc := 37) hc dX6_turnBack_37 h.1 ?_
      have h := h.2
      refine zj_iald (pc := 38) hc dX6_turnBack_38 (alenv_X6_1 ho) h.1 ?_
      have h := h.2
      refine zj_goto (pc := 39) (tgt := 43) hc dX6_turnBack_39 (by decide) ?_
      exact k43 M v1 v2 v3 s0 (M.2 (64 * o + 1) (v3 - 2)) X2 hX2 h
  have k2 : ∀ (M : zMem) (v1 : Int) (v2 : Int) (v3 : Int), T_X6_turnBack_2 o v1 v2 Qr v3 M → zJ p l e (zRoom 0 0 0 0) s m args below meth c G 7 0 0 (MQ below (zQv G (Qr)) args s 0 0 (zA G)) 2 [some (.inr (64 * o + 63)), some (.inl v1), some (.inl v2), some (.inl v3), none, none, none] [] M := by
    intro M v1 v2 v3 h
    unfold T_X6_turnBack_2 at h
    refine zl1_use h (fun v3 M => zJ p l e (zRoom 0 0 0 0) s m args below meth c G 7 0 0 (MQ below (zQv G (Qr)) args s 0 0 (zA G)) 2 [some (.inr (64 * o + 63)), some (.inl v1), some (.inl v2), some (.inl v3), none, none, none] [] M) (fun X2 hX2 v3 M h => ?_)
    refine zj_iload_n (pc := 2) hc dX6_turnBack_2 rfl ?_
    refine zj_iload_n (pc := 3) hc dX6_turnBack_3 rfl ?_
    refine zj_icmp_ge (pc := 4) (tgt := 113) hc dX6_turnBack_4 (by decide) (fun hx6 => ?_) (fun hx6 => ?_)
    · have h := h.1 hx6
      exact zj_vret (pc := 113) hc hr hlk dX6_turnBack_113 (by decide) (by decide) h
    · have h := h.2 hx6
      refine zj_iload_n (pc := 7) hc dX6_turnBack_7 rfl ?_
      refine zj_iconst (pc := 8) hc dX6_turnBack_8 (zin _ rfl) ?_
      refine zj_icmp_lt (pc := 9) (tgt := 23) hc dX6_turnBack_9 (by decide) (fun hx7 => ?_) (fun hx7 => ?_)
      · have h := h.1 hx7
        refine zj_iconst (pc := 23) hc dX6_turnBack_23 (zin _ rfl) ?_
        exact k24 M v1 v2 v3 0 X2 hX2 h
      · have h := h.2 hx7
        refine zj_aload_n (pc := 12) hc dX6_turnBack_12 rfl ?_
        refine zgv_X6_1 (pc := 13) ho hc lk_X6_15 dX6_turnBack_13 ?_
        refine zj_iload_n (pc := 16) hc dX6_turnBack_16 rfl ?_
        refine zj_iconst (pc := 17) hc dX6_turnBack_17 (zin _ rfl) ?_
        refine zj_isub (pc := 18) hc dX6_turnBack_18 h.1 ?_
        have h := h.2
        refine zj_iald (pc := 19) hc dX6_turnBack_19 (alenv_X6_1 ho) h.1 ?_
        have h := h.2
        refine zj_goto (pc := 20) (tgt := 24) hc dX6_turnBack_20 (by decide) ?_
        exact k24 M v1 v2 v3 (M.2 (64 * o + 1) (v3 - 1)) X2 hX2 h
  unfold T_X6_turnBack at h
  refine zj_iconst (pc := 0) hc dX6_turnBack_0 (zin _ rfl) ?_
  refine zj_istore_n (pc := 1) hc dX6_turnBack_1 (by decide) ?_
  exact k2 M v1 v2 0 h
set_option maxHeartbeats 4000000 in
set_option maxRecDepth 100000 in
theorem S_X6_unpackLike (l : Launch) (G : zG) {o : Nat} (ho : o = 4 ∨ o = 6) (r1 : Nat) (v2 : Int) (v3 : Int) (v4 : Int) (M : zMem) (Qr : Int → zMem → Prop) (h : T_X6_unpackLike o r1 v2 v3 v4 Qr M) : zMetI l yX6_unpackLike cX6_unpackLike 8 (some .int) 0 0 0 0 G [.inr (64 * o + 63), .inr r1, .inl v2, .inl v3, .inl v4] M Qr := by
  refine zmetI (by decide) (Nat.le_of_ble_eq_true rfl) [some (.inr (64 * o + 63)), some (.inr r1), some (.inl v2), some (.inl v3), some (.inl v4), none, none, none] rfl ?_
  intro p e s m args below meth c hc hr hlk
  have k79 : ∀ (M : zMem) (v4 : Int) (v5 : Int) (v6 : Int) (v7 : Int), T_X6_unpackLike_79 o v4 v5 v6 Qr v7 M → zJ p l e (zRoom 0 0 0 0) s m args below meth c G 8 0 0 (MQ below (zQi G (Qr)) args s 0 0 (zA G)) 79 [some (.inr (64 * o + 63)), none, none, none, some (.inl v4), some (.inl v5), some (.inl v6), some (.inl v7)] [] M := by
    intro M v4 v5 v6 v7 h
    unfold T_X6_unpackLike_79 at h
    refine zl1_use h (fun v7 M => zJ p l e (zRoom 0 0 0 0) s m args below meth c G 8 0 0 (MQ below (zQi G (Qr)) args s 0 0 (zA G)) 79 [some (.inr (64 * o + 63)), none, none, none, some (.inl v4), some (.inl v5), some (.inl v6), some (.inl v7)] [] M) (fun X79 hX79 v7 M h => ?_)
    refine zj_iload (pc := 79) hc dX6_unpackLike_79 rfl ?_
    refine zj_iload (pc := 81) hc dX6_unpackLike_81 rfl ?_
    refine zj_iload (pc := 83) hc dX6_unpackLike_83 rfl ?_
    refine zj_iadd (pc := 85) hc dX6_unpackLike_85 h.1 ?_
    have h := h.2
    refine zj_icmp_ge (pc := 86) (tgt := 112) hc dX6_unpackLike_86 (by decide) (fun hx1 => ?_) (fun hx1 => ?_)
    · have h := h.1 hx1
      refine zj_iload (pc := 112) hc dX6_unpackLike_112 rfl ?_
      refine zj_iload (pc := 114) hc dX6_unpackLike_114 rfl ?_
      refine zj_iadd (pc := 116) hc dX6_unpackLike_116 h.1 ?_
      have h := h.2
      exact zj_iret (pc := 117) hc hr hlk dX6_unpackLike_117 (by decide) (by decide) h
    · have h := h.2 hx1
      refine zj_aload_n (pc := 89) hc dX6_unpackLike_89 rfl ?_
      refine zgv_X6_1 (pc := 90) ho hc lk_X6_15 dX6_unpackLike_90 ?_
      refine zj_iload (pc := 93) hc dX6_unpackLike_93 rfl ?_
      refine zj_aload_n (pc := 95) hc dX6_unpackLike_95 rfl ?_
      refine zgv_X6_1 (pc := 96) ho hc lk_X6_15 dX6_unpackLike_96 ?_
      refine zj_iload (pc := 99) hc dX6_unpackLike_99 rfl ?_
      refine zj_iload (pc := 101) hc dX6_unpackLike_101 rfl ?_
      refine zj_isub (pc := 103) hc dX6_unpackLike_103 h.1 ?_
      have h := h.2
      refine zj_iald (pc := 104) hc dX6_unpackLike_104 (alenv_X6_1 ho) h.1 ?_
      have h := h.2
      refine zj_iast (pc := 105) hc dX6_unpackLike_105 (alenv_X6_1 ho) h.1 (fun M2 hM2 => ?_)
      have h := h.2 M2 hM2
      refine zj_iinc (pc := 106) hc dX6_unpackLike_106 rfl (by decide) h.1 ?_
      have h := h.2
      refine zj_goto (pc := 109) (tgt := 79) hc dX6_unpackLike_109 (by decide) ?_
      exact hX79 (v7 + 1) M2 h
  have k43 : ∀ (M : zMem) (v2 : Int) (v4 : Int) (v5 : Int) (s0 : Int), T_X6_unpackLike_43 o v2 v4 v5 s0 Qr M → zJ p l e (zRoom 0 0 0 0) s m args below meth c G 8 0 0 (MQ below (zQi G (Qr)) args s 0 0 (zA G)) 43 [some (.inr (64 * o + 63)), none, some (.inl v2), none, some (.inl v4), some (.inl v5), none, none] [.inl s0] M := by
    intro M v2 v4 v5 s0 h
    unfold T_X6_unpackLike_43 at h
    refine zj_istore (pc := 43) hc dX6_unpackLike_43 (by decide) ?_
    refine zj_iload (pc := 45) hc dX6_unpackLike_45 rfl ?_
    refine zj_iconst (pc := 47) hc dX6_unpackLike_47 (zin _ rfl) ?_
    refine zj_icmp_lt (pc := 48) (tgt := 65) hc dX6_unpackLike_48 (by decide) (fun hx3 => ?_) (fun hx3 => ?_)
    · have h := h.1 hx3
      refine zj_aload_n (pc := 65) hc dX6_unpackLike_65 rfl ?_
      refine zj_iload_n (pc := 66) hc dX6_unpackLike_66 rfl ?_
      refine zj_iconst (pc := 67) hc dX6_unpackLike_67 (zin _ rfl) ?_
      refine zj_iadd (pc := 68) hc dX6_unpackLike_68 h.1 ?_
      have h := h.2
      refine zsv_X6_2 (pc := 69) ho hc lk_X6_18 dX6_unpackLike_69 (fun M4 hM4 => ?_)
      have h := h M4 hM4
      refine zj_iload (pc := 72) hc dX6_unpackLike_72 rfl ?_
      exact zj_iret (pc := 74) hc hr hlk dX6_unpackLike_74 (by decide) (by decide) h
    · have h := h.2 hx3
      refine zj_iload (pc := 51) hc dX6_unpackLike_51 rfl ?_
      refine zj_bipush (pc := 53) hc dX6_unpackLike_53 (by decide) (zin _ rfl) ?_
      refine zj_icmp_gt (pc := 55) (tgt := 65) hc dX6_unpackLike_55 (by decide) (fun hx5 => ?_) (fun hx5 => ?_)
      · have h := h.1 hx5
        refine zj_aload_n (pc := 65) hc dX6_unpackLike_65 rfl ?_
        refine zj_iload_n (pc := 66) hc dX6_unpackLike_66 rfl ?_
        refine zj_iconst (pc := 67) hc dX6_unpackLike_67 (zin _ rfl) ?_
        refine zj_iadd (pc := 68) hc dX6_unpackLike_68 h.1 ?_
        have h := h.2
        refine zsv_X6_2 (pc := 69) ho hc lk_X6_18 dX6_unpackLike_69 (fun M6 hM6 => ?_)
        have h := h M6 hM6
        refine zj_iload (pc := 72) hc dX6_unpackLike_72 rfl ?_
        exact zj_iret (pc := 74) hc hr hlk dX6_unpackLike_74 (by decide) (by decide) h
      · have h := h.2 hx5
        refine zj_iload (pc := 58) hc dX6_unpackLike_58 rfl ?_
        refine zj_iload (pc := 60) hc dX6_unpackLike_60 rfl ?_
        refine zj_icmp_le (pc := 62) (tgt := 75) hc dX6_unpackLike_62 (by decide) (fun hx7 => ?_) (fun hx7 => ?_)
        · have h := h.1 hx7
          refine zj_iload (pc := 75) hc dX6_unpackLike_75 rfl ?_
          refine zj_istore (pc := 77) hc dX6_unpackLike_77 (by decide) ?_
          refine zj_mask (bs := [true, true, false, true, true, true, true, true]) ?_
          exact k79 M v4 v5 s0 v4 h
        · have h := h.2 hx7
          refine zj_aload_n (pc := 65) hc dX6_unpackLike_65 rfl ?_
          refine zj_iload_n (pc := 66) hc dX6_unpackLike_66 rfl ?_
          refine zj_iconst (pc := 67) hc dX6_unpackLike_67 (zin _ rfl) ?_
          refine zj_iadd (pc := 68) hc dX6_unpackLike_68 h.1 ?_
          have h := h.2
          refine zsv_X6_2 (pc := 69) ho hc lk_X6_18 dX6_unpackLike_69 (fun M8 hM8 => ?_)
          have h := h M8 hM8
          refine zj_iload (pc := 72) hc dX6_unpackLike_72 rfl ?_
          exact zj_iret (pc := 74) hc hr hlk dX6_unpackLike_74 (by decide) (by decide) h
  unfold T_X6_unpackLike at h
  refine zj_aload_n (pc := 0) hc dX6_unpackLike_0 rfl ?_
  refine zj_iload_n (pc := 1) hc dX6_unpackLike_1 rfl ?_
  refine zj_iald (pc := 2) hc dX6_unpackLike_2 rfl h.1 ?_
  have h := h.2
  refine zj_bipush (pc := 3) hc dX6_unpackLike_3 (by decide) (zin _ rfl) ?_
  refine zj_isub (pc := 5) hc dX6_unpackLike_5 h.1 ?_
  have h := h.2
  refine zj_istore (pc := 6) hc dX6_unpackLike_6 (by decide) ?_
  refine zj_iload (pc := 8) hc dX6_unpackLike_8 rfl ?_
  refine zj_iload (pc := 10) hc dX6_unpackLike_10 rfl ?_
  refine zj_iadd (pc := 12) hc dX6_unpackLike_12 h.1 ?_
  have h := h.2
  refine zj_sipush (pc := 13) hc dX6_unpackLike_13 (by decide) (zin _ rfl) ?_
  refine zj_icmp_le (pc := 16) (tgt := 27) hc dX6_unpackLike_16 (by decide) (fun hx9 => ?_) (fun hx9 => ?_)
  · have h := h.1 hx9
    refine zj_iload_n (pc := 27) hc dX6_unpackLike_27 rfl ?_
    refine zj_iconst (pc := 28) hc dX6_unpackLike_28 (zin _ rfl) ?_
    refine zj_iadd (pc := 29) hc dX6_unpackLike_29 h.1 ?_
    have h := h.2
    refine zj_iload_n (pc := 30) hc dX6_unpackLike_30 rfl ?_
    refine zj_icmp_ge (pc := 31) (tgt := 42) hc dX6_unpackLike_31 (by decide) (fun hx10 => ?_) (fun hx10 => ?_)
    · have h := h.1 hx10
      refine zj_iconst (pc := 42) hc dX6_unpackLike_42 (zin _ rfl) ?_
      refine zj_mask (bs := [true, false, true, false, true, true, true, true]) ?_
      exact k43 M v2 v4 ((M.2 r1 v2) - 125) 0 h
    · have h := h.2 hx10
      refine zj_aload_n (pc := 34) hc dX6_unpackLike_34 rfl ?_
      refine zj_iload_n (pc := 35) hc dX6_unpackLike_35 rfl ?_
      refine zj_iconst (pc := 36) hc dX6_unpackLike_36 (zin _ rfl) ?_
      refine zj_iadd (pc := 37) hc dX6_unpackLike_37 h.1 ?_
      have h := h.2
      refine zj_iald (pc := 38) hc dX6_unpackLike_38 rfl h.1 ?_
      have h := h.2
      refine zj_goto (pc := 39) (tgt := 43) hc dX6_unpackLike_39 (by decide) ?_
      refine zj_mask (bs := [true, false, true, false, true, true, true, true]) ?_
      exact k43 M v2 v4 ((M.2 r1 v2) - 125) (M.2 r1 (v2 + 1)) h
  · have h := h.2 hx9
    refine zj_aload_n (pc := 19) hc dX6_unpackLike_19 rfl ?_
    refine zj_iload_n (pc := 20) hc dX6_unpackLike_20 rfl ?_
    refine zsv_X6_2 (pc := 21) ho hc lk_X6_18 dX6_unpackLike_21 (fun M11 hM11 => ?_)
    have h := h M11 hM11
    refine zj_iload (pc := 24) hc dX6_unpackLike_24 rfl ?_
    exact zj_iret (pc := 26) hc hr hlk dX6_unpackLike_26 (by decide) (by decide) h
