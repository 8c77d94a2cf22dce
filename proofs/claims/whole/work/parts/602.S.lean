set_option maxHeartbeats 4000000 in
set_option maxRecDepth 100000 in
theorem S_X3_giveUpAll (l : Launch) (G : zG) (M : zMem) (Qr : zMem → Prop) (h : T_X3_giveUpAll Qr M) : zMetV l yX3_giveUpAll cX3_giveUpAll 1 none 0 0 0 0 G [.inr 511] M Qr := by
  refine zmetV (by decide) (Nat.le_of_ble_eq_true rfl) [some (.inr 511)] rfl ?_
  intro p e s m args below meth c hc hr hlk
  unfold T_X3_giveUpAll at h
  refine zj_aload_n (pc := 0) hc dX3_giveUpAll_0 rfl ?_
  refine zj_iconst (pc := 1) hc dX3_giveUpAll_1 (zin _ rfl) ?_
  refine zs_7_0 (pc := 2) hc lk_X3_9 dX3_giveUpAll_2 (fun M1 hM1 => ?_)
  have h := h M1 hM1
  exact zj_vret (pc := 5) hc hr hlk dX3_giveUpAll_5 (by decide) (by decide) h
set_option maxHeartbeats 4000000 in
set_option maxRecDepth 100000 in
theorem S_X6_filterRow (l : Launch) (G : zG) {o : Nat} (ho : o = 4 ∨ o = 6) (r1 : Nat) (v2 : Int) (v3 : Int) (M : zMem) (Qr : zMem → Prop) (h : T_X6_filterRow o r1 v2 v3 Qr M) : zMetV l yX6_filterRow cX6_filterRow 8 none 0 0 0 0 G [.inr (64 * o + 63), .inr r1, .inl v2, .inl v3] M Qr := by
  refine zmetV (by decide) (Nat.le_of_ble_eq_true rfl) [some (.inr (64 * o + 63)), some (.inr r1), some (.inl v2), some (.inl v3), none, none, none, none] rfl ?_
  intro p e s m args below meth c hc hr hlk
  have k93 : ∀ (M : zMem) (r1 : Nat) (v2 : Int) (v3 : Int) (v4 : Int) (v7 : Int) (X3 : Int → zMem → Prop) (hX3 : ∀ (v4 : Int) (M : zMem), X3 v4 M → zJ p l e (zRoom 0 0 0 0) s m args below meth c G 8 0 0 (MQ below (zQv G (Qr)) args s 0 0 (zA G)) 3 [some (.inr (64 * o + 63)), some (.inr r1), some (.inl v2), some (.inl v3), some (.inl v4), none, none, none] [] M), T_X6_filterRow_93 o r1 v2 v3 v4 v7 X3 Qr M → zJ p l e (zRoom 0 0 0 0) s m args below meth c G 8 0 0 (MQ below (zQv G (Qr)) args s 0 0 (zA G)) 93 [some (.inr (64 * o + 63)), some (.inr r1), some (.inl v2), some (.inl v3), some (.inl v4), none, none, some (.inl v7)] [] M := by
    intro M r1 v2 v3 v4 v7 X3 hX3 h
    unfold T_X6_filterRow_93 at h
    refine zj_aload_n (pc := 93) hc dX6_filterRow_93 rfl ?_
    refine zgv_X6_4 (pc := 94) ho hc lk_X6_25 dX6_filterRow_94 ?_
    refine zj_iload (pc := 97) hc dX6_filterRow_97 rfl ?_
    refine zj_iload (pc := 99) hc dX6_filterRow_99 rfl ?_
    refine zj_sipush (pc := 101) hc dX6_filterRow_101 (by decide) (zin _ rfl) ?_
    refine zj_iand (pc := 104) hc dX6_filterRow_104 ?_
    refine zj_iast (pc := 105) hc dX6_filterRow_105 (alenv_X6_4 ho) h.1 (fun M1 hM1 => ?_)
    have h := h.2 M1 hM1
    refine zj_iinc (pc := 106) hc dX6_filterRow_106 rfl (by decide) h.1 ?_
    have h := h.2
    refine zj_goto (pc := 109) (tgt := 3) hc dX6_filterRow_109 (by decide) ?_
    refine zj_mask (bs := [true, true, true, true, true, true, true, false]) ?_
    exact hX3 (v4 + 1) M1 h
  have k43 : ∀ (M : zMem) (r1 : Nat) (v2 : Int) (v3 : Int) (v4 : Int) (v5 : Int) (s0 : Int) (X3 : Int → zMem → Prop) (hX3 : ∀ (v4 : Int) (M : zMem), X3 v4 M → zJ p l e (zRoom 0 0 0 0) s m args below meth c G 8 0 0 (MQ below (zQv G (Qr)) args s 0 0 (zA G)) 3 [some (.inr (64 * o + 63)), some (.inr r1), some (.inl v2), some (.inl v3), some (.inl v4), none, none, none] [] M), T_X6_filterRow_43 o r1 v2 v3 v4 v5 s0 X3 Qr M → zJ p l e (zRoom 0 0 0 0) s m args below meth c G 8 0 0 (MQ below (zQv G (Qr)) args s 0 0 (zA G)) 43 [some (.inr (64 * o + 63)), some (.inr r1), some (.inl v2), some (.inl v3), some (.inl v4), some (.inl v5), none, none] [.inl s0] M := by
    intro M r1 v2 v3 v4 v5 s0 X3 hX3 h
    unfold T_X6_filterRow_43 at h
    refine zj_istore (pc := 43) hc dX6_filterRow_43 (by decide) ?_
    refine zj_aload_n (pc := 45) hc dX6_filterRow_45 rfl ?_
    refine zj_iload (pc := 46) hc dX6_filterRow_46 rfl ?_
    refine zj_iald (pc := 48) hc dX6_filterRow_48 rfl h.1 ?_
    have h := h.2
    refine zj_istore (pc := 49) hc dX6_filterRow_49 (by decide) ?_
    refine zj_iload_n (pc := 51) hc dX6_filterRow_51 rfl ?_
    refine zj_iconst (pc := 52) hc dX6_filterRow_52 (zin _ rfl) ?_
    refine zj_icmp_ne (pc := 53) (tgt := 66) hc dX6_filterRow_53 (by decide) (fun hx2 => ?_) (fun hx2 => ?_)
    · have h := h.1 hx2
      refine zj_iload_n (pc := 66) hc dX6_filterRow_66 rfl ?_
      refine zj_iconst (pc := 67) hc dX6_filterRow_67 (zin _ rfl) ?_
      refine zj_icmp_ne (pc := 68) (tgt := 81) hc dX6_filterRow_68 (by decide) (fun hx3 => ?_) (fun hx3 => ?_)
      · have h := h.1 hx3
        refine zj_iload_n (pc := 81) hc dX6_filterRow_81 rfl ?_
        refine zj_iconst (pc := 82) hc dX6_filterRow_82 (zin _ rfl) ?_
        refine zj_icmp_ne (pc := 83) (tgt := 93) hc dX6_filterRow_83 (by decide) (fun hx4 => ?_) (fun hx4 => ?_)
        · have h := h.1 hx4
          refine zj_mask (bs := [true, true, true, true, true, false, false, true]) ?_
          exact k93 M r1 v2 v3 v4 (M.2 r1 v4) X3 hX3 h
        · have h := h.2 hx4
          refine zj_iload (pc := 86) hc dX6_filterRow_86 rfl ?_
          refine zj_iload (pc := 88) hc dX6_filterRow_88 rfl ?_
          refine zj_isub (pc := 90) hc dX6_filterRow_90 h.1 ?_
          have h := h.2
          refine zj_istore (pc := 91) hc dX6_filterRow_91 (by decide) ?_
          refine zj_mask (bs := [true, true, true, true, true, false, false, true]) ?_
          exact k93 M r1 v2 v3 v4 ((M.2 r1 v4) - s0) X3 hX3 h
      · have h := h.2 hx3
        refine zj_iload (pc := 71) hc dX6_filterRow_71 rfl ?_
        refine zj_iload (pc := 73) hc dX6_filterRow_73 rfl ?_
        refine zj_ixor (pc := 75) hc dX6_filterRow_75 ?_
        refine zj_istore (pc := 76) hc dX6_filterRow_76 (by decide) ?_
        refine zj_goto (pc := 78) (tgt := 93) hc dX6_filterRow_78 (by decide) ?_
        refine zj_mask (bs := [true, true, true, true, true, false, false, true]) ?_
        exact k93 M r1 v2 v3 v4 (zxor (M.2 r1 v4) v5) X3 hX3 h
    · have h := h.2 hx2
      refine zj_iload (pc := 56) hc dX6_filterRow_56 rfl ?_
      refine zj_iload (pc := 58) hc dX6_filterRow_58 rfl ?_
      refine zj_isub (pc := 60) hc dX6_filterRow_60 h.1 ?_
      have h := h.2
      refine zj_istore (pc := 61) hc dX6_filterRow_61 (by decide) ?_
      refine zj_goto (pc := 63) (tgt := 93) hc dX6_filterRow_63 (by decide) ?_
      refine zj_mask (bs := [true, true, true, true, true, false, false, true]) ?_
      exact k93 M r1 v2 v3 v4 ((M.2 r1 v4) - v5) X3 hX3 h
  have k25 : ∀ (M : zMem) (r1 : Nat) (v2 : Int) (v3 : Int) (v4 : Int) (s0 : Int) (X3 : Int → zMem → Prop) (hX3 : ∀ (v4 : Int) (M : zMem), X3 v4 M → zJ p l e (zRoom 0 0 0 0) s m args below meth c G 8 0 0 (MQ below (zQv G (Qr)) args s 0 0 (zA G)) 3 [some (.inr (64 * o + 63)), some (.inr r1), some (.inl v2), some (.inl v3), some (.inl v4), none, none, none] [] M), T_X6_filterRow_25 o r1 v2 v3 v4 s0 X3 Qr M → zJ p l e (zRoom 0 0 0 0) s m args below meth c G 8 0 0 (MQ below (zQv G (Qr)) args s 0 0 (zA G)) 25 [some (.inr (64 * o + 63)), some (.inr r1), some (.inl v2), some (.inl v3), some (.inl v4), none, none, none] [.inl s0] M := by
    intro M r1 v2 v3 v4 s0 X3 hX3 h
    unfold T_X6_filterRow_25 at h
    refine zj_istore (pc := 25) hc dX6_filterRow_25 (by decide) ?_
    refine zj_iload (pc := 27) hc dX6_filterRow_27 rfl ?_
    refine zj_iconst (pc := 29) hc dX6_filterRow_29 (zin _ rfl) ?_
    refine zj_icmp_lt (pc := 30) (tgt := 42) hc dX6_filterRow_30 (by decide) (fun hx5 => ?_) (fun hx5 => ?_)
    · have h := h.1 hx5
      refine zj_iconst (pc := 42) hc dX6_filterRow_42 (zin _ rfl) ?_
      exact k43 M r1 v2 v3 v4 s0 0 X3 hX3 h
    · have h := h.2 hx5
      refine zj_aload_n (pc := 33) hc dX6_filterRow_33 rfl ?_
      refine zj_iload (pc := 34) hc dX6_filterRow_34 rfl ?_
      refine zj_iconst (pc := 36) hc dX6_filterRow_36 (zin _ rfl) ?_
      refine zj_isub (pc := 37) hc dX6_filterRow_37 h.1 ?_
      have h := h.2
      refine zj_iald (pc := 38) hc dX6_filterRow_38 rfl h.1 ?_
      have h := h.2
      refine zj_goto (pc := 39) (tgt := 43) hc dX6_filterRow_39 (by decide) ?_
      exact k43 M r1 v2 v3 v4 s0 (M.2 r1 (v4 - 2)) X3 hX3 h
  have k3 : ∀ (M : zMem) (r1 : Nat) (v2 : Int) (v3 : Int) (v4 : Int), T_X6_filterRow_3 o r1 v2 v3 Qr v4 M → zJ p l e (zRoom 0 0 0 0) s m args below meth c G 8 0 0 (MQ below (zQv G (Qr)) args s 0 0 (zA G)) 3 [some (.inr (64 * o + 63)), some (.inr r1), some (.inl v2), some (.inl v3), some (.inl v4), none, none, none] [] M := by
    intro M r1 v2 v3 v4 h
    unfold T_X6_filterRow_3 at h
    refine zl1_use h (fun v4 M => zJ p l e (zRoom 0 0 0 0) s m args below meth c G 8 0 0 (MQ below (zQv G (Qr)) args s 0 0 (zA G)) 3 [some (.inr (64 * o + 63)), some (.inr r1), some (.inl v2), some (.inl v3), some (.inl v4), none, none, none] [] M) (fun X3 hX3 v4 M h => ?_)
    refine zj_iload (pc := 3) hc dX6_filterRow_3 rfl ?_
    refine zj_iload_n (pc := 5) hc dX6_filterRow_5 rfl ?_
    refine zj_icmp_ge (pc := 6) (tgt := 112) hc dX6_filterRow_6 (by decide) (fun hx6 => ?_) (fun hx6 => ?_)
    · have h := h.1 hx6
      exact zj_vret (pc := 112) hc hr hlk dX6_filterRow_112 (by decide) (by decide) h
    · have h := h.2 hx6
      refine zj_iload (pc := 9) hc dX6_filterRow_9 rfl ?_
      refine zj_iconst (pc := 11) hc dX6_filterRow_11 (zin _ rfl) ?_
      refine zj_icmp_lt (pc := 12) (tgt := 24) hc dX6_filterRow_12 (by decide) (fun hx7 => ?_) (fun hx7 => ?_)
      · have h := h.1 hx7
        refine zj_iconst (pc := 24) hc dX6_filterRow_24 (zin _ rfl) ?_
        exact k25 M r1 v2 v3 v4 0 X3 hX3 h
      · have h := h.2 hx7
        refine zj_aload_n (pc := 15) hc dX6_filterRow_15 rfl ?_
        refine zj_iload (pc := 16) hc dX6_filterRow_16 rfl ?_
        refine zj_iconst (pc := 18) hc dX6_filterRow_18 (zin _ rfl) ?_
        refine zj_isub (pc := 19) hc dX6_filterRow_19 h.1 ?_
        have h := h.2
        refine zj_iald (pc := 20) hc dX6_filterRow_20 rfl h.1 ?_
        have h := h.2
        refine zj_goto (pc := 21) (tgt := 25) hc dX6_filterRow_21 (by decide) ?_
        exact k25 M r1 v2 v3 v4 (M.2 r1 (v4 - 1)) X3 hX3 h
  unfold T_X6_filterRow at h
  refine zj_iconst (pc := 0) hc dX6_filterRow_0 (zin _ rfl) ?_
  refine zj_istore (pc := 1) hc dX6_filterRow_1 (by decide) ?_
  exact k3 M r1 v2 v3 0 h
set_option maxHeartbeats 4000000 in
set_option maxRecDepth 100000 in
theorem S_X6_linkSame (l : Launch) (G : zG) {o : Nat} (ho : o = 4 ∨ o = 6) (v1 : Int) (M : zMem) (Qr : zMem → Prop) (h : T_X6_linkSame o v1 Qr M) : zMetV l yX6_linkSame cX6_linkSame 3 none 0 0 0 0 G [.inr (64 * o + 63), .inl v1] M Qr := by
  refine zmetV (by decide) (Nat.le_of_ble_eq_true rfl) [some (.inr (64 * o + 63)), some (.inl v1), none] rfl ?_
  intro p e s m args below meth c hc hr hlk
  have k2 : ∀ (M : zMem) (v1 : Int) (v2 : Int), T_X6_linkSame_2 o v1 Qr v2 M → zJ p l e (zRoom 0 0 0 0) s m args below meth c G 3 0 0 (MQ below (zQv G (Qr)) args s 0 0 (zA G)) 2 [some (.inr (64 * o + 63)), some (.inl v1), some (.inl v2)] [] M := by
    intro M v1 v2 h
    unfold T_X6_linkSame_2 at h
    refine zl1_use h (fun v2 M => zJ p l e (zRoom 0 0 0 0) s m args below meth c G 3 0 0 (MQ below (zQv G (Qr)) args s 0 0 (zA G)) 2 [some (.inr (64 * o + 63)), some (.inl v1), some (.inl v2)] [] M) (fun X2 hX2 v2 M h => ?_)
    refine zj_iload_n (pc := 2) hc dX6_linkSame_2 rfl ?_
    refine zj_iload_n (pc := 3) hc dX6_linkSame_3 rfl ?_
    refine zj_icmp_ge (pc := 4) (tgt := 42) hc dX6_linkSame_4 (by decide) (fun hx1 => ?_) (fun hx1 => ?_)
    · have h := h.1 hx1
      exact zj_vret (pc := 42) hc hr hlk dX6_linkSame_42 (by decide) (by decide) h
    · have h := h.2 hx1
      refine zj_aload_n (pc := 7) hc dX6_linkSame_7 rfl ?_
      refine zgv_X6_5 (pc := 8) ho hc lk_X6_28 dX6_linkSame_8 ?_
      refine zj_iload_n (pc := 11) hc dX6_linkSame_11 rfl ?_
      refine zj_aload_n (pc := 12) hc dX6_linkSame_12 rfl ?_
      refine zgv_X6_6 (pc := 13) ho hc lk_X6_31 dX6_linkSame_13 ?_
      refine zj_aload_n (pc := 16) hc dX6_linkSame_16 rfl ?_
      refine zgv_X6_4 (pc := 17) ho hc lk_X6_25 dX6_linkSame_17 ?_
      refine zj_iload_n (pc := 20) hc dX6_linkSame_20 rfl ?_
      refine zj_iald (pc := 21) hc dX6_linkSame_21 (alenv_X6_4 ho) h.1 ?_
      have h := h.2
      refine zj_iald (pc := 22) hc dX6_linkSame_22 (alenv_X6_6 ho) h.1 ?_
      have h := h.2
      refine zj_iast (pc := 23) hc dX6_linkSame_23 (alenv_X6_5 ho) h.1 (fun M2 hM2 => ?_)
      have h := h.2 M2 hM2
      refine zj_aload_n (pc := 24) hc dX6_linkSame_24 rfl ?_
      refine zgv_X6_6 (pc := 25) ho hc lk_X6_31 dX6_linkSame_25 ?_
      refine zj_aload_n (pc := 28) hc dX6_linkSame_28 rfl ?_
      refine zgv_X6_4 (pc := 29) ho hc lk_X6_25 dX6_linkSame_29 ?_
      refine zj_iload_n (pc := 32) hc dX6_linkSame_32 rfl ?_
      refine zj_iald (pc := 33) hc dX6_linkSame_33 (alenv_X6_4 ho) h.1 ?_
      have h := h.2
      refine zj_iload_n (pc := 34) hc dX6_linkSame_34 rfl ?_
      refine zj_iast (pc := 35) hc dX6_linkSame_35 (alenv_X6_6 ho) h.1 (fun M3 hM3 => ?_)
      have h := h.2 M3 hM3
      refine zj_iinc (pc := 36) hc dX6_linkSame_36 rfl (by decide) h.1 ?_
      have h := h.2
      refine zj_goto (pc := 39) (tgt := 2) hc dX6_linkSame_39 (by decide) ?_
      exact hX2 (v2 + 1) M3 h
  unfold T_X6_linkSame at h
  refine zj_iconst (pc := 0) hc dX6_linkSame_0 (zin _ rfl) ?_
  refine zj_istore_n (pc := 1) hc dX6_linkSame_1 (by decide) ?_
  exact k2 M v1 0 h
set_option maxHeartbeats 4000000 in
set_option maxRecDepth 100000 in
theorem S_X6_longestLike (l : Launch) (G : zG) {o : Nat} (ho : o = 4 ∨ o = 6) (v1 : Int) (v2 : Int) (M : zMem) (Qr : Int → zMem → Prop) (h : T_X6_longestLike o v1 v2 Qr M) : zMetI l yX6_longestLike cX6_longestLike 8 (some .int) 0 0 0 0 G [.inr (64 * o + 63), .inl v1, .inl v2] M Qr := by
  refine zmetI (by decide) (Nat.le_of_ble_eq_true rfl) [some (.inr (64 * o + 63)), some (.inl v1), some (.inl v2), none, none, none, none, none] rfl ?_
  intro p e s m args below meth c hc hr hlk
  have k131 : ∀ (M : zMem) (v4 : Int), T_X6_longestLike_131 o v4 Qr M → zJ p l e (zRoom 0 0 0 0) s m args below meth c G 8 0 0 (MQ below (zQi G (Qr)) args s 0 0 (zA G)) 131 [none, none, none, none, some (.inl v4), none, none, none] [] M := by
    intro M v4 h
    unfold T_X6_longestLike_131 at h
    refine zj_iload (pc := 131) hc dX6_longestLike_131 rfl ?_
    refine zj_iconst (pc := 133) hc dX6_longestLike_133 (zin _ rfl) ?_
    refine zj_icmp_ge (pc := 134) (tgt := 141) hc dX6_longestLike_134 (by decide) (fun hx1 => ?_) (fun hx1 => ?_)
    · have h := h.1 hx1
      refine zj_iload (pc := 141) hc dX6_longestLike_141 rfl ?_
      exact zj_iret (pc := 143) hc hr hlk dX6_longestLike_143 (by decide) (by decide) h
    · have h := h.2 hx1
      refine zj_iconst (pc := 137) hc dX6_longestLike_137 (zin _ rfl) ?_
      refine zj_goto (pc := 138) (tgt := 143) hc dX6_longestLike_138 (by decide) ?_
      exact zj_iret (pc := 143) hc hr hlk dX6_longestLike_143 (by decide) (by decide) h
  have k116 : ∀ (M : zMem) (v1 : Int) (v3 : Int) (v4 : Int) (v5 : Int) (v6 : Int) (X33 : Int → Int → Int → zMem → Prop) (hX33 : ∀ (v4 : Int) (v5 : Int) (v6 : Int) (M : zMem), X33 v4 v5 v6 M → zJ p l e (zRoom 0 0 0 0) s m args below meth c G 8 0 0 (MQ below (zQi G (Qr)) args s 0 0 (zA G)) 33 [some (.inr (64 * o + 63)), some (.inl v1), none, some (.inl v3), some (.inl v4), some (.inl v5), some (.inl v6), none] [] M), T_X6_longestLike_116 o v1 v3 v4 v5 v6 X33 Qr M → zJ p l e (zRoom 0 0 0 0) s m args below meth c G 8 0 0 (MQ below (zQi G (Qr)) args s 0 0 (zA G)) 116 [some (.inr (64 * o + 63)), some (.inl v1), none, some (.inl v3), some (.inl v4), some (.inl v5), some (.inl v6), none] [] M := by
    intro M v1 v3 v4 v5 v6 X33 hX33 h
    unfold T_X6_longestLike_116 at h
    refine zj_aload_n (pc := 116) hc dX6_longestLike_116 rfl ?_
    refine zgv_X6_5 (pc := 117) ho hc lk_X6_28 dX6_longestLike_117 ?_
    refine zj_iload (pc := 120) hc dX6_longestLike_120 rfl ?_
    refine zj_iald (pc := 122) hc dX6_longestLike_122 (alenv_X6_5 ho) h.1 ?_
    have h := h.2
    refine zj_istore (pc := 123) hc dX6_longestLike_123 (by decide) ?_
    refine zj_iinc (pc := 125) hc dX6_longestLike_125 rfl (by decide) h.1 ?_
    have h := h.2
    refine zj_goto (pc := 128) (tgt := 33) hc dX6_longestLike_128 (by decide) ?_
    exact hX33 v4 (M.2 (64 * o + 5) v5) (v6 + 1) M h
  have k97 : ∀ (M : zMem) (v1 : Int) (v3 : Int) (v4 : Int) (v5 : Int) (v6 : Int) (v7 : Int) (X33 : Int → Int → Int → zMem → Prop) (hX33 : ∀ (v4 : Int) (v5 : Int) (v6 : Int) (M : zMem), X33 v4 v5 v6 M → zJ p l e (zRoom 0 0 0 0) s m args below meth c G 8 0 0 (MQ below (zQi G (Qr)) args s 0 0 (zA G)) 33 [some (.inr (64 * o + 63)), some (.inl v1), none, some (.inl v3), some (.inl v4), some (.inl v5), some (.inl v6), none] [] M), T_X6_longestLike_97 o v1 v3 v4 v5 v6 v7 X33 Qr M → zJ p l e (zRoom 0 0 0 0) s m args below meth c G 8 0 0 (MQ below (zQi G (Qr)) args s 0 0 (zA G)) 97 [some (.inr (64 * o + 63)), some (.inl v1), none, some (.inl v3), some (.inl v4), some (.inl v5), some (.inl v6), some (.inl v7)] [] M := by
    intro M v1 v3 v4 v5 v6 v7 X33 hX33 h
    unfold T_X6_longestLike_97 at h
    refine zj_iload (pc := 97) hc dX6_longestLike_97 rfl ?_
    refine zj_iload (pc := 99) hc dX6_longestLike_99 rfl ?_
    refine zj_icmp_le (pc := 101) (tgt := 116) hc dX6_longestLike_101 (by decide) (fun hx2 => ?_) (fun hx2 => ?_)
    · have h := h.1 hx2
      refine zj_mask (bs := [true, true, true, true, true, true, true, false]) ?_
      exact k116 M v1 v3 v4 v5 v6 X33 hX33 h
    · have h := h.2 hx2
      refine zj_iload (pc := 104) hc dX6_longestLike_104 rfl ?_
      refine zj_istore (pc := 106) hc dX6_longestLike_106 (by decide) ?_
      refine zj_aload_n (pc := 108) hc dX6_longestLike_108 rfl ?_
      refine zj_iload_n (pc := 109) hc dX6_longestLike_109 rfl ?_
      refine zj_iload (pc := 110) hc dX6_longestLike_110 rfl ?_
      refine zj_isub (pc := 112) hc dX6_longestLike_112 h.1 ?_
      have h := h.2
      refine zsv_X6_7 (pc := 113) ho hc lk_X6_34 dX6_longestLike_113 (fun M3 hM3 => ?_)
      have h := h M3 hM3
      refine zj_mask (bs := [true, true, true, true, true, true, true, false]) ?_
      exact k116 M3 v1 v3 v7 v5 v6 X33 hX33 h
  have k63 : ∀ (M : zMem) (v1 : Int) (v3 : Int) (v4 : Int) (v5 : Int) (v6 : Int) (X33 : Int → Int → Int → zMem → Prop) (hX33 : ∀ (v4 : Int) (v5 : Int) (v6 : Int) (M : zMem), X33 v4 v5 v6 M → zJ p l e (zRoom 0 0 0 0) s m args below meth c G 8 0 0 (MQ below (zQi G (Qr)) args s 0 0 (zA G)) 33 [some (.inr (64 * o + 63)), some (.inl v1), none, some (.inl v3), some (.inl v4), some (.inl v5), some (.inl v6), none] [] M) (v7 : Int), T_X6_longestLike_63 o v1 v3 v4 v5 v6 X33 Qr v7 M → zJ p l e (zRoom 0 0 0 0) s m args below meth c G 8 0 0 (MQ below (zQi G (Qr)) args s 0 0 (zA G)) 63 [some (.inr (64 * o + 63)), some (.inl v1), none, some (.inl v3), some (.inl v4), some (.inl v5), some (.inl v6), some (.inl v7)] [] M := by
    intro M v1 v3 v4 v5 v6 X33 hX33 v7 h
    unfold T_X6_longestLike_63 at h
    refine zp1_use h (fun v7 => zJ p l e (zRoom 0 0 0 0) s m args below meth c G 8 0 0 (MQ below (zQi G (Qr)) args s 0 0 (zA G)) 63 [some (.inr (64 * o + 63)), some (.inl v1), none, some (.inl v3), some (.inl v4), some (.inl v5), some (.inl v6), some (.inl v7)] [] M) (fun X63 hX63 v7 h => ?_)
    refine zj_iload (pc := 63) hc dX6_longestLike_63 rfl ?_
    refine zj_iload_n (pc := 65) hc dX6_longestLike_65 rfl ?_
    refine zj_icmp_ge (pc := 66) (tgt := 97) hc dX6_longestLike_66 (by decide) (fun hx4 => ?_) (fun hx4 => ?_)
    · have h := h.1 hx4
      exact k97 M v1 v3 v4 v5 v6 v7 X33 hX33 h
    · have h := h.2 hx4
      refine zj_aload_n (pc := 69) hc dX6_longestLike_69 rfl ?_
      refine zgv_X6_4 (pc := 70) ho hc lk_X6_25 dX6_longestLike_70 ?_
      refine zj_iload_n (pc := 73) hc dX6_longestLike_73 rfl ?_
      refine zj_iload (pc := 74) hc dX6_longestLike_74 rfl ?_
      refine zj_iadd (pc := 76) hc dX6_longestLike_76 h.1 ?_
      have h := h.2
      refine zj_iald (pc := 77) hc dX6_longestLike_77 (alenv_X6_4 ho) h.1 ?_
      have h := h.2
      refine zj_aload_n (pc := 78) hc dX6_longestLike_78 rfl ?_
      refine zgv_X6_4 (pc := 79) ho hc lk_X6_25 dX6_longestLike_79 ?_
      refine zj_iload (pc := 82) hc dX6_longestLike_82 rfl ?_
      refine zj_iload (pc := 84) hc dX6_longestLike_84 rfl ?_
      refine zj_iadd (pc := 86) hc dX6_longestLike_86 h.1 ?_
      have h := h.2
      refine zj_iald (pc := 87) hc dX6_longestLike_87 (alenv_X6_4 ho) h.1 ?_
      have h := h.2
      refine zj_icmp_ne (pc := 88) (tgt := 97) hc dX6_longestLike_88 (by decide) (fun hx5 => ?_) (fun hx5 => ?_)
      · have h := h.1 hx5
        exact k97 M v1 v3 v4 v5 v6 v7 X33 hX33 h
      · have h := h.2 hx5
        refine zj_iinc (pc := 91) hc dX6_longestLike_91 rfl (by decide) h.1 ?_
        have h := h.2
        refine zj_goto (pc := 94) (tgt := 63) hc dX6_longestLike_94 (by decide) ?_
        exact hX63 (v7 + 1) h
  have k33 : ∀ (M : zMem) (v1 : Int) (v3 : Int) (v4 : Int) (v5 : Int) (v6 : Int), T_X6_longestLike_33 o v1 v3 Qr v4 v5 v6 M → zJ p l e (zRoom 0 0 0 0) s m args below meth c G 8 0 0 (MQ below (zQi G (Qr)) args s 0 0 (zA G)) 33 [some (.inr (64 * o + 63)), some (.inl v1), none, some (.inl v3), some (.inl v4), some (.inl v5), some (.inl v6), none] [] M := by
    intro M v1 v3 v4 v5 v6 h
    unfold T_X6_longestLike_33 at h
    refine zl3_use h (fun v4 v5 v6 M => zJ p l e (zRoom 0 0 0 0) s m args below meth c G 8 0 0 (MQ below (zQi G (Qr)) args s 0 0 (zA G)) 33 [some (.inr (64 * o + 63)), some (.inl v1), none, some (.inl v3), some (.inl v4), some (.inl v5), some (.inl v6), none] [] M) (fun X33 hX33 v4 v5 v6 M h => ?_)
    refine zj_iload (pc := 33) hc dX6_longestLike_33 rfl ?_
    refine zj_bipush (pc := 35) hc dX6_longestLike_35 (by decide) (zin _ rfl) ?_
    refine zj_icmp_ge (pc := 37) (tgt := 131) hc dX6_longestLike_37 (by decide) (fun hx6 => ?_) (fun hx6 => ?_)
    · have h := h.1 hx6
      refine zj_mask (bs := [false, false, true, false, true, false, false, true]) ?_
      exact k131 M v4 h
    · have h := h.2 hx6
      refine zj_iload (pc := 40) hc dX6_longestLike_40 rfl ?_
      refine zj_if_lt (pc := 42) (tgt := 131) hc dX6_longestLike_42 (by decide) (fun hx7 => ?_) (fun hx7 => ?_)
      · have h := h.1 hx7
        refine zj_mask (bs := [false, false, true, false, true, false, false, true]) ?_
        exact k131 M v4 h
      · have h := h.2 hx7
        refine zj_iload_n (pc := 45) hc dX6_longestLike_45 rfl ?_
        refine zj_iload (pc := 46) hc dX6_longestLike_46 rfl ?_
        refine zj_isub (pc := 48) hc dX6_longestLike_48 h.1 ?_
        have h := h.2
        refine zj_bipush (pc := 49) hc dX6_longestLike_49 (by decide) (zin _ rfl) ?_
        refine zj_icmp_gt (pc := 51) (tgt := 131) hc dX6_longestLike_51 (by decide) (fun hx8 => ?_) (fun hx8 => ?_)
        · have h := h.1 hx8
          refine zj_mask (bs := [false, false, true, false, true, false, false, true]) ?_
          exact k131 M v4 h
        · have h := h.2 hx8
          refine zj_iload (pc := 54) hc dX6_longestLike_54 rfl ?_
          refine zj_iload_n (pc := 56) hc dX6_longestLike_56 rfl ?_
          refine zj_icmp_ge (pc := 57) (tgt := 131) hc dX6_longestLike_57 (by decide) (fun hx9 => ?_) (fun hx9 => ?_)
          · have h := h.1 hx9
            refine zj_mask (bs := [false, false, true, false, true, false, false, true]) ?_
            exact k131 M v4 h
          · have h := h.2 hx9
            refine zj_iconst (pc := 60) hc dX6_longestLike_60 (zin _ rfl) ?_
            refine zj_istore (pc := 61) hc dX6_longestLike_61 (by decide) ?_
            exact k63 M v1 v3 v4 v5 v6 X33 hX33 1 h
  have k18 : ∀ (M : zMem) (v1 : Int) (s0 : Int), T_X6_longestLike_18 o v1 s0 Qr M → zJ p l e (zRoom 0 0 0 0) s m args below meth c G 8 0 0 (MQ below (zQi G (Qr)) args s 0 0 (zA G)) 18 [some (.inr (64 * o + 63)), some (.inl v1), none, none, none, none, none, none] [.inl s0] M := by
    intro M v1 s0 h
    unfold T_X6_longestLike_18 at h
    refine zj_istore_n (pc := 18) hc dX6_longestLike_18 (by decide) ?_
    refine zj_iconst (pc := 19) hc dX6_longestLike_19 (zin _ rfl) ?_
    refine zj_istore (pc := 20) hc dX6_longestLike_20 (by decide) ?_
    refine zj_aload_n (pc := 22) hc dX6_longestLike_22 rfl ?_
    refine zgv_X6_5 (pc := 23) ho hc lk_X6_28 dX6_longestLike_23 ?_
    refine zj_iload_n (pc := 26) hc dX6_longestLike_26 rfl ?_
    refine zj_iald (pc := 27) hc dX6_longestLike_27 (alenv_X6_5 ho) h.1 ?_
    have h := h.2
    refine zj_istore (pc := 28) hc dX6_longestLike_28 (by decide) ?_
    refine zj_iconst (pc := 30) hc dX6_longestLike_30 (zin _ rfl) ?_
    refine zj_istore (pc := 31) hc dX6_longestLike_31 (by decide) ?_
    exact k33 M v1 s0 2 (M.2 (64 * o + 5) v1) 0 h
  unfold T_X6_longestLike at h
  refine zj_iload_n (pc := 0) hc dX6_longestLike_0 rfl ?_
  refine zj_iload_n (pc := 1) hc dX6_longestLike_1 rfl ?_
  refine zj_isub (pc := 2) hc dX6_longestLike_2 h.1 ?_
  have h := h.2
  refine zj_sipush (pc := 3) hc dX6_longestLike_3 (by decide) (zin _ rfl) ?_
  refine zj_icmp_ge (pc := 6) (tgt := 15) hc dX6_longestLike_6 (by decide) (fun hx10 => ?_) (fun hx10 => ?_)
  · have h := h.1 hx10
    refine zj_sipush (pc := 15) hc dX6_longestLike_15 (by decide) (zin _ rfl) ?_
    refine zj_mask (bs := [true, true, false, true, true, true, true, true]) ?_
    exact k18 M v1 130 h
  · have h := h.2 hx10
    refine zj_iload_n (pc := 9) hc dX6_longestLike_9 rfl ?_
    refine zj_iload_n (pc := 10) hc dX6_longestLike_10 rfl ?_
    refine zj_isub (pc := 11) hc dX6_longestLike_11 h.1 ?_
    have h := h.2
    refine zj_goto (pc := 12) (tgt := 18) hc dX6_longestLike_12 (by decide) ?_
    refine zj_mask (bs := [true, true, false, true, true, true, true, true]) ?_
    exact k18 M v1 (v2 - v1) h
set_option maxHeartbeats 4000000 in
set_option maxRecDepth 100000 in
theorem S_X6_tellSingles (l : Launch) (G : zG) {o : Nat} (ho : o = 4 ∨ o = 6) (v1 : Int) (v2 : Int) (v3 : Int) (M : zMem) (Qr : Int → zMem → Prop) (h : T_X6_tellSingles o v1 v2 v3 Qr M) : zMetI l yX6_tellSingles cX6_tellSingles 6 (some .int) 0 0 0 0 G [.inr (64 * o + 63), .inl v1, .inl v2, .inl v3] M Qr := by
  refine zmetI (by decide) (Nat.le_of_ble_eq_true rfl) [some (.inr (64 * o + 63)), some (.inl v1), some (.inl v2), some (.inl v3), none, none] rfl ?_
  intro p e s m args below meth c hc hr hlk
  have k67 : ∀ (M : zMem) (v1 : Int) (v2 : Int) (v4 : Int) (v5 : Int) (X6 : Int → Int → zMem → Prop) (hX6 : ∀ (v4 : Int) (v5 : Int) (M : zMem), X6 v4 v5 M → zJ p l e (zRoom 0 0 0 0) s m args below meth c G 6 0 0 (MQ below (zQi G (Qr)) args s 0 0 (zA G)) 6 [some (.inr (64 * o + 63)), some (.inl v1), some (.inl v2), none, some (.inl v4), some (.inl v5)] [] M), T_X6_tellSingles_67 o v1 v2 v4 v5 X6 Qr M → zJ p l e (zRoom 0 0 0 0) s m args below meth c G 6 0 0 (MQ below (zQi G (Qr)) args s 0 0 (zA G)) 67 [some (.inr (64 * o + 63)), some (.inl v1), some (.inl v2), none, some (.inl v4), some (.inl v5)] [] M := by
    intro M v1 v2 v4 v5 X6 hX6 h
    unfold T_X6_tellSingles_67 at h
    refine zj_aload_n (pc := 67) hc dX6_tellSingles_67 rfl ?_
    refine zgv_X6_0 (pc := 68) ho hc lk_X6_9 dX6_tellSingles_68 ?_
    refine zj_iload (pc := 71) hc dX6_tellSingles_71 rfl ?_
    refine zj_aload_n (pc := 73) hc dX6_tellSingles_73 rfl ?_
    refine zgv_X6_4 (pc := 74) ho hc lk_X6_25 dX6_tellSingles_74 ?_
    refine zj_iload (pc := 77) hc dX6_tellSingles_77 rfl ?_
    refine zj_iald (pc := 79) hc dX6_tellSingles_79 (alenv_X6_4 ho) h.1 ?_
    have h := h.2
    refine zj_iast (pc := 80) hc dX6_tellSingles_80 (alenv_X6_0 ho) h.1 (fun M1 hM1 => ?_)
    have h := h.2 M1 hM1
    refine zj_iinc (pc := 81) hc dX6_tellSingles_81 rfl (by decide) h.1 ?_
    have h := h.2
    refine zj_iinc (pc := 84) hc dX6_tellSingles_84 rfl (by decide) h.1 ?_
    have h := h.2
    refine zj_goto (pc := 87) (tgt := 6) hc dX6_tellSingles_87 (by decide) ?_
    exact hX6 (v4 + 1) (v5 + 1) M1 h
  have k61 : ∀ (M : zMem) (v1 : Int) (v2 : Int) (v4 : Int) (v5 : Int) (s1 : Int) (s2 : Int) (X6 : Int → Int → zMem → Prop) (hX6 : ∀ (v4 : Int) (v5 : Int) (M : zMem), X6 v4 v5 M → zJ p l e (zRoom 0 0 0 0) s m args below meth c G 6 0 0 (MQ below (zQi G (Qr)) args s 0 0 (zA G)) 6 [some (.inr (64 * o + 63)), some (.inl v1), some (.inl v2), none, some (.inl v4), some (.inl v5)] [] M), T_X6_tellSingles_61 o v1 v2 v4 v5 s1 s2 X6 Qr M → zJ p l e (zRoom 0 0 0 0) s m args below meth c G 6 0 0 (MQ below (zQi G (Qr)) args s 0 0 (zA G)) 61 [some (.inr (64 * o + 63)), some (.inl v1), some (.inl v2), none, some (.inl v4), some (.inl v5)] [.inl s2, .inl s1, .inr (64 * o)] M := by
    intro M v1 v2 v4 v5 s1 s2 X6 hX6 h
    unfold T_X6_tellSingles_61 at h
    refine zj_iconst (pc := 61) hc dX6_tellSingles_61 (zin _ rfl) ?_
    refine zj_isub (pc := 62) hc dX6_tellSingles_62 h.1 ?_
    have h := h.2
    refine zj_iast (pc := 63) hc dX6_tellSingles_63 (alenv_X6_0 ho) h.1 (fun M2 hM2 => ?_)
    have h := h.2 M2 hM2
    refine zj_iinc (pc := 64) hc dX6_tellSingles_64 rfl (by decide) h.1 ?_
    have h := h.2
    exact k67 M2 v1 v2 (v4 + 1) v5 X6 hX6 h
  have k6 : ∀ (M : zMem) (v1 : Int) (v2 : Int) (v4 : Int) (v5 : Int), T_X6_tellSingles_6 o v1 v2 Qr v4 v5 M → zJ p l e (zRoom 0 0 0 0) s m args below meth c G 6 0 0 (MQ below (zQi G (Qr)) args s 0 0 (zA G)) 6 [some (.inr (64 * o + 63)), some (.inl v1), some (.inl v2), none, some (.inl v4), some (.inl v5)] [] M := by
    intro M v1 v2 v4 v5 h
    unfold T_X6_tellSingles_6 at h
    refine zl2_use h (fun v4 v5 M => zJ p l e (zRoom 0 0 0 0) s m args below meth c G 6 0 0 (MQ below (zQi G (Qr)) args s 0 0 (zA G)) 6 [some (.inr (64 * o + 63)), some (.inl v1), some (.inl v2), none, some (.inl v4), some (.inl v5)] [] M) (fun X6 hX6 v4 v5 M h => ?_)
    refine zj_iload (pc := 6) hc dX6_tellSingles_6 rfl ?_
    refine zj_iload_n (pc := 8) hc dX6_tellSingles_8 rfl ?_
    refine zj_icmp_ge (pc := 9) (tgt := 90) hc dX6_tellSingles_9 (by decide) (fun hx3 => ?_) (fun hx3 => ?_)
    · have h := h.1 hx3
      refine zj_iload (pc := 90) hc dX6_tellSingles_90 rfl ?_
      exact zj_iret (pc := 92) hc hr hlk dX6_tellSingles_92 (by decide) (by decide) h
    · have h := h.2 hx3
      refine zj_iload (pc := 12) hc dX6_tellSingles_12 rfl ?_
      refine zj_iconst (pc := 14) hc dX6_tellSingles_14 (zin _ rfl) ?_
      refine zj_iadd (pc := 15) hc dX6_tellSingles_15 h.1 ?_
      have h := h.2
      refine zj_aload_n (pc := 16) hc dX6_tellSingles_16 rfl ?_
      refine zgv_X6_0 (pc := 17) ho hc lk_X6_9 dX6_tellSingles_17 ?_
      refine zj_alen (pc := 20) hc dX6_tellSingles_20 (alenv_X6_0 ho) (by decide) ?_
      refine zj_icmp_gt (pc := 21) (tgt := 90) hc dX6_tellSingles_21 (by decide) (fun hx4 => ?_) (fun hx4 => ?_)
      · have h := h.1 hx4
        refine zj_iload (pc := 90) hc dX6_tellSingles_90 rfl ?_
        exact zj_iret (pc := 92) hc hr hlk dX6_tellSingles_92 (by decide) (by decide) h
      · have h := h.2 hx4
        refine zj_iload (pc := 24) hc dX6_tellSingles_24 rfl ?_
        refine zj_iload_n (pc := 26) hc dX6_tellSingles_26 rfl ?_
        refine zj_isub (pc := 27) hc dX6_tellSingles_27 h.1 ?_
        have h := h.2
        refine zj_sipush (pc := 28) hc dX6_tellSingles_28 (by decide) (zin _ rfl) ?_
        refine zj_irem (pc := 31) hc dX6_tellSingles_31 (by decide) ?_
        refine zj_if_ne (pc := 32) (tgt := 67) hc dX6_tellSingles_32 (by decide) (fun hx5 => ?_) (fun hx5 => ?_)
        · have h := h.1 hx5
          exact k67 M v1 v2 v4 v5 X6 hX6 h
        · have h := h.2 hx5
          refine zj_aload_n (pc := 35) hc dX6_tellSingles_35 rfl ?_
          refine zgv_X6_0 (pc := 36) ho hc lk_X6_9 dX6_tellSingles_36 ?_
          refine zj_iload (pc := 39) hc dX6_tellSingles_39 rfl ?_
          refine zj_iload_n (pc := 41) hc dX6_tellSingles_41 rfl ?_
          refine zj_iload (pc := 42) hc dX6_tellSingles_42 rfl ?_
          refine zj_isub (pc := 44) hc dX6_tellSingles_44 h.1 ?_
          have h := h.2
          refine zj_sipush (pc := 45) hc dX6_tellSingles_45 (by decide) (zin _ rfl) ?_
          refine zj_icmp_ge (pc := 48) (tgt := 58) hc dX6_tellSingles_48 (by decide) (fun hx6 => ?_) (fun hx6 => ?_)
          · have h := h.1 hx6
            refine zj_sipush (pc := 58) hc dX6_tellSingles_58 (by decide) (zin _ rfl) ?_
            exact k61 M v1 v2 v4 v5 v4 128 X6 hX6 h
          · have h := h.2 hx6
            refine zj_iload_n (pc := 51) hc dX6_tellSingles_51 rfl ?_
            refine zj_iload (pc := 52) hc dX6_tellSingles_52 rfl ?_
            refine zj_isub (pc := 54) hc dX6_tellSingles_54 h.1 ?_
            have h := h.2
            refine zj_goto (pc := 55) (tgt := 61) hc dX6_tellSingles_55 (by decide) ?_
            exact k61 M v1 v2 v4 v5 v4 (v2 - v5) X6 hX6 h
  unfold T_X6_tellSingles at h
  refine zj_iload_n (pc := 0) hc dX6_tellSingles_0 rfl ?_
  refine zj_istore (pc := 1) hc dX6_tellSingles_1 (by decide) ?_
  refine zj_iload_n (pc := 3) hc dX6_tellSingles_3 rfl ?_
  refine zj_istore (pc := 4) hc dX6_tellSingles_4 (by decide) ?_
  refine zj_mask (bs := [true, true, true, false, true, true]) ?_
  exact k6 M v1 v2 v3 v1 h
