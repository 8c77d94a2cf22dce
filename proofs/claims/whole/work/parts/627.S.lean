set_option maxHeartbeats 4000000 in
set_option maxRecDepth 100000 in
theorem S_X10_byTape (l : Launch) (G : zG) (v1 : Int) (v2 : Int) (v3 : Int) (M : zMem) (Qr : Int → zMem → Prop) (h : T_X10_byTape v1 v2 v3 Qr M) : zMetI l yX10_byTape cX10_byTape 5 (some .int) 10 245 0 0 G [.inr 639, .inl v1, .inl v2, .inl v3] M Qr := by
  refine zmetI (by decide) (Nat.le_of_ble_eq_true rfl) [some (.inr 639), some (.inl v1), some (.inl v2), some (.inl v3), none] rfl ?_
  intro p e s m args below meth c hc hr hlk
  have k25 : ∀ (M : zMem) (v3 : Int) (v4 : Int), T_X10_byTape_25 v3 Qr v4 M → zJ p l e (zRoom 10 245 0 0) s m args below meth c G 5 0 0 (MQ below (zQi G (Qr)) args s 0 0 (zA G)) 25 [some (.inr 639), none, none, some (.inl v3), some (.inl v4)] [] M := by
    intro M v3 v4 h
    unfold T_X10_byTape_25 at h
    refine zl1_use h (fun v4 M => zJ p l e (zRoom 10 245 0 0) s m args below meth c G 5 0 0 (MQ below (zQi G (Qr)) args s 0 0 (zA G)) 25 [some (.inr 639), none, none, some (.inl v3), some (.inl v4)] [] M) (fun X25 hX25 v4 M h => ?_)
    refine zj_iload (pc := 25) hc dX10_byTape_25 rfl ?_
    refine zj_aload_n (pc := 27) hc dX10_byTape_27 rfl ?_
    refine zg_9_9 (pc := 28) hc lk_X10_101 dX10_byTape_28 ?_
    refine zj_icmp_ge (pc := 31) (tgt := 56) hc dX10_byTape_31 (by decide) (fun hx1 => ?_) (fun hx1 => ?_)
    · have h := h.1 hx1
      refine zj_aload_n (pc := 56) hc dX10_byTape_56 rfl ?_
      refine zj_iload_n (pc := 57) hc dX10_byTape_57 rfl ?_
      refine zj_vti (pc := 58) (st := []) hc ks_X10_alone iv_X10_alone lk_X10_320 (zrv_9 G M) (S_X10_alone l G v3 M _ h) rfl ⟨Nat.le_of_ble_eq_true rfl, Nat.le_of_ble_eq_true rfl⟩ (Nat.le_of_ble_eq_true rfl) ⟨Nat.le_of_ble_eq_true rfl, Nat.le_of_ble_eq_true rfl⟩ dX10_byTape_58 rfl (fun y2 M3 h => ?_)
      refine zj_istore (pc := 61) hc dX10_byTape_61 (by decide) ?_
      refine zj_iload (pc := 63) hc dX10_byTape_63 rfl ?_
      refine zj_if_ge (pc := 65) (tgt := 75) hc dX10_byTape_65 (by decide) (fun hx4 => ?_) (fun hx4 => ?_)
      · have h := h.1 hx4
        refine zj_aload_n (pc := 75) hc dX10_byTape_75 rfl ?_
        refine zj_iconst (pc := 76) hc dX10_byTape_76 (zin _ rfl) ?_
        refine zs_9_9 (pc := 77) hc lk_X10_101 dX10_byTape_77 (fun M5 hM5 => ?_)
        have h := h M5 hM5
        refine zj_iload (pc := 80) hc dX10_byTape_80 rfl ?_
        exact zj_iret (pc := 82) hc hr hlk dX10_byTape_82 (by decide) (by decide) h
      · have h := h.2 hx4
        refine zj_iload (pc := 68) hc dX10_byTape_68 rfl ?_
        refine zj_bipush (pc := 70) hc dX10_byTape_70 (by decide) (zin _ rfl) ?_
        refine zj_icmp_ne (pc := 72) (tgt := 80) hc dX10_byTape_72 (by decide) (fun hx6 => ?_) (fun hx6 => ?_)
        · have h := h.1 hx6
          refine zj_iload (pc := 80) hc dX10_byTape_80 rfl ?_
          exact zj_iret (pc := 82) hc hr hlk dX10_byTape_82 (by decide) (by decide) h
        · have h := h.2 hx6
          refine zj_aload_n (pc := 75) hc dX10_byTape_75 rfl ?_
          refine zj_iconst (pc := 76) hc dX10_byTape_76 (zin _ rfl) ?_
          refine zs_9_9 (pc := 77) hc lk_X10_101 dX10_byTape_77 (fun M7 hM7 => ?_)
          have h := h M7 hM7
          refine zj_iload (pc := 80) hc dX10_byTape_80 rfl ?_
          exact zj_iret (pc := 82) hc hr hlk dX10_byTape_82 (by decide) (by decide) h
    · have h := h.2 hx1
      refine zj_aload_n (pc := 34) hc dX10_byTape_34 rfl ?_
      refine zg_9_38 (pc := 35) hc lk_X10_74 dX10_byTape_35 ?_
      refine zj_iconst (pc := 38) hc dX10_byTape_38 (zin _ rfl) ?_
      refine zj_iload (pc := 39) hc dX10_byTape_39 rfl ?_
      refine zj_iadd (pc := 41) hc dX10_byTape_41 h.1 ?_
      have h := h.2
      refine zj_aload_n (pc := 42) hc dX10_byTape_42 rfl ?_
      refine zg_9_8 (pc := 43) hc lk_X10_28 dX10_byTape_43 ?_
      refine zj_iload (pc := 46) hc dX10_byTape_46 rfl ?_
      refine zj_iald (pc := 48) hc dX10_byTape_48 alen_584 h.1 ?_
      have h := h.2
      refine zj_iast (pc := 49) hc dX10_byTape_49 alen_614 h.1 (fun M8 hM8 => ?_)
      have h := h.2 M8 hM8
      refine zj_iinc (pc := 50) hc dX10_byTape_50 rfl (by decide) h.1 ?_
      have h := h.2
      refine zj_goto (pc := 53) (tgt := 25) hc dX10_byTape_53 (by decide) ?_
      exact hX25 (v4 + 1) M8 h
  unfold T_X10_byTape at h
  refine zj_aload_n (pc := 0) hc dX10_byTape_0 rfl ?_
  refine zg_9_38 (pc := 1) hc lk_X10_74 dX10_byTape_1 ?_
  refine zj_iconst (pc := 4) hc dX10_byTape_4 (zin _ rfl) ?_
  refine zj_bipush (pc := 5) hc dX10_byTape_5 (by decide) (zin _ rfl) ?_
  refine zj_iload_n (pc := 7) hc dX10_byTape_7 rfl ?_
  refine zj_imul (pc := 8) hc dX10_byTape_8 h.1 ?_
  have h := h.2
  refine zj_aload_n (pc := 9) hc dX10_byTape_9 rfl ?_
  refine zg_9_9 (pc := 10) hc lk_X10_101 dX10_byTape_10 ?_
  refine zj_iadd (pc := 13) hc dX10_byTape_13 h.1 ?_
  have h := h.2
  refine zj_iast (pc := 14) hc dX10_byTape_14 alen_614 h.1 (fun M9 hM9 => ?_)
  have h := h.2 M9 hM9
  refine zj_aload_n (pc := 15) hc dX10_byTape_15 rfl ?_
  refine zg_9_38 (pc := 16) hc lk_X10_74 dX10_byTape_16 ?_
  refine zj_iconst (pc := 19) hc dX10_byTape_19 (zin _ rfl) ?_
  refine zj_iload_n (pc := 20) hc dX10_byTape_20 rfl ?_
  refine zj_iast (pc := 21) hc dX10_byTape_21 alen_614 h.1 (fun M10 hM10 => ?_)
  have h := h.2 M10 hM10
  refine zj_iconst (pc := 22) hc dX10_byTape_22 (zin _ rfl) ?_
  refine zj_istore (pc := 23) hc dX10_byTape_23 (by decide) ?_
  refine zj_mask (bs := [true, false, false, true, true]) ?_
  exact k25 M10 v3 0 h
set_option maxHeartbeats 4000000 in
set_option maxRecDepth 100000 in
theorem S_X10_isKey (l : Launch) (G : zG) (v0 : Int) (M : zMem) (Qr : Int → Prop) (h : T_X10_isKey v0 Qr M) : zMetI l yX10_isKey cX10_isKey 1 (some .boolean) 1 22 0 0 G [.inl v0] M (fun r9 M9 => M = M9 ∧ Qr r9) := by
  refine zmetI (by decide) (Nat.le_of_ble_eq_true rfl) [some (.inl v0)] rfl ?_
  intro p e s m args below meth c hc hr hlk
  unfold T_X10_isKey at h
  refine zj_iload_n (pc := 0) hc dX10_isKey_0 rfl ?_
  refine zj_iconst (pc := 1) hc dX10_isKey_1 (zin _ rfl) ?_
  refine zj_sipush (pc := 2) hc dX10_isKey_2 (by decide) (zin _ rfl) ?_
  refine zj_sti (pc := 5) (st := []) hc ks_X10_isIn st_X10_isIn lk_X10_83 (S_X10_isIn l G v0 0 255 M _ h) rfl ⟨Nat.le_of_ble_eq_true rfl, Nat.le_of_ble_eq_true rfl⟩ (Nat.le_of_ble_eq_true rfl) ⟨Nat.le_of_ble_eq_true rfl, Nat.le_of_ble_eq_true rfl⟩ dX10_isKey_5 rfl (fun y1 M9 h => ?_)
  obtain ⟨hM9, h⟩ := h
  subst hM9
  exact zj_zret (pc := 8) hc hr hlk dX10_isKey_8 (by decide) (by decide) h.1 ⟨rfl, h.2⟩
set_option maxHeartbeats 4000000 in
set_option maxRecDepth 100000 in
theorem S_X10_put (l : Launch) (G : zG) (v1 : Int) (M : zMem) (Qr : Int → zMem → Prop) (h : T_X10_put v1 Qr M) : zMetI l yX10_put cX10_put 2 (some .int) 11 269 0 0 G [.inr 639, .inl v1] M Qr := by
  refine zmetI (by decide) (Nat.le_of_ble_eq_true rfl) [some (.inr 639), some (.inl v1)] rfl ?_
  intro p e s m args below meth c hc hr hlk
  unfold T_X10_put at h
  refine zj_aload_n (pc := 0) hc dX10_put_0 rfl ?_
  refine zj_iconst (pc := 1) hc dX10_put_1 (zin _ rfl) ?_
  refine zs_9_0 (pc := 2) hc lk_X10_77 dX10_put_2 (fun M1 hM1 => ?_)
  have h := h M1 hM1
  refine zj_iload_n (pc := 5) hc dX10_put_5 rfl ?_
  refine zj_sti (pc := 6) (st := []) hc ks_X10_isKey st_X10_isKey lk_X10_323 (S_X10_isKey l G v1 M1 _ h) rfl ⟨Nat.le_of_ble_eq_true rfl, Nat.le_of_ble_eq_true rfl⟩ (Nat.le_of_ble_eq_true rfl) ⟨Nat.le_of_ble_eq_true rfl, Nat.le_of_ble_eq_true rfl⟩ dX10_put_6 rfl (fun y2 M9 h => ?_)
  obtain ⟨hM9, h⟩ := h
  subst hM9
  refine zj_if_eq (pc := 9) (tgt := 21) hc dX10_put_9 (by decide) (fun hx3 => ?_) (fun hx3 => ?_)
  · have h := h.1 hx3
    refine zj_aload_n (pc := 21) hc dX10_put_21 rfl ?_
    refine zj_iconst (pc := 22) hc dX10_put_22 (zin _ rfl) ?_
    refine zj_vti (pc := 23) (st := []) hc ks_X10_refuses iv_X10_refuses lk_X10_87 (zrv_9 G M1) (S_X10_refuses l G (-1) M1 _ h) rfl ⟨Nat.le_of_ble_eq_true rfl, Nat.le_of_ble_eq_true rfl⟩ (Nat.le_of_ble_eq_true rfl) ⟨Nat.le_of_ble_eq_true rfl, Nat.le_of_ble_eq_true rfl⟩ dX10_put_23 rfl (fun y4 M5 h => ?_)
    refine zj_goto (pc := 26) (tgt := 36) hc dX10_put_26 (by decide) ?_
    exact zj_iret (pc := 36) hc hr hlk dX10_put_36 (by decide) (by decide) h
  · have h := h.2 hx3
    refine zj_aload_n (pc := 12) hc dX10_put_12 rfl ?_
    refine zg_9_9 (pc := 13) hc lk_X10_101 dX10_put_13 ?_
    refine zj_bipush (pc := 16) hc dX10_put_16 (by decide) (zin _ rfl) ?_
    refine zj_icmp_le (pc := 18) (tgt := 29) hc dX10_put_18 (by decide) (fun hx6 => ?_) (fun hx6 => ?_)
    · have h := h.1 hx6
      refine zj_aload_n (pc := 29) hc dX10_put_29 rfl ?_
      refine zj_iconst (pc := 30) hc dX10_put_30 (zin _ rfl) ?_
      refine zj_iload_n (pc := 31) hc dX10_put_31 rfl ?_
      refine zj_iconst (pc := 32) hc dX10_put_32 (zin _ rfl) ?_
      refine zj_vti (pc := 33) (st := []) hc ks_X10_byTape iv_X10_byTape lk_X10_326 (zrv_9 G M1) (S_X10_byTape l G 1 v1 0 M1 _ h) rfl ⟨Nat.le_of_ble_eq_true rfl, Nat.le_of_ble_eq_true rfl⟩ (Nat.le_of_ble_eq_true rfl) ⟨Nat.le_of_ble_eq_true rfl, Nat.le_of_ble_eq_true rfl⟩ dX10_put_33 rfl (fun y7 M8 h => ?_)
      exact zj_iret (pc := 36) hc hr hlk dX10_put_36 (by decide) (by decide) h
    · have h := h.2 hx6
      refine zj_aload_n (pc := 21) hc dX10_put_21 rfl ?_
      refine zj_iconst (pc := 22) hc dX10_put_22 (zin _ rfl) ?_
      refine zj_vti (pc := 23) (st := []) hc ks_X10_refuses iv_X10_refuses lk_X10_87 (zrv_9 G M1) (S_X10_refuses l G (-1) M1 _ h) rfl ⟨Nat.le_of_ble_eq_true rfl, Nat.le_of_ble_eq_true rfl⟩ (Nat.le_of_ble_eq_true rfl) ⟨Nat.le_of_ble_eq_true rfl, Nat.le_of_ble_eq_true rfl⟩ dX10_put_23 rfl (fun y9 M10 h => ?_)
      refine zj_goto (pc := 26) (tgt := 36) hc dX10_put_26 (by decide) ?_
      exact zj_iret (pc := 36) hc hr hlk dX10_put_36 (by decide) (by decide) h
set_option maxHeartbeats 4000000 in
set_option maxRecDepth 100000 in
theorem S_X10_grow (l : Launch) (G : zG) (v1 : Int) (M : zMem) (Qr : Int → zMem → Prop) (h : T_X10_grow v1 Qr M) : zMetI l yX10_grow cX10_grow 2 (some .int) 11 269 0 0 G [.inr 639, .inl v1] M Qr := by
  refine zmetI (by decide) (Nat.le_of_ble_eq_true rfl) [some (.inr 639), some (.inl v1)] rfl ?_
  intro p e s m args below meth c hc hr hlk
  unfold T_X10_grow at h
  refine zj_aload_n (pc := 0) hc dX10_grow_0 rfl ?_
  refine zj_iconst (pc := 1) hc dX10_grow_1 (zin _ rfl) ?_
  refine zs_9_0 (pc := 2) hc lk_X10_77 dX10_grow_2 (fun M1 hM1 => ?_)
  have h := h M1 hM1
  refine zj_iload_n (pc := 5) hc dX10_grow_5 rfl ?_
  refine zj_sti (pc := 6) (st := []) hc ks_X10_isKey st_X10_isKey lk_X10_323 (S_X10_isKey l G v1 M1 _ h) rfl ⟨Nat.le_of_ble_eq_true rfl, Nat.le_of_ble_eq_true rfl⟩ (Nat.le_of_ble_eq_true rfl) ⟨Nat.le_of_ble_eq_true rfl, Nat.le_of_ble_eq_true rfl⟩ dX10_grow_6 rfl (fun y2 M9 h => ?_)
  obtain ⟨hM9, h⟩ := h
  subst hM9
  refine zj_if_eq (pc := 9) (tgt := 25) hc dX10_grow_9 (by decide) (fun hx3 => ?_) (fun hx3 => ?_)
  · have h := h.1 hx3
    refine zj_aload_n (pc := 25) hc dX10_grow_25 rfl ?_
    refine zj_iconst (pc := 26) hc dX10_grow_26 (zin _ rfl) ?_
    refine zj_vti (pc := 27) (st := []) hc ks_X10_refuses iv_X10_refuses lk_X10_87 (zrv_9 G M1) (S_X10_refuses l G (-1) M1 _ h) rfl ⟨Nat.le_of_ble_eq_true rfl, Nat.le_of_ble_eq_true rfl⟩ (Nat.le_of_ble_eq_true rfl) ⟨Nat.le_of_ble_eq_true rfl, Nat.le_of_ble_eq_true rfl⟩ dX10_grow_27 rfl (fun y4 M5 h => ?_)
    refine zj_goto (pc := 30) (tgt := 40) hc dX10_grow_30 (by decide) ?_
    exact zj_iret (pc := 40) hc hr hlk dX10_grow_40 (by decide) (by decide) h
  · have h := h.2 hx3
    refine zj_aload_n (pc := 12) hc dX10_grow_12 rfl ?_
    refine zg_9_9 (pc := 13) hc lk_X10_101 dX10_grow_13 ?_
    refine zj_iconst (pc := 16) hc dX10_grow_16 (zin _ rfl) ?_
    refine zj_bipush (pc := 17) hc dX10_grow_17 (by decide) (zin _ rfl) ?_
    refine zj_sti (pc := 19) (st := []) hc ks_X10_isIn st_X10_isIn lk_X10_83 (S_X10_isIn l G (M1.1 585) 1 8 M1 _ h) rfl ⟨Nat.le_of_ble_eq_true rfl, Nat.le_of_ble_eq_true rfl⟩ (Nat.le_of_ble_eq_true rfl) ⟨Nat.le_of_ble_eq_true rfl, Nat.le_of_ble_eq_true rfl⟩ dX10_grow_19 rfl (fun y6 M9 h => ?_)
    obtain ⟨hM9, h⟩ := h
    subst hM9
    refine zj_if_ne (pc := 22) (tgt := 33) hc dX10_grow_22 (by decide) (fun hx7 => ?_) (fun hx7 => ?_)
    · have h := h.1 hx7
      refine zj_aload_n (pc := 33) hc dX10_grow_33 rfl ?_
      refine zj_iconst (pc := 34) hc dX10_grow_34 (zin _ rfl) ?_
      refine zj_iload_n (pc := 35) hc dX10_grow_35 rfl ?_
      refine zj_iconst (pc := 36) hc dX10_grow_36 (zin _ rfl) ?_
      refine zj_vti (pc := 37) (st := []) hc ks_X10_byTape iv_X10_byTape lk_X10_326 (zrv_9 G M1) (S_X10_byTape l G 4 v1 1 M1 _ h) rfl ⟨Nat.le_of_ble_eq_true rfl, Nat.le_of_ble_eq_true rfl⟩ (Nat.le_of_ble_eq_true rfl) ⟨Nat.le_of_ble_eq_true rfl, Nat.le_of_ble_eq_true rfl⟩ dX10_grow_37 rfl (fun y8 M9 h => ?_)
      exact zj_iret (pc := 40) hc hr hlk dX10_grow_40 (by decide) (by decide) h
    · have h := h.2 hx7
      refine zj_aload_n (pc := 25) hc dX10_grow_25 rfl ?_
      refine zj_iconst (pc := 26) hc dX10_grow_26 (zin _ rfl) ?_
      refine zj_vti (pc := 27) (st := []) hc ks_X10_refuses iv_X10_refuses lk_X10_87 (zrv_9 G M1) (S_X10_refuses l G (-1) M1 _ h) rfl ⟨Nat.le_of_ble_eq_true rfl, Nat.le_of_ble_eq_true rfl⟩ (Nat.le_of_ble_eq_true rfl) ⟨Nat.le_of_ble_eq_true rfl, Nat.le_of_ble_eq_true rfl⟩ dX10_grow_27 rfl (fun y10 M11 h => ?_)
      refine zj_goto (pc := 30) (tgt := 40) hc dX10_grow_30 (by decide) ?_
      exact zj_iret (pc := 40) hc hr hlk dX10_grow_40 (by decide) (by decide) h
set_option maxHeartbeats 4000000 in
set_option maxRecDepth 100000 in
theorem S_X10_alter (l : Launch) (G : zG) (v1 : Int) (v2 : Int) (v3 : Int) (M : zMem) (Qr : Int → zMem → Prop) (h : T_X10_alter v1 v2 v3 Qr M) : zMetI l yX10_alter cX10_alter 4 (some .int) 10 245 0 0 G [.inr 639, .inl v1, .inl v2, .inl v3] M Qr := by
  refine zmetI (by decide) (Nat.le_of_ble_eq_true rfl) [some (.inr 639), some (.inl v1), some (.inl v2), some (.inl v3)] rfl ?_
  intro p e s m args below meth c hc hr hlk
  unfold T_X10_alter at h
  refine zj_aload_n (pc := 0) hc dX10_alter_0 rfl ?_
  refine zj_iconst (pc := 1) hc dX10_alter_1 (zin _ rfl) ?_
  refine zs_9_0 (pc := 2) hc lk_X10_77 dX10_alter_2 (fun M1 hM1 => ?_)
  have h := h M1 hM1
  refine zj_iload_n (pc := 5) hc dX10_alter_5 rfl ?_
  refine zj_sti (pc := 6) (st := []) hc ks_X10_isKey st_X10_isKey lk_X10_323 (S_X10_isKey l G v1 M1 _ h) rfl ⟨Nat.le_of_ble_eq_true rfl, Nat.le_of_ble_eq_true rfl⟩ (Nat.le_of_ble_eq_true rfl) ⟨Nat.le_of_ble_eq_true rfl, Nat.le_of_ble_eq_true rfl⟩ dX10_alter_6 rfl (fun y2 M9 h => ?_)
  obtain ⟨hM9, h⟩ := h
  subst hM9
  refine zj_if_eq (pc := 9) (tgt := 33) hc dX10_alter_9 (by decide) (fun hx3 => ?_) (fun hx3 => ?_)
  · have h := h.1 hx3
    refine zj_aload_n (pc := 33) hc dX10_alter_33 rfl ?_
    refine zj_iconst (pc := 34) hc dX10_alter_34 (zin _ rfl) ?_
    refine zj_vti (pc := 35) (st := []) hc ks_X10_refuses iv_X10_refuses lk_X10_87 (zrv_9 G M1) (S_X10_refuses l G (-1) M1 _ h) rfl ⟨Nat.le_of_ble_eq_true rfl, Nat.le_of_ble_eq_true rfl⟩ (Nat.le_of_ble_eq_true rfl) ⟨Nat.le_of_ble_eq_true rfl, Nat.le_of_ble_eq_true rfl⟩ dX10_alter_35 rfl (fun y4 M5 h => ?_)
    exact zj_iret (pc := 38) hc hr hlk dX10_alter_38 (by decide) (by decide) h
  · have h := h.2 hx3
    refine zj_iload_n (pc := 12) hc dX10_alter_12 rfl ?_
    refine zj_iconst (pc := 13) hc dX10_alter_13 (zin _ rfl) ?_
    refine zj_bipush (pc := 14) hc dX10_alter_14 (by decide) (zin _ rfl) ?_
    refine zj_sti (pc := 16) (st := []) hc ks_X10_isIn st_X10_isIn lk_X10_83 (S_X10_isIn l G v2 0 7 M1 _ h) rfl ⟨Nat.le_of_ble_eq_true rfl, Nat.le_of_ble_eq_true rfl⟩ (Nat.le_of_ble_eq_true rfl) ⟨Nat.le_of_ble_eq_true rfl, Nat.le_of_ble_eq_true rfl⟩ dX10_alter_16 rfl (fun y6 M9 h => ?_)
    obtain ⟨hM9, h⟩ := h
    subst hM9
    refine zj_if_eq (pc := 19) (tgt := 33) hc dX10_alter_19 (by decide) (fun hx7 => ?_) (fun hx7 => ?_)
    · have h := h.1 hx7
      refine zj_aload_n (pc := 33) hc dX10_alter_33 rfl ?_
      refine zj_iconst (pc := 34) hc dX10_alter_34 (zin _ rfl) ?_
      refine zj_vti (pc := 35) (st := []) hc ks_X10_refuses iv_X10_refuses lk_X10_87 (zrv_9 G M1) (S_X10_refuses l G (-1) M1 _ h) rfl ⟨Nat.le_of_ble_eq_true rfl, Nat.le_of_ble_eq_true rfl⟩ (Nat.le_of_ble_eq_true rfl) ⟨Nat.le_of_ble_eq_true rfl, Nat.le_of_ble_eq_true rfl⟩ dX10_alter_35 rfl (fun y8 M9 h => ?_)
      exact zj_iret (pc := 38) hc hr hlk dX10_alter_38 (by decide) (by decide) h
    · have h := h.2 hx7
      refine zj_iload_n (pc := 22) hc dX10_alter_22 rfl ?_
      refine zj_iconst (pc := 23) hc dX10_alter_23 (zin _ rfl) ?_
      refine zj_sipush (pc := 24) hc dX10_alter_24 (by decide) (zin _ rfl) ?_
      refine zj_sti (pc := 27) (st := []) hc ks_X10_isIn st_X10_isIn lk_X10_83 (S_X10_isIn l G v3 0 255 M1 _ h) rfl ⟨Nat.le_of_ble_eq_true rfl, Nat.le_of_ble_eq_true rfl⟩ (Nat.le_of_ble_eq_true rfl) ⟨Nat.le_of_ble_eq_true rfl, Nat.le_of_ble_eq_true rfl⟩ dX10_alter_27 rfl (fun y10 M9 h => ?_)
      obtain ⟨hM9, h⟩ := h
      subst hM9
      refine zj_if_ne (pc := 30) (tgt := 39) hc dX10_alter_30 (by decide) (fun hx11 => ?_) (fun hx11 => ?_)
      · have h := h.1 hx11
        refine zj_aload_n (pc := 39) hc dX10_alter_39 rfl ?_
        refine zg_9_38 (pc := 40) hc lk_X10_74 dX10_alter_40 ?_
        refine zj_iconst (pc := 43) hc dX10_alter_43 (zin _ rfl) ?_
        refine zj_bipush (pc := 44) hc dX10_alter_44 (by decide) (zin _ rfl) ?_
        refine zj_iload_n (pc := 46) hc dX10_alter_46 rfl ?_
        refine zj_iadd (pc := 47) hc dX10_alter_47 h.1 ?_
        have h := h.2
        refine zj_iast (pc := 48) hc dX10_alter_48 alen_614 h.1 (fun M12 hM12 => ?_)
        have h := h.2 M12 hM12
        refine zj_aload_n (pc := 49) hc dX10_alter_49 rfl ?_
        refine zg_9_38 (pc := 50) hc lk_X10_74 dX10_alter_50 ?_
        refine zj_iconst (pc := 53) hc dX10_alter_53 (zin _ rfl) ?_
        refine zj_iload_n (pc := 54) hc dX10_alter_54 rfl ?_
        refine zj_iast (pc := 55) hc dX10_alter_55 alen_614 h.1 (fun M13 hM13 => ?_)
        have h := h.2 M13 hM13
        refine zj_aload_n (pc := 56) hc dX10_alter_56 rfl ?_
        refine zg_9_38 (pc := 57) hc lk_X10_74 dX10_alter_57 ?_
        refine zj_iconst (pc := 60) hc dX10_alter_60 (zin _ rfl) ?_
        refine zj_iload_n (pc := 61) hc dX10_alter_61 rfl ?_
        refine zj_iast (pc := 62) hc dX10_alter_62 alen_614 h.1 (fun M14 hM14 => ?_)
        have h := h.2 M14 hM14
        refine zj_aload_n (pc := 63) hc dX10_alter_63 rfl ?_
        refine zj_iconst (pc := 64) hc dX10_alter_64 (zin _ rfl) ?_
        refine zj_vti (pc := 65) (st := []) hc ks_X10_alone iv_X10_alone lk_X10_320 (zrv_9 G M14) (S_X10_alone l G 2 M14 _ h) rfl ⟨Nat.le_of_ble_eq_true rfl, Nat.le_of_ble_eq_true rfl⟩ (Nat.le_of_ble_eq_true rfl) ⟨Nat.le_of_ble_eq_true rfl, Nat.le_of_ble_eq_true rfl⟩ dX10_alter_65 rfl (fun y15 M16 h => ?_)
        exact zj_iret (pc := 68) hc hr hlk dX10_alter_68 (by decide) (by decide) h
      · have h := h.2 hx11
        refine zj_aload_n (pc := 33) hc dX10_alter_33 rfl ?_
        refine zj_iconst (pc := 34) hc dX10_alter_34 (zin _ rfl) ?_
        refine zj_vti (pc := 35) (st := []) hc ks_X10_refuses iv_X10_refuses lk_X10_87 (zrv_9 G M1) (S_X10_refuses l G (-1) M1 _ h) rfl ⟨Nat.le_of_ble_eq_true rfl, Nat.le_of_ble_eq_true rfl⟩ (Nat.le_of_ble_eq_true rfl) ⟨Nat.le_of_ble_eq_true rfl, Nat.le_of_ble_eq_true rfl⟩ dX10_alter_35 rfl (fun y17 M18 h => ?_)
        exact zj_iret (pc := 38) hc hr hlk dX10_alter_38 (by decide) (by decide) h
set_option maxHeartbeats 4000000 in
set_option maxRecDepth 100000 in
theorem S_X10_erase (l : Launch) (G : zG) (v1 : Int) (M : zMem) (Qr : Int → zMem → Prop) (h : T_X10_erase v1 Qr M) : zMetI l yX10_erase cX10_erase 2 (some .int) 10 245 0 0 G [.inr 639, .inl v1] M Qr := by
  refine zmetI (by decide) (Nat.le_of_ble_eq_true rfl) [some (.inr 639), some (.inl v1)] rfl ?_
  intro p e s m args below meth c hc hr hlk
  unfold T_X10_erase at h
  refine zj_aload_n (pc := 0) hc dX10_erase_0 rfl ?_
  refine zj_iconst (pc := 1) hc dX10_erase_1 (zin _ rfl) ?_
  refine zs_9_0 (pc := 2) hc lk_X10_77 dX10_erase_2 (fun M1 hM1 => ?_)
  have h := h M1 hM1
  refine zj_iload_n (pc := 5) hc dX10_erase_5 rfl ?_
  refine zj_sti (pc := 6) (st := []) hc ks_X10_isKey st_X10_isKey lk_X10_323 (S_X10_isKey l G v1 M1 _ h) rfl ⟨Nat.le_of_ble_eq_true rfl, Nat.le_of_ble_eq_true rfl⟩ (Nat.le_of_ble_eq_true rfl) ⟨Nat.le_of_ble_eq_true rfl, Nat.le_of_ble_eq_true rfl⟩ dX10_erase_6 rfl (fun y2 M9 h => ?_)
  obtain ⟨hM9, h⟩ := h
  subst hM9
  refine zj_if_ne (pc := 9) (tgt := 18) hc dX10_erase_9 (by decide) (fun hx3 => ?_) (fun hx3 => ?_)
  · have h := h.1 hx3
    refine zj_aload_n (pc := 18) hc dX10_erase_18 rfl ?_
    refine zg_9_38 (pc := 19) hc lk_X10_74 dX10_erase_19 ?_
    refine zj_iconst (pc := 22) hc dX10_erase_22 (zin _ rfl) ?_
    refine zj_bipush (pc := 23) hc dX10_erase_23 (by decide) (zin _ rfl) ?_
    refine zj_iast (pc := 25) hc dX10_erase_25 alen_614 h.1 (fun M4 hM4 => ?_)
    have h := h.2 M4 hM4
    refine zj_aload_n (pc := 26) hc dX10_erase_26 rfl ?_
    refine zg_9_38 (pc := 27) hc lk_X10_74 dX10_erase_27 ?_
    refine zj_iconst (pc := 30) hc dX10_erase_30 (zin _ rfl) ?_
    refine zj_iload_n (pc := 31) hc dX10_erase_31 rfl ?_
    refine zj_iast (pc := 32) hc dX10_erase_32 alen_614 h.1 (fun M5 hM5 => ?_)
    have h := h.2 M5 hM5
    refine zj_aload_n (pc := 33) hc dX10_erase_33 rfl ?_
    refine zj_iconst (pc := 34) hc dX10_erase_34 (zin _ rfl) ?_
    refine zj_vti (pc := 35) (st := []) hc ks_X10_alone iv_X10_alone lk_X10_320 (zrv_9 G M5) (S_X10_alone l G 3 M5 _ h) rfl ⟨Nat.le_of_ble_eq_true rfl, Nat.le_of_ble_eq_true rfl⟩ (Nat.le_of_ble_eq_true rfl) ⟨Nat.le_of_ble_eq_true rfl, Nat.le_of_ble_eq_true rfl⟩ dX10_erase_35 rfl (fun y6 M7 h => ?_)
    exact zj_iret (pc := 38) hc hr hlk dX10_erase_38 (by decide) (by decide) h
  · have h := h.2 hx3
    refine zj_aload_n (pc := 12) hc dX10_erase_12 rfl ?_
    refine zj_iconst (pc := 13) hc dX10_erase_13 (zin _ rfl) ?_
    refine zj_vti (pc := 14) (st := []) hc ks_X10_refuses iv_X10_refuses lk_X10_87 (zrv_9 G M1) (S_X10_refuses l G (-1) M1 _ h) rfl ⟨Nat.le_of_ble_eq_true rfl, Nat.le_of_ble_eq_true rfl⟩ (Nat.le_of_ble_eq_true rfl) ⟨Nat.le_of_ble_eq_true rfl, Nat.le_of_ble_eq_true rfl⟩ dX10_erase_14 rfl (fun y8 M9 h => ?_)
    exact zj_iret (pc := 17) hc hr hlk dX10_erase_17 (by decide) (by decide) h
set_option maxHeartbeats 4000000 in
set_option maxRecDepth 100000 in
theorem S_X10_drafted (l : Launch) (G : zG) (v1 : Int) (M : zMem) (Qr : Int → zMem → Prop) (h : T_X10_drafted v1 Qr M) : zMetI l yX10_drafted cX10_drafted 5 (some .int) 9 222 0 0 G [.inr 639, .inl v1] M Qr := by
  refine zmetI (by decide) (Nat.le_of_ble_eq_true rfl) [some (.inr 639), some (.inl v1), none, none, none] rfl ?_
  intro p e s m args below meth c hc hr hlk
  have k178 : ∀ (M : zMem) (v3 : Int) (v4 : Int) (X137 : Int → zMem → Prop) (hX137 : ∀ (v4 : Int) (M : zMem), X137 v4 M → zJ p l e (zRoom 9 222 0 0) s m args below meth c G 5 0 0 (MQ below (zQi G (Qr)) args s 0 0 (zA G)) 137 [some (.inr 639), none, none, some (.inl v3), some (.inl v4)] [] M), T_X10_drafted_178 v3 v4 X137 Qr M → zJ p l e (zRoom 9 222 0 0) s m args below meth c G 5 0 0 (MQ below (zQi G (Qr)) args s 0 0 (zA G)) 178 [some (.inr 639), none, none, some (.inl v3), some (.inl v4)] [] M := by
    intro M v3 v4 X137 hX137 h
    unfold T_X10_drafted_178 at h
    refine zj_iinc (pc := 178) hc dX10_drafted_178 rfl (by decide) h.1 ?_
    have h := h.2
    refine zj_goto (pc := 181) (tgt := 137) hc dX10_drafted_181 (by decide) ?_
    exact hX137 (v4 + 1) M h
  have k137 : ∀ (M : zMem) (v3 : Int) (v4 : Int), T_X10_drafted_137 v3 Qr v4 M → zJ p l e (zRoom 9 222 0 0) s m args below meth c G 5 0 0 (MQ below (zQi G (Qr)) args s 0 0 (zA G)) 137 [some (.inr 639), none, none, some (.inl v3), some (.inl v4)] [] M := by
    intro M v3 v4 h
    unfold T_X10_drafted_137 at h
    refine zl1_use h (fun v4 M => zJ p l e (zRoom 9 222 0 0) s m args below meth c G 5 0 0 (MQ below (zQi G (Qr)) args s 0 0 (zA G)) 137 [some (.inr 639), none, none, some (.inl v3), some (.inl v4)] [] M) (fun X137 hX137 v4 M h => ?_)
    refine zj_iload (pc := 137) hc dX10_drafted_137 rfl ?_
    refine zj_sipush (pc := 139) hc dX10_drafted_139 (by decide) (zin _ rfl) ?_
    refine zj_icmp_ge (pc := 142) (tgt := 184) hc dX10_drafted_142 (by decide) (fun hx1 => ?_) (fun hx1 => ?_)
    · have h := h.1 hx1
      refine zj_iload_n (pc := 184) hc dX10_drafted_184 rfl ?_
      exact zj_iret (pc := 185) hc hr hlk dX10_drafted_185 (by decide) (by decide) h
    · have h := h.2 hx1
      refine zj_aload_n (pc := 145) hc dX10_drafted_145 rfl ?_
      refine zg_9_7 (pc := 146) hc lk_X10_25 dX10_drafted_146 ?_
      refine zj_iload (pc := 149) hc dX10_drafted_149 rfl ?_
      refine zj_iald (pc := 151) hc dX10_drafted_151 alen_583 h.1 ?_
      have h := h.2
      refine zj_aload_n (pc := 152) hc dX10_drafted_152 rfl ?_
      refine zg_9_6 (pc := 153) hc lk_X10_22 dX10_drafted_153 ?_
      refine zj_iload (pc := 156) hc dX10_drafted_156 rfl ?_
      refine zj_iald (pc := 158) hc dX10_drafted_158 alen_582 h.1 ?_
      have h := h.2
      refine zj_icmp_eq (pc := 159) (tgt := 178) hc dX10_drafted_159 (by decide) (fun hx2 => ?_) (fun hx2 => ?_)
      · have h := h.1 hx2
        exact k178 M v3 v4 X137 hX137 h
      · have h := h.2 hx2
        refine zj_aload_n (pc := 162) hc dX10_drafted_162 rfl ?_
        refine zj_dup (pc := 163) hc dX10_drafted_163 ?_
        refine zg_9_30 (pc := 164) hc lk_X10_221 dX10_drafted_164 ?_
        refine zj_iconst (pc := 167) hc dX10_drafted_167 (zin _ rfl) ?_
        refine zj_iload (pc := 168) hc dX10_drafted_168 rfl ?_
        refine zj_bipush (pc := 170) hc dX10_drafted_170 (by decide) (zin _ rfl) ?_
        refine zj_idiv (pc := 172) hc dX10_drafted_172 (by decide) ?_
        refine zj_ishl (pc := 173) hc dX10_drafted_173 ?_
        refine zj_ior (pc := 174) hc dX10_drafted_174 ?_
        refine zs_9_30 (pc := 175) hc lk_X10_221 dX10_drafted_175 (fun M3 hM3 => ?_)
        have h := h M3 hM3
        exact k178 M3 v3 v4 X137 hX137 h
  have k77 : ∀ (M : zMem) (v1 : Int) (v2 : Int) (v3 : Int), T_X10_drafted_77 v1 Qr v2 v3 M → zJ p l e (zRoom 9 222 0 0) s m args below meth c G 5 0 0 (MQ below (zQi G (Qr)) args s 0 0 (zA G)) 77 [some (.inr 639), some (.inl v1), some (.inl v2), some (.inl v3), none] [] M := by
    intro M v1 v2 v3 h
    unfold T_X10_drafted_77 at h
    refine zl2_use h (fun v2 v3 M => zJ p l e (zRoom 9 222 0 0) s m args below meth c G 5 0 0 (MQ below (zQi G (Qr)) args s 0 0 (zA G)) 77 [some (.inr 639), some (.inl v1), some (.inl v2), some (.inl v3), none] [] M) (fun X77 hX77 v2 v3 M h => ?_)
    refine zj_iload_n (pc := 77) hc dX10_drafted_77 rfl ?_
    refine zj_iload_n (pc := 78) hc dX10_drafted_78 rfl ?_
    refine zj_icmp_ge (pc := 79) (tgt := 124) hc dX10_drafted_79 (by decide) (fun hx4 => ?_) (fun hx4 => ?_)
    · have h := h.1 hx4
      refine zj_aload_n (pc := 124) hc dX10_drafted_124 rfl ?_
      refine zj_iconst (pc := 125) hc dX10_drafted_125 (zin _ rfl) ?_
      refine zs_9_39 (pc := 126) hc lk_X10_330 dX10_drafted_126 (fun M5 hM5 => ?_)
      have h := h M5 hM5
      refine zj_aload_n (pc := 129) hc dX10_drafted_129 rfl ?_
      refine zj_iconst (pc := 130) hc dX10_drafted_130 (zin _ rfl) ?_
      refine zs_9_30 (pc := 131) hc lk_X10_221 dX10_drafted_131 (fun M6 hM6 => ?_)
      have h := h M6 hM6
      refine zj_iconst (pc := 134) hc dX10_drafted_134 (zin _ rfl) ?_
      refine zj_istore (pc := 135) hc dX10_drafted_135 (by decide) ?_
      refine zj_mask (bs := [true, false, false, true, true]) ?_
      exact k137 M6 v3 0 h
    · have h := h.2 hx4
      refine zj_aload_n (pc := 82) hc dX10_drafted_82 rfl ?_
      refine zj_iload_n (pc := 83) hc dX10_drafted_83 rfl ?_
      refine zs_9_39 (pc := 84) hc lk_X10_330 dX10_drafted_84 (fun M7 hM7 => ?_)
      have h := h M7 hM7
      refine zj_aload_n (pc := 87) hc dX10_drafted_87 rfl ?_
      refine zj_aload_n (pc := 88) hc dX10_drafted_88 rfl ?_
      refine zg_9_8 (pc := 89) hc lk_X10_28 dX10_drafted_89 ?_
      refine zj_iload_n (pc := 92) hc dX10_drafted_92 rfl ?_
      refine zj_vti (pc := 93) (st := []) hc ks_X10_edits iv_X10_edits lk_X10_302 (zrv_9 G M7) (S_X10_edits l G 584 v2 M7 _ h) rfl ⟨Nat.le_of_ble_eq_true rfl, Nat.le_of_ble_eq_true rfl⟩ (Nat.le_of_ble_eq_true rfl) ⟨Nat.le_of_ble_eq_true rfl, Nat.le_of_ble_eq_true rfl⟩ dX10_drafted_93 rfl (fun y8 M9 h => ?_)
      refine zj_istore (pc := 96) hc dX10_drafted_96 (by decide) ?_
      refine zj_iload (pc := 98) hc dX10_drafted_98 rfl ?_
      refine zj_if_ge (pc := 100) (tgt := 106) hc dX10_drafted_100 (by decide) (fun hx10 => ?_) (fun hx10 => ?_)
      · have h := h.1 hx10
        refine zj_iload_n (pc := 106) hc dX10_drafted_106 rfl ?_
        refine zj_aload_n (pc := 107) hc dX10_drafted_107 rfl ?_
        refine zg_9_8 (pc := 108) hc lk_X10_28 dX10_drafted_108 ?_
        refine zj_iload_n (pc := 111) hc dX10_drafted_111 rfl ?_
        refine zj_iald (pc := 112) hc dX10_drafted_112 alen_584 h.1 ?_
        have h := h.2
        refine zj_sti (pc := 113) (st := [.inl v2]) hc ks_X10_lengthOf st_X10_lengthOf lk_X10_159 (S_X10_lengthOf l G (M9.2 584 v2) M9 _ h) rfl ⟨Nat.le_of_ble_eq_true rfl, Nat.le_of_ble_eq_true rfl⟩ (Nat.le_of_ble_eq_true rfl) ⟨Nat.le_of_ble_eq_true rfl, Nat.le_of_ble_eq_true rfl⟩ dX10_drafted_113 rfl (fun y11 M9 h => ?_)
        obtain ⟨hM9, h⟩ := h
        subst hM9
        refine zj_iadd (pc := 116) hc dX10_drafted_116 h.1 ?_
        have h := h.2
        refine zj_istore_n (pc := 117) hc dX10_drafted_117 (by decide) ?_
        refine zj_iinc (pc := 118) hc dX10_drafted_118 rfl (by decide) h.1 ?_
        have h := h.2
        refine zj_goto (pc := 121) (tgt := 77) hc dX10_drafted_121 (by decide) ?_
        refine zj_mask (bs := [true, true, true, true, false]) ?_
        exact hX77 (v2 + y11) (v3 + 1) M9 h
      · have h := h.2 hx10
        refine zj_iload (pc := 103) hc dX10_drafted_103 rfl ?_
        exact zj_iret (pc := 105) hc hr hlk dX10_drafted_105 (by decide) (by decide) h
  have k18 : ∀ (M : zMem) (v1 : Int) (v2 : Int), T_X10_drafted_18 v1 Qr v2 M → zJ p l e (zRoom 9 222 0 0) s m args below meth c G 5 0 0 (MQ below (zQi G (Qr)) args s 0 0 (zA G)) 18 [some (.inr 639), some (.inl v1), some (.inl v2), none, none] [] M := by
    intro M v1 v2 h
    unfold T_X10_drafted_18 at h
    refine zl1_use h (fun v2 M => zJ p l e (zRoom 9 222 0 0) s m args below meth c G 5 0 0 (MQ below (zQi G (Qr)) args s 0 0 (zA G)) 18 [some (.inr 639), some (.inl v1), some (.inl v2), none, none] [] M) (fun X18 hX18 v2 M h => ?_)
    refine zj_iload_n (pc := 18) hc dX10_drafted_18 rfl ?_
    refine zj_iload_n (pc := 19) hc dX10_drafted_19 rfl ?_
    refine zj_icmp_ge (pc := 20) (tgt := 73) hc dX10_drafted_20 (by decide) (fun hx12 => ?_) (fun hx12 => ?_)
    · have h := h.1 hx12
      refine zj_iconst (pc := 73) hc dX10_drafted_73 (zin _ rfl) ?_
      refine zj_istore_n (pc := 74) hc dX10_drafted_74 (by decide) ?_
      refine zj_iconst (pc := 75) hc dX10_drafted_75 (zin _ rfl) ?_
      refine zj_istore_n (pc := 76) hc dX10_drafted_76 (by decide) ?_
      exact k77 M v1 0 0 h
    · have h := h.2 hx12
      refine zj_aload_n (pc := 23) hc dX10_drafted_23 rfl ?_
      refine zj_iload_n (pc := 24) hc dX10_drafted_24 rfl ?_
      refine zs_9_39 (pc := 25) hc lk_X10_330 dX10_drafted_25 (fun M13 hM13 => ?_)
      have h := h M13 hM13
      refine zj_aload_n (pc := 28) hc dX10_drafted_28 rfl ?_
      refine zg_9_8 (pc := 29) hc lk_X10_28 dX10_drafted_29 ?_
      refine zj_iload_n (pc := 32) hc dX10_drafted_32 rfl ?_
      refine zj_iald (pc := 33) hc dX10_drafted_33 alen_584 h.1 ?_
      have h := h.2
      refine zj_sti (pc := 34) (st := []) hc ks_X10_isEntry st_X10_isEntry lk_X10_333 (S_X10_isEntry l G (M13.2 584 v2) M13 _ h) rfl ⟨Nat.le_of_ble_eq_true rfl, Nat.le_of_ble_eq_true rfl⟩ (Nat.le_of_ble_eq_true rfl) ⟨Nat.le_of_ble_eq_true rfl, Nat.le_of_ble_eq_true rfl⟩ dX10_drafted_34 rfl (fun y14 M9 h => ?_)
      obtain ⟨hM9, h⟩ := h
      subst hM9
      refine zj_if_eq (pc := 37) (tgt := 55) hc dX10_drafted_37 (by decide) (fun hx15 => ?_) (fun hx15 => ?_)
      · have h := h.1 hx15
        refine zj_bipush (pc := 55) hc dX10_drafted_55 (by decide) (zin _ rfl) ?_
        exact zj_iret (pc := 57) hc hr hlk dX10_drafted_57 (by decide) (by decide) h
      · have h := h.2 hx15
        refine zj_iload_n (pc := 40) hc dX10_drafted_40 rfl ?_
        refine zj_aload_n (pc := 41) hc dX10_drafted_41 rfl ?_
        refine zg_9_8 (pc := 42) hc lk_X10_28 dX10_drafted_42 ?_
        refine zj_iload_n (pc := 45) hc dX10_drafted_45 rfl ?_
        refine zj_iald (pc := 46) hc dX10_drafted_46 alen_584 h.1 ?_
        have h := h.2
        refine zj_sti (pc := 47) (st := [.inl v2]) hc ks_X10_lengthOf st_X10_lengthOf lk_X10_159 (S_X10_lengthOf l G (M13.2 584 v2) M13 _ h) rfl ⟨Nat.le_of_ble_eq_true rfl, Nat.le_of_ble_eq_true rfl⟩ (Nat.le_of_ble_eq_true rfl) ⟨Nat.le_of_ble_eq_true rfl, Nat.le_of_ble_eq_true rfl⟩ dX10_drafted_47 rfl (fun y16 M9 h => ?_)
        obtain ⟨hM9, h⟩ := h
        subst hM9
        refine zj_iadd (pc := 50) hc dX10_drafted_50 h.1 ?_
        have h := h.2
        refine zj_iload_n (pc := 51) hc dX10_drafted_51 rfl ?_
        refine zj_icmp_le (pc := 52) (tgt := 58) hc dX10_drafted_52 (by decide) (fun hx17 => ?_) (fun hx17 => ?_)
        · have h := h.1 hx17
          refine zj_iload_n (pc := 58) hc dX10_drafted_58 rfl ?_
          refine zj_aload_n (pc := 59) hc dX10_drafted_59 rfl ?_
          refine zg_9_8 (pc := 60) hc lk_X10_28 dX10_drafted_60 ?_
          refine zj_iload_n (pc := 63) hc dX10_drafted_63 rfl ?_
          refine zj_iald (pc := 64) hc dX10_drafted_64 alen_584 h.1 ?_
          have h := h.2
          refine zj_sti (pc := 65) (st := [.inl v2]) hc ks_X10_lengthOf st_X10_lengthOf lk_X10_159 (S_X10_lengthOf l G (M13.2 584 v2) M13 _ h) rfl ⟨Nat.le_of_ble_eq_true rfl, Nat.le_of_ble_eq_true rfl⟩ (Nat.le_of_ble_eq_true rfl) ⟨Nat.le_of_ble_eq_true rfl, Nat.le_of_ble_eq_true rfl⟩ dX10_drafted_65 rfl (fun y18 M9 h => ?_)
          obtain ⟨hM9, h⟩ := h
          subst hM9
          refine zj_iadd (pc := 68) hc dX10_drafted_68 h.1 ?_
          have h := h.2
          refine zj_istore_n (pc := 69) hc dX10_drafted_69 (by decide) ?_
          refine zj_goto (pc := 70) (tgt := 18) hc dX10_drafted_70 (by decide) ?_
          exact hX18 (v2 + y18) M13 h
        · have h := h.2 hx17
          refine zj_bipush (pc := 55) hc dX10_drafted_55 (by decide) (zin _ rfl) ?_
          exact zj_iret (pc := 57) hc hr hlk dX10_drafted_57 (by decide) (by decide) h
  unfold T_X10_drafted at h
  refine zj_aload_n (pc := 0) hc dX10_drafted_0 rfl ?_
  refine zj_vtv (pc := 1) (st := []) hc ks_X10_drafts iv_X10_drafts lk_X10_299 (zrv_9 G M) (S_X10_drafts l G M _ h) rfl ⟨Nat.le_of_ble_eq_true rfl, Nat.le_of_ble_eq_true rfl⟩ (Nat.le_of_ble_eq_true rfl) ⟨Nat.le_of_ble_eq_true rfl, Nat.le_of_ble_eq_true rfl⟩ dX10_drafted_1 rfl (fun M19 h => ?_)
  refine zj_aload_n (pc := 4) hc dX10_drafted_4 rfl ?_
  refine zj_iconst (pc := 5) hc dX10_drafted_5 (zin _ rfl) ?_
  refine zs_9_39 (pc := 6) hc lk_X10_330 dX10_drafted_6 (fun M20 hM20 => ?_)
  have h := h M20 hM20
  refine zj_iload_n (pc := 9) hc dX10_drafted_9 rfl ?_
  refine zj_if_ne (pc := 10) (tgt := 16) hc dX10_drafted_10 (by decide) (fun hx21 => ?_) (fun hx21 => ?_)
  · have h := h.1 hx21
    refine zj_iconst (pc := 16) hc dX10_drafted_16 (zin _ rfl) ?_
    refine zj_istore_n (pc := 17) hc dX10_drafted_17 (by decide) ?_
    exact k18 M20 v1 0 h
  · have h := h.2 hx21
    refine zj_bipush (pc := 13) hc dX10_drafted_13 (by decide) (zin _ rfl) ?_
    exact zj_iret (pc := 15) hc hr hlk dX10_drafted_15 (by decide) (by decide) h
