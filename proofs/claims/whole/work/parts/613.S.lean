set_option maxHeartbeats 4000000 in
set_option maxRecDepth 100000 in
theorem S_X9_put (l : Launch) (G : zG) (v1 : Int) (M : zMem) (Qr : Int → zMem → Prop) (h : T_X9_put v1 Qr M) : zMetI l yX9_put cX9_put 2 (some .int) 7 187 3 1342 G [.inr 63, .inl v1] M Qr := by
  refine zmetI (by decide) (Nat.le_of_ble_eq_true rfl) [some (.inr 63), some (.inl v1)] rfl ?_
  intro p e s m args below meth c hc hr hlk
  unfold T_X9_put at h
  refine zj_iload_n (pc := 0) hc dX9_put_0 rfl ?_
  refine zj_sti (pc := 1) (st := []) hc ks_X9_isByte st_X9_isByte lk_X9_126 (S_X9_isByte l G v1 M _ h) rfl ⟨Nat.le_of_ble_eq_true rfl, Nat.le_of_ble_eq_true rfl⟩ (Nat.le_of_ble_eq_true rfl) ⟨Nat.le_of_ble_eq_true rfl, Nat.le_of_ble_eq_true rfl⟩ dX9_put_1 rfl (fun y1 M9 h => ?_)
  obtain ⟨hM9, h⟩ := h
  subst hM9
  refine zj_if_eq (pc := 4) (tgt := 16) hc dX9_put_4 (by decide) (fun hx2 => ?_) (fun hx2 => ?_)
  · have h := h.1 hx2
    refine zj_aload_n (pc := 16) hc dX9_put_16 rfl ?_
    refine zj_iconst (pc := 17) hc dX9_put_17 (zin _ rfl) ?_
    refine zj_vti (pc := 18) (st := []) hc ks_X9_refuse iv_X9_refuse lk_X9_81 (zrv_0 G M) (S_X9_refuse l G (-1) M _ h) rfl ⟨Nat.le_of_ble_eq_true rfl, Nat.le_of_ble_eq_true rfl⟩ (Nat.le_of_ble_eq_true rfl) ⟨Nat.le_of_ble_eq_true rfl, Nat.le_of_ble_eq_true rfl⟩ dX9_put_18 rfl (fun y3 M4 h => ?_)
    exact zj_iret (pc := 21) hc hr hlk dX9_put_21 (by decide) (by decide) h
  · have h := h.2 hx2
    refine zj_aload_n (pc := 7) hc dX9_put_7 rfl ?_
    refine zg_0_3 (pc := 8) hc lk_X9_19 dX9_put_8 ?_
    refine zj_bipush (pc := 11) hc dX9_put_11 (by decide) (zin _ rfl) ?_
    refine zj_icmp_le (pc := 13) (tgt := 22) hc dX9_put_13 (by decide) (fun hx5 => ?_) (fun hx5 => ?_)
    · have h := h.1 hx5
      refine zj_aload_n (pc := 22) hc dX9_put_22 rfl ?_
      refine zj_iconst (pc := 23) hc dX9_put_23 (zin _ rfl) ?_
      refine zj_iload_n (pc := 24) hc dX9_put_24 rfl ?_
      refine zj_vtv (pc := 25) (st := []) hc ks_X9_layFromTape iv_X9_layFromTape lk_X9_130 (zrv_0 G M) (S_X9_layFromTape l G 1 v1 M _ h) rfl ⟨Nat.le_of_ble_eq_true rfl, Nat.le_of_ble_eq_true rfl⟩ (Nat.le_of_ble_eq_true rfl) ⟨Nat.le_of_ble_eq_true rfl, Nat.le_of_ble_eq_true rfl⟩ dX9_put_25 rfl (fun M6 h => ?_)
      refine zj_aload_n (pc := 28) hc dX9_put_28 rfl ?_
      refine zj_iload_n (pc := 29) hc dX9_put_29 rfl ?_
      refine zj_iconst (pc := 30) hc dX9_put_30 (zin _ rfl) ?_
      refine zj_vti (pc := 31) (st := []) hc ks_X9_editAlone iv_X9_editAlone lk_X9_134 (zrv_0 G M6) (S_X9_editAlone l G v1 0 M6 _ h) rfl ⟨Nat.le_of_ble_eq_true rfl, Nat.le_of_ble_eq_true rfl⟩ (Nat.le_of_ble_eq_true rfl) ⟨Nat.le_of_ble_eq_true rfl, Nat.le_of_ble_eq_true rfl⟩ dX9_put_31 rfl (fun y7 M8 h => ?_)
      exact zj_iret (pc := 34) hc hr hlk dX9_put_34 (by decide) (by decide) h
    · have h := h.2 hx5
      refine zj_aload_n (pc := 16) hc dX9_put_16 rfl ?_
      refine zj_iconst (pc := 17) hc dX9_put_17 (zin _ rfl) ?_
      refine zj_vti (pc := 18) (st := []) hc ks_X9_refuse iv_X9_refuse lk_X9_81 (zrv_0 G M) (S_X9_refuse l G (-1) M _ h) rfl ⟨Nat.le_of_ble_eq_true rfl, Nat.le_of_ble_eq_true rfl⟩ (Nat.le_of_ble_eq_true rfl) ⟨Nat.le_of_ble_eq_true rfl, Nat.le_of_ble_eq_true rfl⟩ dX9_put_18 rfl (fun y9 M10 h => ?_)
      exact zj_iret (pc := 21) hc hr hlk dX9_put_21 (by decide) (by decide) h
set_option maxHeartbeats 4000000 in
set_option maxRecDepth 100000 in
theorem S_X9_grow (l : Launch) (G : zG) (v1 : Int) (M : zMem) (Qr : Int → zMem → Prop) (h : T_X9_grow v1 Qr M) : zMetI l yX9_grow cX9_grow 2 (some .int) 7 187 3 1342 G [.inr 63, .inl v1] M Qr := by
  refine zmetI (by decide) (Nat.le_of_ble_eq_true rfl) [some (.inr 63), some (.inl v1)] rfl ?_
  intro p e s m args below meth c hc hr hlk
  unfold T_X9_grow at h
  refine zj_iload_n (pc := 0) hc dX9_grow_0 rfl ?_
  refine zj_sti (pc := 1) (st := []) hc ks_X9_isByte st_X9_isByte lk_X9_126 (S_X9_isByte l G v1 M _ h) rfl ⟨Nat.le_of_ble_eq_true rfl, Nat.le_of_ble_eq_true rfl⟩ (Nat.le_of_ble_eq_true rfl) ⟨Nat.le_of_ble_eq_true rfl, Nat.le_of_ble_eq_true rfl⟩ dX9_grow_1 rfl (fun y1 M9 h => ?_)
  obtain ⟨hM9, h⟩ := h
  subst hM9
  refine zj_if_eq (pc := 4) (tgt := 23) hc dX9_grow_4 (by decide) (fun hx2 => ?_) (fun hx2 => ?_)
  · have h := h.1 hx2
    refine zj_aload_n (pc := 23) hc dX9_grow_23 rfl ?_
    refine zj_iconst (pc := 24) hc dX9_grow_24 (zin _ rfl) ?_
    refine zj_vti (pc := 25) (st := []) hc ks_X9_refuse iv_X9_refuse lk_X9_81 (zrv_0 G M) (S_X9_refuse l G (-1) M _ h) rfl ⟨Nat.le_of_ble_eq_true rfl, Nat.le_of_ble_eq_true rfl⟩ (Nat.le_of_ble_eq_true rfl) ⟨Nat.le_of_ble_eq_true rfl, Nat.le_of_ble_eq_true rfl⟩ dX9_grow_25 rfl (fun y3 M4 h => ?_)
    exact zj_iret (pc := 28) hc hr hlk dX9_grow_28 (by decide) (by decide) h
  · have h := h.2 hx2
    refine zj_aload_n (pc := 7) hc dX9_grow_7 rfl ?_
    refine zg_0_3 (pc := 8) hc lk_X9_19 dX9_grow_8 ?_
    refine zj_if_eq (pc := 11) (tgt := 23) hc dX9_grow_11 (by decide) (fun hx5 => ?_) (fun hx5 => ?_)
    · have h := h.1 hx5
      refine zj_aload_n (pc := 23) hc dX9_grow_23 rfl ?_
      refine zj_iconst (pc := 24) hc dX9_grow_24 (zin _ rfl) ?_
      refine zj_vti (pc := 25) (st := []) hc ks_X9_refuse iv_X9_refuse lk_X9_81 (zrv_0 G M) (S_X9_refuse l G (-1) M _ h) rfl ⟨Nat.le_of_ble_eq_true rfl, Nat.le_of_ble_eq_true rfl⟩ (Nat.le_of_ble_eq_true rfl) ⟨Nat.le_of_ble_eq_true rfl, Nat.le_of_ble_eq_true rfl⟩ dX9_grow_25 rfl (fun y6 M7 h => ?_)
      exact zj_iret (pc := 28) hc hr hlk dX9_grow_28 (by decide) (by decide) h
    · have h := h.2 hx5
      refine zj_aload_n (pc := 14) hc dX9_grow_14 rfl ?_
      refine zg_0_3 (pc := 15) hc lk_X9_19 dX9_grow_15 ?_
      refine zj_bipush (pc := 18) hc dX9_grow_18 (by decide) (zin _ rfl) ?_
      refine zj_icmp_le (pc := 20) (tgt := 29) hc dX9_grow_20 (by decide) (fun hx8 => ?_) (fun hx8 => ?_)
      · have h := h.1 hx8
        refine zj_aload_n (pc := 29) hc dX9_grow_29 rfl ?_
        refine zj_iconst (pc := 30) hc dX9_grow_30 (zin _ rfl) ?_
        refine zj_iload_n (pc := 31) hc dX9_grow_31 rfl ?_
        refine zj_vtv (pc := 32) (st := []) hc ks_X9_layFromTape iv_X9_layFromTape lk_X9_130 (zrv_0 G M) (S_X9_layFromTape l G 4 v1 M _ h) rfl ⟨Nat.le_of_ble_eq_true rfl, Nat.le_of_ble_eq_true rfl⟩ (Nat.le_of_ble_eq_true rfl) ⟨Nat.le_of_ble_eq_true rfl, Nat.le_of_ble_eq_true rfl⟩ dX9_grow_32 rfl (fun M9 h => ?_)
        refine zj_aload_n (pc := 35) hc dX9_grow_35 rfl ?_
        refine zj_iload_n (pc := 36) hc dX9_grow_36 rfl ?_
        refine zj_iconst (pc := 37) hc dX9_grow_37 (zin _ rfl) ?_
        refine zj_vti (pc := 38) (st := []) hc ks_X9_editAlone iv_X9_editAlone lk_X9_134 (zrv_0 G M9) (S_X9_editAlone l G v1 1 M9 _ h) rfl ⟨Nat.le_of_ble_eq_true rfl, Nat.le_of_ble_eq_true rfl⟩ (Nat.le_of_ble_eq_true rfl) ⟨Nat.le_of_ble_eq_true rfl, Nat.le_of_ble_eq_true rfl⟩ dX9_grow_38 rfl (fun y10 M11 h => ?_)
        exact zj_iret (pc := 41) hc hr hlk dX9_grow_41 (by decide) (by decide) h
      · have h := h.2 hx8
        refine zj_aload_n (pc := 23) hc dX9_grow_23 rfl ?_
        refine zj_iconst (pc := 24) hc dX9_grow_24 (zin _ rfl) ?_
        refine zj_vti (pc := 25) (st := []) hc ks_X9_refuse iv_X9_refuse lk_X9_81 (zrv_0 G M) (S_X9_refuse l G (-1) M _ h) rfl ⟨Nat.le_of_ble_eq_true rfl, Nat.le_of_ble_eq_true rfl⟩ (Nat.le_of_ble_eq_true rfl) ⟨Nat.le_of_ble_eq_true rfl, Nat.le_of_ble_eq_true rfl⟩ dX9_grow_25 rfl (fun y12 M13 h => ?_)
        exact zj_iret (pc := 28) hc hr hlk dX9_grow_28 (by decide) (by decide) h
set_option maxHeartbeats 4000000 in
set_option maxRecDepth 100000 in
theorem S_X9_alter (l : Launch) (G : zG) (v1 : Int) (v2 : Int) (v3 : Int) (M : zMem) (Qr : Int → zMem → Prop) (h : T_X9_alter v1 v2 v3 Qr M) : zMetI l yX9_alter cX9_alter 4 (some .int) 7 187 3 1342 G [.inr 63, .inl v1, .inl v2, .inl v3] M Qr := by
  refine zmetI (by decide) (Nat.le_of_ble_eq_true rfl) [some (.inr 63), some (.inl v1), some (.inl v2), some (.inl v3)] rfl ?_
  intro p e s m args below meth c hc hr hlk
  unfold T_X9_alter at h
  refine zj_iload_n (pc := 0) hc dX9_alter_0 rfl ?_
  refine zj_sti (pc := 1) (st := []) hc ks_X9_isByte st_X9_isByte lk_X9_126 (S_X9_isByte l G v1 M _ h) rfl ⟨Nat.le_of_ble_eq_true rfl, Nat.le_of_ble_eq_true rfl⟩ (Nat.le_of_ble_eq_true rfl) ⟨Nat.le_of_ble_eq_true rfl, Nat.le_of_ble_eq_true rfl⟩ dX9_alter_1 rfl (fun y1 M9 h => ?_)
  obtain ⟨hM9, h⟩ := h
  subst hM9
  refine zj_if_eq (pc := 4) (tgt := 24) hc dX9_alter_4 (by decide) (fun hx2 => ?_) (fun hx2 => ?_)
  · have h := h.1 hx2
    refine zj_aload_n (pc := 24) hc dX9_alter_24 rfl ?_
    refine zj_iconst (pc := 25) hc dX9_alter_25 (zin _ rfl) ?_
    refine zj_vti (pc := 26) (st := []) hc ks_X9_refuse iv_X9_refuse lk_X9_81 (zrv_0 G M) (S_X9_refuse l G (-1) M _ h) rfl ⟨Nat.le_of_ble_eq_true rfl, Nat.le_of_ble_eq_true rfl⟩ (Nat.le_of_ble_eq_true rfl) ⟨Nat.le_of_ble_eq_true rfl, Nat.le_of_ble_eq_true rfl⟩ dX9_alter_26 rfl (fun y3 M4 h => ?_)
    exact zj_iret (pc := 29) hc hr hlk dX9_alter_29 (by decide) (by decide) h
  · have h := h.2 hx2
    refine zj_iload_n (pc := 7) hc dX9_alter_7 rfl ?_
    refine zj_if_lt (pc := 8) (tgt := 24) hc dX9_alter_8 (by decide) (fun hx5 => ?_) (fun hx5 => ?_)
    · have h := h.1 hx5
      refine zj_aload_n (pc := 24) hc dX9_alter_24 rfl ?_
      refine zj_iconst (pc := 25) hc dX9_alter_25 (zin _ rfl) ?_
      refine zj_vti (pc := 26) (st := []) hc ks_X9_refuse iv_X9_refuse lk_X9_81 (zrv_0 G M) (S_X9_refuse l G (-1) M _ h) rfl ⟨Nat.le_of_ble_eq_true rfl, Nat.le_of_ble_eq_true rfl⟩ (Nat.le_of_ble_eq_true rfl) ⟨Nat.le_of_ble_eq_true rfl, Nat.le_of_ble_eq_true rfl⟩ dX9_alter_26 rfl (fun y6 M7 h => ?_)
      exact zj_iret (pc := 29) hc hr hlk dX9_alter_29 (by decide) (by decide) h
    · have h := h.2 hx5
      refine zj_iload_n (pc := 11) hc dX9_alter_11 rfl ?_
      refine zj_bipush (pc := 12) hc dX9_alter_12 (by decide) (zin _ rfl) ?_
      refine zj_icmp_ge (pc := 14) (tgt := 24) hc dX9_alter_14 (by decide) (fun hx8 => ?_) (fun hx8 => ?_)
      · have h := h.1 hx8
        refine zj_aload_n (pc := 24) hc dX9_alter_24 rfl ?_
        refine zj_iconst (pc := 25) hc dX9_alter_25 (zin _ rfl) ?_
        refine zj_vti (pc := 26) (st := []) hc ks_X9_refuse iv_X9_refuse lk_X9_81 (zrv_0 G M) (S_X9_refuse l G (-1) M _ h) rfl ⟨Nat.le_of_ble_eq_true rfl, Nat.le_of_ble_eq_true rfl⟩ (Nat.le_of_ble_eq_true rfl) ⟨Nat.le_of_ble_eq_true rfl, Nat.le_of_ble_eq_true rfl⟩ dX9_alter_26 rfl (fun y9 M10 h => ?_)
        exact zj_iret (pc := 29) hc hr hlk dX9_alter_29 (by decide) (by decide) h
      · have h := h.2 hx8
        refine zj_iload_n (pc := 17) hc dX9_alter_17 rfl ?_
        refine zj_sti (pc := 18) (st := []) hc ks_X9_isByte st_X9_isByte lk_X9_126 (S_X9_isByte l G v3 M _ h) rfl ⟨Nat.le_of_ble_eq_true rfl, Nat.le_of_ble_eq_true rfl⟩ (Nat.le_of_ble_eq_true rfl) ⟨Nat.le_of_ble_eq_true rfl, Nat.le_of_ble_eq_true rfl⟩ dX9_alter_18 rfl (fun y11 M9 h => ?_)
        obtain ⟨hM9, h⟩ := h
        subst hM9
        refine zj_if_ne (pc := 21) (tgt := 30) hc dX9_alter_21 (by decide) (fun hx12 => ?_) (fun hx12 => ?_)
        · have h := h.1 hx12
          refine zj_aload_n (pc := 30) hc dX9_alter_30 rfl ?_
          refine zg_0_4 (pc := 31) hc lk_X9_25 dX9_alter_31 ?_
          refine zj_iconst (pc := 34) hc dX9_alter_34 (zin _ rfl) ?_
          refine zj_bipush (pc := 35) hc dX9_alter_35 (by decide) (zin _ rfl) ?_
          refine zj_iload_n (pc := 37) hc dX9_alter_37 rfl ?_
          refine zj_iadd (pc := 38) hc dX9_alter_38 h.1 ?_
          have h := h.2
          refine zj_iast (pc := 39) hc dX9_alter_39 alen_4 h.1 (fun M13 hM13 => ?_)
          have h := h.2 M13 hM13
          refine zj_aload_n (pc := 40) hc dX9_alter_40 rfl ?_
          refine zg_0_4 (pc := 41) hc lk_X9_25 dX9_alter_41 ?_
          refine zj_iconst (pc := 44) hc dX9_alter_44 (zin _ rfl) ?_
          refine zj_iload_n (pc := 45) hc dX9_alter_45 rfl ?_
          refine zj_iast (pc := 46) hc dX9_alter_46 alen_4 h.1 (fun M14 hM14 => ?_)
          have h := h.2 M14 hM14
          refine zj_aload_n (pc := 47) hc dX9_alter_47 rfl ?_
          refine zg_0_4 (pc := 48) hc lk_X9_25 dX9_alter_48 ?_
          refine zj_iconst (pc := 51) hc dX9_alter_51 (zin _ rfl) ?_
          refine zj_iload_n (pc := 52) hc dX9_alter_52 rfl ?_
          refine zj_iast (pc := 53) hc dX9_alter_53 alen_4 h.1 (fun M15 hM15 => ?_)
          have h := h.2 M15 hM15
          refine zj_aload_n (pc := 54) hc dX9_alter_54 rfl ?_
          refine zj_iload_n (pc := 55) hc dX9_alter_55 rfl ?_
          refine zj_iconst (pc := 56) hc dX9_alter_56 (zin _ rfl) ?_
          refine zj_vti (pc := 57) (st := []) hc ks_X9_editAlone iv_X9_editAlone lk_X9_134 (zrv_0 G M15) (S_X9_editAlone l G v1 2 M15 _ h) rfl ⟨Nat.le_of_ble_eq_true rfl, Nat.le_of_ble_eq_true rfl⟩ (Nat.le_of_ble_eq_true rfl) ⟨Nat.le_of_ble_eq_true rfl, Nat.le_of_ble_eq_true rfl⟩ dX9_alter_57 rfl (fun y16 M17 h => ?_)
          exact zj_iret (pc := 60) hc hr hlk dX9_alter_60 (by decide) (by decide) h
        · have h := h.2 hx12
          refine zj_aload_n (pc := 24) hc dX9_alter_24 rfl ?_
          refine zj_iconst (pc := 25) hc dX9_alter_25 (zin _ rfl) ?_
          refine zj_vti (pc := 26) (st := []) hc ks_X9_refuse iv_X9_refuse lk_X9_81 (zrv_0 G M) (S_X9_refuse l G (-1) M _ h) rfl ⟨Nat.le_of_ble_eq_true rfl, Nat.le_of_ble_eq_true rfl⟩ (Nat.le_of_ble_eq_true rfl) ⟨Nat.le_of_ble_eq_true rfl, Nat.le_of_ble_eq_true rfl⟩ dX9_alter_26 rfl (fun y18 M19 h => ?_)
          exact zj_iret (pc := 29) hc hr hlk dX9_alter_29 (by decide) (by decide) h
set_option maxHeartbeats 4000000 in
set_option maxRecDepth 100000 in
theorem S_X9_erase (l : Launch) (G : zG) (v1 : Int) (M : zMem) (Qr : Int → zMem → Prop) (h : T_X9_erase v1 Qr M) : zMetI l yX9_erase cX9_erase 2 (some .int) 7 187 3 1342 G [.inr 63, .inl v1] M Qr := by
  refine zmetI (by decide) (Nat.le_of_ble_eq_true rfl) [some (.inr 63), some (.inl v1)] rfl ?_
  intro p e s m args below meth c hc hr hlk
  unfold T_X9_erase at h
  refine zj_iload_n (pc := 0) hc dX9_erase_0 rfl ?_
  refine zj_sti (pc := 1) (st := []) hc ks_X9_isByte st_X9_isByte lk_X9_126 (S_X9_isByte l G v1 M _ h) rfl ⟨Nat.le_of_ble_eq_true rfl, Nat.le_of_ble_eq_true rfl⟩ (Nat.le_of_ble_eq_true rfl) ⟨Nat.le_of_ble_eq_true rfl, Nat.le_of_ble_eq_true rfl⟩ dX9_erase_1 rfl (fun y1 M9 h => ?_)
  obtain ⟨hM9, h⟩ := h
  subst hM9
  refine zj_if_ne (pc := 4) (tgt := 13) hc dX9_erase_4 (by decide) (fun hx2 => ?_) (fun hx2 => ?_)
  · have h := h.1 hx2
    refine zj_aload_n (pc := 13) hc dX9_erase_13 rfl ?_
    refine zg_0_4 (pc := 14) hc lk_X9_25 dX9_erase_14 ?_
    refine zj_iconst (pc := 17) hc dX9_erase_17 (zin _ rfl) ?_
    refine zj_bipush (pc := 18) hc dX9_erase_18 (by decide) (zin _ rfl) ?_
    refine zj_iast (pc := 20) hc dX9_erase_20 alen_4 h.1 (fun M3 hM3 => ?_)
    have h := h.2 M3 hM3
    refine zj_aload_n (pc := 21) hc dX9_erase_21 rfl ?_
    refine zg_0_4 (pc := 22) hc lk_X9_25 dX9_erase_22 ?_
    refine zj_iconst (pc := 25) hc dX9_erase_25 (zin _ rfl) ?_
    refine zj_iload_n (pc := 26) hc dX9_erase_26 rfl ?_
    refine zj_iast (pc := 27) hc dX9_erase_27 alen_4 h.1 (fun M4 hM4 => ?_)
    have h := h.2 M4 hM4
    refine zj_aload_n (pc := 28) hc dX9_erase_28 rfl ?_
    refine zj_iload_n (pc := 29) hc dX9_erase_29 rfl ?_
    refine zj_iconst (pc := 30) hc dX9_erase_30 (zin _ rfl) ?_
    refine zj_vti (pc := 31) (st := []) hc ks_X9_editAlone iv_X9_editAlone lk_X9_134 (zrv_0 G M4) (S_X9_editAlone l G v1 3 M4 _ h) rfl ⟨Nat.le_of_ble_eq_true rfl, Nat.le_of_ble_eq_true rfl⟩ (Nat.le_of_ble_eq_true rfl) ⟨Nat.le_of_ble_eq_true rfl, Nat.le_of_ble_eq_true rfl⟩ dX9_erase_31 rfl (fun y5 M6 h => ?_)
    exact zj_iret (pc := 34) hc hr hlk dX9_erase_34 (by decide) (by decide) h
  · have h := h.2 hx2
    refine zj_aload_n (pc := 7) hc dX9_erase_7 rfl ?_
    refine zj_iconst (pc := 8) hc dX9_erase_8 (zin _ rfl) ?_
    refine zj_vti (pc := 9) (st := []) hc ks_X9_refuse iv_X9_refuse lk_X9_81 (zrv_0 G M) (S_X9_refuse l G (-1) M _ h) rfl ⟨Nat.le_of_ble_eq_true rfl, Nat.le_of_ble_eq_true rfl⟩ (Nat.le_of_ble_eq_true rfl) ⟨Nat.le_of_ble_eq_true rfl, Nat.le_of_ble_eq_true rfl⟩ dX9_erase_9 rfl (fun y7 M8 h => ?_)
    exact zj_iret (pc := 12) hc hr hlk dX9_erase_12 (by decide) (by decide) h
set_option maxHeartbeats 4000000 in
set_option maxRecDepth 100000 in
theorem S_X9_firstUnreadable (l : Launch) (G : zG) (M : zMem) (Qr : Int → Prop) (h : T_X9_firstUnreadable Qr M) : zMetI l yX9_firstUnreadable cX9_firstUnreadable 4 (some .int) 3 64 0 0 G [.inr 63] M (fun r9 M9 => M = M9 ∧ Qr r9) := by
  refine zmetI (by decide) (Nat.le_of_ble_eq_true rfl) [some (.inr 63), none, none, none] rfl ?_
  intro p e s m args below meth c hc hr hlk
  have k13 : ∀ (v1 : Int) (v2 : Int), T_X9_firstUnreadable_13 Qr v1 v2 M → zJ p l e (zRoom 3 64 0 0) s m args below meth c G 4 0 0 (MQ below (zQi G (fun r9 M9 => M = M9 ∧ Qr r9)) args s 0 0 (zA G)) 13 [some (.inr 63), some (.inl v1), some (.inl v2), none] [] M := by
    intro v1 v2 h
    unfold T_X9_firstUnreadable_13 at h
    refine zp2_use h (fun v1 v2 => zJ p l e (zRoom 3 64 0 0) s m args below meth c G 4 0 0 (MQ below (zQi G (fun r9 M9 => M = M9 ∧ Qr r9)) args s 0 0 (zA G)) 13 [some (.inr 63), some (.inl v1), some (.inl v2), none] [] M) (fun X13 hX13 v1 v2 h => ?_)
    refine zj_iload_n (pc := 13) hc dX9_firstUnreadable_13 rfl ?_
    refine zj_sipush (pc := 14) hc dX9_firstUnreadable_14 (by decide) (zin _ rfl) ?_
    refine zj_icmp_ge (pc := 17) (tgt := 57) hc dX9_firstUnreadable_17 (by decide) (fun hx1 => ?_) (fun hx1 => ?_)
    · have h := h.1 hx1
      refine zj_iconst (pc := 57) hc dX9_firstUnreadable_57 (zin _ rfl) ?_
      exact zj_iret (pc := 58) hc hr hlk dX9_firstUnreadable_58 (by decide) (by decide) ⟨rfl, h⟩
    · have h := h.2 hx1
      refine zj_iload_n (pc := 20) hc dX9_firstUnreadable_20 rfl ?_
      refine zj_aload_n (pc := 21) hc dX9_firstUnreadable_21 rfl ?_
      refine zg_0_3 (pc := 22) hc lk_X9_19 dX9_firstUnreadable_22 ?_
      refine zj_icmp_ge (pc := 25) (tgt := 57) hc dX9_firstUnreadable_25 (by decide) (fun hx2 => ?_) (fun hx2 => ?_)
      · have h := h.1 hx2
        refine zj_iconst (pc := 57) hc dX9_firstUnreadable_57 (zin _ rfl) ?_
        exact zj_iret (pc := 58) hc hr hlk dX9_firstUnreadable_58 (by decide) (by decide) ⟨rfl, h⟩
      · have h := h.2 hx2
        refine zj_aload_n (pc := 28) hc dX9_firstUnreadable_28 rfl ?_
        refine zg_0_2 (pc := 29) hc lk_X9_16 dX9_firstUnreadable_29 ?_
        refine zj_iload_n (pc := 32) hc dX9_firstUnreadable_32 rfl ?_
        refine zj_aload_n (pc := 33) hc dX9_firstUnreadable_33 rfl ?_
        refine zg_0_3 (pc := 34) hc lk_X9_19 dX9_firstUnreadable_34 ?_
        refine zj_sti (pc := 37) (st := []) hc ks_X2_sizeAt st_X2_sizeAt lk_X9_320 (S_X2_sizeAt l G 2 v1 (M.1 3) M _ h) rfl ⟨Nat.le_of_ble_eq_true rfl, Nat.le_of_ble_eq_true rfl⟩ (Nat.le_of_ble_eq_true rfl) ⟨Nat.le_of_ble_eq_true rfl, Nat.le_of_ble_eq_true rfl⟩ dX9_firstUnreadable_37 rfl (fun y3 M9 h => ?_)
        obtain ⟨hM9, h⟩ := h
        subst hM9
        refine zj_istore_n (pc := 40) hc dX9_firstUnreadable_40 (by decide) ?_
        refine zj_iload_n (pc := 41) hc dX9_firstUnreadable_41 rfl ?_
        refine zj_if_ne (pc := 42) (tgt := 47) hc dX9_firstUnreadable_42 (by decide) (fun hx4 => ?_) (fun hx4 => ?_)
        · have h := h.1 hx4
          refine zj_iload_n (pc := 47) hc dX9_firstUnreadable_47 rfl ?_
          refine zj_iload_n (pc := 48) hc dX9_firstUnreadable_48 rfl ?_
          refine zj_iadd (pc := 49) hc dX9_firstUnreadable_49 h.1 ?_
          have h := h.2
          refine zj_istore_n (pc := 50) hc dX9_firstUnreadable_50 (by decide) ?_
          refine zj_iinc (pc := 51) hc dX9_firstUnreadable_51 rfl (by decide) h.1 ?_
          have h := h.2
          refine zj_goto (pc := 54) (tgt := 13) hc dX9_firstUnreadable_54 (by decide) ?_
          refine zj_mask (bs := [true, true, true, false]) ?_
          exact hX13 (v1 + y3) (v2 + 1) h
        · have h := h.2 hx4
          refine zj_iload_n (pc := 45) hc dX9_firstUnreadable_45 rfl ?_
          exact zj_iret (pc := 46) hc hr hlk dX9_firstUnreadable_46 (by decide) (by decide) ⟨rfl, h⟩
  unfold T_X9_firstUnreadable at h
  refine zj_aload_n (pc := 0) hc dX9_firstUnreadable_0 rfl ?_
  refine zg_0_3 (pc := 1) hc lk_X9_19 dX9_firstUnreadable_1 ?_
  refine zj_if_ne (pc := 4) (tgt := 9) hc dX9_firstUnreadable_4 (by decide) (fun hx5 => ?_) (fun hx5 => ?_)
  · have h := h.1 hx5
    refine zj_iconst (pc := 9) hc dX9_firstUnreadable_9 (zin _ rfl) ?_
    refine zj_istore_n (pc := 10) hc dX9_firstUnreadable_10 (by decide) ?_
    refine zj_iconst (pc := 11) hc dX9_firstUnreadable_11 (zin _ rfl) ?_
    refine zj_istore_n (pc := 12) hc dX9_firstUnreadable_12 (by decide) ?_
    exact k13 0 0 h
  · have h := h.2 hx5
    refine zj_iconst (pc := 7) hc dX9_firstUnreadable_7 (zin _ rfl) ?_
    exact zj_iret (pc := 8) hc hr hlk dX9_firstUnreadable_8 (by decide) (by decide) ⟨rfl, h⟩
set_option maxHeartbeats 4000000 in
set_option maxRecDepth 100000 in
theorem S_X9_rehearse (l : Launch) (G : zG) (M : zMem) (Qr : Int → zMem → Prop) (h : T_X9_rehearse Qr M) : zMetI l yX9_rehearse cX9_rehearse 4 (some .int) 6 164 0 0 G [.inr 63] M Qr := by
  refine zmetI (by decide) (Nat.le_of_ble_eq_true rfl) [some (.inr 63), none, none, none] rfl ?_
  intro p e s m args below meth c hc hr hlk
  have k45 : ∀ (M : zMem) (v1 : Int) (v2 : Int), T_X9_rehearse_45 Qr v1 v2 M → zJ p l e (zRoom 6 164 0 0) s m args below meth c G 4 0 0 (MQ below (zQi G (Qr)) args s 0 0 (zA G)) 45 [some (.inr 63), some (.inl v1), some (.inl v2), none] [] M := by
    intro M v1 v2 h
    unfold T_X9_rehearse_45 at h
    refine zl2_use h (fun v1 v2 M => zJ p l e (zRoom 6 164 0 0) s m args below meth c G 4 0 0 (MQ below (zQi G (Qr)) args s 0 0 (zA G)) 45 [some (.inr 63), some (.inl v1), some (.inl v2), none] [] M) (fun X45 hX45 v1 v2 M h => ?_)
    refine zj_iload_n (pc := 45) hc dX9_rehearse_45 rfl ?_
    refine zj_sipush (pc := 46) hc dX9_rehearse_46 (by decide) (zin _ rfl) ?_
    refine zj_icmp_ge (pc := 49) (tgt := 102) hc dX9_rehearse_49 (by decide) (fun hx1 => ?_) (fun hx1 => ?_)
    · have h := h.1 hx1
      refine zj_aload_n (pc := 102) hc dX9_rehearse_102 rfl ?_
      refine zg_0_10 (pc := 103) hc lk_X9_50 dX9_rehearse_103 ?_
      refine zj_aload_n (pc := 106) hc dX9_rehearse_106 rfl ?_
      refine zg_0_9 (pc := 107) hc lk_X9_43 dX9_rehearse_107 ?_
      refine zg_1_0 (pc := 110) hc lk_X9_149 dX9_rehearse_110 ?_
      refine zj_vtv (pc := 113) (st := []) hc ks_X1_markDifferent iv_X1_markDifferent lk_X9_317 (zrv_2 G M) (S_X1_markDifferent l G 64 M _ h) rfl ⟨Nat.le_of_ble_eq_true rfl, Nat.le_of_ble_eq_true rfl⟩ (Nat.le_of_ble_eq_true rfl) ⟨Nat.le_of_ble_eq_true rfl, Nat.le_of_ble_eq_true rfl⟩ dX9_rehearse_113 rfl (fun M2 h => ?_)
      refine zj_iload_n (pc := 116) hc dX9_rehearse_116 rfl ?_
      exact zj_iret (pc := 117) hc hr hlk dX9_rehearse_117 (by decide) (by decide) h
    · have h := h.2 hx1
      refine zj_iload_n (pc := 52) hc dX9_rehearse_52 rfl ?_
      refine zj_aload_n (pc := 53) hc dX9_rehearse_53 rfl ?_
      refine zg_0_3 (pc := 54) hc lk_X9_19 dX9_rehearse_54 ?_
      refine zj_icmp_ge (pc := 57) (tgt := 102) hc dX9_rehearse_57 (by decide) (fun hx3 => ?_) (fun hx3 => ?_)
      · have h := h.1 hx3
        refine zj_aload_n (pc := 102) hc dX9_rehearse_102 rfl ?_
        refine zg_0_10 (pc := 103) hc lk_X9_50 dX9_rehearse_103 ?_
        refine zj_aload_n (pc := 106) hc dX9_rehearse_106 rfl ?_
        refine zg_0_9 (pc := 107) hc lk_X9_43 dX9_rehearse_107 ?_
        refine zg_1_0 (pc := 110) hc lk_X9_149 dX9_rehearse_110 ?_
        refine zj_vtv (pc := 113) (st := []) hc ks_X1_markDifferent iv_X1_markDifferent lk_X9_317 (zrv_2 G M) (S_X1_markDifferent l G 64 M _ h) rfl ⟨Nat.le_of_ble_eq_true rfl, Nat.le_of_ble_eq_true rfl⟩ (Nat.le_of_ble_eq_true rfl) ⟨Nat.le_of_ble_eq_true rfl, Nat.le_of_ble_eq_true rfl⟩ dX9_rehearse_113 rfl (fun M4 h => ?_)
        refine zj_iload_n (pc := 116) hc dX9_rehearse_116 rfl ?_
        exact zj_iret (pc := 117) hc hr hlk dX9_rehearse_117 (by decide) (by decide) h
      · have h := h.2 hx3
        refine zj_aload_n (pc := 60) hc dX9_rehearse_60 rfl ?_
        refine zg_0_10 (pc := 61) hc lk_X9_50 dX9_rehearse_61 ?_
        refine zj_aload_n (pc := 64) hc dX9_rehearse_64 rfl ?_
        refine zg_0_2 (pc := 65) hc lk_X9_16 dX9_rehearse_65 ?_
        refine zj_iload_n (pc := 68) hc dX9_rehearse_68 rfl ?_
        refine zj_vti (pc := 69) (st := []) hc ks_X1_edit iv_X1_edit lk_X9_288 (zrv_2 G M) (S_X1_edit l G 2 v1 M _ h) rfl ⟨Nat.le_of_ble_eq_true rfl, Nat.le_of_ble_eq_true rfl⟩ (Nat.le_of_ble_eq_true rfl) ⟨Nat.le_of_ble_eq_true rfl, Nat.le_of_ble_eq_true rfl⟩ dX9_rehearse_69 rfl (fun y5 M6 h => ?_)
        refine zj_istore_n (pc := 72) hc dX9_rehearse_72 (by decide) ?_
        refine zj_iload_n (pc := 73) hc dX9_rehearse_73 rfl ?_
        refine zj_if_ge (pc := 74) (tgt := 84) hc dX9_rehearse_74 (by decide) (fun hx7 => ?_) (fun hx7 => ?_)
        · have h := h.1 hx7
          refine zj_iload_n (pc := 84) hc dX9_rehearse_84 rfl ?_
          refine zj_aload_n (pc := 85) hc dX9_rehearse_85 rfl ?_
          refine zg_0_2 (pc := 86) hc lk_X9_16 dX9_rehearse_86 ?_
          refine zj_iload_n (pc := 89) hc dX9_rehearse_89 rfl ?_
          refine zj_iald (pc := 90) hc dX9_rehearse_90 alen_2 h.1 ?_
          have h := h.2
          refine zj_sti (pc := 91) (st := [.inl v1]) hc ks_X2_sizeBy st_X2_sizeBy lk_X9_255 (S_X2_sizeBy l G (M6.2 2 v1) M6 _ h) rfl ⟨Nat.le_of_ble_eq_true rfl, Nat.le_of_ble_eq_true rfl⟩ (Nat.le_of_ble_eq_true rfl) ⟨Nat.le_of_ble_eq_true rfl, Nat.le_of_ble_eq_true rfl⟩ dX9_rehearse_91 rfl (fun y8 M9 h => ?_)
          obtain ⟨hM9, h⟩ := h
          subst hM9
          refine zj_iadd (pc := 94) hc dX9_rehearse_94 h.1 ?_
          have h := h.2
          refine zj_istore_n (pc := 95) hc dX9_rehearse_95 (by decide) ?_
          refine zj_iinc (pc := 96) hc dX9_rehearse_96 rfl (by decide) h.1 ?_
          have h := h.2
          refine zj_goto (pc := 99) (tgt := 45) hc dX9_rehearse_99 (by decide) ?_
          refine zj_mask (bs := [true, true, true, false]) ?_
          exact hX45 (v1 + y8) (v2 + 1) M6 h
        · have h := h.2 hx7
          refine zj_aload_n (pc := 77) hc dX9_rehearse_77 rfl ?_
          refine zj_iload_n (pc := 78) hc dX9_rehearse_78 rfl ?_
          refine zs_0_8 (pc := 79) hc lk_X9_37 dX9_rehearse_79 (fun M9 hM9 => ?_)
          have h := h M9 hM9
          refine zj_iload_n (pc := 82) hc dX9_rehearse_82 rfl ?_
          exact zj_iret (pc := 83) hc hr hlk dX9_rehearse_83 (by decide) (by decide) h
  unfold T_X9_rehearse at h
  refine zj_aload_n (pc := 0) hc dX9_rehearse_0 rfl ?_
  refine zj_aload_n (pc := 1) hc dX9_rehearse_1 rfl ?_
  refine zj_vti (pc := 2) (st := [.inr 63]) hc ks_X9_firstUnreadable iv_X9_firstUnreadable lk_X9_314 (zrv_0 G M) (S_X9_firstUnreadable l G M _ h) rfl ⟨Nat.le_of_ble_eq_true rfl, Nat.le_of_ble_eq_true rfl⟩ (Nat.le_of_ble_eq_true rfl) ⟨Nat.le_of_ble_eq_true rfl, Nat.le_of_ble_eq_true rfl⟩ dX9_rehearse_2 rfl (fun y10 M9 h => ?_)
  obtain ⟨hM9, h⟩ := h
  subst hM9
  refine zs_0_8 (pc := 5) hc lk_X9_37 dX9_rehearse_5 (fun M11 hM11 => ?_)
  have h := h M11 hM11
  refine zj_aload_n (pc := 8) hc dX9_rehearse_8 rfl ?_
  refine zg_0_8 (pc := 9) hc lk_X9_37 dX9_rehearse_9 ?_
  refine zj_iconst (pc := 12) hc dX9_rehearse_12 (zin _ rfl) ?_
  refine zj_icmp_eq (pc := 13) (tgt := 19) hc dX9_rehearse_13 (by decide) (fun hx12 => ?_) (fun hx12 => ?_)
  · have h := h.1 hx12
    refine zj_aload_n (pc := 19) hc dX9_rehearse_19 rfl ?_
    refine zg_0_10 (pc := 20) hc lk_X9_50 dX9_rehearse_20 ?_
    refine zj_aload_n (pc := 23) hc dX9_rehearse_23 rfl ?_
    refine zg_0_9 (pc := 24) hc lk_X9_43 dX9_rehearse_24 ?_
    refine zg_1_0 (pc := 27) hc lk_X9_149 dX9_rehearse_27 ?_
    refine zj_aload_n (pc := 30) hc dX9_rehearse_30 rfl ?_
    refine zg_0_1 (pc := 31) hc lk_X9_13 dX9_rehearse_31 ?_
    refine zj_aload_n (pc := 34) hc dX9_rehearse_34 rfl ?_
    refine zg_0_0 (pc := 35) hc lk_X9_9 dX9_rehearse_35 ?_
    refine zj_vtv (pc := 38) (st := []) hc ks_X1_begin iv_X1_begin lk_X9_152 (zrv_2 G M11) (S_X1_begin l G 64 1 0 M11 _ h) rfl ⟨Nat.le_of_ble_eq_true rfl, Nat.le_of_ble_eq_true rfl⟩ (Nat.le_of_ble_eq_true rfl) ⟨Nat.le_of_ble_eq_true rfl, Nat.le_of_ble_eq_true rfl⟩ dX9_rehearse_38 rfl (fun M13 h => ?_)
    refine zj_iconst (pc := 41) hc dX9_rehearse_41 (zin _ rfl) ?_
    refine zj_istore_n (pc := 42) hc dX9_rehearse_42 (by decide) ?_
    refine zj_iconst (pc := 43) hc dX9_rehearse_43 (zin _ rfl) ?_
    refine zj_istore_n (pc := 44) hc dX9_rehearse_44 (by decide) ?_
    exact k45 M13 0 0 h
  · have h := h.2 hx12
    refine zj_bipush (pc := 16) hc dX9_rehearse_16 (by decide) (zin _ rfl) ?_
    exact zj_iret (pc := 18) hc hr hlk dX9_rehearse_18 (by decide) (by decide) h
set_option maxHeartbeats 4000000 in
set_option maxRecDepth 100000 in
theorem S_X9_group (l : Launch) (G : zG) (M : zMem) (Qr : Int → zMem → Prop) (h : T_X9_group Qr M) : zMetI l yX9_group cX9_group 2 (some .int) 7 187 3 1342 G [.inr 63] M Qr := by
  refine zmetI (by decide) (Nat.le_of_ble_eq_true rfl) [some (.inr 63), none] rfl ?_
  intro p e s m args below meth c hc hr hlk
  unfold T_X9_group at h
  refine zj_aload_n (pc := 0) hc dX9_group_0 rfl ?_
  refine zg_0_9 (pc := 1) hc lk_X9_43 dX9_group_1 ?_
  refine zg_1_2 (pc := 4) hc lk_X9_138 dX9_group_4 ?_
  refine zj_if_eq (pc := 7) (tgt := 17) hc dX9_group_7 (by decide) (fun hx1 => ?_) (fun hx1 => ?_)
  · have h := h.1 hx1
    refine zj_aload_n (pc := 17) hc dX9_group_17 rfl ?_
    refine zj_vti (pc := 18) (st := []) hc ks_X9_rehearse iv_X9_rehearse lk_X9_142 (zrv_0 G M) (S_X9_rehearse l G M _ h) rfl ⟨Nat.le_of_ble_eq_true rfl, Nat.le_of_ble_eq_true rfl⟩ (Nat.le_of_ble_eq_true rfl) ⟨Nat.le_of_ble_eq_true rfl, Nat.le_of_ble_eq_true rfl⟩ dX9_group_18 rfl (fun y2 M3 h => ?_)
    refine zj_istore_n (pc := 21) hc dX9_group_21 (by decide) ?_
    refine zj_aload_n (pc := 22) hc dX9_group_22 rfl ?_
    refine zj_aload_n (pc := 23) hc dX9_group_23 rfl ?_
    refine zg_0_8 (pc := 24) hc lk_X9_37 dX9_group_24 ?_
    refine zs_0_7 (pc := 27) hc lk_X9_34 dX9_group_27 (fun M4 hM4 => ?_)
    have h := h M4 hM4
    refine zj_aload_n (pc := 30) hc dX9_group_30 rfl ?_
    refine zj_iconst (pc := 31) hc dX9_group_31 (zin _ rfl) ?_
    refine zs_0_3 (pc := 32) hc lk_X9_19 dX9_group_32 (fun M5 hM5 => ?_)
    have h := h M5 hM5
    refine zj_iload_n (pc := 35) hc dX9_group_35 rfl ?_
    refine zj_if_ge (pc := 36) (tgt := 47) hc dX9_group_36 (by decide) (fun hx6 => ?_) (fun hx6 => ?_)
    · have h := h.1 hx6
      refine zj_aload_n (pc := 47) hc dX9_group_47 rfl ?_
      refine zj_iconst (pc := 48) hc dX9_group_48 (zin _ rfl) ?_
      refine zj_iload_n (pc := 49) hc dX9_group_49 rfl ?_
      refine zj_vti (pc := 50) (st := []) hc ks_X9_carryOut iv_X9_carryOut lk_X9_146 (zrv_0 G M5) (S_X9_carryOut l G 4 y2 M5 _ h) rfl ⟨Nat.le_of_ble_eq_true rfl, Nat.le_of_ble_eq_true rfl⟩ (Nat.le_of_ble_eq_true rfl) ⟨Nat.le_of_ble_eq_true rfl, Nat.le_of_ble_eq_true rfl⟩ dX9_group_50 rfl (fun y7 M8 h => ?_)
      exact zj_iret (pc := 53) hc hr hlk dX9_group_53 (by decide) (by decide) h
    · have h := h.2 hx6
      refine zj_aload_n (pc := 39) hc dX9_group_39 rfl ?_
      refine zj_iload_n (pc := 40) hc dX9_group_40 rfl ?_
      refine zj_vti (pc := 41) (st := []) hc ks_X9_refuse iv_X9_refuse lk_X9_81 (zrv_0 G M5) (S_X9_refuse l G y2 M5 _ h) rfl ⟨Nat.le_of_ble_eq_true rfl, Nat.le_of_ble_eq_true rfl⟩ (Nat.le_of_ble_eq_true rfl) ⟨Nat.le_of_ble_eq_true rfl, Nat.le_of_ble_eq_true rfl⟩ dX9_group_41 rfl (fun y9 M10 h => ?_)
      refine zj_goto (pc := 44) (tgt := 53) hc dX9_group_44 (by decide) ?_
      exact zj_iret (pc := 53) hc hr hlk dX9_group_53 (by decide) (by decide) h
  · have h := h.2 hx1
    refine zj_aload_n (pc := 10) hc dX9_group_10 rfl ?_
    refine zj_bipush (pc := 11) hc dX9_group_11 (by decide) (zin _ rfl) ?_
    refine zj_vti (pc := 13) (st := []) hc ks_X9_refuse iv_X9_refuse lk_X9_81 (zrv_0 G M) (S_X9_refuse l G (-3) M _ h) rfl ⟨Nat.le_of_ble_eq_true rfl, Nat.le_of_ble_eq_true rfl⟩ (Nat.le_of_ble_eq_true rfl) ⟨Nat.le_of_ble_eq_true rfl, Nat.le_of_ble_eq_true rfl⟩ dX9_group_13 rfl (fun y11 M12 h => ?_)
    exact zj_iret (pc := 16) hc hr hlk dX9_group_16 (by decide) (by decide) h
