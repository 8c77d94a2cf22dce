set_option maxHeartbeats 4000000 in
set_option maxRecDepth 100000 in
theorem S_X10_laysAll (l : Launch) (G : zG) (r1 : Nat) (M : zMem) (Qr : zMem → Prop) (h : T_X10_laysAll r1 Qr M) : zMetV l yX10_laysAll cX10_laysAll 3 none 4 102 0 0 G [.inr 639, .inr r1] M Qr := by
  refine zmetV (by decide) (Nat.le_of_ble_eq_true rfl) [some (.inr 639), some (.inr r1), none] rfl ?_
  intro p e s m args below meth c hc hr hlk
  have k6 : ∀ (M : zMem) (r1 : Nat) (v2 : Int), T_X10_laysAll_6 r1 Qr v2 M → zJ p l e (zRoom 4 102 0 0) s m args below meth c G 3 0 0 (MQ below (zQv G (Qr)) args s 0 0 (zA G)) 6 [some (.inr 639), some (.inr r1), some (.inl v2)] [] M := by
    intro M r1 v2 h
    unfold T_X10_laysAll_6 at h
    refine zl1_use h (fun v2 M => zJ p l e (zRoom 4 102 0 0) s m args below meth c G 3 0 0 (MQ below (zQv G (Qr)) args s 0 0 (zA G)) 6 [some (.inr 639), some (.inr r1), some (.inl v2)] [] M) (fun X6 hX6 v2 M h => ?_)
    refine zj_iload_n (pc := 6) hc dX10_laysAll_6 rfl ?_
    refine zj_aload_n (pc := 7) hc dX10_laysAll_7 rfl ?_
    refine zj_sti (pc := 8) (st := [.inl v2]) hc ks_X10_pagesOf st_X10_pagesOf lk_X10_151 (S_X10_pagesOf l G r1 M _ h) rfl ⟨Nat.le_of_ble_eq_true rfl, Nat.le_of_ble_eq_true rfl⟩ (Nat.le_of_ble_eq_true rfl) ⟨Nat.le_of_ble_eq_true rfl, Nat.le_of_ble_eq_true rfl⟩ dX10_laysAll_8 rfl (fun y1 M9 h => ?_)
    obtain ⟨hM9, h⟩ := h
    subst hM9
    refine zj_icmp_ge (pc := 11) (tgt := 32) hc dX10_laysAll_11 (by decide) (fun hx2 => ?_) (fun hx2 => ?_)
    · have h := h.1 hx2
      exact zj_vret (pc := 32) hc hr hlk dX10_laysAll_32 (by decide) (by decide) h
    · have h := h.2 hx2
      refine zj_aload_n (pc := 14) hc dX10_laysAll_14 rfl ?_
      refine zj_aload_n (pc := 15) hc dX10_laysAll_15 rfl ?_
      refine zj_aload_n (pc := 16) hc dX10_laysAll_16 rfl ?_
      refine zj_iload_n (pc := 17) hc dX10_laysAll_17 rfl ?_
      refine zj_sti (pc := 18) (st := [.inr r1, .inr 639]) hc ks_X10_numberOf st_X10_numberOf lk_X10_183 (S_X10_numberOf l G r1 v2 M _ h) rfl ⟨Nat.le_of_ble_eq_true rfl, Nat.le_of_ble_eq_true rfl⟩ (Nat.le_of_ble_eq_true rfl) ⟨Nat.le_of_ble_eq_true rfl, Nat.le_of_ble_eq_true rfl⟩ dX10_laysAll_18 rfl (fun y3 M9 h => ?_)
      obtain ⟨hM9, h⟩ := h
      subst hM9
      refine zj_bipush (pc := 21) hc dX10_laysAll_21 (by decide) (zin _ rfl) ?_
      refine zj_vtv (pc := 23) (st := []) hc ks_X10_lays iv_X10_lays lk_X10_179 (zrv_9 G M) (S_X10_lays l G r1 y3 64 M _ h) rfl ⟨Nat.le_of_ble_eq_true rfl, Nat.le_of_ble_eq_true rfl⟩ (Nat.le_of_ble_eq_true rfl) ⟨Nat.le_of_ble_eq_true rfl, Nat.le_of_ble_eq_true rfl⟩ dX10_laysAll_23 rfl (fun M4 h => ?_)
      refine zj_iinc (pc := 26) hc dX10_laysAll_26 rfl (by decide) h.1 ?_
      have h := h.2
      refine zj_goto (pc := 29) (tgt := 6) hc dX10_laysAll_29 (by decide) ?_
      exact hX6 (v2 + 1) M4 h
  unfold T_X10_laysAll at h
  refine zj_aload_n (pc := 0) hc dX10_laysAll_0 rfl ?_
  refine zj_vtv (pc := 1) (st := []) hc ks_X10_clears iv_X10_clears lk_X10_176 (zrv_9 G M) (S_X10_clears l G M _ h) rfl ⟨Nat.le_of_ble_eq_true rfl, Nat.le_of_ble_eq_true rfl⟩ (Nat.le_of_ble_eq_true rfl) ⟨Nat.le_of_ble_eq_true rfl, Nat.le_of_ble_eq_true rfl⟩ dX10_laysAll_1 rfl (fun M5 h => ?_)
  refine zj_iconst (pc := 4) hc dX10_laysAll_4 (zin _ rfl) ?_
  refine zj_istore_n (pc := 5) hc dX10_laysAll_5 (by decide) ?_
  exact k6 M5 r1 0 h
set_option maxHeartbeats 4000000 in
set_option maxRecDepth 100000 in
theorem S_X10_full (l : Launch) (G : zG) (M : zMem) (Qr : Int → Prop) (h : T_X10_full Qr M) : zMetI l yX10_full cX10_full 1 (some .int) 0 0 0 0 G [.inr 639] M (fun r9 M9 => M = M9 ∧ Qr r9) := by
  refine zmetI (by decide) (Nat.le_of_ble_eq_true rfl) [some (.inr 639)] rfl ?_
  intro p e s m args below meth c hc hr hlk
  unfold T_X10_full at h
  refine zj_bipush (pc := 0) hc dX10_full_0 (by decide) (zin _ rfl) ?_
  refine zj_aload_n (pc := 2) hc dX10_full_2 rfl ?_
  refine zg_9_7 (pc := 3) hc lk_X10_25 dX10_full_3 ?_
  refine zj_sipush (pc := 6) hc dX10_full_6 (by decide) (zin _ rfl) ?_
  refine zj_iald (pc := 9) hc dX10_full_9 alen_583 h.1 ?_
  have h := h.2
  refine zj_isub (pc := 10) hc dX10_full_10 h.1 ?_
  have h := h.2
  exact zj_iret (pc := 11) hc hr hlk dX10_full_11 (by decide) (by decide) ⟨rfl, h⟩
set_option maxHeartbeats 4000000 in
set_option maxRecDepth 100000 in
theorem S_X10_keysFrom (l : Launch) (G : zG) (v1 : Int) (v2 : Int) (M : zMem) (Qr : Int → Prop) (h : T_X10_keysFrom v1 v2 Qr M) : zMetI l yX10_keysFrom cX10_keysFrom 5 (some .int) 0 0 0 0 G [.inr 639, .inl v1, .inl v2] M (fun r9 M9 => M = M9 ∧ Qr r9) := by
  refine zmetI (by decide) (Nat.le_of_ble_eq_true rfl) [some (.inr 639), some (.inl v1), some (.inl v2), none, none] rfl ?_
  intro p e s m args below meth c hc hr hlk
  have k28 : ∀ (v2 : Int) (v4 : Int) (s0 : Int) (s1 : Int) (X5 : Int → Int → Prop) (hX5 : ∀ (v3 : Int) (v4 : Int), X5 v3 v4 → zJ p l e (zRoom 0 0 0 0) s m args below meth c G 5 0 0 (MQ below (zQi G (fun r9 M9 => M = M9 ∧ Qr r9)) args s 0 0 (zA G)) 5 [some (.inr 639), none, some (.inl v2), some (.inl v3), some (.inl v4)] [] M), T_X10_keysFrom_28 v2 v4 s0 s1 X5 Qr M → zJ p l e (zRoom 0 0 0 0) s m args below meth c G 5 0 0 (MQ below (zQi G (fun r9 M9 => M = M9 ∧ Qr r9)) args s 0 0 (zA G)) 28 [some (.inr 639), none, some (.inl v2), none, some (.inl v4)] [.inl s1, .inl s0] M := by
    intro v2 v4 s0 s1 X5 hX5 h
    unfold T_X10_keysFrom_28 at h
    refine zj_iadd (pc := 28) hc dX10_keysFrom_28 h.1 ?_
    have h := h.2
    refine zj_istore_n (pc := 29) hc dX10_keysFrom_29 (by decide) ?_
    refine zj_iinc (pc := 30) hc dX10_keysFrom_30 rfl (by decide) h.1 ?_
    have h := h.2
    refine zj_goto (pc := 33) (tgt := 5) hc dX10_keysFrom_33 (by decide) ?_
    exact hX5 (s0 + s1) (v4 + 1) h
  have k5 : ∀ (v2 : Int) (v3 : Int) (v4 : Int), T_X10_keysFrom_5 v2 Qr v3 v4 M → zJ p l e (zRoom 0 0 0 0) s m args below meth c G 5 0 0 (MQ below (zQi G (fun r9 M9 => M = M9 ∧ Qr r9)) args s 0 0 (zA G)) 5 [some (.inr 639), none, some (.inl v2), some (.inl v3), some (.inl v4)] [] M := by
    intro v2 v3 v4 h
    unfold T_X10_keysFrom_5 at h
    refine zp2_use h (fun v3 v4 => zJ p l e (zRoom 0 0 0 0) s m args below meth c G 5 0 0 (MQ below (zQi G (fun r9 M9 => M = M9 ∧ Qr r9)) args s 0 0 (zA G)) 5 [some (.inr 639), none, some (.inl v2), some (.inl v3), some (.inl v4)] [] M) (fun X5 hX5 v3 v4 h => ?_)
    refine zj_iload (pc := 5) hc dX10_keysFrom_5 rfl ?_
    refine zj_iload_n (pc := 7) hc dX10_keysFrom_7 rfl ?_
    refine zj_icmp_gt (pc := 8) (tgt := 36) hc dX10_keysFrom_8 (by decide) (fun hx1 => ?_) (fun hx1 => ?_)
    · have h := h.1 hx1
      refine zj_iload_n (pc := 36) hc dX10_keysFrom_36 rfl ?_
      exact zj_iret (pc := 37) hc hr hlk dX10_keysFrom_37 (by decide) (by decide) ⟨rfl, h⟩
    · have h := h.2 hx1
      refine zj_iload_n (pc := 11) hc dX10_keysFrom_11 rfl ?_
      refine zj_aload_n (pc := 12) hc dX10_keysFrom_12 rfl ?_
      refine zg_9_20 (pc := 13) hc lk_X10_47 dX10_keysFrom_13 ?_
      refine zj_iload (pc := 16) hc dX10_keysFrom_16 rfl ?_
      refine zj_iald (pc := 18) hc dX10_keysFrom_18 alen_596 h.1 ?_
      have h := h.2
      refine zj_iconst (pc := 19) hc dX10_keysFrom_19 (zin _ rfl) ?_
      refine zj_icmp_ne (pc := 20) (tgt := 27) hc dX10_keysFrom_20 (by decide) (fun hx2 => ?_) (fun hx2 => ?_)
      · have h := h.1 hx2
        refine zj_iconst (pc := 27) hc dX10_keysFrom_27 (zin _ rfl) ?_
        refine zj_mask (bs := [true, true, true, false, true]) ?_
        exact k28 v2 v4 v3 1 X5 hX5 h
      · have h := h.2 hx2
        refine zj_iconst (pc := 23) hc dX10_keysFrom_23 (zin _ rfl) ?_
        refine zj_goto (pc := 24) (tgt := 28) hc dX10_keysFrom_24 (by decide) ?_
        refine zj_mask (bs := [true, true, true, false, true]) ?_
        exact k28 v2 v4 v3 0 X5 hX5 h
  unfold T_X10_keysFrom at h
  refine zj_iconst (pc := 0) hc dX10_keysFrom_0 (zin _ rfl) ?_
  refine zj_istore_n (pc := 1) hc dX10_keysFrom_1 (by decide) ?_
  refine zj_iload_n (pc := 2) hc dX10_keysFrom_2 rfl ?_
  refine zj_istore (pc := 3) hc dX10_keysFrom_3 (by decide) ?_
  refine zj_mask (bs := [true, false, true, true, true]) ?_
  exact k5 v2 0 v1 h
set_option maxHeartbeats 4000000 in
set_option maxRecDepth 100000 in
theorem S_X10_fits (l : Launch) (G : zG) (v1 : Int) (v2 : Int) (M : zMem) (Qr : Int → zMem → Prop) (h : T_X10_fits v1 v2 Qr M) : zMetI l yX10_fits cX10_fits 4 (some .boolean) 4 97 0 0 G [.inr 639, .inl v1, .inl v2] M Qr := by
  refine zmetI (by decide) (Nat.le_of_ble_eq_true rfl) [some (.inr 639), some (.inl v1), some (.inl v2), none] rfl ?_
  intro p e s m args below meth c hc hr hlk
  unfold T_X10_fits at h
  refine zj_aload_n (pc := 0) hc dX10_fits_0 rfl ?_
  refine zj_iload_n (pc := 1) hc dX10_fits_1 rfl ?_
  refine zj_iload_n (pc := 2) hc dX10_fits_2 rfl ?_
  refine zj_vti (pc := 3) (st := []) hc ks_X10_keysFrom iv_X10_keysFrom lk_X10_186 (zrv_9 G M) (S_X10_keysFrom l G v1 v2 M _ h) rfl ⟨Nat.le_of_ble_eq_true rfl, Nat.le_of_ble_eq_true rfl⟩ (Nat.le_of_ble_eq_true rfl) ⟨Nat.le_of_ble_eq_true rfl, Nat.le_of_ble_eq_true rfl⟩ dX10_fits_3 rfl (fun y1 M9 h => ?_)
  obtain ⟨hM9, h⟩ := h
  subst hM9
  refine zj_iconst (pc := 6) hc dX10_fits_6 (zin _ rfl) ?_
  refine zj_icmp_ge (pc := 7) (tgt := 12) hc dX10_fits_7 (by decide) (fun hx2 => ?_) (fun hx2 => ?_)
  · have h := h.1 hx2
    refine zj_aload_n (pc := 12) hc dX10_fits_12 rfl ?_
    refine zj_iload_n (pc := 13) hc dX10_fits_13 rfl ?_
    refine zj_iload_n (pc := 14) hc dX10_fits_14 rfl ?_
    refine zj_vtv (pc := 15) (st := []) hc ks_X10_laysPlain iv_X10_laysPlain lk_X10_189 (zrv_9 G M) (S_X10_laysPlain l G v1 v2 M _ h) rfl ⟨Nat.le_of_ble_eq_true rfl, Nat.le_of_ble_eq_true rfl⟩ (Nat.le_of_ble_eq_true rfl) ⟨Nat.le_of_ble_eq_true rfl, Nat.le_of_ble_eq_true rfl⟩ dX10_fits_15 rfl (fun M3 h => ?_)
    refine zj_aload_n (pc := 18) hc dX10_fits_18 rfl ?_
    refine zj_vti (pc := 19) (st := []) hc ks_X10_shapeOf iv_X10_shapeOf lk_X10_140 (zrv_9 G M3) (S_X10_shapeOf l G M3 _ h) rfl ⟨Nat.le_of_ble_eq_true rfl, Nat.le_of_ble_eq_true rfl⟩ (Nat.le_of_ble_eq_true rfl) ⟨Nat.le_of_ble_eq_true rfl, Nat.le_of_ble_eq_true rfl⟩ dX10_fits_19 rfl (fun y4 M5 h => ?_)
    refine zj_istore_n (pc := 22) hc dX10_fits_22 (by decide) ?_
    refine zj_iconst (pc := 23) hc dX10_fits_23 (zin _ rfl) ?_
    refine zj_aload_n (pc := 24) hc dX10_fits_24 rfl ?_
    refine zg_9_18 (pc := 25) hc lk_X10_110 dX10_fits_25 ?_
    refine zj_iadd (pc := 28) hc dX10_fits_28 h.1 ?_
    have h := h.2
    refine zj_aload_n (pc := 29) hc dX10_fits_29 rfl ?_
    refine zg_9_3 (pc := 30) hc lk_X10_13 dX10_fits_30 ?_
    refine zj_iconst (pc := 33) hc dX10_fits_33 (zin _ rfl) ?_
    refine zj_iald (pc := 34) hc dX10_fits_34 alen_579 h.1 ?_
    have h := h.2
    refine zj_iadd (pc := 35) hc dX10_fits_35 h.1 ?_
    have h := h.2
    refine zj_bipush (pc := 36) hc dX10_fits_36 (by decide) (zin _ rfl) ?_
    refine zj_icmp_gt (pc := 38) (tgt := 45) hc dX10_fits_38 (by decide) (fun hx6 => ?_) (fun hx6 => ?_)
    · have h := h.1 hx6
      refine zj_iconst (pc := 45) hc dX10_fits_45 (zin _ rfl) ?_
      exact zj_zret (pc := 46) hc hr hlk dX10_fits_46 (by decide) (by decide) (Or.inl rfl) h
    · have h := h.2 hx6
      refine zj_iconst (pc := 41) hc dX10_fits_41 (zin _ rfl) ?_
      refine zj_goto (pc := 42) (tgt := 46) hc dX10_fits_42 (by decide) ?_
      exact zj_zret (pc := 46) hc hr hlk dX10_fits_46 (by decide) (by decide) (Or.inr rfl) h
  · have h := h.2 hx2
    refine zj_iconst (pc := 10) hc dX10_fits_10 (zin _ rfl) ?_
    exact zj_zret (pc := 11) hc hr hlk dX10_fits_11 (by decide) (by decide) (Or.inr rfl) h
set_option maxHeartbeats 4000000 in
set_option maxRecDepth 100000 in
theorem S_X10_learns (l : Launch) (G : zG) (v1 : Int) (M : zMem) (Qr : zMem → Prop) (h : T_X10_learns v1 Qr M) : zMetV l yX10_learns cX10_learns 3 none 0 0 0 0 G [.inr 639, .inl v1] M Qr := by
  refine zmetV (by decide) (Nat.le_of_ble_eq_true rfl) [some (.inr 639), some (.inl v1), none] rfl ?_
  intro p e s m args below meth c hc hr hlk
  have k84 : ∀ (M : zMem) (s0 : Int), T_X10_learns_84 s0 Qr M → zJ p l e (zRoom 0 0 0 0) s m args below meth c G 3 0 0 (MQ below (zQv G (Qr)) args s 0 0 (zA G)) 84 [some (.inr 639), none, none] [.inl s0] M := by
    intro M s0 h
    unfold T_X10_learns_84 at h
    refine zj_istore_n (pc := 84) hc dX10_learns_84 (by decide) ?_
    refine zj_aload_n (pc := 85) hc dX10_learns_85 rfl ?_
    refine zg_9_7 (pc := 86) hc lk_X10_25 dX10_learns_86 ?_
    refine zj_sipush (pc := 89) hc dX10_learns_89 (by decide) (zin _ rfl) ?_
    refine zj_iconst (pc := 92) hc dX10_learns_92 (zin _ rfl) ?_
    refine zj_iast (pc := 93) hc dX10_learns_93 alen_583 h.1 (fun M1 hM1 => ?_)
    have h := h.2 M1 hM1
    refine zj_aload_n (pc := 94) hc dX10_learns_94 rfl ?_
    refine zg_9_7 (pc := 95) hc lk_X10_25 dX10_learns_95 ?_
    refine zj_sipush (pc := 98) hc dX10_learns_98 (by decide) (zin _ rfl) ?_
    refine zj_iconst (pc := 101) hc dX10_learns_101 (zin _ rfl) ?_
    refine zj_iast (pc := 102) hc dX10_learns_102 alen_583 h.1 (fun M2 hM2 => ?_)
    have h := h.2 M2 hM2
    refine zj_iload_n (pc := 103) hc dX10_learns_103 rfl ?_
    refine zj_if_eq (pc := 104) (tgt := 165) hc dX10_learns_104 (by decide) (fun hx3 => ?_) (fun hx3 => ?_)
    · have h := h.1 hx3
      refine zj_aload_n (pc := 165) hc dX10_learns_165 rfl ?_
      refine zg_9_7 (pc := 166) hc lk_X10_25 dX10_learns_166 ?_
      refine zj_sipush (pc := 169) hc dX10_learns_169 (by decide) (zin _ rfl) ?_
      refine zj_dup2 (pc := 172) hc dX10_learns_172 ?_
      refine zj_iald (pc := 173) hc dX10_learns_173 alen_583 h.1 ?_
      have h := h.2
      refine zj_iconst (pc := 174) hc dX10_learns_174 (zin _ rfl) ?_
      refine zj_iadd (pc := 175) hc dX10_learns_175 h.1 ?_
      have h := h.2
      refine zj_iast (pc := 176) hc dX10_learns_176 alen_583 h.1 (fun M4 hM4 => ?_)
      have h := h.2 M4 hM4
      refine zj_aload_n (pc := 177) hc dX10_learns_177 rfl ?_
      refine zg_9_7 (pc := 178) hc lk_X10_25 dX10_learns_178 ?_
      refine zj_sipush (pc := 181) hc dX10_learns_181 (by decide) (zin _ rfl) ?_
      refine zj_iald (pc := 184) hc dX10_learns_184 alen_583 h.1 ?_
      have h := h.2
      refine zj_iconst (pc := 185) hc dX10_learns_185 (zin _ rfl) ?_
      refine zj_icmp_ge (pc := 186) (tgt := 190) hc dX10_learns_186 (by decide) (fun hx5 => ?_) (fun hx5 => ?_)
      · have h := h.1 hx5
        refine zj_aload_n (pc := 190) hc dX10_learns_190 rfl ?_
        refine zg_9_7 (pc := 191) hc lk_X10_25 dX10_learns_191 ?_
        refine zj_sipush (pc := 194) hc dX10_learns_194 (by decide) (zin _ rfl) ?_
        refine zj_iconst (pc := 197) hc dX10_learns_197 (zin _ rfl) ?_
        refine zj_iast (pc := 198) hc dX10_learns_198 alen_583 h.1 (fun M6 hM6 => ?_)
        have h := h.2 M6 hM6
        refine zj_aload_n (pc := 199) hc dX10_learns_199 rfl ?_
        refine zg_9_7 (pc := 200) hc lk_X10_25 dX10_learns_200 ?_
        refine zj_sipush (pc := 203) hc dX10_learns_203 (by decide) (zin _ rfl) ?_
        refine zj_aload_n (pc := 206) hc dX10_learns_206 rfl ?_
        refine zg_9_7 (pc := 207) hc lk_X10_25 dX10_learns_207 ?_
        refine zj_sipush (pc := 210) hc dX10_learns_210 (by decide) (zin _ rfl) ?_
        refine zj_iald (pc := 213) hc dX10_learns_213 alen_583 h.1 ?_
        have h := h.2
        refine zj_aload_n (pc := 214) hc dX10_learns_214 rfl ?_
        refine zg_9_3 (pc := 215) hc lk_X10_13 dX10_learns_215 ?_
        refine zj_iconst (pc := 218) hc dX10_learns_218 (zin _ rfl) ?_
        refine zj_iald (pc := 219) hc dX10_learns_219 alen_579 h.1 ?_
        have h := h.2
        refine zj_icmp_ge (pc := 220) (tgt := 227) hc dX10_learns_220 (by decide) (fun hx7 => ?_) (fun hx7 => ?_)
        · have h := h.1 hx7
          refine zj_aload_n (pc := 227) hc dX10_learns_227 rfl ?_
          refine zg_9_7 (pc := 228) hc lk_X10_25 dX10_learns_228 ?_
          refine zj_sipush (pc := 231) hc dX10_learns_231 (by decide) (zin _ rfl) ?_
          refine zj_iald (pc := 234) hc dX10_learns_234 alen_583 h.1 ?_
          have h := h.2
          refine zj_aload_n (pc := 235) hc dX10_learns_235 rfl ?_
          refine zg_9_3 (pc := 236) hc lk_X10_13 dX10_learns_236 ?_
          refine zj_iconst (pc := 239) hc dX10_learns_239 (zin _ rfl) ?_
          refine zj_iald (pc := 240) hc dX10_learns_240 alen_579 h.1 ?_
          have h := h.2
          refine zj_isub (pc := 241) hc dX10_learns_241 h.1 ?_
          have h := h.2
          refine zj_iast (pc := 242) hc dX10_learns_242 alen_583 h.1 (fun M8 hM8 => ?_)
          have h := h.2 M8 hM8
          exact zj_vret (pc := 243) hc hr hlk dX10_learns_243 (by decide) (by decide) h
        · have h := h.2 hx7
          refine zj_iconst (pc := 223) hc dX10_learns_223 (zin _ rfl) ?_
          refine zj_goto (pc := 224) (tgt := 242) hc dX10_learns_224 (by decide) ?_
          refine zj_iast (pc := 242) hc dX10_learns_242 alen_583 h.1 (fun M9 hM9 => ?_)
          have h := h.2 M9 hM9
          exact zj_vret (pc := 243) hc hr hlk dX10_learns_243 (by decide) (by decide) h
      · have h := h.2 hx5
        exact zj_vret (pc := 189) hc hr hlk dX10_learns_189 (by decide) (by decide) h
    · have h := h.2 hx3
      refine zj_aload_n (pc := 107) hc dX10_learns_107 rfl ?_
      refine zg_9_7 (pc := 108) hc lk_X10_25 dX10_learns_108 ?_
      refine zj_sipush (pc := 111) hc dX10_learns_111 (by decide) (zin _ rfl) ?_
      refine zj_aload_n (pc := 114) hc dX10_learns_114 rfl ?_
      refine zg_9_7 (pc := 115) hc lk_X10_25 dX10_learns_115 ?_
      refine zj_sipush (pc := 118) hc dX10_learns_118 (by decide) (zin _ rfl) ?_
      refine zj_iald (pc := 121) hc dX10_learns_121 alen_583 h.1 ?_
      have h := h.2
      refine zj_aload_n (pc := 122) hc dX10_learns_122 rfl ?_
      refine zg_9_3 (pc := 123) hc lk_X10_13 dX10_learns_123 ?_
      refine zj_iconst (pc := 126) hc dX10_learns_126 (zin _ rfl) ?_
      refine zj_iald (pc := 127) hc dX10_learns_127 alen_579 h.1 ?_
      have h := h.2
      refine zj_iadd (pc := 128) hc dX10_learns_128 h.1 ?_
      have h := h.2
      refine zj_bipush (pc := 129) hc dX10_learns_129 (by decide) (zin _ rfl) ?_
      refine zj_icmp_le (pc := 131) (tgt := 139) hc dX10_learns_131 (by decide) (fun hx10 => ?_) (fun hx10 => ?_)
      · have h := h.1 hx10
        refine zj_aload_n (pc := 139) hc dX10_learns_139 rfl ?_
        refine zg_9_7 (pc := 140) hc lk_X10_25 dX10_learns_140 ?_
        refine zj_sipush (pc := 143) hc dX10_learns_143 (by decide) (zin _ rfl) ?_
        refine zj_iald (pc := 146) hc dX10_learns_146 alen_583 h.1 ?_
        have h := h.2
        refine zj_aload_n (pc := 147) hc dX10_learns_147 rfl ?_
        refine zg_9_3 (pc := 148) hc lk_X10_13 dX10_learns_148 ?_
        refine zj_iconst (pc := 151) hc dX10_learns_151 (zin _ rfl) ?_
        refine zj_iald (pc := 152) hc dX10_learns_152 alen_579 h.1 ?_
        have h := h.2
        refine zj_iadd (pc := 153) hc dX10_learns_153 h.1 ?_
        have h := h.2
        refine zj_iast (pc := 154) hc dX10_learns_154 alen_583 h.1 (fun M11 hM11 => ?_)
        have h := h.2 M11 hM11
        refine zj_aload_n (pc := 155) hc dX10_learns_155 rfl ?_
        refine zg_9_7 (pc := 156) hc lk_X10_25 dX10_learns_156 ?_
        refine zj_sipush (pc := 159) hc dX10_learns_159 (by decide) (zin _ rfl) ?_
        refine zj_iconst (pc := 162) hc dX10_learns_162 (zin _ rfl) ?_
        refine zj_iast (pc := 163) hc dX10_learns_163 alen_583 h.1 (fun M12 hM12 => ?_)
        have h := h.2 M12 hM12
        exact zj_vret (pc := 164) hc hr hlk dX10_learns_164 (by decide) (by decide) h
      · have h := h.2 hx10
        refine zj_bipush (pc := 134) hc dX10_learns_134 (by decide) (zin _ rfl) ?_
        refine zj_goto (pc := 136) (tgt := 154) hc dX10_learns_136 (by decide) ?_
        refine zj_iast (pc := 154) hc dX10_learns_154 alen_583 h.1 (fun M13 hM13 => ?_)
        have h := h.2 M13 hM13
        refine zj_aload_n (pc := 155) hc dX10_learns_155 rfl ?_
        refine zg_9_7 (pc := 156) hc lk_X10_25 dX10_learns_156 ?_
        refine zj_sipush (pc := 159) hc dX10_learns_159 (by decide) (zin _ rfl) ?_
        refine zj_iconst (pc := 162) hc dX10_learns_162 (zin _ rfl) ?_
        refine zj_iast (pc := 163) hc dX10_learns_163 alen_583 h.1 (fun M14 hM14 => ?_)
        have h := h.2 M14 hM14
        exact zj_vret (pc := 164) hc hr hlk dX10_learns_164 (by decide) (by decide) h
  have k30 : ∀ (M : zMem) (s1 : Int) (s2 : Int) (s3 : Int), T_X10_learns_30 s1 s2 s3 Qr M → zJ p l e (zRoom 0 0 0 0) s m args below meth c G 3 0 0 (MQ below (zQv G (Qr)) args s 0 0 (zA G)) 30 [some (.inr 639), none, none] [.inl s3, .inl s2, .inl s1, .inr 583] M := by
    intro M s1 s2 s3 h
    unfold T_X10_learns_30 at h
    refine zj_iadd (pc := 30) hc dX10_learns_30 h.1 ?_
    have h := h.2
    refine zj_iast (pc := 31) hc dX10_learns_31 alen_583 h.1 (fun M15 hM15 => ?_)
    have h := h.2 M15 hM15
    refine zj_aload_n (pc := 32) hc dX10_learns_32 rfl ?_
    refine zg_9_7 (pc := 33) hc lk_X10_25 dX10_learns_33 ?_
    refine zj_sipush (pc := 36) hc dX10_learns_36 (by decide) (zin _ rfl) ?_
    refine zj_iald (pc := 39) hc dX10_learns_39 alen_583 h.1 ?_
    have h := h.2
    refine zj_aload_n (pc := 40) hc dX10_learns_40 rfl ?_
    refine zg_9_3 (pc := 41) hc lk_X10_13 dX10_learns_41 ?_
    refine zj_iconst (pc := 44) hc dX10_learns_44 (zin _ rfl) ?_
    refine zj_iald (pc := 45) hc dX10_learns_45 alen_579 h.1 ?_
    have h := h.2
    refine zj_icmp_ge (pc := 46) (tgt := 50) hc dX10_learns_46 (by decide) (fun hx16 => ?_) (fun hx16 => ?_)
    · have h := h.1 hx16
      refine zj_aload_n (pc := 50) hc dX10_learns_50 rfl ?_
      refine zg_9_7 (pc := 51) hc lk_X10_25 dX10_learns_51 ?_
      refine zj_sipush (pc := 54) hc dX10_learns_54 (by decide) (zin _ rfl) ?_
      refine zj_iald (pc := 57) hc dX10_learns_57 alen_583 h.1 ?_
      have h := h.2
      refine zj_bipush (pc := 58) hc dX10_learns_58 (by decide) (zin _ rfl) ?_
      refine zj_imul (pc := 60) hc dX10_learns_60 h.1 ?_
      have h := h.2
      refine zj_aload_n (pc := 61) hc dX10_learns_61 rfl ?_
      refine zg_9_3 (pc := 62) hc lk_X10_13 dX10_learns_62 ?_
      refine zj_iconst (pc := 65) hc dX10_learns_65 (zin _ rfl) ?_
      refine zj_iald (pc := 66) hc dX10_learns_66 alen_579 h.1 ?_
      have h := h.2
      refine zj_aload_n (pc := 67) hc dX10_learns_67 rfl ?_
      refine zg_9_7 (pc := 68) hc lk_X10_25 dX10_learns_68 ?_
      refine zj_sipush (pc := 71) hc dX10_learns_71 (by decide) (zin _ rfl) ?_
      refine zj_iald (pc := 74) hc dX10_learns_74 alen_583 h.1 ?_
      have h := h.2
      refine zj_imul (pc := 75) hc dX10_learns_75 h.1 ?_
      have h := h.2
      refine zj_icmp_le (pc := 76) (tgt := 83) hc dX10_learns_76 (by decide) (fun hx17 => ?_) (fun hx17 => ?_)
      · have h := h.1 hx17
        refine zj_iconst (pc := 83) hc dX10_learns_83 (zin _ rfl) ?_
        exact k84 M15 0 h
      · have h := h.2 hx17
        refine zj_iconst (pc := 79) hc dX10_learns_79 (zin _ rfl) ?_
        refine zj_goto (pc := 80) (tgt := 84) hc dX10_learns_80 (by decide) ?_
        exact k84 M15 1 h
    · have h := h.2 hx16
      exact zj_vret (pc := 49) hc hr hlk dX10_learns_49 (by decide) (by decide) h
  unfold T_X10_learns at h
  refine zj_aload_n (pc := 0) hc dX10_learns_0 rfl ?_
  refine zg_9_7 (pc := 1) hc lk_X10_25 dX10_learns_1 ?_
  refine zj_sipush (pc := 4) hc dX10_learns_4 (by decide) (zin _ rfl) ?_
  refine zj_dup2 (pc := 7) hc dX10_learns_7 ?_
  refine zj_iald (pc := 8) hc dX10_learns_8 alen_583 h.1 ?_
  have h := h.2
  refine zj_iconst (pc := 9) hc dX10_learns_9 (zin _ rfl) ?_
  refine zj_iadd (pc := 10) hc dX10_learns_10 h.1 ?_
  have h := h.2
  refine zj_iast (pc := 11) hc dX10_learns_11 alen_583 h.1 (fun M18 hM18 => ?_)
  have h := h.2 M18 hM18
  refine zj_aload_n (pc := 12) hc dX10_learns_12 rfl ?_
  refine zg_9_7 (pc := 13) hc lk_X10_25 dX10_learns_13 ?_
  refine zj_sipush (pc := 16) hc dX10_learns_16 (by decide) (zin _ rfl) ?_
  refine zj_dup2 (pc := 19) hc dX10_learns_19 ?_
  refine zj_iald (pc := 20) hc dX10_learns_20 alen_583 h.1 ?_
  have h := h.2
  refine zj_iload_n (pc := 21) hc dX10_learns_21 rfl ?_
  refine zj_if_eq (pc := 22) (tgt := 29) hc dX10_learns_22 (by decide) (fun hx19 => ?_) (fun hx19 => ?_)
  · have h := h.1 hx19
    refine zj_iconst (pc := 29) hc dX10_learns_29 (zin _ rfl) ?_
    refine zj_mask (bs := [true, false, true]) ?_
    exact k30 M18 663 (M18.2 583 663) 1 h
  · have h := h.2 hx19
    refine zj_iconst (pc := 25) hc dX10_learns_25 (zin _ rfl) ?_
    refine zj_goto (pc := 26) (tgt := 30) hc dX10_learns_26 (by decide) ?_
    refine zj_mask (bs := [true, false, true]) ?_
    exact k30 M18 663 (M18.2 583 663) 0 h
set_option maxHeartbeats 4000000 in
set_option maxRecDepth 100000 in
theorem S_X10_waits (l : Launch) (G : zG) (v1 : Int) (v2 : Int) (M : zMem) (Qr : zMem → Prop) (h : T_X10_waits v1 v2 Qr M) : zMetV l yX10_waits cX10_waits 3 none 0 0 0 0 G [.inr 639, .inl v1, .inl v2] M Qr := by
  refine zmetV (by decide) (Nat.le_of_ble_eq_true rfl) [some (.inr 639), some (.inl v1), some (.inl v2)] rfl ?_
  intro p e s m args below meth c hc hr hlk
  unfold T_X10_waits at h
  refine zj_aload_n (pc := 0) hc dX10_waits_0 rfl ?_
  refine zg_9_25 (pc := 1) hc lk_X10_59 dX10_waits_1 ?_
  refine zj_aload_n (pc := 4) hc dX10_waits_4 rfl ?_
  refine zg_9_27 (pc := 5) hc lk_X10_192 dX10_waits_5 ?_
  refine zj_iload_n (pc := 8) hc dX10_waits_8 rfl ?_
  refine zj_iast (pc := 9) hc dX10_waits_9 alen_601 h.1 (fun M1 hM1 => ?_)
  have h := h.2 M1 hM1
  refine zj_aload_n (pc := 10) hc dX10_waits_10 rfl ?_
  refine zg_9_26 (pc := 11) hc lk_X10_62 dX10_waits_11 ?_
  refine zj_aload_n (pc := 14) hc dX10_waits_14 rfl ?_
  refine zg_9_27 (pc := 15) hc lk_X10_192 dX10_waits_15 ?_
  refine zj_iload_n (pc := 18) hc dX10_waits_18 rfl ?_
  refine zj_iast (pc := 19) hc dX10_waits_19 alen_602 h.1 (fun M2 hM2 => ?_)
  have h := h.2 M2 hM2
  refine zj_aload_n (pc := 20) hc dX10_waits_20 rfl ?_
  refine zj_dup (pc := 21) hc dX10_waits_21 ?_
  refine zg_9_27 (pc := 22) hc lk_X10_192 dX10_waits_22 ?_
  refine zj_iconst (pc := 25) hc dX10_waits_25 (zin _ rfl) ?_
  refine zj_iadd (pc := 26) hc dX10_waits_26 h.1 ?_
  have h := h.2
  refine zs_9_27 (pc := 27) hc lk_X10_192 dX10_waits_27 (fun M3 hM3 => ?_)
  have h := h M3 hM3
  exact zj_vret (pc := 30) hc hr hlk dX10_waits_30 (by decide) (by decide) h
