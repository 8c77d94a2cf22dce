set_option maxHeartbeats 4000000 in
set_option maxRecDepth 100000 in
theorem S_X10_writes (l : Launch) (G : zG) (v1 : Int) (v2 : Int) (M : zMem) (Qr : zMem → Prop) (h : T_X10_writes v1 v2 Qr M) : zMetV l yX10_writes cX10_writes 3 none 0 0 0 0 G [.inr 639, .inl v1, .inl v2] M Qr := by
  refine zmetV (by decide) (Nat.le_of_ble_eq_true rfl) [some (.inr 639), some (.inl v1), some (.inl v2)] rfl ?_
  intro p e s m args below meth c hc hr hlk
  unfold T_X10_writes at h
  refine zj_aload_n (pc := 0) hc dX10_writes_0 rfl ?_
  refine zg_9_13 (pc := 1) hc lk_X10_264 dX10_writes_1 ?_
  refine zj_if_eq (pc := 4) (tgt := 8) hc dX10_writes_4 (by decide) (fun hx1 => ?_) (fun hx1 => ?_)
  · have h := h.1 hx1
    refine zj_aload_n (pc := 8) hc dX10_writes_8 rfl ?_
    refine zg_9_11 (pc := 9) hc lk_X10_35 dX10_writes_9 ?_
    refine zj_if_ne (pc := 12) (tgt := 21) hc dX10_writes_12 (by decide) (fun hx2 => ?_) (fun hx2 => ?_)
    · have h := h.1 hx2
      refine zj_aload_n (pc := 21) hc dX10_writes_21 rfl ?_
      refine zg_9_6 (pc := 22) hc lk_X10_22 dX10_writes_22 ?_
      refine zj_iload_n (pc := 25) hc dX10_writes_25 rfl ?_
      refine zj_iload_n (pc := 26) hc dX10_writes_26 rfl ?_
      refine zj_iast (pc := 27) hc dX10_writes_27 alen_582 h.1 (fun M3 hM3 => ?_)
      have h := h.2 M3 hM3
      refine zj_aload_n (pc := 28) hc dX10_writes_28 rfl ?_
      refine zj_dup (pc := 29) hc dX10_writes_29 ?_
      refine zg_9_12 (pc := 30) hc lk_X10_268 dX10_writes_30 ?_
      refine zj_iconst (pc := 33) hc dX10_writes_33 (zin _ rfl) ?_
      refine zj_iadd (pc := 34) hc dX10_writes_34 h.1 ?_
      have h := h.2
      refine zs_9_12 (pc := 35) hc lk_X10_268 dX10_writes_35 (fun M4 hM4 => ?_)
      have h := h M4 hM4
      refine zj_aload_n (pc := 38) hc dX10_writes_38 rfl ?_
      refine zg_9_11 (pc := 39) hc lk_X10_35 dX10_writes_39 ?_
      refine zj_if_le (pc := 42) (tgt := 55) hc dX10_writes_42 (by decide) (fun hx5 => ?_) (fun hx5 => ?_)
      · have h := h.1 hx5
        exact zj_vret (pc := 55) hc hr hlk dX10_writes_55 (by decide) (by decide) h
      · have h := h.2 hx5
        refine zj_aload_n (pc := 45) hc dX10_writes_45 rfl ?_
        refine zj_dup (pc := 46) hc dX10_writes_46 ?_
        refine zg_9_11 (pc := 47) hc lk_X10_35 dX10_writes_47 ?_
        refine zj_iconst (pc := 50) hc dX10_writes_50 (zin _ rfl) ?_
        refine zj_isub (pc := 51) hc dX10_writes_51 h.1 ?_
        have h := h.2
        refine zs_9_11 (pc := 52) hc lk_X10_35 dX10_writes_52 (fun M6 hM6 => ?_)
        have h := h M6 hM6
        exact zj_vret (pc := 55) hc hr hlk dX10_writes_55 (by decide) (by decide) h
    · have h := h.2 hx2
      refine zj_aload_n (pc := 15) hc dX10_writes_15 rfl ?_
      refine zj_iconst (pc := 16) hc dX10_writes_16 (zin _ rfl) ?_
      refine zs_9_13 (pc := 17) hc lk_X10_264 (Or.inr rfl) dX10_writes_17 (fun M7 hM7 => ?_)
      have h := h M7 hM7
      exact zj_vret (pc := 20) hc hr hlk dX10_writes_20 (by decide) (by decide) h
  · have h := h.2 hx1
    exact zj_vret (pc := 7) hc hr hlk dX10_writes_7 (by decide) (by decide) h
set_option maxHeartbeats 4000000 in
set_option maxRecDepth 100000 in
theorem S_X10_beginsWriting (l : Launch) (G : zG) (M : zMem) (Qr : zMem → Prop) (h : T_X10_beginsWriting Qr M) : zMetV l yX10_beginsWriting cX10_beginsWriting 1 none 0 0 0 0 G [.inr 639] M Qr := by
  refine zmetV (by decide) (Nat.le_of_ble_eq_true rfl) [some (.inr 639)] rfl ?_
  intro p e s m args below meth c hc hr hlk
  unfold T_X10_beginsWriting at h
  refine zj_aload_n (pc := 0) hc dX10_beginsWriting_0 rfl ?_
  refine zj_iconst (pc := 1) hc dX10_beginsWriting_1 (zin _ rfl) ?_
  refine zs_9_12 (pc := 2) hc lk_X10_268 dX10_beginsWriting_2 (fun M1 hM1 => ?_)
  have h := h M1 hM1
  refine zj_aload_n (pc := 5) hc dX10_beginsWriting_5 rfl ?_
  refine zj_iconst (pc := 6) hc dX10_beginsWriting_6 (zin _ rfl) ?_
  refine zs_9_13 (pc := 7) hc lk_X10_264 (Or.inl rfl) dX10_beginsWriting_7 (fun M2 hM2 => ?_)
  have h := h M2 hM2
  exact zj_vret (pc := 10) hc hr hlk dX10_beginsWriting_10 (by decide) (by decide) h
set_option maxHeartbeats 4000000 in
set_option maxRecDepth 100000 in
theorem S_X10_ends (l : Launch) (G : zG) (v1 : Int) (M : zMem) (Qr : Int → zMem → Prop) (h : T_X10_ends v1 Qr M) : zMetI l yX10_ends cX10_ends 3 (some .int) 1 21 0 0 G [.inr 639, .inl v1] M Qr := by
  refine zmetI (by decide) (Nat.le_of_ble_eq_true rfl) [some (.inr 639), some (.inl v1), none] rfl ?_
  intro p e s m args below meth c hc hr hlk
  have k4 : ∀ (M : zMem) (v1 : Int) (v2 : Int), T_X10_ends_4 v1 Qr v2 M → zJ p l e (zRoom 1 21 0 0) s m args below meth c G 3 0 0 (MQ below (zQi G (Qr)) args s 0 0 (zA G)) 4 [some (.inr 639), some (.inl v1), some (.inl v2)] [] M := by
    intro M v1 v2 h
    unfold T_X10_ends_4 at h
    refine zl1_use h (fun v2 M => zJ p l e (zRoom 1 21 0 0) s m args below meth c G 3 0 0 (MQ below (zQi G (Qr)) args s 0 0 (zA G)) 4 [some (.inr 639), some (.inl v1), some (.inl v2)] [] M) (fun X4 hX4 v2 M h => ?_)
    refine zj_iload_n (pc := 4) hc dX10_ends_4 rfl ?_
    refine zj_sipush (pc := 5) hc dX10_ends_5 (by decide) (zin _ rfl) ?_
    refine zj_icmp_gt (pc := 8) (tgt := 29) hc dX10_ends_8 (by decide) (fun hx1 => ?_) (fun hx1 => ?_)
    · have h := h.1 hx1
      refine zj_aload_n (pc := 29) hc dX10_ends_29 rfl ?_
      refine zg_9_13 (pc := 30) hc lk_X10_264 dX10_ends_30 ?_
      refine zj_if_ne (pc := 33) (tgt := 42) hc dX10_ends_33 (by decide) (fun hx2 => ?_) (fun hx2 => ?_)
      · have h := h.1 hx2
        refine zj_aload_n (pc := 42) hc dX10_ends_42 rfl ?_
        refine zg_9_6 (pc := 43) hc lk_X10_22 dX10_ends_43 ?_
        refine zj_sipush (pc := 46) hc dX10_ends_46 (by decide) (zin _ rfl) ?_
        refine zj_iconst (pc := 49) hc dX10_ends_49 (zin _ rfl) ?_
        refine zj_iast (pc := 50) hc dX10_ends_50 alen_582 h.1 (fun M3 hM3 => ?_)
        have h := h.2 M3 hM3
        refine zj_aload_n (pc := 51) hc dX10_ends_51 rfl ?_
        refine zj_iconst (pc := 52) hc dX10_ends_52 (zin _ rfl) ?_
        refine zs_9_11 (pc := 53) hc lk_X10_35 dX10_ends_53 (fun M4 hM4 => ?_)
        have h := h M4 hM4
        refine zj_aload_n (pc := 56) hc dX10_ends_56 rfl ?_
        refine zj_iconst (pc := 57) hc dX10_ends_57 (zin _ rfl) ?_
        refine zs_9_36 (pc := 58) hc lk_X10_91 dX10_ends_58 (fun M5 hM5 => ?_)
        have h := h M5 hM5
        refine zj_aload_n (pc := 61) hc dX10_ends_61 rfl ?_
        refine zj_bipush (pc := 62) hc dX10_ends_62 (by decide) (zin _ rfl) ?_
        refine zs_9_1 (pc := 64) hc lk_X10_80 dX10_ends_64 (fun M6 hM6 => ?_)
        have h := h M6 hM6
        refine zj_aload_n (pc := 67) hc dX10_ends_67 rfl ?_
        refine zg_9_2 (pc := 68) hc lk_X10_7 dX10_ends_68 ?_
        refine zj_bipush (pc := 71) hc dX10_ends_71 (by decide) (zin _ rfl) ?_
        refine zj_dup2 (pc := 73) hc dX10_ends_73 ?_
        refine zj_iald (pc := 74) hc dX10_ends_74 alen_578 h.1 ?_
        have h := h.2
        refine zj_iconst (pc := 75) hc dX10_ends_75 (zin _ rfl) ?_
        refine zj_iadd (pc := 76) hc dX10_ends_76 h.1 ?_
        have h := h.2
        refine zj_iast (pc := 77) hc dX10_ends_77 alen_578 h.1 (fun M7 hM7 => ?_)
        have h := h.2 M7 hM7
        refine zj_bipush (pc := 78) hc dX10_ends_78 (by decide) (zin _ rfl) ?_
        exact zj_iret (pc := 80) hc hr hlk dX10_ends_80 (by decide) (by decide) h
      · have h := h.2 hx2
        refine zj_aload_n (pc := 36) hc dX10_ends_36 rfl ?_
        refine zj_iload_n (pc := 37) hc dX10_ends_37 rfl ?_
        refine zj_vti (pc := 38) (st := []) hc ks_X10_tells iv_X10_tells lk_X10_98 (zrv_9 G M) (S_X10_tells l G v1 M _ h) rfl ⟨Nat.le_of_ble_eq_true rfl, Nat.le_of_ble_eq_true rfl⟩ (Nat.le_of_ble_eq_true rfl) ⟨Nat.le_of_ble_eq_true rfl, Nat.le_of_ble_eq_true rfl⟩ dX10_ends_38 rfl (fun y8 M9 h => ?_)
        exact zj_iret (pc := 41) hc hr hlk dX10_ends_41 (by decide) (by decide) h
    · have h := h.2 hx1
      refine zj_aload_n (pc := 11) hc dX10_ends_11 rfl ?_
      refine zg_9_6 (pc := 12) hc lk_X10_22 dX10_ends_12 ?_
      refine zj_iload_n (pc := 15) hc dX10_ends_15 rfl ?_
      refine zj_aload_n (pc := 16) hc dX10_ends_16 rfl ?_
      refine zg_9_7 (pc := 17) hc lk_X10_25 dX10_ends_17 ?_
      refine zj_iload_n (pc := 20) hc dX10_ends_20 rfl ?_
      refine zj_iald (pc := 21) hc dX10_ends_21 alen_583 h.1 ?_
      have h := h.2
      refine zj_iast (pc := 22) hc dX10_ends_22 alen_582 h.1 (fun M10 hM10 => ?_)
      have h := h.2 M10 hM10
      refine zj_iinc (pc := 23) hc dX10_ends_23 rfl (by decide) h.1 ?_
      have h := h.2
      refine zj_goto (pc := 26) (tgt := 4) hc dX10_ends_26 (by decide) ?_
      exact hX4 (v2 + 1) M10 h
  unfold T_X10_ends at h
  refine zj_sipush (pc := 0) hc dX10_ends_0 (by decide) (zin _ rfl) ?_
  refine zj_istore_n (pc := 3) hc dX10_ends_3 (by decide) ?_
  exact k4 M v1 661 h
set_option maxHeartbeats 4000000 in
set_option maxRecDepth 100000 in
theorem S_X10_directoryMany (l : Launch) (G : zG) (r1 : Nat) (M : zMem) (Qr : Int → Prop) (h : T_X10_directoryMany r1 Qr M) : zMetI l yX10_directoryMany cX10_directoryMany 2 (some .int) 1 20 0 0 G [.inr 639, .inr r1] M (fun r9 M9 => M = M9 ∧ Qr r9) := by
  refine zmetI (by decide) (Nat.le_of_ble_eq_true rfl) [some (.inr 639), some (.inr r1)] rfl ?_
  intro p e s m args below meth c hc hr hlk
  unfold T_X10_directoryMany at h
  refine zj_iconst (pc := 0) hc dX10_directoryMany_0 (zin _ rfl) ?_
  refine zj_iconst (pc := 1) hc dX10_directoryMany_1 (zin _ rfl) ?_
  refine zj_aload_n (pc := 2) hc dX10_directoryMany_2 rfl ?_
  refine zj_sti (pc := 3) (st := [.inl 2, .inl 1]) hc ks_X10_pagesOf st_X10_pagesOf lk_X10_151 (S_X10_pagesOf l G r1 M _ h) rfl ⟨Nat.le_of_ble_eq_true rfl, Nat.le_of_ble_eq_true rfl⟩ (Nat.le_of_ble_eq_true rfl) ⟨Nat.le_of_ble_eq_true rfl, Nat.le_of_ble_eq_true rfl⟩ dX10_directoryMany_3 rfl (fun y1 M9 h => ?_)
  obtain ⟨hM9, h⟩ := h
  subst hM9
  refine zj_imul (pc := 6) hc dX10_directoryMany_6 h.1 ?_
  have h := h.2
  refine zj_iadd (pc := 7) hc dX10_directoryMany_7 h.1 ?_
  have h := h.2
  exact zj_iret (pc := 8) hc hr hlk dX10_directoryMany_8 (by decide) (by decide) ⟨rfl, h⟩
set_option maxHeartbeats 4000000 in
set_option maxRecDepth 100000 in
theorem S_X10_throughJournal (l : Launch) (G : zG) (M : zMem) (Qr : zMem → Prop) (h : T_X10_throughJournal Qr M) : zMetV l yX10_throughJournal cX10_throughJournal 5 none 2 41 0 0 G [.inr 639] M Qr := by
  refine zmetV (by decide) (Nat.le_of_ble_eq_true rfl) [some (.inr 639), none, none, none, none] rfl ?_
  intro p e s m args below meth c hc hr hlk
  have k227 : ∀ (M : zMem) (v3 : Int), T_X10_throughJournal_227 Qr v3 M → zJ p l e (zRoom 2 41 0 0) s m args below meth c G 5 0 0 (MQ below (zQv G (Qr)) args s 0 0 (zA G)) 227 [some (.inr 639), none, none, some (.inl v3), none] [] M := by
    intro M v3 h
    unfold T_X10_throughJournal_227 at h
    refine zl1_use h (fun v3 M => zJ p l e (zRoom 2 41 0 0) s m args below meth c G 5 0 0 (MQ below (zQv G (Qr)) args s 0 0 (zA G)) 227 [some (.inr 639), none, none, some (.inl v3), none] [] M) (fun X227 hX227 v3 M h => ?_)
    refine zj_iload_n (pc := 227) hc dX10_throughJournal_227 rfl ?_
    refine zj_aload_n (pc := 228) hc dX10_throughJournal_228 rfl ?_
    refine zj_aload_n (pc := 229) hc dX10_throughJournal_229 rfl ?_
    refine zg_9_7 (pc := 230) hc lk_X10_25 dX10_throughJournal_230 ?_
    refine zj_vti (pc := 233) (st := [.inl v3]) hc ks_X10_directoryMany iv_X10_directoryMany lk_X10_274 (zrv_9 G M) (S_X10_directoryMany l G 583 M _ h) rfl ⟨Nat.le_of_ble_eq_true rfl, Nat.le_of_ble_eq_true rfl⟩ (Nat.le_of_ble_eq_true rfl) ⟨Nat.le_of_ble_eq_true rfl, Nat.le_of_ble_eq_true rfl⟩ dX10_throughJournal_233 rfl (fun y1 M9 h => ?_)
    obtain ⟨hM9, h⟩ := h
    subst hM9
    refine zj_icmp_ge (pc := 236) (tgt := 264) hc dX10_throughJournal_236 (by decide) (fun hx2 => ?_) (fun hx2 => ?_)
    · have h := h.1 hx2
      refine zj_aload_n (pc := 264) hc dX10_throughJournal_264 rfl ?_
      refine zj_sipush (pc := 265) hc dX10_throughJournal_265 (by decide) (zin _ rfl) ?_
      refine zj_iconst (pc := 268) hc dX10_throughJournal_268 (zin _ rfl) ?_
      refine zj_vtv (pc := 269) (st := []) hc ks_X10_writes iv_X10_writes lk_X10_271 (zrv_9 G M) (S_X10_writes l G 666 0 M _ h) rfl ⟨Nat.le_of_ble_eq_true rfl, Nat.le_of_ble_eq_true rfl⟩ (Nat.le_of_ble_eq_true rfl) ⟨Nat.le_of_ble_eq_true rfl, Nat.le_of_ble_eq_true rfl⟩ dX10_throughJournal_269 rfl (fun M3 h => ?_)
      exact zj_vret (pc := 272) hc hr hlk dX10_throughJournal_272 (by decide) (by decide) h
    · have h := h.2 hx2
      refine zj_aload_n (pc := 239) hc dX10_throughJournal_239 rfl ?_
      refine zj_sipush (pc := 240) hc dX10_throughJournal_240 (by decide) (zin _ rfl) ?_
      refine zj_iload_n (pc := 243) hc dX10_throughJournal_243 rfl ?_
      refine zj_iadd (pc := 244) hc dX10_throughJournal_244 h.1 ?_
      have h := h.2
      refine zj_aload_n (pc := 245) hc dX10_throughJournal_245 rfl ?_
      refine zg_9_7 (pc := 246) hc lk_X10_25 dX10_throughJournal_246 ?_
      refine zj_sipush (pc := 249) hc dX10_throughJournal_249 (by decide) (zin _ rfl) ?_
      refine zj_iload_n (pc := 252) hc dX10_throughJournal_252 rfl ?_
      refine zj_iadd (pc := 253) hc dX10_throughJournal_253 h.1 ?_
      have h := h.2
      refine zj_iald (pc := 254) hc dX10_throughJournal_254 alen_583 h.1 ?_
      have h := h.2
      refine zj_vtv (pc := 255) (st := []) hc ks_X10_writes iv_X10_writes lk_X10_271 (zrv_9 G M) (S_X10_writes l G (640 + v3) (M.2 583 (640 + v3)) M _ h) rfl ⟨Nat.le_of_ble_eq_true rfl, Nat.le_of_ble_eq_true rfl⟩ (Nat.le_of_ble_eq_true rfl) ⟨Nat.le_of_ble_eq_true rfl, Nat.le_of_ble_eq_true rfl⟩ dX10_throughJournal_255 rfl (fun M4 h => ?_)
      refine zj_iinc (pc := 258) hc dX10_throughJournal_258 rfl (by decide) h.1 ?_
      have h := h.2
      refine zj_goto (pc := 261) (tgt := 227) hc dX10_throughJournal_261 (by decide) ?_
      exact hX227 (v3 + 1) M4 h
  have k213 : ∀ (M : zMem) (v3 : Int) (v4 : Int) (X162 : Int → zMem → Prop) (hX162 : ∀ (v3 : Int) (M : zMem), X162 v3 M → zJ p l e (zRoom 2 41 0 0) s m args below meth c G 5 0 0 (MQ below (zQv G (Qr)) args s 0 0 (zA G)) 162 [some (.inr 639), none, none, some (.inl v3), none] [] M) (X171 : Int → zMem → Prop) (hX171 : ∀ (v4 : Int) (M : zMem), X171 v4 M → zJ p l e (zRoom 2 41 0 0) s m args below meth c G 5 0 0 (MQ below (zQv G (Qr)) args s 0 0 (zA G)) 171 [some (.inr 639), none, none, some (.inl v3), some (.inl v4)] [] M), T_X10_throughJournal_213 v3 v4 X162 X171 Qr M → zJ p l e (zRoom 2 41 0 0) s m args below meth c G 5 0 0 (MQ below (zQv G (Qr)) args s 0 0 (zA G)) 213 [some (.inr 639), none, none, some (.inl v3), some (.inl v4)] [] M := by
    intro M v3 v4 X162 hX162 X171 hX171 h
    unfold T_X10_throughJournal_213 at h
    refine zj_iinc (pc := 213) hc dX10_throughJournal_213 rfl (by decide) h.1 ?_
    have h := h.2
    refine zj_goto (pc := 216) (tgt := 171) hc dX10_throughJournal_216 (by decide) ?_
    exact hX171 (v4 + 1) M h
  have k171 : ∀ (M : zMem) (v3 : Int) (X162 : Int → zMem → Prop) (hX162 : ∀ (v3 : Int) (M : zMem), X162 v3 M → zJ p l e (zRoom 2 41 0 0) s m args below meth c G 5 0 0 (MQ below (zQv G (Qr)) args s 0 0 (zA G)) 162 [some (.inr 639), none, none, some (.inl v3), none] [] M) (v4 : Int), T_X10_throughJournal_171 v3 X162 Qr v4 M → zJ p l e (zRoom 2 41 0 0) s m args below meth c G 5 0 0 (MQ below (zQv G (Qr)) args s 0 0 (zA G)) 171 [some (.inr 639), none, none, some (.inl v3), some (.inl v4)] [] M := by
    intro M v3 X162 hX162 v4 h
    unfold T_X10_throughJournal_171 at h
    refine zl1_use h (fun v4 M => zJ p l e (zRoom 2 41 0 0) s m args below meth c G 5 0 0 (MQ below (zQv G (Qr)) args s 0 0 (zA G)) 171 [some (.inr 639), none, none, some (.inl v3), some (.inl v4)] [] M) (fun X171 hX171 v4 M h => ?_)
    refine zj_iload (pc := 171) hc dX10_throughJournal_171 rfl ?_
    refine zj_bipush (pc := 173) hc dX10_throughJournal_173 (by decide) (zin _ rfl) ?_
    refine zj_icmp_ge (pc := 175) (tgt := 219) hc dX10_throughJournal_175 (by decide) (fun hx5 => ?_) (fun hx5 => ?_)
    · have h := h.1 hx5
      refine zj_iinc (pc := 219) hc dX10_throughJournal_219 rfl (by decide) h.1 ?_
      have h := h.2
      refine zj_goto (pc := 222) (tgt := 162) hc dX10_throughJournal_222 (by decide) ?_
      refine zj_mask (bs := [true, true, true, true, false]) ?_
      exact hX162 (v3 + 1) M h
    · have h := h.2 hx5
      refine zj_aload_n (pc := 178) hc dX10_throughJournal_178 rfl ?_
      refine zg_9_30 (pc := 179) hc lk_X10_221 dX10_throughJournal_179 ?_
      refine zj_iload_n (pc := 182) hc dX10_throughJournal_182 rfl ?_
      refine zj_ishr (pc := 183) hc dX10_throughJournal_183 ?_
      refine zj_iconst (pc := 184) hc dX10_throughJournal_184 (zin _ rfl) ?_
      refine zj_iand (pc := 185) hc dX10_throughJournal_185 ?_
      refine zj_iconst (pc := 186) hc dX10_throughJournal_186 (zin _ rfl) ?_
      refine zj_icmp_ne (pc := 187) (tgt := 213) hc dX10_throughJournal_187 (by decide) (fun hx6 => ?_) (fun hx6 => ?_)
      · have h := h.1 hx6
        exact k213 M v3 v4 X162 hX162 X171 hX171 h
      · have h := h.2 hx6
        refine zj_aload_n (pc := 190) hc dX10_throughJournal_190 rfl ?_
        refine zj_bipush (pc := 191) hc dX10_throughJournal_191 (by decide) (zin _ rfl) ?_
        refine zj_iload_n (pc := 193) hc dX10_throughJournal_193 rfl ?_
        refine zj_imul (pc := 194) hc dX10_throughJournal_194 h.1 ?_
        have h := h.2
        refine zj_iload (pc := 195) hc dX10_throughJournal_195 rfl ?_
        refine zj_iadd (pc := 197) hc dX10_throughJournal_197 h.1 ?_
        have h := h.2
        refine zj_aload_n (pc := 198) hc dX10_throughJournal_198 rfl ?_
        refine zg_9_7 (pc := 199) hc lk_X10_25 dX10_throughJournal_199 ?_
        refine zj_bipush (pc := 202) hc dX10_throughJournal_202 (by decide) (zin _ rfl) ?_
        refine zj_iload_n (pc := 204) hc dX10_throughJournal_204 rfl ?_
        refine zj_imul (pc := 205) hc dX10_throughJournal_205 h.1 ?_
        have h := h.2
        refine zj_iload (pc := 206) hc dX10_throughJournal_206 rfl ?_
        refine zj_iadd (pc := 208) hc dX10_throughJournal_208 h.1 ?_
        have h := h.2
        refine zj_iald (pc := 209) hc dX10_throughJournal_209 alen_583 h.1 ?_
        have h := h.2
        refine zj_vtv (pc := 210) (st := []) hc ks_X10_writes iv_X10_writes lk_X10_271 (zrv_9 G M) (S_X10_writes l G ((64 * v3) + v4) (M.2 583 ((64 * v3) + v4)) M _ h) rfl ⟨Nat.le_of_ble_eq_true rfl, Nat.le_of_ble_eq_true rfl⟩ (Nat.le_of_ble_eq_true rfl) ⟨Nat.le_of_ble_eq_true rfl, Nat.le_of_ble_eq_true rfl⟩ dX10_throughJournal_210 rfl (fun M7 h => ?_)
        exact k213 M7 v3 v4 X162 hX162 X171 hX171 h
  have k162 : ∀ (M : zMem) (v3 : Int), T_X10_throughJournal_162 Qr v3 M → zJ p l e (zRoom 2 41 0 0) s m args below meth c G 5 0 0 (MQ below (zQv G (Qr)) args s 0 0 (zA G)) 162 [some (.inr 639), none, none, some (.inl v3), none] [] M := by
    intro M v3 h
    unfold T_X10_throughJournal_162 at h
    refine zl1_use h (fun v3 M => zJ p l e (zRoom 2 41 0 0) s m args below meth c G 5 0 0 (MQ below (zQv G (Qr)) args s 0 0 (zA G)) 162 [some (.inr 639), none, none, some (.inl v3), none] [] M) (fun X162 hX162 v3 M h => ?_)
    refine zj_iload_n (pc := 162) hc dX10_throughJournal_162 rfl ?_
    refine zj_bipush (pc := 163) hc dX10_throughJournal_163 (by decide) (zin _ rfl) ?_
    refine zj_icmp_ge (pc := 165) (tgt := 225) hc dX10_throughJournal_165 (by decide) (fun hx8 => ?_) (fun hx8 => ?_)
    · have h := h.1 hx8
      refine zj_iconst (pc := 225) hc dX10_throughJournal_225 (zin _ rfl) ?_
      refine zj_istore_n (pc := 226) hc dX10_throughJournal_226 (by decide) ?_
      exact k227 M 0 h
    · have h := h.2 hx8
      refine zj_iconst (pc := 168) hc dX10_throughJournal_168 (zin _ rfl) ?_
      refine zj_istore (pc := 169) hc dX10_throughJournal_169 (by decide) ?_
      exact k171 M v3 X162 hX162 0 h
  have k117 : ∀ (M : zMem) (v2 : Int) (v3 : Int), T_X10_throughJournal_117 v2 Qr v3 M → zJ p l e (zRoom 2 41 0 0) s m args below meth c G 5 0 0 (MQ below (zQv G (Qr)) args s 0 0 (zA G)) 117 [some (.inr 639), none, some (.inl v2), some (.inl v3), none] [] M := by
    intro M v2 v3 h
    unfold T_X10_throughJournal_117 at h
    refine zl1_use h (fun v3 M => zJ p l e (zRoom 2 41 0 0) s m args below meth c G 5 0 0 (MQ below (zQv G (Qr)) args s 0 0 (zA G)) 117 [some (.inr 639), none, some (.inl v2), some (.inl v3), none] [] M) (fun X117 hX117 v3 M h => ?_)
    refine zj_iload_n (pc := 117) hc dX10_throughJournal_117 rfl ?_
    refine zj_aload_n (pc := 118) hc dX10_throughJournal_118 rfl ?_
    refine zj_aload_n (pc := 119) hc dX10_throughJournal_119 rfl ?_
    refine zg_9_7 (pc := 120) hc lk_X10_25 dX10_throughJournal_120 ?_
    refine zj_vti (pc := 123) (st := [.inl v3]) hc ks_X10_directoryMany iv_X10_directoryMany lk_X10_274 (zrv_9 G M) (S_X10_directoryMany l G 583 M _ h) rfl ⟨Nat.le_of_ble_eq_true rfl, Nat.le_of_ble_eq_true rfl⟩ (Nat.le_of_ble_eq_true rfl) ⟨Nat.le_of_ble_eq_true rfl, Nat.le_of_ble_eq_true rfl⟩ dX10_throughJournal_123 rfl (fun y9 M9 h => ?_)
    obtain ⟨hM9, h⟩ := h
    subst hM9
    refine zj_icmp_ge (pc := 126) (tgt := 152) hc dX10_throughJournal_126 (by decide) (fun hx10 => ?_) (fun hx10 => ?_)
    · have h := h.1 hx10
      refine zj_aload_n (pc := 152) hc dX10_throughJournal_152 rfl ?_
      refine zj_sipush (pc := 153) hc dX10_throughJournal_153 (by decide) (zin _ rfl) ?_
      refine zj_iconst (pc := 156) hc dX10_throughJournal_156 (zin _ rfl) ?_
      refine zj_vtv (pc := 157) (st := []) hc ks_X10_writes iv_X10_writes lk_X10_271 (zrv_9 G M) (S_X10_writes l G 666 1 M _ h) rfl ⟨Nat.le_of_ble_eq_true rfl, Nat.le_of_ble_eq_true rfl⟩ (Nat.le_of_ble_eq_true rfl) ⟨Nat.le_of_ble_eq_true rfl, Nat.le_of_ble_eq_true rfl⟩ dX10_throughJournal_157 rfl (fun M11 h => ?_)
      refine zj_iconst (pc := 160) hc dX10_throughJournal_160 (zin _ rfl) ?_
      refine zj_istore_n (pc := 161) hc dX10_throughJournal_161 (by decide) ?_
      refine zj_mask (bs := [true, true, false, true, true]) ?_
      exact k162 M11 0 h
    · have h := h.2 hx10
      refine zj_aload_n (pc := 129) hc dX10_throughJournal_129 rfl ?_
      refine zj_iload_n (pc := 130) hc dX10_throughJournal_130 rfl ?_
      refine zj_iload_n (pc := 131) hc dX10_throughJournal_131 rfl ?_
      refine zj_iadd (pc := 132) hc dX10_throughJournal_132 h.1 ?_
      have h := h.2
      refine zj_aload_n (pc := 133) hc dX10_throughJournal_133 rfl ?_
      refine zg_9_7 (pc := 134) hc lk_X10_25 dX10_throughJournal_134 ?_
      refine zj_sipush (pc := 137) hc dX10_throughJournal_137 (by decide) (zin _ rfl) ?_
      refine zj_iload_n (pc := 140) hc dX10_throughJournal_140 rfl ?_
      refine zj_iadd (pc := 141) hc dX10_throughJournal_141 h.1 ?_
      have h := h.2
      refine zj_iald (pc := 142) hc dX10_throughJournal_142 alen_583 h.1 ?_
      have h := h.2
      refine zj_vtv (pc := 143) (st := []) hc ks_X10_writes iv_X10_writes lk_X10_271 (zrv_9 G M) (S_X10_writes l G (v2 + v3) (M.2 583 (640 + v3)) M _ h) rfl ⟨Nat.le_of_ble_eq_true rfl, Nat.le_of_ble_eq_true rfl⟩ (Nat.le_of_ble_eq_true rfl) ⟨Nat.le_of_ble_eq_true rfl, Nat.le_of_ble_eq_true rfl⟩ dX10_throughJournal_143 rfl (fun M12 h => ?_)
      refine zj_iinc (pc := 146) hc dX10_throughJournal_146 rfl (by decide) h.1 ?_
      have h := h.2
      refine zj_goto (pc := 149) (tgt := 117) hc dX10_throughJournal_149 (by decide) ?_
      exact hX117 (v3 + 1) M12 h
  have k109 : ∀ (M : zMem) (v2 : Int) (v3 : Int) (X42 : Int → Int → zMem → Prop) (hX42 : ∀ (v2 : Int) (v3 : Int) (M : zMem), X42 v2 v3 M → zJ p l e (zRoom 2 41 0 0) s m args below meth c G 5 0 0 (MQ below (zQv G (Qr)) args s 0 0 (zA G)) 42 [some (.inr 639), none, some (.inl v2), some (.inl v3), none] [] M), T_X10_throughJournal_109 v2 v3 X42 Qr M → zJ p l e (zRoom 2 41 0 0) s m args below meth c G 5 0 0 (MQ below (zQv G (Qr)) args s 0 0 (zA G)) 109 [some (.inr 639), none, some (.inl v2), some (.inl v3), none] [] M := by
    intro M v2 v3 X42 hX42 h
    unfold T_X10_throughJournal_109 at h
    refine zj_iinc (pc := 109) hc dX10_throughJournal_109 rfl (by decide) h.1 ?_
    have h := h.2
    refine zj_goto (pc := 112) (tgt := 42) hc dX10_throughJournal_112 (by decide) ?_
    exact hX42 v2 (v3 + 1) M h
  have k71 : ∀ (M : zMem) (v2 : Int) (v3 : Int) (X42 : Int → Int → zMem → Prop) (hX42 : ∀ (v2 : Int) (v3 : Int) (M : zMem), X42 v2 v3 M → zJ p l e (zRoom 2 41 0 0) s m args below meth c G 5 0 0 (MQ below (zQv G (Qr)) args s 0 0 (zA G)) 42 [some (.inr 639), none, some (.inl v2), some (.inl v3), none] [] M) (v4 : Int), T_X10_throughJournal_71 v2 v3 X42 Qr v4 M → zJ p l e (zRoom 2 41 0 0) s m args below meth c G 5 0 0 (MQ below (zQv G (Qr)) args s 0 0 (zA G)) 71 [some (.inr 639), none, some (.inl v2), some (.inl v3), some (.inl v4)] [] M := by
    intro M v2 v3 X42 hX42 v4 h
    unfold T_X10_throughJournal_71 at h
    refine zl1_use h (fun v4 M => zJ p l e (zRoom 2 41 0 0) s m args below meth c G 5 0 0 (MQ below (zQv G (Qr)) args s 0 0 (zA G)) 71 [some (.inr 639), none, some (.inl v2), some (.inl v3), some (.inl v4)] [] M) (fun X71 hX71 v4 M h => ?_)
    refine zj_iload (pc := 71) hc dX10_throughJournal_71 rfl ?_
    refine zj_bipush (pc := 73) hc dX10_throughJournal_73 (by decide) (zin _ rfl) ?_
    refine zj_icmp_ge (pc := 75) (tgt := 106) hc dX10_throughJournal_75 (by decide) (fun hx13 => ?_) (fun hx13 => ?_)
    · have h := h.1 hx13
      refine zj_iinc (pc := 106) hc dX10_throughJournal_106 rfl (by decide) h.1 ?_
      have h := h.2
      refine zj_mask (bs := [true, true, true, true, false]) ?_
      exact k109 M (v2 + 65) v3 X42 hX42 h
    · have h := h.2 hx13
      refine zj_aload_n (pc := 78) hc dX10_throughJournal_78 rfl ?_
      refine zj_iload_n (pc := 79) hc dX10_throughJournal_79 rfl ?_
      refine zj_iconst (pc := 80) hc dX10_throughJournal_80 (zin _ rfl) ?_
      refine zj_iadd (pc := 81) hc dX10_throughJournal_81 h.1 ?_
      have h := h.2
      refine zj_iload (pc := 82) hc dX10_throughJournal_82 rfl ?_
      refine zj_iadd (pc := 84) hc dX10_throughJournal_84 h.1 ?_
      have h := h.2
      refine zj_aload_n (pc := 85) hc dX10_throughJournal_85 rfl ?_
      refine zg_9_7 (pc := 86) hc lk_X10_25 dX10_throughJournal_86 ?_
      refine zj_bipush (pc := 89) hc dX10_throughJournal_89 (by decide) (zin _ rfl) ?_
      refine zj_iload_n (pc := 91) hc dX10_throughJournal_91 rfl ?_
      refine zj_imul (pc := 92) hc dX10_throughJournal_92 h.1 ?_
      have h := h.2
      refine zj_iload (pc := 93) hc dX10_throughJournal_93 rfl ?_
      refine zj_iadd (pc := 95) hc dX10_throughJournal_95 h.1 ?_
      have h := h.2
      refine zj_iald (pc := 96) hc dX10_throughJournal_96 alen_583 h.1 ?_
      have h := h.2
      refine zj_vtv (pc := 97) (st := []) hc ks_X10_writes iv_X10_writes lk_X10_271 (zrv_9 G M) (S_X10_writes l G ((v2 + 1) + v4) (M.2 583 ((64 * v3) + v4)) M _ h) rfl ⟨Nat.le_of_ble_eq_true rfl, Nat.le_of_ble_eq_true rfl⟩ (Nat.le_of_ble_eq_true rfl) ⟨Nat.le_of_ble_eq_true rfl, Nat.le_of_ble_eq_true rfl⟩ dX10_throughJournal_97 rfl (fun M14 h => ?_)
      refine zj_iinc (pc := 100) hc dX10_throughJournal_100 rfl (by decide) h.1 ?_
      have h := h.2
      refine zj_goto (pc := 103) (tgt := 71) hc dX10_throughJournal_103 (by decide) ?_
      exact hX71 (v4 + 1) M14 h
  have k42 : ∀ (M : zMem) (v2 : Int) (v3 : Int), T_X10_throughJournal_42 Qr v2 v3 M → zJ p l e (zRoom 2 41 0 0) s m args below meth c G 5 0 0 (MQ below (zQv G (Qr)) args s 0 0 (zA G)) 42 [some (.inr 639), none, some (.inl v2), some (.inl v3), none] [] M := by
    intro M v2 v3 h
    unfold T_X10_throughJournal_42 at h
    refine zl2_use h (fun v2 v3 M => zJ p l e (zRoom 2 41 0 0) s m args below meth c G 5 0 0 (MQ below (zQv G (Qr)) args s 0 0 (zA G)) 42 [some (.inr 639), none, some (.inl v2), some (.inl v3), none] [] M) (fun X42 hX42 v2 v3 M h => ?_)
    refine zj_iload_n (pc := 42) hc dX10_throughJournal_42 rfl ?_
    refine zj_bipush (pc := 43) hc dX10_throughJournal_43 (by decide) (zin _ rfl) ?_
    refine zj_icmp_ge (pc := 45) (tgt := 115) hc dX10_throughJournal_45 (by decide) (fun hx15 => ?_) (fun hx15 => ?_)
    · have h := h.1 hx15
      refine zj_iconst (pc := 115) hc dX10_throughJournal_115 (zin _ rfl) ?_
      refine zj_istore_n (pc := 116) hc dX10_throughJournal_116 (by decide) ?_
      exact k117 M v2 0 h
    · have h := h.2 hx15
      refine zj_aload_n (pc := 48) hc dX10_throughJournal_48 rfl ?_
      refine zg_9_30 (pc := 49) hc lk_X10_221 dX10_throughJournal_49 ?_
      refine zj_iload_n (pc := 52) hc dX10_throughJournal_52 rfl ?_
      refine zj_ishr (pc := 53) hc dX10_throughJournal_53 ?_
      refine zj_iconst (pc := 54) hc dX10_throughJournal_54 (zin _ rfl) ?_
      refine zj_iand (pc := 55) hc dX10_throughJournal_55 ?_
      refine zj_if_ne (pc := 56) (tgt := 62) hc dX10_throughJournal_56 (by decide) (fun hx16 => ?_) (fun hx16 => ?_)
      · have h := h.1 hx16
        refine zj_aload_n (pc := 62) hc dX10_throughJournal_62 rfl ?_
        refine zj_iload_n (pc := 63) hc dX10_throughJournal_63 rfl ?_
        refine zj_iload_n (pc := 64) hc dX10_throughJournal_64 rfl ?_
        refine zj_vtv (pc := 65) (st := []) hc ks_X10_writes iv_X10_writes lk_X10_271 (zrv_9 G M) (S_X10_writes l G v2 v3 M _ h) rfl ⟨Nat.le_of_ble_eq_true rfl, Nat.le_of_ble_eq_true rfl⟩ (Nat.le_of_ble_eq_true rfl) ⟨Nat.le_of_ble_eq_true rfl, Nat.le_of_ble_eq_true rfl⟩ dX10_throughJournal_65 rfl (fun M17 h => ?_)
        refine zj_iconst (pc := 68) hc dX10_throughJournal_68 (zin _ rfl) ?_
        refine zj_istore (pc := 69) hc dX10_throughJournal_69 (by decide) ?_
        exact k71 M17 v2 v3 X42 hX42 0 h
      · have h := h.2 hx16
        refine zj_goto (pc := 59) (tgt := 109) hc dX10_throughJournal_59 (by decide) ?_
        exact k109 M v2 v3 X42 hX42 h
  have k4 : ∀ (M : zMem) (v1 : Int) (v2 : Int), T_X10_throughJournal_4 Qr v1 v2 M → zJ p l e (zRoom 2 41 0 0) s m args below meth c G 5 0 0 (MQ below (zQv G (Qr)) args s 0 0 (zA G)) 4 [some (.inr 639), some (.inl v1), some (.inl v2), none, none] [] M := by
    intro M v1 v2 h
    unfold T_X10_throughJournal_4 at h
    refine zp2_use h (fun v1 v2 => zJ p l e (zRoom 2 41 0 0) s m args below meth c G 5 0 0 (MQ below (zQv G (Qr)) args s 0 0 (zA G)) 4 [some (.inr 639), some (.inl v1), some (.inl v2), none, none] [] M) (fun X4 hX4 v1 v2 h => ?_)
    refine zj_iload_n (pc := 4) hc dX10_throughJournal_4 rfl ?_
    refine zj_bipush (pc := 5) hc dX10_throughJournal_5 (by decide) (zin _ rfl) ?_
    refine zj_icmp_ge (pc := 7) (tgt := 27) hc dX10_throughJournal_7 (by decide) (fun hx18 => ?_) (fun hx18 => ?_)
    · have h := h.1 hx18
      refine zj_sipush (pc := 27) hc dX10_throughJournal_27 (by decide) (zin _ rfl) ?_
      refine zj_istore_n (pc := 30) hc dX10_throughJournal_30 (by decide) ?_
      refine zj_aload_n (pc := 31) hc dX10_throughJournal_31 rfl ?_
      refine zj_iload_n (pc := 32) hc dX10_throughJournal_32 rfl ?_
      refine zj_iload_n (pc := 33) hc dX10_throughJournal_33 rfl ?_
      refine zj_vtv (pc := 34) (st := []) hc ks_X10_writes iv_X10_writes lk_X10_271 (zrv_9 G M) (S_X10_writes l G 667 v1 M _ h) rfl ⟨Nat.le_of_ble_eq_true rfl, Nat.le_of_ble_eq_true rfl⟩ (Nat.le_of_ble_eq_true rfl) ⟨Nat.le_of_ble_eq_true rfl, Nat.le_of_ble_eq_true rfl⟩ dX10_throughJournal_34 rfl (fun M19 h => ?_)
      refine zj_iinc (pc := 37) hc dX10_throughJournal_37 rfl (by decide) h.1 ?_
      have h := h.2
      refine zj_iconst (pc := 40) hc dX10_throughJournal_40 (zin _ rfl) ?_
      refine zj_istore_n (pc := 41) hc dX10_throughJournal_41 (by decide) ?_
      refine zj_mask (bs := [true, false, true, true, true]) ?_
      exact k42 M19 (667 + 1) 0 h
    · have h := h.2 hx18
      refine zj_iload_n (pc := 10) hc dX10_throughJournal_10 rfl ?_
      refine zj_aload_n (pc := 11) hc dX10_throughJournal_11 rfl ?_
      refine zg_9_30 (pc := 12) hc lk_X10_221 dX10_throughJournal_12 ?_
      refine zj_iload_n (pc := 15) hc dX10_throughJournal_15 rfl ?_
      refine zj_ishr (pc := 16) hc dX10_throughJournal_16 ?_
      refine zj_iconst (pc := 17) hc dX10_throughJournal_17 (zin _ rfl) ?_
      refine zj_iand (pc := 18) hc dX10_throughJournal_18 ?_
      refine zj_iadd (pc := 19) hc dX10_throughJournal_19 h.1 ?_
      have h := h.2
      refine zj_istore_n (pc := 20) hc dX10_throughJournal_20 (by decide) ?_
      refine zj_iinc (pc := 21) hc dX10_throughJournal_21 rfl (by decide) h.1 ?_
      have h := h.2
      refine zj_goto (pc := 24) (tgt := 4) hc dX10_throughJournal_24 (by decide) ?_
      exact hX4 (v1 + (zand (zshr (M.1 606) v2) 1)) (v2 + 1) h
  unfold T_X10_throughJournal at h
  refine zj_iconst (pc := 0) hc dX10_throughJournal_0 (zin _ rfl) ?_
  refine zj_istore_n (pc := 1) hc dX10_throughJournal_1 (by decide) ?_
  refine zj_iconst (pc := 2) hc dX10_throughJournal_2 (zin _ rfl) ?_
  refine zj_istore_n (pc := 3) hc dX10_throughJournal_3 (by decide) ?_
  exact k4 M 0 0 h
