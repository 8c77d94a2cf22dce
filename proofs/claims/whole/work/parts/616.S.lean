set_option maxHeartbeats 4000000 in
set_option maxRecDepth 100000 in
theorem S_X9_behind (l : Launch) (G : zG) (v1 : Int) (v2 : Int) (v3 : Int) (M : zMem) (Qr : Int → zMem → Prop) (h : T_X9_behind v1 v2 v3 Qr M) : zMetI l yX9_behind cX9_behind 5 (some .int) 5 131 0 0 G [.inr 63, .inl v1, .inl v2, .inl v3] M Qr := by
  refine zmetI (by decide) (Nat.le_of_ble_eq_true rfl) [some (.inr 63), some (.inl v1), some (.inl v2), some (.inl v3), none] rfl ?_
  intro p e s m args below meth c hc hr hlk
  unfold T_X9_behind at h
  refine zj_aload_n (pc := 0) hc dX9_behind_0 rfl ?_
  refine zj_iload_n (pc := 1) hc dX9_behind_1 rfl ?_
  refine zj_vti (pc := 2) (st := []) hc ks_X9_isOrder iv_X9_isOrder lk_X9_211 (zrv_0 G M) (S_X9_isOrder l G v1 M _ h) rfl ⟨Nat.le_of_ble_eq_true rfl, Nat.le_of_ble_eq_true rfl⟩ (Nat.le_of_ble_eq_true rfl) ⟨Nat.le_of_ble_eq_true rfl, Nat.le_of_ble_eq_true rfl⟩ dX9_behind_2 rfl (fun y1 M9 h => ?_)
  obtain ⟨hM9, h⟩ := h
  subst hM9
  refine zj_if_eq (pc := 5) (tgt := 12) hc dX9_behind_5 (by decide) (fun hx2 => ?_) (fun hx2 => ?_)
  · have h := h.1 hx2
    refine zj_iconst (pc := 12) hc dX9_behind_12 (zin _ rfl) ?_
    exact zj_iret (pc := 13) hc hr hlk dX9_behind_13 (by decide) (by decide) h
  · have h := h.2 hx2
    refine zj_iload_n (pc := 8) hc dX9_behind_8 rfl ?_
    refine zj_if_ge (pc := 9) (tgt := 14) hc dX9_behind_9 (by decide) (fun hx3 => ?_) (fun hx3 => ?_)
    · have h := h.1 hx3
      refine zj_aload_n (pc := 14) hc dX9_behind_14 rfl ?_
      refine zg_0_9 (pc := 15) hc lk_X9_43 dX9_behind_15 ?_
      refine zg_1_0 (pc := 18) hc lk_X9_149 dX9_behind_18 ?_
      refine zj_iload_n (pc := 21) hc dX9_behind_21 rfl ?_
      refine zj_sti (pc := 22) (st := []) hc ks_X4_pageAt st_X4_pageAt lk_X9_214 (S_X4_pageAt l G 64 v1 M _ h) rfl ⟨Nat.le_of_ble_eq_true rfl, Nat.le_of_ble_eq_true rfl⟩ (Nat.le_of_ble_eq_true rfl) ⟨Nat.le_of_ble_eq_true rfl, Nat.le_of_ble_eq_true rfl⟩ dX9_behind_22 rfl (fun y4 M9 h => ?_)
      obtain ⟨hM9, h⟩ := h
      subst hM9
      refine zj_istore (pc := 25) hc dX9_behind_25 (by decide) ?_
      refine zj_iload_n (pc := 27) hc dX9_behind_27 rfl ?_
      refine zj_aload_n (pc := 28) hc dX9_behind_28 rfl ?_
      refine zg_0_9 (pc := 29) hc lk_X9_43 dX9_behind_29 ?_
      refine zg_1_0 (pc := 32) hc lk_X9_149 dX9_behind_32 ?_
      refine zj_iload (pc := 35) hc dX9_behind_35 rfl ?_
      refine zj_sti (pc := 37) (st := [.inl v2]) hc ks_X4_entryCount st_X4_entryCount lk_X9_228 (S_X4_entryCount l G 64 y4 M _ h) rfl ⟨Nat.le_of_ble_eq_true rfl, Nat.le_of_ble_eq_true rfl⟩ (Nat.le_of_ble_eq_true rfl) ⟨Nat.le_of_ble_eq_true rfl, Nat.le_of_ble_eq_true rfl⟩ dX9_behind_37 rfl (fun y5 M9 h => ?_)
      obtain ⟨hM9, h⟩ := h
      subst hM9
      refine zj_icmp_le (pc := 40) (tgt := 45) hc dX9_behind_40 (by decide) (fun hx6 => ?_) (fun hx6 => ?_)
      · have h := h.1 hx6
        refine zj_aload_n (pc := 45) hc dX9_behind_45 rfl ?_
        refine zg_0_11 (pc := 46) hc lk_X9_57 dX9_behind_46 ?_
        refine zj_aload_n (pc := 49) hc dX9_behind_49 rfl ?_
        refine zg_0_9 (pc := 50) hc lk_X9_43 dX9_behind_50 ?_
        refine zg_1_0 (pc := 53) hc lk_X9_149 dX9_behind_53 ?_
        refine zj_iload (pc := 56) hc dX9_behind_56 rfl ?_
        refine zj_iload_n (pc := 58) hc dX9_behind_58 rfl ?_
        refine zj_vtv (pc := 59) (st := []) hc ks_X8_loadOnly iv_X8_loadOnly lk_X9_187 (zrv_5 G M) (S_X8_loadOnly l G (Or.inr rfl) 64 y4 v2 M _ h) rfl ⟨Nat.le_of_ble_eq_true rfl, Nat.le_of_ble_eq_true rfl⟩ (Nat.le_of_ble_eq_true rfl) ⟨Nat.le_of_ble_eq_true rfl, Nat.le_of_ble_eq_true rfl⟩ dX9_behind_59 rfl (fun M7 h => ?_)
        refine zj_iload_n (pc := 62) hc dX9_behind_62 rfl ?_
        refine zj_iconst (pc := 63) hc dX9_behind_63 (zin _ rfl) ?_
        refine zj_icmp_ne (pc := 64) (tgt := 81) hc dX9_behind_64 (by decide) (fun hx8 => ?_) (fun hx8 => ?_)
        · have h := h.1 hx8
          refine zj_aload_n (pc := 81) hc dX9_behind_81 rfl ?_
          refine zg_0_11 (pc := 82) hc lk_X9_57 dX9_behind_82 ?_
          refine zj_iload_n (pc := 85) hc dX9_behind_85 rfl ?_
          refine zj_vti (pc := 86) (st := []) hc ks_X8_sizeOf iv_X8_sizeOf lk_X9_191 (zrv_5 G M7) (S_X8_sizeOf l G (Or.inr rfl) v3 M7 _ h) rfl ⟨Nat.le_of_ble_eq_true rfl, Nat.le_of_ble_eq_true rfl⟩ (Nat.le_of_ble_eq_true rfl) ⟨Nat.le_of_ble_eq_true rfl, Nat.le_of_ble_eq_true rfl⟩ dX9_behind_86 rfl (fun y9 M9 h => ?_)
          obtain ⟨hM9, h⟩ := h
          subst hM9
          exact zj_iret (pc := 89) hc hr hlk dX9_behind_89 (by decide) (by decide) h
        · have h := h.2 hx8
          refine zj_aload_n (pc := 67) hc dX9_behind_67 rfl ?_
          refine zg_0_11 (pc := 68) hc lk_X9_57 dX9_behind_68 ?_
          refine zj_iconst (pc := 71) hc dX9_behind_71 (zin _ rfl) ?_
          refine zj_sipush (pc := 72) hc dX9_behind_72 (by decide) (zin _ rfl) ?_
          refine zj_vti (pc := 75) (st := []) hc ks_X8_countIn iv_X8_countIn lk_X9_222 (zrv_5 G M7) (S_X8_countIn l G (Or.inr rfl) 0 256 M7 _ h) rfl ⟨Nat.le_of_ble_eq_true rfl, Nat.le_of_ble_eq_true rfl⟩ (Nat.le_of_ble_eq_true rfl) ⟨Nat.le_of_ble_eq_true rfl, Nat.le_of_ble_eq_true rfl⟩ dX9_behind_75 rfl (fun y10 M9 h => ?_)
          obtain ⟨hM9, h⟩ := h
          subst hM9
          refine zj_goto (pc := 78) (tgt := 89) hc dX9_behind_78 (by decide) ?_
          exact zj_iret (pc := 89) hc hr hlk dX9_behind_89 (by decide) (by decide) h
      · have h := h.2 hx6
        refine zj_iconst (pc := 43) hc dX9_behind_43 (zin _ rfl) ?_
        exact zj_iret (pc := 44) hc hr hlk dX9_behind_44 (by decide) (by decide) h
    · have h := h.2 hx3
      refine zj_iconst (pc := 12) hc dX9_behind_12 (zin _ rfl) ?_
      exact zj_iret (pc := 13) hc hr hlk dX9_behind_13 (by decide) (by decide) h
set_option maxHeartbeats 4000000 in
set_option maxRecDepth 100000 in
theorem S_X9_would (l : Launch) (G : zG) (v1 : Int) (M : zMem) (Qr : Int → zMem → Prop) (h : T_X9_would v1 Qr M) : zMetI l yX9_would cX9_would 4 (some .int) 7 187 0 0 G [.inr 63, .inl v1] M Qr := by
  refine zmetI (by decide) (Nat.le_of_ble_eq_true rfl) [some (.inr 63), some (.inl v1), none, none] rfl ?_
  intro p e s m args below meth c hc hr hlk
  have k35 : ∀ (M : zMem) (v1 : Int) (v2 : Int) (s0 : Int), T_X9_would_35 v1 v2 s0 Qr M → zJ p l e (zRoom 7 187 0 0) s m args below meth c G 4 0 0 (MQ below (zQi G (Qr)) args s 0 0 (zA G)) 35 [some (.inr 63), some (.inl v1), some (.inl v2), none] [.inl s0] M := by
    intro M v1 v2 s0 h
    unfold T_X9_would_35 at h
    refine zj_istore_n (pc := 35) hc dX9_would_35 (by decide) ?_
    refine zj_iload_n (pc := 36) hc dX9_would_36 rfl ?_
    by_cases hx1 : v1 < 0 ∨ 2 < v1
    · have h := h.2.2.2 hx1
      refine zj_tableOut (pc := 37) (tgt := 105) hc dX9_would_37 hx1 (by decide) ?_
      refine zj_iload_n (pc := 105) hc dX9_would_105 rfl ?_
      refine zj_if_eq (pc := 106) (tgt := 119) hc dX9_would_106 (by decide) (fun hx2 => ?_) (fun hx2 => ?_)
      · have h := h.1 hx2
        refine zj_aload_n (pc := 119) hc dX9_would_119 rfl ?_
        refine zg_0_10 (pc := 120) hc lk_X9_50 dX9_would_120 ?_
        refine zg_2_0 (pc := 123) hc lk_X9_262 dX9_would_123 ?_
        refine zj_sti (pc := 126) (st := []) hc ks_X4_inUse st_X4_inUse lk_X9_263 (S_X4_inUse l G 128 M _ h) rfl ⟨Nat.le_of_ble_eq_true rfl, Nat.le_of_ble_eq_true rfl⟩ (Nat.le_of_ble_eq_true rfl) ⟨Nat.le_of_ble_eq_true rfl, Nat.le_of_ble_eq_true rfl⟩ dX9_would_126 rfl (fun y3 M9 h => ?_)
        obtain ⟨hM9, h⟩ := h
        subst hM9
        exact zj_iret (pc := 129) hc hr hlk dX9_would_129 (by decide) (by decide) h
      · have h := h.2 hx2
        refine zj_aload_n (pc := 109) hc dX9_would_109 rfl ?_
        refine zg_0_9 (pc := 110) hc lk_X9_43 dX9_would_110 ?_
        refine zg_1_0 (pc := 113) hc lk_X9_149 dX9_would_113 ?_
        refine zj_goto (pc := 116) (tgt := 126) hc dX9_would_116 (by decide) ?_
        refine zj_sti (pc := 126) (st := []) hc ks_X4_inUse st_X4_inUse lk_X9_263 (S_X4_inUse l G 64 M _ h) rfl ⟨Nat.le_of_ble_eq_true rfl, Nat.le_of_ble_eq_true rfl⟩ (Nat.le_of_ble_eq_true rfl) ⟨Nat.le_of_ble_eq_true rfl, Nat.le_of_ble_eq_true rfl⟩ dX9_would_126 rfl (fun y4 M9 h => ?_)
        obtain ⟨hM9, h⟩ := h
        subst hM9
        exact zj_iret (pc := 129) hc hr hlk dX9_would_129 (by decide) (by decide) h
    · have hx1 : v1 = 0 ∨ v1 = 1 ∨ v1 = 2 := by clear h; omega
      rcases hx1 with hx1 | hx1 | hx1
      · have h := h.1 hx1
        refine zj_tableIn (pc := 37) (tgt := 64) (off := 27) hc dX9_would_37 (by rw [hx1]; decide) (by rw [hx1]; rfl) (by decide) ?_
        refine zj_iload_n (pc := 64) hc dX9_would_64 rfl ?_
        exact zj_iret (pc := 65) hc hr hlk dX9_would_65 (by decide) (by decide) h
      · have h := h.2.1 hx1
        refine zj_tableIn (pc := 37) (tgt := 66) (off := 29) hc dX9_would_37 (by rw [hx1]; decide) (by rw [hx1]; rfl) (by decide) ?_
        refine zj_iload_n (pc := 66) hc dX9_would_66 rfl ?_
        refine zj_if_eq (pc := 67) (tgt := 74) hc dX9_would_67 (by decide) (fun hx5 => ?_) (fun hx5 => ?_)
        · have h := h.1 hx5
          refine zj_aload_n (pc := 74) hc dX9_would_74 rfl ?_
          refine zg_0_10 (pc := 75) hc lk_X9_50 dX9_would_75 ?_
          refine zj_vti (pc := 78) (st := []) hc ks_X1_bytesThroughJournal iv_X1_bytesThroughJournal lk_X9_258 (zrv_2 G M) (S_X1_bytesThroughJournal l G M _ h) rfl ⟨Nat.le_of_ble_eq_true rfl, Nat.le_of_ble_eq_true rfl⟩ (Nat.le_of_ble_eq_true rfl) ⟨Nat.le_of_ble_eq_true rfl, Nat.le_of_ble_eq_true rfl⟩ dX9_would_78 rfl (fun y6 M9 h => ?_)
          obtain ⟨hM9, h⟩ := h
          subst hM9
          exact zj_iret (pc := 81) hc hr hlk dX9_would_81 (by decide) (by decide) h
        · have h := h.2 hx5
          refine zj_iconst (pc := 70) hc dX9_would_70 (zin _ rfl) ?_
          refine zj_goto (pc := 71) (tgt := 81) hc dX9_would_71 (by decide) ?_
          exact zj_iret (pc := 81) hc hr hlk dX9_would_81 (by decide) (by decide) h
      · have h := h.2.2.1 hx1
        refine zj_tableIn (pc := 37) (tgt := 82) (off := 45) hc dX9_would_37 (by rw [hx1]; decide) (by rw [hx1]; rfl) (by decide) ?_
        refine zj_iload_n (pc := 82) hc dX9_would_82 rfl ?_
        refine zj_if_eq (pc := 83) (tgt := 95) hc dX9_would_83 (by decide) (fun hx7 => ?_) (fun hx7 => ?_)
        · have h := h.1 hx7
          refine zj_aload_n (pc := 95) hc dX9_would_95 rfl ?_
          refine zg_0_10 (pc := 96) hc lk_X9_50 dX9_would_96 ?_
          refine zg_2_1 (pc := 99) hc lk_X9_261 dX9_would_99 ?_
          refine zj_iconst (pc := 102) hc dX9_would_102 (zin _ rfl) ?_
          refine zj_iald (pc := 103) hc dX9_would_103 alen_129 h.1 ?_
          have h := h.2
          exact zj_iret (pc := 104) hc hr hlk dX9_would_104 (by decide) (by decide) h
        · have h := h.2 hx7
          refine zj_aload_n (pc := 86) hc dX9_would_86 rfl ?_
          refine zg_0_1 (pc := 87) hc lk_X9_13 dX9_would_87 ?_
          refine zj_iconst (pc := 90) hc dX9_would_90 (zin _ rfl) ?_
          refine zj_iald (pc := 91) hc dX9_would_91 alen_1 h.1 ?_
          have h := h.2
          refine zj_goto (pc := 92) (tgt := 104) hc dX9_would_92 (by decide) ?_
          exact zj_iret (pc := 104) hc hr hlk dX9_would_104 (by decide) (by decide) h
  unfold T_X9_would at h
  refine zj_aload_n (pc := 0) hc dX9_would_0 rfl ?_
  refine zg_0_9 (pc := 1) hc lk_X9_43 dX9_would_1 ?_
  refine zg_1_2 (pc := 4) hc lk_X9_138 dX9_would_4 ?_
  refine zj_if_ne (pc := 7) (tgt := 19) hc dX9_would_7 (by decide) (fun hx8 => ?_) (fun hx8 => ?_)
  · have h := h.1 hx8
    refine zj_iconst (pc := 19) hc dX9_would_19 (zin _ rfl) ?_
    exact zj_iret (pc := 20) hc hr hlk dX9_would_20 (by decide) (by decide) h
  · have h := h.2 hx8
    refine zj_iload_n (pc := 10) hc dX9_would_10 rfl ?_
    refine zj_if_lt (pc := 11) (tgt := 19) hc dX9_would_11 (by decide) (fun hx9 => ?_) (fun hx9 => ?_)
    · have h := h.1 hx9
      refine zj_iconst (pc := 19) hc dX9_would_19 (zin _ rfl) ?_
      exact zj_iret (pc := 20) hc hr hlk dX9_would_20 (by decide) (by decide) h
    · have h := h.2 hx9
      refine zj_iload_n (pc := 14) hc dX9_would_14 rfl ?_
      refine zj_iconst (pc := 15) hc dX9_would_15 (zin _ rfl) ?_
      refine zj_icmp_le (pc := 16) (tgt := 21) hc dX9_would_16 (by decide) (fun hx10 => ?_) (fun hx10 => ?_)
      · have h := h.1 hx10
        refine zj_aload_n (pc := 21) hc dX9_would_21 rfl ?_
        refine zj_vti (pc := 22) (st := []) hc ks_X9_rehearse iv_X9_rehearse lk_X9_142 (zrv_0 G M) (S_X9_rehearse l G M _ h) rfl ⟨Nat.le_of_ble_eq_true rfl, Nat.le_of_ble_eq_true rfl⟩ (Nat.le_of_ble_eq_true rfl) ⟨Nat.le_of_ble_eq_true rfl, Nat.le_of_ble_eq_true rfl⟩ dX9_would_22 rfl (fun y11 M12 h => ?_)
        refine zj_istore_n (pc := 25) hc dX9_would_25 (by decide) ?_
        refine zj_iload_n (pc := 26) hc dX9_would_26 rfl ?_
        refine zj_if_ge (pc := 27) (tgt := 34) hc dX9_would_27 (by decide) (fun hx13 => ?_) (fun hx13 => ?_)
        · have h := h.1 hx13
          refine zj_iconst (pc := 34) hc dX9_would_34 (zin _ rfl) ?_
          exact k35 M12 v1 y11 0 h
        · have h := h.2 hx13
          refine zj_iconst (pc := 30) hc dX9_would_30 (zin _ rfl) ?_
          refine zj_goto (pc := 31) (tgt := 35) hc dX9_would_31 (by decide) ?_
          exact k35 M12 v1 y11 1 h
      · have h := h.2 hx10
        refine zj_iconst (pc := 19) hc dX9_would_19 (zin _ rfl) ?_
        exact zj_iret (pc := 20) hc hr hlk dX9_would_20 (by decide) (by decide) h
set_option maxHeartbeats 4000000 in
set_option maxRecDepth 100000 in
theorem S_X9_block (l : Launch) (G : zG) (v1 : Int) (v2 : Int) (M : zMem) (Qr : Int → Prop) (h : T_X9_block v1 v2 Qr M) : zMetI l yX9_block cX9_block 3 (some .int) 0 0 0 0 G [.inr 63, .inl v1, .inl v2] M (fun r9 M9 => M = M9 ∧ Qr r9) := by
  refine zmetI (by decide) (Nat.le_of_ble_eq_true rfl) [some (.inr 63), some (.inl v1), some (.inl v2)] rfl ?_
  intro p e s m args below meth c hc hr hlk
  unfold T_X9_block at h
  refine zj_iload_n (pc := 0) hc dX9_block_0 rfl ?_
  refine zj_if_lt (pc := 1) (tgt := 20) hc dX9_block_1 (by decide) (fun hx1 => ?_) (fun hx1 => ?_)
  · have h := h.1 hx1
    refine zj_iconst (pc := 20) hc dX9_block_20 (zin _ rfl) ?_
    exact zj_iret (pc := 21) hc hr hlk dX9_block_21 (by decide) (by decide) ⟨rfl, h⟩
  · have h := h.2 hx1
    refine zj_iload_n (pc := 4) hc dX9_block_4 rfl ?_
    refine zj_bipush (pc := 5) hc dX9_block_5 (by decide) (zin _ rfl) ?_
    refine zj_icmp_ge (pc := 7) (tgt := 20) hc dX9_block_7 (by decide) (fun hx2 => ?_) (fun hx2 => ?_)
    · have h := h.1 hx2
      refine zj_iconst (pc := 20) hc dX9_block_20 (zin _ rfl) ?_
      exact zj_iret (pc := 21) hc hr hlk dX9_block_21 (by decide) (by decide) ⟨rfl, h⟩
    · have h := h.2 hx2
      refine zj_iload_n (pc := 10) hc dX9_block_10 rfl ?_
      refine zj_if_lt (pc := 11) (tgt := 20) hc dX9_block_11 (by decide) (fun hx3 => ?_) (fun hx3 => ?_)
      · have h := h.1 hx3
        refine zj_iconst (pc := 20) hc dX9_block_20 (zin _ rfl) ?_
        exact zj_iret (pc := 21) hc hr hlk dX9_block_21 (by decide) (by decide) ⟨rfl, h⟩
      · have h := h.2 hx3
        refine zj_iload_n (pc := 14) hc dX9_block_14 rfl ?_
        refine zj_bipush (pc := 15) hc dX9_block_15 (by decide) (zin _ rfl) ?_
        refine zj_icmp_lt (pc := 17) (tgt := 22) hc dX9_block_17 (by decide) (fun hx4 => ?_) (fun hx4 => ?_)
        · have h := h.1 hx4
          refine zj_aload_n (pc := 22) hc dX9_block_22 rfl ?_
          refine zg_0_9 (pc := 23) hc lk_X9_43 dX9_block_23 ?_
          refine zg_1_0 (pc := 26) hc lk_X9_149 dX9_block_26 ?_
          refine zj_iload_n (pc := 29) hc dX9_block_29 rfl ?_
          refine zj_bipush (pc := 30) hc dX9_block_30 (by decide) (zin _ rfl) ?_
          refine zj_imul (pc := 32) hc dX9_block_32 h.1 ?_
          have h := h.2
          refine zj_iload_n (pc := 33) hc dX9_block_33 rfl ?_
          refine zj_iadd (pc := 34) hc dX9_block_34 h.1 ?_
          have h := h.2
          refine zj_iald (pc := 35) hc dX9_block_35 alen_64 h.1 ?_
          have h := h.2
          exact zj_iret (pc := 36) hc hr hlk dX9_block_36 (by decide) (by decide) ⟨rfl, h⟩
        · have h := h.2 hx4
          refine zj_iconst (pc := 20) hc dX9_block_20 (zin _ rfl) ?_
          exact zj_iret (pc := 21) hc hr hlk dX9_block_21 (by decide) (by decide) ⟨rfl, h⟩
set_option maxHeartbeats 4000000 in
set_option maxRecDepth 100000 in
theorem S_X9_directory (l : Launch) (G : zG) (v1 : Int) (M : zMem) (Qr : Int → Prop) (h : T_X9_directory v1 Qr M) : zMetI l yX9_directory cX9_directory 2 (some .int) 0 0 0 0 G [.inr 63, .inl v1] M (fun r9 M9 => M = M9 ∧ Qr r9) := by
  refine zmetI (by decide) (Nat.le_of_ble_eq_true rfl) [some (.inr 63), some (.inl v1)] rfl ?_
  intro p e s m args below meth c hc hr hlk
  unfold T_X9_directory at h
  refine zj_iload_n (pc := 0) hc dX9_directory_0 rfl ?_
  refine zj_if_lt (pc := 1) (tgt := 26) hc dX9_directory_1 (by decide) (fun hx1 => ?_) (fun hx1 => ?_)
  · have h := h.1 hx1
    refine zj_iconst (pc := 26) hc dX9_directory_26 (zin _ rfl) ?_
    exact zj_iret (pc := 27) hc hr hlk dX9_directory_27 (by decide) (by decide) ⟨rfl, h⟩
  · have h := h.2 hx1
    refine zj_iload_n (pc := 4) hc dX9_directory_4 rfl ?_
    refine zj_bipush (pc := 5) hc dX9_directory_5 (by decide) (zin _ rfl) ?_
    refine zj_icmp_ge (pc := 7) (tgt := 26) hc dX9_directory_7 (by decide) (fun hx2 => ?_) (fun hx2 => ?_)
    · have h := h.1 hx2
      refine zj_iconst (pc := 26) hc dX9_directory_26 (zin _ rfl) ?_
      exact zj_iret (pc := 27) hc hr hlk dX9_directory_27 (by decide) (by decide) ⟨rfl, h⟩
    · have h := h.2 hx2
      refine zj_aload_n (pc := 10) hc dX9_directory_10 rfl ?_
      refine zg_0_9 (pc := 11) hc lk_X9_43 dX9_directory_11 ?_
      refine zg_1_0 (pc := 14) hc lk_X9_149 dX9_directory_14 ?_
      refine zj_sipush (pc := 17) hc dX9_directory_17 (by decide) (zin _ rfl) ?_
      refine zj_iload_n (pc := 20) hc dX9_directory_20 rfl ?_
      refine zj_iadd (pc := 21) hc dX9_directory_21 h.1 ?_
      have h := h.2
      refine zj_iald (pc := 22) hc dX9_directory_22 alen_64 h.1 ?_
      have h := h.2
      refine zj_goto (pc := 23) (tgt := 27) hc dX9_directory_23 (by decide) ?_
      exact zj_iret (pc := 27) hc hr hlk dX9_directory_27 (by decide) (by decide) ⟨rfl, h⟩
set_option maxHeartbeats 4000000 in
set_option maxRecDepth 100000 in
theorem S_X9_journal (l : Launch) (G : zG) (v1 : Int) (M : zMem) (Qr : Int → Prop) (h : T_X9_journal v1 Qr M) : zMetI l yX9_journal cX9_journal 2 (some .int) 0 0 0 0 G [.inr 63, .inl v1] M (fun r9 M9 => M = M9 ∧ Qr r9) := by
  refine zmetI (by decide) (Nat.le_of_ble_eq_true rfl) [some (.inr 63), some (.inl v1)] rfl ?_
  intro p e s m args below meth c hc hr hlk
  unfold T_X9_journal at h
  refine zj_iload_n (pc := 0) hc dX9_journal_0 rfl ?_
  refine zj_if_lt (pc := 1) (tgt := 27) hc dX9_journal_1 (by decide) (fun hx1 => ?_) (fun hx1 => ?_)
  · have h := h.1 hx1
    refine zj_iconst (pc := 27) hc dX9_journal_27 (zin _ rfl) ?_
    exact zj_iret (pc := 28) hc hr hlk dX9_journal_28 (by decide) (by decide) ⟨rfl, h⟩
  · have h := h.2 hx1
    refine zj_iload_n (pc := 4) hc dX9_journal_4 rfl ?_
    refine zj_sipush (pc := 5) hc dX9_journal_5 (by decide) (zin _ rfl) ?_
    refine zj_icmp_ge (pc := 8) (tgt := 27) hc dX9_journal_8 (by decide) (fun hx2 => ?_) (fun hx2 => ?_)
    · have h := h.1 hx2
      refine zj_iconst (pc := 27) hc dX9_journal_27 (zin _ rfl) ?_
      exact zj_iret (pc := 28) hc hr hlk dX9_journal_28 (by decide) (by decide) ⟨rfl, h⟩
    · have h := h.2 hx2
      refine zj_aload_n (pc := 11) hc dX9_journal_11 rfl ?_
      refine zg_0_9 (pc := 12) hc lk_X9_43 dX9_journal_12 ?_
      refine zg_1_0 (pc := 15) hc lk_X9_149 dX9_journal_15 ?_
      refine zj_sipush (pc := 18) hc dX9_journal_18 (by decide) (zin _ rfl) ?_
      refine zj_iload_n (pc := 21) hc dX9_journal_21 rfl ?_
      refine zj_iadd (pc := 22) hc dX9_journal_22 h.1 ?_
      have h := h.2
      refine zj_iald (pc := 23) hc dX9_journal_23 alen_64 h.1 ?_
      have h := h.2
      refine zj_goto (pc := 24) (tgt := 28) hc dX9_journal_24 (by decide) ?_
      exact zj_iret (pc := 28) hc hr hlk dX9_journal_28 (by decide) (by decide) ⟨rfl, h⟩
set_option maxHeartbeats 4000000 in
set_option maxRecDepth 100000 in
theorem S_X9_countOnDisk (l : Launch) (G : zG) (v1 : Int) (M : zMem) (Qr : Int → zMem → Prop) (h : T_X9_countOnDisk v1 Qr M) : zMetI l yX9_countOnDisk cX9_countOnDisk 5 (some .int) 5 131 0 0 G [.inr 63, .inl v1] M Qr := by
  refine zmetI (by decide) (Nat.le_of_ble_eq_true rfl) [some (.inr 63), some (.inl v1), none, none, none] rfl ?_
  intro p e s m args below meth c hc hr hlk
  have k65 : ∀ (M : zMem) (v2 : Int) (v3 : Int) (v4 : Int), T_X9_countOnDisk_65 v2 Qr v3 v4 M → zJ p l e (zRoom 5 131 0 0) s m args below meth c G 5 0 0 (MQ below (zQi G (Qr)) args s 0 0 (zA G)) 65 [some (.inr 63), none, some (.inl v2), some (.inl v3), some (.inl v4)] [] M := by
    intro M v2 v3 v4 h
    unfold T_X9_countOnDisk_65 at h
    refine zp2_use h (fun v3 v4 => zJ p l e (zRoom 5 131 0 0) s m args below meth c G 5 0 0 (MQ below (zQi G (Qr)) args s 0 0 (zA G)) 65 [some (.inr 63), none, some (.inl v2), some (.inl v3), some (.inl v4)] [] M) (fun X65 hX65 v3 v4 h => ?_)
    refine zj_iload (pc := 65) hc dX9_countOnDisk_65 rfl ?_
    refine zj_iload_n (pc := 67) hc dX9_countOnDisk_67 rfl ?_
    refine zj_icmp_ge (pc := 68) (tgt := 102) hc dX9_countOnDisk_68 (by decide) (fun hx1 => ?_) (fun hx1 => ?_)
    · have h := h.1 hx1
      refine zj_iload_n (pc := 102) hc dX9_countOnDisk_102 rfl ?_
      exact zj_iret (pc := 103) hc hr hlk dX9_countOnDisk_103 (by decide) (by decide) h
    · have h := h.2 hx1
      refine zj_iload_n (pc := 71) hc dX9_countOnDisk_71 rfl ?_
      refine zj_aload_n (pc := 72) hc dX9_countOnDisk_72 rfl ?_
      refine zg_0_9 (pc := 73) hc lk_X9_43 dX9_countOnDisk_73 ?_
      refine zg_1_0 (pc := 76) hc lk_X9_149 dX9_countOnDisk_76 ?_
      refine zj_aload_n (pc := 79) hc dX9_countOnDisk_79 rfl ?_
      refine zg_0_9 (pc := 80) hc lk_X9_43 dX9_countOnDisk_80 ?_
      refine zg_1_0 (pc := 83) hc lk_X9_149 dX9_countOnDisk_83 ?_
      refine zj_iload (pc := 86) hc dX9_countOnDisk_86 rfl ?_
      refine zj_sti (pc := 88) (st := [.inr 64, .inl v3]) hc ks_X4_pageAt st_X4_pageAt lk_X9_214 (S_X4_pageAt l G 64 v4 M _ h) rfl ⟨Nat.le_of_ble_eq_true rfl, Nat.le_of_ble_eq_true rfl⟩ (Nat.le_of_ble_eq_true rfl) ⟨Nat.le_of_ble_eq_true rfl, Nat.le_of_ble_eq_true rfl⟩ dX9_countOnDisk_88 rfl (fun y2 M9 h => ?_)
      obtain ⟨hM9, h⟩ := h
      subst hM9
      refine zj_sti (pc := 91) (st := [.inl v3]) hc ks_X4_entryCount st_X4_entryCount lk_X9_228 (S_X4_entryCount l G 64 y2 M _ h) rfl ⟨Nat.le_of_ble_eq_true rfl, Nat.le_of_ble_eq_true rfl⟩ (Nat.le_of_ble_eq_true rfl) ⟨Nat.le_of_ble_eq_true rfl, Nat.le_of_ble_eq_true rfl⟩ dX9_countOnDisk_91 rfl (fun y3 M9 h => ?_)
      obtain ⟨hM9, h⟩ := h
      subst hM9
      refine zj_iadd (pc := 94) hc dX9_countOnDisk_94 h.1 ?_
      have h := h.2
      refine zj_istore_n (pc := 95) hc dX9_countOnDisk_95 (by decide) ?_
      refine zj_iinc (pc := 96) hc dX9_countOnDisk_96 rfl (by decide) h.1 ?_
      have h := h.2
      refine zj_goto (pc := 99) (tgt := 65) hc dX9_countOnDisk_99 (by decide) ?_
      exact hX65 (v3 + y3) (v4 + 1) h
  unfold T_X9_countOnDisk at h
  refine zj_aload_n (pc := 0) hc dX9_countOnDisk_0 rfl ?_
  refine zg_0_9 (pc := 1) hc lk_X9_43 dX9_countOnDisk_1 ?_
  refine zg_1_2 (pc := 4) hc lk_X9_138 dX9_countOnDisk_4 ?_
  refine zj_if_eq (pc := 7) (tgt := 12) hc dX9_countOnDisk_7 (by decide) (fun hx4 => ?_) (fun hx4 => ?_)
  · have h := h.1 hx4
    refine zj_aload_n (pc := 12) hc dX9_countOnDisk_12 rfl ?_
    refine zg_0_9 (pc := 13) hc lk_X9_43 dX9_countOnDisk_13 ?_
    refine zg_1_0 (pc := 16) hc lk_X9_149 dX9_countOnDisk_16 ?_
    refine zj_sti (pc := 19) (st := []) hc ks_X4_inUse st_X4_inUse lk_X9_263 (S_X4_inUse l G 64 M _ h) rfl ⟨Nat.le_of_ble_eq_true rfl, Nat.le_of_ble_eq_true rfl⟩ (Nat.le_of_ble_eq_true rfl) ⟨Nat.le_of_ble_eq_true rfl, Nat.le_of_ble_eq_true rfl⟩ dX9_countOnDisk_19 rfl (fun y5 M9 h => ?_)
    obtain ⟨hM9, h⟩ := h
    subst hM9
    refine zj_istore_n (pc := 22) hc dX9_countOnDisk_22 (by decide) ?_
    refine zj_iload_n (pc := 23) hc dX9_countOnDisk_23 rfl ?_
    refine zj_iconst (pc := 24) hc dX9_countOnDisk_24 (zin _ rfl) ?_
    refine zj_icmp_ne (pc := 25) (tgt := 30) hc dX9_countOnDisk_25 (by decide) (fun hx6 => ?_) (fun hx6 => ?_)
    · have h := h.1 hx6
      refine zj_iload_n (pc := 30) hc dX9_countOnDisk_30 rfl ?_
      refine zj_if_ne (pc := 31) (tgt := 60) hc dX9_countOnDisk_31 (by decide) (fun hx7 => ?_) (fun hx7 => ?_)
      · have h := h.1 hx7
        refine zj_iconst (pc := 60) hc dX9_countOnDisk_60 (zin _ rfl) ?_
        refine zj_istore_n (pc := 61) hc dX9_countOnDisk_61 (by decide) ?_
        refine zj_iconst (pc := 62) hc dX9_countOnDisk_62 (zin _ rfl) ?_
        refine zj_istore (pc := 63) hc dX9_countOnDisk_63 (by decide) ?_
        refine zj_mask (bs := [true, false, true, true, true]) ?_
        exact k65 M y5 0 0 h
      · have h := h.2 hx7
        refine zj_aload_n (pc := 34) hc dX9_countOnDisk_34 rfl ?_
        refine zg_0_11 (pc := 35) hc lk_X9_57 dX9_countOnDisk_35 ?_
        refine zj_aload_n (pc := 38) hc dX9_countOnDisk_38 rfl ?_
        refine zg_0_9 (pc := 39) hc lk_X9_43 dX9_countOnDisk_39 ?_
        refine zg_1_0 (pc := 42) hc lk_X9_149 dX9_countOnDisk_42 ?_
        refine zj_vtv (pc := 45) (st := []) hc ks_X8_loadAll iv_X8_loadAll lk_X9_204 (zrv_5 G M) (S_X8_loadAll l G (Or.inr rfl) 64 M _ h) rfl ⟨Nat.le_of_ble_eq_true rfl, Nat.le_of_ble_eq_true rfl⟩ (Nat.le_of_ble_eq_true rfl) ⟨Nat.le_of_ble_eq_true rfl, Nat.le_of_ble_eq_true rfl⟩ dX9_countOnDisk_45 rfl (fun M8 h => ?_)
        refine zj_aload_n (pc := 48) hc dX9_countOnDisk_48 rfl ?_
        refine zg_0_11 (pc := 49) hc lk_X9_57 dX9_countOnDisk_49 ?_
        refine zj_iconst (pc := 52) hc dX9_countOnDisk_52 (zin _ rfl) ?_
        refine zj_sipush (pc := 53) hc dX9_countOnDisk_53 (by decide) (zin _ rfl) ?_
        refine zj_vti (pc := 56) (st := []) hc ks_X8_countIn iv_X8_countIn lk_X9_222 (zrv_5 G M8) (S_X8_countIn l G (Or.inr rfl) 0 256 M8 _ h) rfl ⟨Nat.le_of_ble_eq_true rfl, Nat.le_of_ble_eq_true rfl⟩ (Nat.le_of_ble_eq_true rfl) ⟨Nat.le_of_ble_eq_true rfl, Nat.le_of_ble_eq_true rfl⟩ dX9_countOnDisk_56 rfl (fun y9 M9 h => ?_)
        obtain ⟨hM9, h⟩ := h
        subst hM9
        exact zj_iret (pc := 59) hc hr hlk dX9_countOnDisk_59 (by decide) (by decide) h
    · have h := h.2 hx6
      refine zj_iload_n (pc := 28) hc dX9_countOnDisk_28 rfl ?_
      exact zj_iret (pc := 29) hc hr hlk dX9_countOnDisk_29 (by decide) (by decide) h
  · have h := h.2 hx4
    refine zj_iconst (pc := 10) hc dX9_countOnDisk_10 (zin _ rfl) ?_
    exact zj_iret (pc := 11) hc hr hlk dX9_countOnDisk_11 (by decide) (by decide) h
set_option maxHeartbeats 4000000 in
set_option maxRecDepth 100000 in
theorem S_X9_count (l : Launch) (G : zG) (v1 : Int) (M : zMem) (Qr : Int → zMem → Prop) (h : T_X9_count v1 Qr M) : zMetI l yX9_count cX9_count 2 (some .int) 6 155 0 0 G [.inr 63, .inl v1] M Qr := by
  refine zmetI (by decide) (Nat.le_of_ble_eq_true rfl) [some (.inr 63), some (.inl v1)] rfl ?_
  intro p e s m args below meth c hc hr hlk
  have k79 : ∀ (M : zMem) (v1 : Int), T_X9_count_79 v1 Qr M → zJ p l e (zRoom 6 155 0 0) s m args below meth c G 2 0 0 (MQ below (zQi G (Qr)) args s 0 0 (zA G)) 79 [some (.inr 63), some (.inl v1)] [] M := by
    intro M v1 h
    unfold T_X9_count_79 at h
    refine zj_iload_n (pc := 79) hc dX9_count_79 rfl ?_
    by_cases hx1 : v1 < 7 ∨ 12 < v1
    · have h := h.2.2.2.2.2.2 hx1
      refine zj_tableOut (pc := 80) (tgt := 173) hc dX9_count_80 hx1 (by decide) ?_
      refine zj_iconst (pc := 173) hc dX9_count_173 (zin _ rfl) ?_
      exact zj_iret (pc := 174) hc hr hlk dX9_count_174 (by decide) (by decide) h
    · have hx1 : v1 = 7 ∨ v1 = 8 ∨ v1 = 9 ∨ v1 = 10 ∨ v1 = 11 ∨ v1 = 12 := by clear h; omega
      rcases hx1 with hx1 | hx1 | hx1 | hx1 | hx1 | hx1
      · have h := h.1 hx1
        refine zj_tableIn (pc := 80) (tgt := 120) (off := 40) hc dX9_count_80 (by rw [hx1]; decide) (by rw [hx1]; rfl) (by decide) ?_
        refine zj_aload_n (pc := 120) hc dX9_count_120 rfl ?_
        refine zg_0_12 (pc := 121) hc lk_X9_64 dX9_count_121 ?_
        refine zg_7_0 (pc := 124) hc lk_X9_270 dX9_count_124 ?_
        exact zj_iret (pc := 127) hc hr hlk dX9_count_127 (by decide) (by decide) h
      · have h := h.2.1 hx1
        refine zj_tableIn (pc := 80) (tgt := 128) (off := 48) hc dX9_count_80 (by rw [hx1]; decide) (by rw [hx1]; rfl) (by decide) ?_
        refine zj_aload_n (pc := 128) hc dX9_count_128 rfl ?_
        refine zg_0_12 (pc := 129) hc lk_X9_64 dX9_count_129 ?_
        refine zg_7_1 (pc := 132) hc lk_X9_271 dX9_count_132 ?_
        exact zj_iret (pc := 135) hc hr hlk dX9_count_135 (by decide) (by decide) h
      · have h := h.2.2.1 hx1
        refine zj_tableIn (pc := 80) (tgt := 136) (off := 56) hc dX9_count_80 (by rw [hx1]; decide) (by rw [hx1]; rfl) (by decide) ?_
        refine zj_aload_n (pc := 136) hc dX9_count_136 rfl ?_
        refine zg_0_9 (pc := 137) hc lk_X9_43 dX9_count_137 ?_
        refine zg_1_1 (pc := 140) hc lk_X9_159 dX9_count_140 ?_
        exact zj_iret (pc := 143) hc hr hlk dX9_count_143 (by decide) (by decide) h
      · have h := h.2.2.2.1 hx1
        refine zj_tableIn (pc := 80) (tgt := 144) (off := 64) hc dX9_count_80 (by rw [hx1]; decide) (by rw [hx1]; rfl) (by decide) ?_
        refine zj_aload_n (pc := 144) hc dX9_count_144 rfl ?_
        refine zg_0_9 (pc := 145) hc lk_X9_43 dX9_count_145 ?_
        refine zg_1_2 (pc := 148) hc lk_X9_138 dX9_count_148 ?_
        refine zj_if_eq (pc := 151) (tgt := 158) hc dX9_count_151 (by decide) (fun hx2 => ?_) (fun hx2 => ?_)
        · have h := h.1 hx2
          refine zj_iconst (pc := 158) hc dX9_count_158 (zin _ rfl) ?_
          exact zj_iret (pc := 159) hc hr hlk dX9_count_159 (by decide) (by decide) h
        · have h := h.2 hx2
          refine zj_iconst (pc := 154) hc dX9_count_154 (zin _ rfl) ?_
          refine zj_goto (pc := 155) (tgt := 159) hc dX9_count_155 (by decide) ?_
          exact zj_iret (pc := 159) hc hr hlk dX9_count_159 (by decide) (by decide) h
      · have h := h.2.2.2.2.1 hx1
        refine zj_tableIn (pc := 80) (tgt := 160) (off := 80) hc dX9_count_80 (by rw [hx1]; decide) (by rw [hx1]; rfl) (by decide) ?_
        refine zj_aload_n (pc := 160) hc dX9_count_160 rfl ?_
        refine zg_0_13 (pc := 161) hc lk_X9_71 dX9_count_161 ?_
        refine zg_8_0 (pc := 164) hc lk_X9_197 dX9_count_164 ?_
        exact zj_iret (pc := 167) hc hr hlk dX9_count_167 (by decide) (by decide) h
      · have h := h.2.2.2.2.2.1 hx1
        refine zj_tableIn (pc := 80) (tgt := 168) (off := 88) hc dX9_count_80 (by rw [hx1]; decide) (by rw [hx1]; rfl) (by decide) ?_
        refine zj_aload_n (pc := 168) hc dX9_count_168 rfl ?_
        refine zg_0_3 (pc := 169) hc lk_X9_19 dX9_count_169 ?_
        exact zj_iret (pc := 172) hc hr hlk dX9_count_172 (by decide) (by decide) h
  have k57 : ∀ (M : zMem) (v1 : Int), T_X9_count_57 v1 Qr M → zJ p l e (zRoom 6 155 0 0) s m args below meth c G 2 0 0 (MQ below (zQi G (Qr)) args s 0 0 (zA G)) 57 [some (.inr 63), some (.inl v1)] [] M := by
    intro M v1 h
    unfold T_X9_count_57 at h
    refine zj_iload_n (pc := 57) hc dX9_count_57 rfl ?_
    refine zj_bipush (pc := 58) hc dX9_count_58 (by decide) (zin _ rfl) ?_
    refine zj_icmp_lt (pc := 60) (tgt := 79) hc dX9_count_60 (by decide) (fun hx3 => ?_) (fun hx3 => ?_)
    · have h := h.1 hx3
      exact k79 M v1 h
    · have h := h.2 hx3
      refine zj_iload_n (pc := 63) hc dX9_count_63 rfl ?_
      refine zj_bipush (pc := 64) hc dX9_count_64 (by decide) (zin _ rfl) ?_
      refine zj_icmp_gt (pc := 66) (tgt := 79) hc dX9_count_66 (by decide) (fun hx4 => ?_) (fun hx4 => ?_)
      · have h := h.1 hx4
        exact k79 M v1 h
      · have h := h.2 hx4
        refine zj_aload_n (pc := 69) hc dX9_count_69 rfl ?_
        refine zg_0_0 (pc := 70) hc lk_X9_9 dX9_count_70 ?_
        refine zj_iload_n (pc := 73) hc dX9_count_73 rfl ?_
        refine zj_bipush (pc := 74) hc dX9_count_74 (by decide) (zin _ rfl) ?_
        refine zj_isub (pc := 76) hc dX9_count_76 h.1 ?_
        have h := h.2
        refine zj_iald (pc := 77) hc dX9_count_77 alen_0 h.1 ?_
        have h := h.2
        exact zj_iret (pc := 78) hc hr hlk dX9_count_78 (by decide) (by decide) h
  have k35 : ∀ (M : zMem) (v1 : Int), T_X9_count_35 v1 Qr M → zJ p l e (zRoom 6 155 0 0) s m args below meth c G 2 0 0 (MQ below (zQi G (Qr)) args s 0 0 (zA G)) 35 [some (.inr 63), some (.inl v1)] [] M := by
    intro M v1 h
    unfold T_X9_count_35 at h
    refine zj_iload_n (pc := 35) hc dX9_count_35 rfl ?_
    refine zj_bipush (pc := 36) hc dX9_count_36 (by decide) (zin _ rfl) ?_
    refine zj_icmp_lt (pc := 38) (tgt := 57) hc dX9_count_38 (by decide) (fun hx5 => ?_) (fun hx5 => ?_)
    · have h := h.1 hx5
      exact k57 M v1 h
    · have h := h.2 hx5
      refine zj_iload_n (pc := 41) hc dX9_count_41 rfl ?_
      refine zj_bipush (pc := 42) hc dX9_count_42 (by decide) (zin _ rfl) ?_
      refine zj_icmp_gt (pc := 44) (tgt := 57) hc dX9_count_44 (by decide) (fun hx6 => ?_) (fun hx6 => ?_)
      · have h := h.1 hx6
        exact k57 M v1 h
      · have h := h.2 hx6
        refine zj_aload_n (pc := 47) hc dX9_count_47 rfl ?_
        refine zg_0_5 (pc := 48) hc lk_X9_28 dX9_count_48 ?_
        refine zj_iload_n (pc := 51) hc dX9_count_51 rfl ?_
        refine zj_bipush (pc := 52) hc dX9_count_52 (by decide) (zin _ rfl) ?_
        refine zj_isub (pc := 54) hc dX9_count_54 h.1 ?_
        have h := h.2
        refine zj_iald (pc := 55) hc dX9_count_55 alen_5 h.1 ?_
        have h := h.2
        exact zj_iret (pc := 56) hc hr hlk dX9_count_56 (by decide) (by decide) h
  have k15 : ∀ (M : zMem) (v1 : Int), T_X9_count_15 v1 Qr M → zJ p l e (zRoom 6 155 0 0) s m args below meth c G 2 0 0 (MQ below (zQi G (Qr)) args s 0 0 (zA G)) 15 [some (.inr 63), some (.inl v1)] [] M := by
    intro M v1 h
    unfold T_X9_count_15 at h
    refine zj_iload_n (pc := 15) hc dX9_count_15 rfl ?_
    refine zj_iconst (pc := 16) hc dX9_count_16 (zin _ rfl) ?_
    refine zj_icmp_lt (pc := 17) (tgt := 35) hc dX9_count_17 (by decide) (fun hx7 => ?_) (fun hx7 => ?_)
    · have h := h.1 hx7
      exact k35 M v1 h
    · have h := h.2 hx7
      refine zj_iload_n (pc := 20) hc dX9_count_20 rfl ?_
      refine zj_bipush (pc := 21) hc dX9_count_21 (by decide) (zin _ rfl) ?_
      refine zj_icmp_gt (pc := 23) (tgt := 35) hc dX9_count_23 (by decide) (fun hx8 => ?_) (fun hx8 => ?_)
      · have h := h.1 hx8
        exact k35 M v1 h
      · have h := h.2 hx8
        refine zj_aload_n (pc := 26) hc dX9_count_26 rfl ?_
        refine zg_0_1 (pc := 27) hc lk_X9_13 dX9_count_27 ?_
        refine zj_iload_n (pc := 30) hc dX9_count_30 rfl ?_
        refine zj_iconst (pc := 31) hc dX9_count_31 (zin _ rfl) ?_
        refine zj_isub (pc := 32) hc dX9_count_32 h.1 ?_
        have h := h.2
        refine zj_iald (pc := 33) hc dX9_count_33 alen_1 h.1 ?_
        have h := h.2
        exact zj_iret (pc := 34) hc hr hlk dX9_count_34 (by decide) (by decide) h
  unfold T_X9_count at h
  refine zj_iload_n (pc := 0) hc dX9_count_0 rfl ?_
  refine zj_if_lt (pc := 1) (tgt := 15) hc dX9_count_1 (by decide) (fun hx9 => ?_) (fun hx9 => ?_)
  · have h := h.1 hx9
    exact k15 M v1 h
  · have h := h.2 hx9
    refine zj_iload_n (pc := 4) hc dX9_count_4 rfl ?_
    refine zj_iconst (pc := 5) hc dX9_count_5 (zin _ rfl) ?_
    refine zj_icmp_gt (pc := 6) (tgt := 15) hc dX9_count_6 (by decide) (fun hx10 => ?_) (fun hx10 => ?_)
    · have h := h.1 hx10
      exact k15 M v1 h
    · have h := h.2 hx10
      refine zj_aload_n (pc := 9) hc dX9_count_9 rfl ?_
      refine zj_iload_n (pc := 10) hc dX9_count_10 rfl ?_
      refine zj_vti (pc := 11) (st := []) hc ks_X9_countOnDisk iv_X9_countOnDisk lk_X9_267 (zrv_0 G M) (S_X9_countOnDisk l G v1 M _ h) rfl ⟨Nat.le_of_ble_eq_true rfl, Nat.le_of_ble_eq_true rfl⟩ (Nat.le_of_ble_eq_true rfl) ⟨Nat.le_of_ble_eq_true rfl, Nat.le_of_ble_eq_true rfl⟩ dX9_count_11 rfl (fun y11 M12 h => ?_)
      exact zj_iret (pc := 14) hc hr hlk dX9_count_14 (by decide) (by decide) h
