set_option maxHeartbeats 4000000 in
set_option maxRecDepth 100000 in
theorem S_X9_compact (l : Launch) (G : zG) (M : zMem) (Qr : Int → zMem → Prop) (h : T_X9_compact Qr M) : zMetI l yX9_compact cX9_compact 2 (some .int) 6 155 3 1342 G [.inr 63] M Qr := by
  refine zmetI (by decide) (Nat.le_of_ble_eq_true rfl) [some (.inr 63), none] rfl ?_
  intro p e s m args below meth c hc hr hlk
  unfold T_X9_compact at h
  refine zj_aload_n (pc := 0) hc dX9_compact_0 rfl ?_
  refine zg_0_9 (pc := 1) hc lk_X9_43 dX9_compact_1 ?_
  refine zg_1_2 (pc := 4) hc lk_X9_138 dX9_compact_4 ?_
  refine zj_if_eq (pc := 7) (tgt := 17) hc dX9_compact_7 (by decide) (fun hx1 => ?_) (fun hx1 => ?_)
  · have h := h.1 hx1
    refine zj_aload_n (pc := 17) hc dX9_compact_17 rfl ?_
    refine zg_0_10 (pc := 18) hc lk_X9_50 dX9_compact_18 ?_
    refine zj_aload_n (pc := 21) hc dX9_compact_21 rfl ?_
    refine zg_0_9 (pc := 22) hc lk_X9_43 dX9_compact_22 ?_
    refine zg_1_0 (pc := 25) hc lk_X9_149 dX9_compact_25 ?_
    refine zj_aload_n (pc := 28) hc dX9_compact_28 rfl ?_
    refine zg_0_1 (pc := 29) hc lk_X9_13 dX9_compact_29 ?_
    refine zj_aload_n (pc := 32) hc dX9_compact_32 rfl ?_
    refine zg_0_0 (pc := 33) hc lk_X9_9 dX9_compact_33 ?_
    refine zj_vtv (pc := 36) (st := []) hc ks_X1_begin iv_X1_begin lk_X9_152 (zrv_2 G M) (S_X1_begin l G 64 1 0 M _ h) rfl ⟨Nat.le_of_ble_eq_true rfl, Nat.le_of_ble_eq_true rfl⟩ (Nat.le_of_ble_eq_true rfl) ⟨Nat.le_of_ble_eq_true rfl, Nat.le_of_ble_eq_true rfl⟩ dX9_compact_36 rfl (fun M2 h => ?_)
    refine zj_aload_n (pc := 39) hc dX9_compact_39 rfl ?_
    refine zg_0_10 (pc := 40) hc lk_X9_50 dX9_compact_40 ?_
    refine zj_vti (pc := 43) (st := []) hc ks_X1_compactAll iv_X1_compactAll lk_X9_156 (zrv_2 G M2) (S_X1_compactAll l G M2 _ h) rfl ⟨Nat.le_of_ble_eq_true rfl, Nat.le_of_ble_eq_true rfl⟩ (Nat.le_of_ble_eq_true rfl) ⟨Nat.le_of_ble_eq_true rfl, Nat.le_of_ble_eq_true rfl⟩ dX9_compact_43 rfl (fun y3 M4 h => ?_)
    refine zj_istore_n (pc := 46) hc dX9_compact_46 (by decide) ?_
    refine zj_iload_n (pc := 47) hc dX9_compact_47 rfl ?_
    refine zj_if_ge (pc := 48) (tgt := 59) hc dX9_compact_48 (by decide) (fun hx5 => ?_) (fun hx5 => ?_)
    · have h := h.1 hx5
      refine zj_aload_n (pc := 59) hc dX9_compact_59 rfl ?_
      refine zj_iconst (pc := 60) hc dX9_compact_60 (zin _ rfl) ?_
      refine zj_iload_n (pc := 61) hc dX9_compact_61 rfl ?_
      refine zj_vti (pc := 62) (st := []) hc ks_X9_carryOut iv_X9_carryOut lk_X9_146 (zrv_0 G M4) (S_X9_carryOut l G 5 y3 M4 _ h) rfl ⟨Nat.le_of_ble_eq_true rfl, Nat.le_of_ble_eq_true rfl⟩ (Nat.le_of_ble_eq_true rfl) ⟨Nat.le_of_ble_eq_true rfl, Nat.le_of_ble_eq_true rfl⟩ dX9_compact_62 rfl (fun y6 M7 h => ?_)
      exact zj_iret (pc := 65) hc hr hlk dX9_compact_65 (by decide) (by decide) h
    · have h := h.2 hx5
      refine zj_aload_n (pc := 51) hc dX9_compact_51 rfl ?_
      refine zj_iload_n (pc := 52) hc dX9_compact_52 rfl ?_
      refine zj_vti (pc := 53) (st := []) hc ks_X9_refuse iv_X9_refuse lk_X9_81 (zrv_0 G M4) (S_X9_refuse l G y3 M4 _ h) rfl ⟨Nat.le_of_ble_eq_true rfl, Nat.le_of_ble_eq_true rfl⟩ (Nat.le_of_ble_eq_true rfl) ⟨Nat.le_of_ble_eq_true rfl, Nat.le_of_ble_eq_true rfl⟩ dX9_compact_53 rfl (fun y8 M9 h => ?_)
      refine zj_goto (pc := 56) (tgt := 65) hc dX9_compact_56 (by decide) ?_
      exact zj_iret (pc := 65) hc hr hlk dX9_compact_65 (by decide) (by decide) h
  · have h := h.2 hx1
    refine zj_aload_n (pc := 10) hc dX9_compact_10 rfl ?_
    refine zj_bipush (pc := 11) hc dX9_compact_11 (by decide) (zin _ rfl) ?_
    refine zj_vti (pc := 13) (st := []) hc ks_X9_refuse iv_X9_refuse lk_X9_81 (zrv_0 G M) (S_X9_refuse l G (-3) M _ h) rfl ⟨Nat.le_of_ble_eq_true rfl, Nat.le_of_ble_eq_true rfl⟩ (Nat.le_of_ble_eq_true rfl) ⟨Nat.le_of_ble_eq_true rfl, Nat.le_of_ble_eq_true rfl⟩ dX9_compact_13 rfl (fun y10 M11 h => ?_)
    exact zj_iret (pc := 16) hc hr hlk dX9_compact_16 (by decide) (by decide) h
set_option maxHeartbeats 4000000 in
set_option maxRecDepth 100000 in
theorem S_X9_fuse (l : Launch) (G : zG) (v1 : Int) (M : zMem) (Qr : Int → zMem → Prop) (h : T_X9_fuse v1 Qr M) : zMetI l yX9_fuse cX9_fuse 3 (some .int) 1 22 0 0 G [.inr 63, .inl v1] M Qr := by
  refine zmetI (by decide) (Nat.le_of_ble_eq_true rfl) [some (.inr 63), some (.inl v1), none] rfl ?_
  intro p e s m args below meth c hc hr hlk
  unfold T_X9_fuse at h
  refine zj_iload_n (pc := 0) hc dX9_fuse_0 rfl ?_
  refine zj_iconst (pc := 1) hc dX9_fuse_1 (zin _ rfl) ?_
  refine zj_icmp_ge (pc := 2) (tgt := 11) hc dX9_fuse_2 (by decide) (fun hx1 => ?_) (fun hx1 => ?_)
  · have h := h.1 hx1
    refine zj_aload_n (pc := 11) hc dX9_fuse_11 rfl ?_
    refine zg_0_9 (pc := 12) hc lk_X9_43 dX9_fuse_12 ?_
    refine zg_1_1 (pc := 15) hc lk_X9_159 dX9_fuse_15 ?_
    refine zj_istore_n (pc := 18) hc dX9_fuse_18 (by decide) ?_
    refine zj_aload_n (pc := 19) hc dX9_fuse_19 rfl ?_
    refine zg_0_9 (pc := 20) hc lk_X9_43 dX9_fuse_20 ?_
    refine zj_iload_n (pc := 23) hc dX9_fuse_23 rfl ?_
    refine zs_1_1 (pc := 24) hc lk_X9_159 dX9_fuse_24 (fun M2 hM2 => ?_)
    have h := h M2 hM2
    refine zj_aload_n (pc := 27) hc dX9_fuse_27 rfl ?_
    refine zj_iload_n (pc := 28) hc dX9_fuse_28 rfl ?_
    refine zj_vti (pc := 29) (st := []) hc ks_X9_accept iv_X9_accept lk_X9_89 (zrv_0 G M2) (S_X9_accept l G (M.1 65) M2 _ h) rfl ⟨Nat.le_of_ble_eq_true rfl, Nat.le_of_ble_eq_true rfl⟩ (Nat.le_of_ble_eq_true rfl) ⟨Nat.le_of_ble_eq_true rfl, Nat.le_of_ble_eq_true rfl⟩ dX9_fuse_29 rfl (fun y3 M4 h => ?_)
    exact zj_iret (pc := 32) hc hr hlk dX9_fuse_32 (by decide) (by decide) h
  · have h := h.2 hx1
    refine zj_aload_n (pc := 5) hc dX9_fuse_5 rfl ?_
    refine zj_iconst (pc := 6) hc dX9_fuse_6 (zin _ rfl) ?_
    refine zj_vti (pc := 7) (st := []) hc ks_X9_refuse iv_X9_refuse lk_X9_81 (zrv_0 G M) (S_X9_refuse l G (-1) M _ h) rfl ⟨Nat.le_of_ble_eq_true rfl, Nat.le_of_ble_eq_true rfl⟩ (Nat.le_of_ble_eq_true rfl) ⟨Nat.le_of_ble_eq_true rfl, Nat.le_of_ble_eq_true rfl⟩ dX9_fuse_7 rfl (fun y5 M6 h => ?_)
    exact zj_iret (pc := 10) hc hr hlk dX9_fuse_10 (by decide) (by decide) h
set_option maxHeartbeats 4000000 in
set_option maxRecDepth 100000 in
theorem S_X9_recover (l : Launch) (G : zG) (M : zMem) (Qr : Int → zMem → Prop) (h : T_X9_recover Qr M) : zMetI l yX9_recover cX9_recover 1 (some .int) 7 155 3 1342 G [.inr 63] M Qr := by
  refine zmetI (by decide) (Nat.le_of_ble_eq_true rfl) [some (.inr 63)] rfl ?_
  intro p e s m args below meth c hc hr hlk
  unfold T_X9_recover at h
  refine zj_aload_n (pc := 0) hc dX9_recover_0 rfl ?_
  refine zg_0_9 (pc := 1) hc lk_X9_43 dX9_recover_1 ?_
  refine zg_1_2 (pc := 4) hc lk_X9_138 dX9_recover_4 ?_
  refine zj_if_ne (pc := 7) (tgt := 17) hc dX9_recover_7 (by decide) (fun hx1 => ?_) (fun hx1 => ?_)
  · have h := h.1 hx1
    refine zj_aload_n (pc := 17) hc dX9_recover_17 rfl ?_
    refine zg_0_13 (pc := 18) hc lk_X9_71 dX9_recover_18 ?_
    refine zj_bipush (pc := 21) hc dX9_recover_21 (by decide) (zin _ rfl) ?_
    refine zj_aload_n (pc := 23) hc dX9_recover_23 rfl ?_
    refine zg_0_9 (pc := 24) hc lk_X9_43 dX9_recover_24 ?_
    refine zj_aload_n (pc := 27) hc dX9_recover_27 rfl ?_
    refine zg_0_1 (pc := 28) hc lk_X9_13 dX9_recover_28 ?_
    refine zj_vtv (pc := 31) (st := []) hc ks_X7_keep iv_X7_keep lk_X9_162 (zrv_8 G M) (S_X7_keep l G 6 1 M _ h) rfl ⟨Nat.le_of_ble_eq_true rfl, Nat.le_of_ble_eq_true rfl⟩ (Nat.le_of_ble_eq_true rfl) ⟨Nat.le_of_ble_eq_true rfl, Nat.le_of_ble_eq_true rfl⟩ dX9_recover_31 rfl (fun M2 h => ?_)
    refine zj_aload_n (pc := 34) hc dX9_recover_34 rfl ?_
    refine zg_0_9 (pc := 35) hc lk_X9_43 dX9_recover_35 ?_
    refine zj_vtv (pc := 38) (st := []) hc ks_X0_restoreOrder iv_X0_restoreOrder lk_X9_166 (zrv_1 G M2) (S_X0_restoreOrder l G M2 _ h) rfl ⟨Nat.le_of_ble_eq_true rfl, Nat.le_of_ble_eq_true rfl⟩ (Nat.le_of_ble_eq_true rfl) ⟨Nat.le_of_ble_eq_true rfl, Nat.le_of_ble_eq_true rfl⟩ dX9_recover_38 rfl (fun M3 h => ?_)
    refine zj_aload_n (pc := 41) hc dX9_recover_41 rfl ?_
    refine zg_0_12 (pc := 42) hc lk_X9_64 dX9_recover_42 ?_
    refine zj_vtv (pc := 45) (st := []) hc ks_X3_giveUpAll iv_X3_giveUpAll lk_X9_169 (zrv_7 G M3) (S_X3_giveUpAll l G M3 _ h) rfl ⟨Nat.le_of_ble_eq_true rfl, Nat.le_of_ble_eq_true rfl⟩ (Nat.le_of_ble_eq_true rfl) ⟨Nat.le_of_ble_eq_true rfl, Nat.le_of_ble_eq_true rfl⟩ dX9_recover_45 rfl (fun M4 h => ?_)
    refine zj_aload_n (pc := 48) hc dX9_recover_48 rfl ?_
    refine zg_0_9 (pc := 49) hc lk_X9_43 dX9_recover_49 ?_
    refine zg_1_3 (pc := 52) hc lk_X9_172 dX9_recover_52 ?_
    refine zj_if_eq (pc := 55) (tgt := 65) hc dX9_recover_55 (by decide) (fun hx5 => ?_) (fun hx5 => ?_)
    · have h := h.1 hx5
      refine zj_aload_n (pc := 65) hc dX9_recover_65 rfl ?_
      refine zj_aload_n (pc := 66) hc dX9_recover_66 rfl ?_
      refine zg_0_9 (pc := 67) hc lk_X9_43 dX9_recover_67 ?_
      refine zg_1_4 (pc := 70) hc lk_X9_178 dX9_recover_70 ?_
      refine zj_vti (pc := 73) (st := []) hc ks_X9_accept iv_X9_accept lk_X9_89 (zrv_0 G M4) (S_X9_accept l G (M4.1 68) M4 _ h) rfl ⟨Nat.le_of_ble_eq_true rfl, Nat.le_of_ble_eq_true rfl⟩ (Nat.le_of_ble_eq_true rfl) ⟨Nat.le_of_ble_eq_true rfl, Nat.le_of_ble_eq_true rfl⟩ dX9_recover_73 rfl (fun y6 M7 h => ?_)
      exact zj_iret (pc := 76) hc hr hlk dX9_recover_76 (by decide) (by decide) h
    · have h := h.2 hx5
      refine zj_aload_n (pc := 58) hc dX9_recover_58 rfl ?_
      refine zj_vti (pc := 59) (st := []) hc ks_X9_tellCutOff iv_X9_tellCutOff lk_X9_175 (zrv_0 G M4) (S_X9_tellCutOff l G M4 _ h) rfl ⟨Nat.le_of_ble_eq_true rfl, Nat.le_of_ble_eq_true rfl⟩ (Nat.le_of_ble_eq_true rfl) ⟨Nat.le_of_ble_eq_true rfl, Nat.le_of_ble_eq_true rfl⟩ dX9_recover_59 rfl (fun y8 M9 h => ?_)
      refine zj_goto (pc := 62) (tgt := 76) hc dX9_recover_62 (by decide) ?_
      exact zj_iret (pc := 76) hc hr hlk dX9_recover_76 (by decide) (by decide) h
  · have h := h.2 hx1
    refine zj_aload_n (pc := 10) hc dX9_recover_10 rfl ?_
    refine zj_bipush (pc := 11) hc dX9_recover_11 (by decide) (zin _ rfl) ?_
    refine zj_vti (pc := 13) (st := []) hc ks_X9_refuse iv_X9_refuse lk_X9_81 (zrv_0 G M) (S_X9_refuse l G (-3) M _ h) rfl ⟨Nat.le_of_ble_eq_true rfl, Nat.le_of_ble_eq_true rfl⟩ (Nat.le_of_ble_eq_true rfl) ⟨Nat.le_of_ble_eq_true rfl, Nat.le_of_ble_eq_true rfl⟩ dX9_recover_13 rfl (fun y10 M11 h => ?_)
    exact zj_iret (pc := 16) hc hr hlk dX9_recover_16 (by decide) (by decide) h
set_option maxHeartbeats 4000000 in
set_option maxRecDepth 100000 in
theorem S_X9_written (l : Launch) (G : zG) (M : zMem) (Qr : Int → Prop) (h : T_X9_written Qr M) : zMetI l yX9_written cX9_written 1 (some .int) 0 0 0 0 G [.inr 63] M (fun r9 M9 => M = M9 ∧ Qr r9) := by
  refine zmetI (by decide) (Nat.le_of_ble_eq_true rfl) [some (.inr 63)] rfl ?_
  intro p e s m args below meth c hc hr hlk
  unfold T_X9_written at h
  refine zj_aload_n (pc := 0) hc dX9_written_0 rfl ?_
  refine zg_0_9 (pc := 1) hc lk_X9_43 dX9_written_1 ?_
  refine zg_1_4 (pc := 4) hc lk_X9_178 dX9_written_4 ?_
  exact zj_iret (pc := 7) hc hr hlk dX9_written_7 (by decide) (by decide) ⟨rfl, h⟩
set_option maxHeartbeats 4000000 in
set_option maxRecDepth 100000 in
theorem S_X9_fetch (l : Launch) (G : zG) (v1 : Int) (M : zMem) (Qr : Int → zMem → Prop) (h : T_X9_fetch v1 Qr M) : zMetI l yX9_fetch cX9_fetch 5 (some .int) 5 131 0 0 G [.inr 63, .inl v1] M Qr := by
  refine zmetI (by decide) (Nat.le_of_ble_eq_true rfl) [some (.inr 63), some (.inl v1), none, none, none] rfl ?_
  intro p e s m args below meth c hc hr hlk
  have k91 : ∀ (M : zMem) (v1 : Int) (v3 : Int) (v4 : Int), T_X9_fetch_91 v1 v3 Qr v4 M → zJ p l e (zRoom 5 131 0 0) s m args below meth c G 5 0 0 (MQ below (zQi G (Qr)) args s 0 0 (zA G)) 91 [some (.inr 63), some (.inl v1), none, some (.inl v3), some (.inl v4)] [] M := by
    intro M v1 v3 v4 h
    unfold T_X9_fetch_91 at h
    refine zl1_use h (fun v4 M => zJ p l e (zRoom 5 131 0 0) s m args below meth c G 5 0 0 (MQ below (zQi G (Qr)) args s 0 0 (zA G)) 91 [some (.inr 63), some (.inl v1), none, some (.inl v3), some (.inl v4)] [] M) (fun X91 hX91 v4 M h => ?_)
    refine zj_iload (pc := 91) hc dX9_fetch_91 rfl ?_
    refine zj_iload_n (pc := 93) hc dX9_fetch_93 rfl ?_
    refine zj_icmp_ge (pc := 94) (tgt := 120) hc dX9_fetch_94 (by decide) (fun hx1 => ?_) (fun hx1 => ?_)
    · have h := h.1 hx1
      refine zj_aload_n (pc := 120) hc dX9_fetch_120 rfl ?_
      refine zj_iload_n (pc := 121) hc dX9_fetch_121 rfl ?_
      refine zs_0_3 (pc := 122) hc lk_X9_19 dX9_fetch_122 (fun M2 hM2 => ?_)
      have h := h M2 hM2
      refine zj_aload_n (pc := 125) hc dX9_fetch_125 rfl ?_
      refine zj_iload_n (pc := 126) hc dX9_fetch_126 rfl ?_
      refine zj_vti (pc := 127) (st := []) hc ks_X9_accept iv_X9_accept lk_X9_89 (zrv_0 G M2) (S_X9_accept l G v3 M2 _ h) rfl ⟨Nat.le_of_ble_eq_true rfl, Nat.le_of_ble_eq_true rfl⟩ (Nat.le_of_ble_eq_true rfl) ⟨Nat.le_of_ble_eq_true rfl, Nat.le_of_ble_eq_true rfl⟩ dX9_fetch_127 rfl (fun y3 M4 h => ?_)
      exact zj_iret (pc := 130) hc hr hlk dX9_fetch_130 (by decide) (by decide) h
    · have h := h.2 hx1
      refine zj_aload_n (pc := 97) hc dX9_fetch_97 rfl ?_
      refine zg_0_2 (pc := 98) hc lk_X9_16 dX9_fetch_98 ?_
      refine zj_iload (pc := 101) hc dX9_fetch_101 rfl ?_
      refine zj_aload_n (pc := 103) hc dX9_fetch_103 rfl ?_
      refine zg_0_11 (pc := 104) hc lk_X9_57 dX9_fetch_104 ?_
      refine zj_iload_n (pc := 107) hc dX9_fetch_107 rfl ?_
      refine zj_iload (pc := 108) hc dX9_fetch_108 rfl ?_
      refine zj_vti (pc := 110) (st := [.inl v4, .inr 2]) hc ks_X8_byteOf iv_X8_byteOf lk_X9_194 (zrv_5 G M) (S_X8_byteOf l G (Or.inr rfl) v1 v4 M _ h) rfl ⟨Nat.le_of_ble_eq_true rfl, Nat.le_of_ble_eq_true rfl⟩ (Nat.le_of_ble_eq_true rfl) ⟨Nat.le_of_ble_eq_true rfl, Nat.le_of_ble_eq_true rfl⟩ dX9_fetch_110 rfl (fun y5 M9 h => ?_)
      obtain ⟨hM9, h⟩ := h
      subst hM9
      refine zj_iast (pc := 113) hc dX9_fetch_113 alen_2 h.1 (fun M6 hM6 => ?_)
      have h := h.2 M6 hM6
      refine zj_iinc (pc := 114) hc dX9_fetch_114 rfl (by decide) h.1 ?_
      have h := h.2
      refine zj_goto (pc := 117) (tgt := 91) hc dX9_fetch_117 (by decide) ?_
      exact hX91 (v4 + 1) M6 h
  unfold T_X9_fetch at h
  refine zj_iload_n (pc := 0) hc dX9_fetch_0 rfl ?_
  refine zj_sti (pc := 1) (st := []) hc ks_X9_isByte st_X9_isByte lk_X9_126 (S_X9_isByte l G v1 M _ h) rfl ⟨Nat.le_of_ble_eq_true rfl, Nat.le_of_ble_eq_true rfl⟩ (Nat.le_of_ble_eq_true rfl) ⟨Nat.le_of_ble_eq_true rfl, Nat.le_of_ble_eq_true rfl⟩ dX9_fetch_1 rfl (fun y7 M9 h => ?_)
  obtain ⟨hM9, h⟩ := h
  subst hM9
  refine zj_if_ne (pc := 4) (tgt := 13) hc dX9_fetch_4 (by decide) (fun hx8 => ?_) (fun hx8 => ?_)
  · have h := h.1 hx8
    refine zj_aload_n (pc := 13) hc dX9_fetch_13 rfl ?_
    refine zg_0_9 (pc := 14) hc lk_X9_43 dX9_fetch_14 ?_
    refine zg_1_2 (pc := 17) hc lk_X9_138 dX9_fetch_17 ?_
    refine zj_if_eq (pc := 20) (tgt := 30) hc dX9_fetch_20 (by decide) (fun hx9 => ?_) (fun hx9 => ?_)
    · have h := h.1 hx9
      refine zj_aload_n (pc := 30) hc dX9_fetch_30 rfl ?_
      refine zj_iload_n (pc := 31) hc dX9_fetch_31 rfl ?_
      refine zj_vti (pc := 32) (st := []) hc ks_X9_pageFor iv_X9_pageFor lk_X9_181 (zrv_0 G M) (S_X9_pageFor l G v1 M _ h) rfl ⟨Nat.le_of_ble_eq_true rfl, Nat.le_of_ble_eq_true rfl⟩ (Nat.le_of_ble_eq_true rfl) ⟨Nat.le_of_ble_eq_true rfl, Nat.le_of_ble_eq_true rfl⟩ dX9_fetch_32 rfl (fun y10 M9 h => ?_)
      obtain ⟨hM9, h⟩ := h
      subst hM9
      refine zj_istore_n (pc := 35) hc dX9_fetch_35 (by decide) ?_
      refine zj_aload_n (pc := 36) hc dX9_fetch_36 rfl ?_
      refine zg_0_12 (pc := 37) hc lk_X9_64 dX9_fetch_37 ?_
      refine zj_iload_n (pc := 40) hc dX9_fetch_40 rfl ?_
      refine zj_aload_n (pc := 41) hc dX9_fetch_41 rfl ?_
      refine zg_0_0 (pc := 42) hc lk_X9_9 dX9_fetch_42 ?_
      refine zj_iconst (pc := 45) hc dX9_fetch_45 (zin _ rfl) ?_
      refine zj_iald (pc := 46) hc dX9_fetch_46 alen_0 h.1 ?_
      have h := h.2
      refine zj_vtv (pc := 47) (st := []) hc ks_X3_hold iv_X3_hold lk_X9_184 (zrv_7 G M) (S_X3_hold l G y10 (M.2 0 4) M _ h) rfl ⟨Nat.le_of_ble_eq_true rfl, Nat.le_of_ble_eq_true rfl⟩ (Nat.le_of_ble_eq_true rfl) ⟨Nat.le_of_ble_eq_true rfl, Nat.le_of_ble_eq_true rfl⟩ dX9_fetch_47 rfl (fun M11 h => ?_)
      refine zj_aload_n (pc := 50) hc dX9_fetch_50 rfl ?_
      refine zg_0_11 (pc := 51) hc lk_X9_57 dX9_fetch_51 ?_
      refine zj_aload_n (pc := 54) hc dX9_fetch_54 rfl ?_
      refine zg_0_9 (pc := 55) hc lk_X9_43 dX9_fetch_55 ?_
      refine zg_1_0 (pc := 58) hc lk_X9_149 dX9_fetch_58 ?_
      refine zj_iload_n (pc := 61) hc dX9_fetch_61 rfl ?_
      refine zj_bipush (pc := 62) hc dX9_fetch_62 (by decide) (zin _ rfl) ?_
      refine zj_vtv (pc := 64) (st := []) hc ks_X8_loadOnly iv_X8_loadOnly lk_X9_187 (zrv_5 G M11) (S_X8_loadOnly l G (Or.inr rfl) 64 y10 64 M11 _ h) rfl ⟨Nat.le_of_ble_eq_true rfl, Nat.le_of_ble_eq_true rfl⟩ (Nat.le_of_ble_eq_true rfl) ⟨Nat.le_of_ble_eq_true rfl, Nat.le_of_ble_eq_true rfl⟩ dX9_fetch_64 rfl (fun M12 h => ?_)
      refine zj_aload_n (pc := 67) hc dX9_fetch_67 rfl ?_
      refine zg_0_11 (pc := 68) hc lk_X9_57 dX9_fetch_68 ?_
      refine zj_iload_n (pc := 71) hc dX9_fetch_71 rfl ?_
      refine zj_vti (pc := 72) (st := []) hc ks_X8_sizeOf iv_X8_sizeOf lk_X9_191 (zrv_5 G M12) (S_X8_sizeOf l G (Or.inr rfl) v1 M12 _ h) rfl ⟨Nat.le_of_ble_eq_true rfl, Nat.le_of_ble_eq_true rfl⟩ (Nat.le_of_ble_eq_true rfl) ⟨Nat.le_of_ble_eq_true rfl, Nat.le_of_ble_eq_true rfl⟩ dX9_fetch_72 rfl (fun y13 M9 h => ?_)
      obtain ⟨hM9, h⟩ := h
      subst hM9
      refine zj_istore_n (pc := 75) hc dX9_fetch_75 (by decide) ?_
      refine zj_iload_n (pc := 76) hc dX9_fetch_76 rfl ?_
      refine zj_iconst (pc := 77) hc dX9_fetch_77 (zin _ rfl) ?_
      refine zj_icmp_ne (pc := 78) (tgt := 88) hc dX9_fetch_78 (by decide) (fun hx14 => ?_) (fun hx14 => ?_)
      · have h := h.1 hx14
        refine zj_iconst (pc := 88) hc dX9_fetch_88 (zin _ rfl) ?_
        refine zj_istore (pc := 89) hc dX9_fetch_89 (by decide) ?_
        refine zj_mask (bs := [true, true, false, true, true]) ?_
        exact k91 M12 v1 y13 0 h
      · have h := h.2 hx14
        refine zj_aload_n (pc := 81) hc dX9_fetch_81 rfl ?_
        refine zj_bipush (pc := 82) hc dX9_fetch_82 (by decide) (zin _ rfl) ?_
        refine zj_vti (pc := 84) (st := []) hc ks_X9_refuse iv_X9_refuse lk_X9_81 (zrv_0 G M12) (S_X9_refuse l G (-2) M12 _ h) rfl ⟨Nat.le_of_ble_eq_true rfl, Nat.le_of_ble_eq_true rfl⟩ (Nat.le_of_ble_eq_true rfl) ⟨Nat.le_of_ble_eq_true rfl, Nat.le_of_ble_eq_true rfl⟩ dX9_fetch_84 rfl (fun y15 M16 h => ?_)
        exact zj_iret (pc := 87) hc hr hlk dX9_fetch_87 (by decide) (by decide) h
    · have h := h.2 hx9
      refine zj_aload_n (pc := 23) hc dX9_fetch_23 rfl ?_
      refine zj_bipush (pc := 24) hc dX9_fetch_24 (by decide) (zin _ rfl) ?_
      refine zj_vti (pc := 26) (st := []) hc ks_X9_refuse iv_X9_refuse lk_X9_81 (zrv_0 G M) (S_X9_refuse l G (-3) M _ h) rfl ⟨Nat.le_of_ble_eq_true rfl, Nat.le_of_ble_eq_true rfl⟩ (Nat.le_of_ble_eq_true rfl) ⟨Nat.le_of_ble_eq_true rfl, Nat.le_of_ble_eq_true rfl⟩ dX9_fetch_26 rfl (fun y17 M18 h => ?_)
      exact zj_iret (pc := 29) hc hr hlk dX9_fetch_29 (by decide) (by decide) h
  · have h := h.2 hx8
    refine zj_aload_n (pc := 7) hc dX9_fetch_7 rfl ?_
    refine zj_iconst (pc := 8) hc dX9_fetch_8 (zin _ rfl) ?_
    refine zj_vti (pc := 9) (st := []) hc ks_X9_refuse iv_X9_refuse lk_X9_81 (zrv_0 G M) (S_X9_refuse l G (-1) M _ h) rfl ⟨Nat.le_of_ble_eq_true rfl, Nat.le_of_ble_eq_true rfl⟩ (Nat.le_of_ble_eq_true rfl) ⟨Nat.le_of_ble_eq_true rfl, Nat.le_of_ble_eq_true rfl⟩ dX9_fetch_9 rfl (fun y19 M20 h => ?_)
    exact zj_iret (pc := 12) hc hr hlk dX9_fetch_12 (by decide) (by decide) h
set_option maxHeartbeats 4000000 in
set_option maxRecDepth 100000 in
theorem S_X9_undo (l : Launch) (G : zG) (M : zMem) (Qr : Int → zMem → Prop) (h : T_X9_undo Qr M) : zMetI l yX9_undo cX9_undo 2 (some .int) 2 64 0 0 G [.inr 63] M Qr := by
  refine zmetI (by decide) (Nat.le_of_ble_eq_true rfl) [some (.inr 63), none] rfl ?_
  intro p e s m args below meth c hc hr hlk
  unfold T_X9_undo at h
  refine zj_aload_n (pc := 0) hc dX9_undo_0 rfl ?_
  refine zg_0_13 (pc := 1) hc lk_X9_71 dX9_undo_1 ?_
  refine zg_8_0 (pc := 4) hc lk_X9_197 dX9_undo_4 ?_
  refine zj_if_ne (pc := 7) (tgt := 17) hc dX9_undo_7 (by decide) (fun hx1 => ?_) (fun hx1 => ?_)
  · have h := h.1 hx1
    refine zj_aload_n (pc := 17) hc dX9_undo_17 rfl ?_
    refine zg_0_13 (pc := 18) hc lk_X9_71 dX9_undo_18 ?_
    refine zj_aload_n (pc := 21) hc dX9_undo_21 rfl ?_
    refine zg_0_9 (pc := 22) hc lk_X9_43 dX9_undo_22 ?_
    refine zj_aload_n (pc := 25) hc dX9_undo_25 rfl ?_
    refine zg_0_1 (pc := 26) hc lk_X9_13 dX9_undo_26 ?_
    refine zj_vti (pc := 29) (st := []) hc ks_X7_takeBack iv_X7_takeBack lk_X9_200 (zrv_8 G M) (S_X7_takeBack l G 1 M _ h) rfl ⟨Nat.le_of_ble_eq_true rfl, Nat.le_of_ble_eq_true rfl⟩ (Nat.le_of_ble_eq_true rfl) ⟨Nat.le_of_ble_eq_true rfl, Nat.le_of_ble_eq_true rfl⟩ dX9_undo_29 rfl (fun y2 M3 h => ?_)
    refine zj_istore_n (pc := 32) hc dX9_undo_32 (by decide) ?_
    refine zj_aload_n (pc := 33) hc dX9_undo_33 rfl ?_
    refine zg_0_12 (pc := 34) hc lk_X9_64 dX9_undo_34 ?_
    refine zj_vtv (pc := 37) (st := []) hc ks_X3_giveUpAll iv_X3_giveUpAll lk_X9_169 (zrv_7 G M3) (S_X3_giveUpAll l G M3 _ h) rfl ⟨Nat.le_of_ble_eq_true rfl, Nat.le_of_ble_eq_true rfl⟩ (Nat.le_of_ble_eq_true rfl) ⟨Nat.le_of_ble_eq_true rfl, Nat.le_of_ble_eq_true rfl⟩ dX9_undo_37 rfl (fun M4 h => ?_)
    refine zj_aload_n (pc := 40) hc dX9_undo_40 rfl ?_
    refine zj_iload_n (pc := 41) hc dX9_undo_41 rfl ?_
    refine zj_vti (pc := 42) (st := []) hc ks_X9_accept iv_X9_accept lk_X9_89 (zrv_0 G M4) (S_X9_accept l G y2 M4 _ h) rfl ⟨Nat.le_of_ble_eq_true rfl, Nat.le_of_ble_eq_true rfl⟩ (Nat.le_of_ble_eq_true rfl) ⟨Nat.le_of_ble_eq_true rfl, Nat.le_of_ble_eq_true rfl⟩ dX9_undo_42 rfl (fun y5 M6 h => ?_)
    exact zj_iret (pc := 45) hc hr hlk dX9_undo_45 (by decide) (by decide) h
  · have h := h.2 hx1
    refine zj_aload_n (pc := 10) hc dX9_undo_10 rfl ?_
    refine zj_bipush (pc := 11) hc dX9_undo_11 (by decide) (zin _ rfl) ?_
    refine zj_vti (pc := 13) (st := []) hc ks_X9_refuse iv_X9_refuse lk_X9_81 (zrv_0 G M) (S_X9_refuse l G (-4) M _ h) rfl ⟨Nat.le_of_ble_eq_true rfl, Nat.le_of_ble_eq_true rfl⟩ (Nat.le_of_ble_eq_true rfl) ⟨Nat.le_of_ble_eq_true rfl, Nat.le_of_ble_eq_true rfl⟩ dX9_undo_13 rfl (fun y7 M8 h => ?_)
    exact zj_iret (pc := 16) hc hr hlk dX9_undo_16 (by decide) (by decide) h
set_option maxHeartbeats 4000000 in
set_option maxRecDepth 100000 in
theorem S_X9_value (l : Launch) (G : zG) (v1 : Int) (v2 : Int) (M : zMem) (Qr : Int → zMem → Prop) (h : T_X9_value v1 v2 Qr M) : zMetI l yX9_value cX9_value 4 (some .int) 5 131 0 0 G [.inr 63, .inl v1, .inl v2] M Qr := by
  refine zmetI (by decide) (Nat.le_of_ble_eq_true rfl) [some (.inr 63), some (.inl v1), some (.inl v2), none] rfl ?_
  intro p e s m args below meth c hc hr hlk
  unfold T_X9_value at h
  refine zj_aload_n (pc := 0) hc dX9_value_0 rfl ?_
  refine zg_0_9 (pc := 1) hc lk_X9_43 dX9_value_1 ?_
  refine zg_1_2 (pc := 4) hc lk_X9_138 dX9_value_4 ?_
  refine zj_if_ne (pc := 7) (tgt := 21) hc dX9_value_7 (by decide) (fun hx1 => ?_) (fun hx1 => ?_)
  · have h := h.1 hx1
    refine zj_iconst (pc := 21) hc dX9_value_21 (zin _ rfl) ?_
    exact zj_iret (pc := 22) hc hr hlk dX9_value_22 (by decide) (by decide) h
  · have h := h.2 hx1
    refine zj_iload_n (pc := 10) hc dX9_value_10 rfl ?_
    refine zj_sti (pc := 11) (st := []) hc ks_X9_isByte st_X9_isByte lk_X9_126 (S_X9_isByte l G v1 M _ h) rfl ⟨Nat.le_of_ble_eq_true rfl, Nat.le_of_ble_eq_true rfl⟩ (Nat.le_of_ble_eq_true rfl) ⟨Nat.le_of_ble_eq_true rfl, Nat.le_of_ble_eq_true rfl⟩ dX9_value_11 rfl (fun y2 M9 h => ?_)
    obtain ⟨hM9, h⟩ := h
    subst hM9
    refine zj_if_eq (pc := 14) (tgt := 21) hc dX9_value_14 (by decide) (fun hx3 => ?_) (fun hx3 => ?_)
    · have h := h.1 hx3
      refine zj_iconst (pc := 21) hc dX9_value_21 (zin _ rfl) ?_
      exact zj_iret (pc := 22) hc hr hlk dX9_value_22 (by decide) (by decide) h
    · have h := h.2 hx3
      refine zj_iload_n (pc := 17) hc dX9_value_17 rfl ?_
      refine zj_if_ge (pc := 18) (tgt := 23) hc dX9_value_18 (by decide) (fun hx4 => ?_) (fun hx4 => ?_)
      · have h := h.1 hx4
        refine zj_aload_n (pc := 23) hc dX9_value_23 rfl ?_
        refine zj_iload_n (pc := 24) hc dX9_value_24 rfl ?_
        refine zj_vti (pc := 25) (st := []) hc ks_X9_pageFor iv_X9_pageFor lk_X9_181 (zrv_0 G M) (S_X9_pageFor l G v1 M _ h) rfl ⟨Nat.le_of_ble_eq_true rfl, Nat.le_of_ble_eq_true rfl⟩ (Nat.le_of_ble_eq_true rfl) ⟨Nat.le_of_ble_eq_true rfl, Nat.le_of_ble_eq_true rfl⟩ dX9_value_25 rfl (fun y5 M9 h => ?_)
        obtain ⟨hM9, h⟩ := h
        subst hM9
        refine zj_istore_n (pc := 28) hc dX9_value_28 (by decide) ?_
        refine zj_iload_n (pc := 29) hc dX9_value_29 rfl ?_
        refine zj_iconst (pc := 30) hc dX9_value_30 (zin _ rfl) ?_
        refine zj_icmp_ne (pc := 31) (tgt := 36) hc dX9_value_31 (by decide) (fun hx6 => ?_) (fun hx6 => ?_)
        · have h := h.1 hx6
          refine zj_aload_n (pc := 36) hc dX9_value_36 rfl ?_
          refine zg_0_11 (pc := 37) hc lk_X9_57 dX9_value_37 ?_
          refine zj_aload_n (pc := 40) hc dX9_value_40 rfl ?_
          refine zg_0_9 (pc := 41) hc lk_X9_43 dX9_value_41 ?_
          refine zg_1_0 (pc := 44) hc lk_X9_149 dX9_value_44 ?_
          refine zj_iload_n (pc := 47) hc dX9_value_47 rfl ?_
          refine zj_bipush (pc := 48) hc dX9_value_48 (by decide) (zin _ rfl) ?_
          refine zj_vtv (pc := 50) (st := []) hc ks_X8_loadOnly iv_X8_loadOnly lk_X9_187 (zrv_5 G M) (S_X8_loadOnly l G (Or.inr rfl) 64 y5 64 M _ h) rfl ⟨Nat.le_of_ble_eq_true rfl, Nat.le_of_ble_eq_true rfl⟩ (Nat.le_of_ble_eq_true rfl) ⟨Nat.le_of_ble_eq_true rfl, Nat.le_of_ble_eq_true rfl⟩ dX9_value_50 rfl (fun M7 h => ?_)
          refine zj_iload_n (pc := 53) hc dX9_value_53 rfl ?_
          refine zj_if_ne (pc := 54) (tgt := 68) hc dX9_value_54 (by decide) (fun hx8 => ?_) (fun hx8 => ?_)
          · have h := h.1 hx8
            refine zj_aload_n (pc := 68) hc dX9_value_68 rfl ?_
            refine zg_0_11 (pc := 69) hc lk_X9_57 dX9_value_69 ?_
            refine zj_iload_n (pc := 72) hc dX9_value_72 rfl ?_
            refine zj_iload_n (pc := 73) hc dX9_value_73 rfl ?_
            refine zj_iconst (pc := 74) hc dX9_value_74 (zin _ rfl) ?_
            refine zj_isub (pc := 75) hc dX9_value_75 h.1 ?_
            have h := h.2
            refine zj_vti (pc := 76) (st := []) hc ks_X8_byteOf iv_X8_byteOf lk_X9_194 (zrv_5 G M7) (S_X8_byteOf l G (Or.inr rfl) v1 (v2 - 2) M7 _ h) rfl ⟨Nat.le_of_ble_eq_true rfl, Nat.le_of_ble_eq_true rfl⟩ (Nat.le_of_ble_eq_true rfl) ⟨Nat.le_of_ble_eq_true rfl, Nat.le_of_ble_eq_true rfl⟩ dX9_value_76 rfl (fun y9 M9 h => ?_)
            obtain ⟨hM9, h⟩ := h
            subst hM9
            exact zj_iret (pc := 79) hc hr hlk dX9_value_79 (by decide) (by decide) h
          · have h := h.2 hx8
            refine zj_aload_n (pc := 57) hc dX9_value_57 rfl ?_
            refine zg_0_11 (pc := 58) hc lk_X9_57 dX9_value_58 ?_
            refine zj_iload_n (pc := 61) hc dX9_value_61 rfl ?_
            refine zj_vti (pc := 62) (st := []) hc ks_X8_sizeOf iv_X8_sizeOf lk_X9_191 (zrv_5 G M7) (S_X8_sizeOf l G (Or.inr rfl) v1 M7 _ h) rfl ⟨Nat.le_of_ble_eq_true rfl, Nat.le_of_ble_eq_true rfl⟩ (Nat.le_of_ble_eq_true rfl) ⟨Nat.le_of_ble_eq_true rfl, Nat.le_of_ble_eq_true rfl⟩ dX9_value_62 rfl (fun y10 M9 h => ?_)
            obtain ⟨hM9, h⟩ := h
            subst hM9
            refine zj_goto (pc := 65) (tgt := 79) hc dX9_value_65 (by decide) ?_
            exact zj_iret (pc := 79) hc hr hlk dX9_value_79 (by decide) (by decide) h
        · have h := h.2 hx6
          refine zj_iload_n (pc := 34) hc dX9_value_34 rfl ?_
          exact zj_iret (pc := 35) hc hr hlk dX9_value_35 (by decide) (by decide) h
      · have h := h.2 hx4
        refine zj_iconst (pc := 21) hc dX9_value_21 (zin _ rfl) ?_
        exact zj_iret (pc := 22) hc hr hlk dX9_value_22 (by decide) (by decide) h
