set_option maxHeartbeats 4000000 in
set_option maxRecDepth 100000 in
theorem S_X9_unpack (l : Launch) (G : zG) (v1 : Int) (M : zMem) (Qr : Int → zMem → Prop) (h : T_X9_unpack v1 Qr M) : zMetI l yX9_unpack cX9_unpack 4 (some .int) 3 80 0 0 G [.inr 63, .inl v1] M Qr := by
  refine zmetI (by decide) (Nat.le_of_ble_eq_true rfl) [some (.inr 63), some (.inl v1), none, none] rfl ?_
  intro p e s m args below meth c hc hr hlk
  unfold T_X9_unpack at h
  refine zj_iload_n (pc := 0) hc dX9_unpack_0 rfl ?_
  refine zj_if_lt (pc := 1) (tgt := 9) hc dX9_unpack_1 (by decide) (fun hx1 => ?_) (fun hx1 => ?_)
  · have h := h.1 hx1
    refine zj_aload_n (pc := 9) hc dX9_unpack_9 rfl ?_
    refine zj_iconst (pc := 10) hc dX9_unpack_10 (zin _ rfl) ?_
    refine zj_vti (pc := 11) (st := []) hc ks_X9_refuse iv_X9_refuse lk_X9_81 (zrv_0 G M) (S_X9_refuse l G (-1) M _ h) rfl ⟨Nat.le_of_ble_eq_true rfl, Nat.le_of_ble_eq_true rfl⟩ (Nat.le_of_ble_eq_true rfl) ⟨Nat.le_of_ble_eq_true rfl, Nat.le_of_ble_eq_true rfl⟩ dX9_unpack_11 rfl (fun y2 M3 h => ?_)
    exact zj_iret (pc := 14) hc hr hlk dX9_unpack_14 (by decide) (by decide) h
  · have h := h.2 hx1
    refine zj_iload_n (pc := 4) hc dX9_unpack_4 rfl ?_
    refine zj_iconst (pc := 5) hc dX9_unpack_5 (zin _ rfl) ?_
    refine zj_icmp_lt (pc := 6) (tgt := 15) hc dX9_unpack_6 (by decide) (fun hx4 => ?_) (fun hx4 => ?_)
    · have h := h.1 hx4
      refine zj_aload_n (pc := 15) hc dX9_unpack_15 rfl ?_
      refine zg_0_11 (pc := 16) hc lk_X9_57 dX9_unpack_16 ?_
      refine zg_5_0 (pc := 19) hc lk_X9_95 dX9_unpack_19 ?_
      refine zj_astore_n (pc := 22) hc dX9_unpack_22 (by decide) ?_
      refine zj_aload_n (pc := 23) hc dX9_unpack_23 rfl ?_
      refine zj_aload_n (pc := 24) hc dX9_unpack_24 rfl ?_
      refine zg_0_2 (pc := 25) hc lk_X9_16 dX9_unpack_25 ?_
      refine zj_iconst (pc := 28) hc dX9_unpack_28 (zin _ rfl) ?_
      refine zj_aload_n (pc := 29) hc dX9_unpack_29 rfl ?_
      refine zg_0_3 (pc := 30) hc lk_X9_19 dX9_unpack_30 ?_
      refine zj_iload_n (pc := 33) hc dX9_unpack_33 rfl ?_
      refine zj_vti (pc := 34) (st := []) hc ks_X6_unpackRow iv_X6_unpackRow lk_X9_116 (zrv_6 G M) (S_X6_unpackRow l G (Or.inr rfl) 2 0 (M.1 3) v1 M _ h) rfl ⟨Nat.le_of_ble_eq_true rfl, Nat.le_of_ble_eq_true rfl⟩ (Nat.le_of_ble_eq_true rfl) ⟨Nat.le_of_ble_eq_true rfl, Nat.le_of_ble_eq_true rfl⟩ dX9_unpack_34 rfl (fun y5 M6 h => ?_)
      refine zj_istore_n (pc := 37) hc dX9_unpack_37 (by decide) ?_
      refine zj_aload_n (pc := 38) hc dX9_unpack_38 rfl ?_
      refine zj_aload_n (pc := 39) hc dX9_unpack_39 rfl ?_
      refine zg_6_2 (pc := 40) hc lk_X9_120 dX9_unpack_40 ?_
      refine zs_0_7 (pc := 43) hc lk_X9_34 dX9_unpack_43 (fun M7 hM7 => ?_)
      have h := h M7 hM7
      refine zj_iload_n (pc := 46) hc dX9_unpack_46 rfl ?_
      refine zj_iconst (pc := 47) hc dX9_unpack_47 (zin _ rfl) ?_
      refine zj_icmp_ne (pc := 48) (tgt := 58) hc dX9_unpack_48 (by decide) (fun hx8 => ?_) (fun hx8 => ?_)
      · have h := h.1 hx8
        refine zj_aload_n (pc := 58) hc dX9_unpack_58 rfl ?_
        refine zj_aload_n (pc := 59) hc dX9_unpack_59 rfl ?_
        refine zg_6_1 (pc := 60) hc lk_X9_123 dX9_unpack_60 ?_
        refine zj_iload_n (pc := 63) hc dX9_unpack_63 rfl ?_
        refine zj_vtv (pc := 64) (st := []) hc ks_X9_takeTape iv_X9_takeTape lk_X9_112 (zrv_0 G M7) (S_X9_takeTape l G 385 y5 M7 _ h) rfl ⟨Nat.le_of_ble_eq_true rfl, Nat.le_of_ble_eq_true rfl⟩ (Nat.le_of_ble_eq_true rfl) ⟨Nat.le_of_ble_eq_true rfl, Nat.le_of_ble_eq_true rfl⟩ dX9_unpack_64 rfl (fun M9 h => ?_)
        refine zj_aload_n (pc := 67) hc dX9_unpack_67 rfl ?_
        refine zj_iload_n (pc := 68) hc dX9_unpack_68 rfl ?_
        refine zj_vti (pc := 69) (st := []) hc ks_X9_accept iv_X9_accept lk_X9_89 (zrv_0 G M9) (S_X9_accept l G y5 M9 _ h) rfl ⟨Nat.le_of_ble_eq_true rfl, Nat.le_of_ble_eq_true rfl⟩ (Nat.le_of_ble_eq_true rfl) ⟨Nat.le_of_ble_eq_true rfl, Nat.le_of_ble_eq_true rfl⟩ dX9_unpack_69 rfl (fun y10 M11 h => ?_)
        exact zj_iret (pc := 72) hc hr hlk dX9_unpack_72 (by decide) (by decide) h
      · have h := h.2 hx8
        refine zj_aload_n (pc := 51) hc dX9_unpack_51 rfl ?_
        refine zj_bipush (pc := 52) hc dX9_unpack_52 (by decide) (zin _ rfl) ?_
        refine zj_vti (pc := 54) (st := []) hc ks_X9_refuse iv_X9_refuse lk_X9_81 (zrv_0 G M7) (S_X9_refuse l G (-6) M7 _ h) rfl ⟨Nat.le_of_ble_eq_true rfl, Nat.le_of_ble_eq_true rfl⟩ (Nat.le_of_ble_eq_true rfl) ⟨Nat.le_of_ble_eq_true rfl, Nat.le_of_ble_eq_true rfl⟩ dX9_unpack_54 rfl (fun y12 M13 h => ?_)
        exact zj_iret (pc := 57) hc hr hlk dX9_unpack_57 (by decide) (by decide) h
    · have h := h.2 hx4
      refine zj_aload_n (pc := 9) hc dX9_unpack_9 rfl ?_
      refine zj_iconst (pc := 10) hc dX9_unpack_10 (zin _ rfl) ?_
      refine zj_vti (pc := 11) (st := []) hc ks_X9_refuse iv_X9_refuse lk_X9_81 (zrv_0 G M) (S_X9_refuse l G (-1) M _ h) rfl ⟨Nat.le_of_ble_eq_true rfl, Nat.le_of_ble_eq_true rfl⟩ (Nat.le_of_ble_eq_true rfl) ⟨Nat.le_of_ble_eq_true rfl, Nat.le_of_ble_eq_true rfl⟩ dX9_unpack_11 rfl (fun y14 M15 h => ?_)
      exact zj_iret (pc := 14) hc hr hlk dX9_unpack_14 (by decide) (by decide) h
set_option maxHeartbeats 4000000 in
set_option maxRecDepth 100000 in
theorem S_X9_flaw (l : Launch) (G : zG) (M : zMem) (Qr : Int → Prop) (h : T_X9_flaw Qr M) : zMetI l yX9_flaw cX9_flaw 1 (some .int) 0 0 0 0 G [.inr 63] M (fun r9 M9 => M = M9 ∧ Qr r9) := by
  refine zmetI (by decide) (Nat.le_of_ble_eq_true rfl) [some (.inr 63)] rfl ?_
  intro p e s m args below meth c hc hr hlk
  unfold T_X9_flaw at h
  refine zj_aload_n (pc := 0) hc dX9_flaw_0 rfl ?_
  refine zg_0_7 (pc := 1) hc lk_X9_34 dX9_flaw_1 ?_
  exact zj_iret (pc := 4) hc hr hlk dX9_flaw_4 (by decide) (by decide) ⟨rfl, h⟩
set_option maxHeartbeats 4000000 in
set_option maxRecDepth 100000 in
theorem S_X9_keepAndLearn (l : Launch) (G : zG) (v1 : Int) (M : zMem) (Qr : zMem → Prop) (h : T_X9_keepAndLearn v1 Qr M) : zMetV l yX9_keepAndLearn cX9_keepAndLearn 2 none 3 104 3 1342 G [.inr 63, .inl v1] M Qr := by
  refine zmetV (by decide) (Nat.le_of_ble_eq_true rfl) [some (.inr 63), some (.inl v1)] rfl ?_
  intro p e s m args below meth c hc hr hlk
  unfold T_X9_keepAndLearn at h
  refine zj_aload_n (pc := 0) hc dX9_keepAndLearn_0 rfl ?_
  refine zg_0_13 (pc := 1) hc lk_X9_71 dX9_keepAndLearn_1 ?_
  refine zj_iload_n (pc := 4) hc dX9_keepAndLearn_4 rfl ?_
  refine zj_aload_n (pc := 5) hc dX9_keepAndLearn_5 rfl ?_
  refine zg_0_9 (pc := 6) hc lk_X9_43 dX9_keepAndLearn_6 ?_
  refine zj_aload_n (pc := 9) hc dX9_keepAndLearn_9 rfl ?_
  refine zg_0_1 (pc := 10) hc lk_X9_13 dX9_keepAndLearn_10 ?_
  refine zj_vtv (pc := 13) (st := []) hc ks_X7_keep iv_X7_keep lk_X9_162 (zrv_8 G M) (S_X7_keep l G v1 1 M _ h) rfl ⟨Nat.le_of_ble_eq_true rfl, Nat.le_of_ble_eq_true rfl⟩ (Nat.le_of_ble_eq_true rfl) ⟨Nat.le_of_ble_eq_true rfl, Nat.le_of_ble_eq_true rfl⟩ dX9_keepAndLearn_13 rfl (fun M1 h => ?_)
  refine zj_aload_n (pc := 16) hc dX9_keepAndLearn_16 rfl ?_
  refine zg_0_10 (pc := 17) hc lk_X9_50 dX9_keepAndLearn_17 ?_
  refine zg_2_1 (pc := 20) hc lk_X9_261 dX9_keepAndLearn_20 ?_
  refine zj_iconst (pc := 23) hc dX9_keepAndLearn_23 (zin _ rfl) ?_
  refine zj_aload_n (pc := 24) hc dX9_keepAndLearn_24 rfl ?_
  refine zg_0_1 (pc := 25) hc lk_X9_13 dX9_keepAndLearn_25 ?_
  refine zj_iconst (pc := 28) hc dX9_keepAndLearn_28 (zin _ rfl) ?_
  refine zj_iconst (pc := 29) hc dX9_keepAndLearn_29 (zin _ rfl) ?_
  refine zj_copy (pc := 30) hc dX9_keepAndLearn_30 lk_X9_277 na_copy st_copy in_System alen_129 alen_1 h.1 (Nat.le_of_ble_eq_true rfl) (Nat.le_of_ble_eq_true rfl) (fun M2 hM2 => ?_)
  have h := h.2 M2 hM2
  exact zj_vret (pc := 33) hc hr hlk dX9_keepAndLearn_33 (by decide) (by decide) h
set_option maxHeartbeats 4000000 in
set_option maxRecDepth 100000 in
theorem S_X9_tellCutOff (l : Launch) (G : zG) (M : zMem) (Qr : Int → zMem → Prop) (h : T_X9_tellCutOff Qr M) : zMetI l yX9_tellCutOff cX9_tellCutOff 1 (some .int) 1 22 0 0 G [.inr 63] M Qr := by
  refine zmetI (by decide) (Nat.le_of_ble_eq_true rfl) [some (.inr 63)] rfl ?_
  intro p e s m args below meth c hc hr hlk
  unfold T_X9_tellCutOff at h
  refine zj_aload_n (pc := 0) hc dX9_tellCutOff_0 rfl ?_
  refine zj_bipush (pc := 1) hc dX9_tellCutOff_1 (by decide) (zin _ rfl) ?_
  refine zj_vti (pc := 3) (st := []) hc ks_X9_refuse iv_X9_refuse lk_X9_81 (zrv_0 G M) (S_X9_refuse l G (-7) M _ h) rfl ⟨Nat.le_of_ble_eq_true rfl, Nat.le_of_ble_eq_true rfl⟩ (Nat.le_of_ble_eq_true rfl) ⟨Nat.le_of_ble_eq_true rfl, Nat.le_of_ble_eq_true rfl⟩ dX9_tellCutOff_3 rfl (fun y1 M2 h => ?_)
  exact zj_iret (pc := 6) hc hr hlk dX9_tellCutOff_6 (by decide) (by decide) h
set_option maxHeartbeats 4000000 in
set_option maxRecDepth 100000 in
theorem S_X9_tellOutcome (l : Launch) (G : zG) (v1 : Int) (v2 : Int) (M : zMem) (Qr : Int → zMem → Prop) (h : T_X9_tellOutcome v1 v2 Qr M) : zMetI l yX9_tellOutcome cX9_tellOutcome 3 (some .int) 3 69 0 0 G [.inr 63, .inl v1, .inl v2] M Qr := by
  refine zmetI (by decide) (Nat.le_of_ble_eq_true rfl) [some (.inr 63), some (.inl v1), some (.inl v2)] rfl ?_
  intro p e s m args below meth c hc hr hlk
  unfold T_X9_tellOutcome at h
  refine zj_aload_n (pc := 0) hc dX9_tellOutcome_0 rfl ?_
  refine zg_0_9 (pc := 1) hc lk_X9_43 dX9_tellOutcome_1 ?_
  refine zg_1_3 (pc := 4) hc lk_X9_172 dX9_tellOutcome_4 ?_
  refine zj_if_eq (pc := 7) (tgt := 22) hc dX9_tellOutcome_7 (by decide) (fun hx1 => ?_) (fun hx1 => ?_)
  · have h := h.1 hx1
    refine zj_iload_n (pc := 22) hc dX9_tellOutcome_22 rfl ?_
    refine zj_iconst (pc := 23) hc dX9_tellOutcome_23 (zin _ rfl) ?_
    refine zj_icmp_eq (pc := 24) (tgt := 32) hc dX9_tellOutcome_24 (by decide) (fun hx2 => ?_) (fun hx2 => ?_)
    · have h := h.1 hx2
      refine zj_aload_n (pc := 32) hc dX9_tellOutcome_32 rfl ?_
      refine zg_0_12 (pc := 33) hc lk_X9_64 dX9_tellOutcome_33 ?_
      refine zj_vtv (pc := 36) (st := []) hc ks_X3_giveUpAll iv_X3_giveUpAll lk_X9_169 (zrv_7 G M) (S_X3_giveUpAll l G M _ h) rfl ⟨Nat.le_of_ble_eq_true rfl, Nat.le_of_ble_eq_true rfl⟩ (Nat.le_of_ble_eq_true rfl) ⟨Nat.le_of_ble_eq_true rfl, Nat.le_of_ble_eq_true rfl⟩ dX9_tellOutcome_36 rfl (fun M3 h => ?_)
      refine zj_goto (pc := 39) (tgt := 56) hc dX9_tellOutcome_39 (by decide) ?_
      refine zj_aload_n (pc := 56) hc dX9_tellOutcome_56 rfl ?_
      refine zj_iload_n (pc := 57) hc dX9_tellOutcome_57 rfl ?_
      refine zj_vti (pc := 58) (st := []) hc ks_X9_accept iv_X9_accept lk_X9_89 (zrv_0 G M3) (S_X9_accept l G v2 M3 _ h) rfl ⟨Nat.le_of_ble_eq_true rfl, Nat.le_of_ble_eq_true rfl⟩ (Nat.le_of_ble_eq_true rfl) ⟨Nat.le_of_ble_eq_true rfl, Nat.le_of_ble_eq_true rfl⟩ dX9_tellOutcome_58 rfl (fun y4 M5 h => ?_)
      exact zj_iret (pc := 61) hc hr hlk dX9_tellOutcome_61 (by decide) (by decide) h
    · have h := h.2 hx2
      refine zj_iload_n (pc := 27) hc dX9_tellOutcome_27 rfl ?_
      refine zj_iconst (pc := 28) hc dX9_tellOutcome_28 (zin _ rfl) ?_
      refine zj_icmp_ne (pc := 29) (tgt := 42) hc dX9_tellOutcome_29 (by decide) (fun hx6 => ?_) (fun hx6 => ?_)
      · have h := h.1 hx6
        refine zj_aload_n (pc := 42) hc dX9_tellOutcome_42 rfl ?_
        refine zg_0_12 (pc := 43) hc lk_X9_64 dX9_tellOutcome_43 ?_
        refine zj_aload_n (pc := 46) hc dX9_tellOutcome_46 rfl ?_
        refine zg_0_9 (pc := 47) hc lk_X9_43 dX9_tellOutcome_47 ?_
        refine zg_1_0 (pc := 50) hc lk_X9_149 dX9_tellOutcome_50 ?_
        refine zj_vtv (pc := 53) (st := []) hc ks_X3_giveUpFree iv_X3_giveUpFree lk_X9_311 (zrv_7 G M) (S_X3_giveUpFree l G 64 M _ h) rfl ⟨Nat.le_of_ble_eq_true rfl, Nat.le_of_ble_eq_true rfl⟩ (Nat.le_of_ble_eq_true rfl) ⟨Nat.le_of_ble_eq_true rfl, Nat.le_of_ble_eq_true rfl⟩ dX9_tellOutcome_53 rfl (fun M7 h => ?_)
        refine zj_aload_n (pc := 56) hc dX9_tellOutcome_56 rfl ?_
        refine zj_iload_n (pc := 57) hc dX9_tellOutcome_57 rfl ?_
        refine zj_vti (pc := 58) (st := []) hc ks_X9_accept iv_X9_accept lk_X9_89 (zrv_0 G M7) (S_X9_accept l G v2 M7 _ h) rfl ⟨Nat.le_of_ble_eq_true rfl, Nat.le_of_ble_eq_true rfl⟩ (Nat.le_of_ble_eq_true rfl) ⟨Nat.le_of_ble_eq_true rfl, Nat.le_of_ble_eq_true rfl⟩ dX9_tellOutcome_58 rfl (fun y8 M9 h => ?_)
        exact zj_iret (pc := 61) hc hr hlk dX9_tellOutcome_61 (by decide) (by decide) h
      · have h := h.2 hx6
        refine zj_aload_n (pc := 32) hc dX9_tellOutcome_32 rfl ?_
        refine zg_0_12 (pc := 33) hc lk_X9_64 dX9_tellOutcome_33 ?_
        refine zj_vtv (pc := 36) (st := []) hc ks_X3_giveUpAll iv_X3_giveUpAll lk_X9_169 (zrv_7 G M) (S_X3_giveUpAll l G M _ h) rfl ⟨Nat.le_of_ble_eq_true rfl, Nat.le_of_ble_eq_true rfl⟩ (Nat.le_of_ble_eq_true rfl) ⟨Nat.le_of_ble_eq_true rfl, Nat.le_of_ble_eq_true rfl⟩ dX9_tellOutcome_36 rfl (fun M10 h => ?_)
        refine zj_goto (pc := 39) (tgt := 56) hc dX9_tellOutcome_39 (by decide) ?_
        refine zj_aload_n (pc := 56) hc dX9_tellOutcome_56 rfl ?_
        refine zj_iload_n (pc := 57) hc dX9_tellOutcome_57 rfl ?_
        refine zj_vti (pc := 58) (st := []) hc ks_X9_accept iv_X9_accept lk_X9_89 (zrv_0 G M10) (S_X9_accept l G v2 M10 _ h) rfl ⟨Nat.le_of_ble_eq_true rfl, Nat.le_of_ble_eq_true rfl⟩ (Nat.le_of_ble_eq_true rfl) ⟨Nat.le_of_ble_eq_true rfl, Nat.le_of_ble_eq_true rfl⟩ dX9_tellOutcome_58 rfl (fun y11 M12 h => ?_)
        exact zj_iret (pc := 61) hc hr hlk dX9_tellOutcome_61 (by decide) (by decide) h
  · have h := h.2 hx1
    refine zj_aload_n (pc := 10) hc dX9_tellOutcome_10 rfl ?_
    refine zg_0_12 (pc := 11) hc lk_X9_64 dX9_tellOutcome_11 ?_
    refine zj_vtv (pc := 14) (st := []) hc ks_X3_giveUpAll iv_X3_giveUpAll lk_X9_169 (zrv_7 G M) (S_X3_giveUpAll l G M _ h) rfl ⟨Nat.le_of_ble_eq_true rfl, Nat.le_of_ble_eq_true rfl⟩ (Nat.le_of_ble_eq_true rfl) ⟨Nat.le_of_ble_eq_true rfl, Nat.le_of_ble_eq_true rfl⟩ dX9_tellOutcome_14 rfl (fun M13 h => ?_)
    refine zj_aload_n (pc := 17) hc dX9_tellOutcome_17 rfl ?_
    refine zj_vti (pc := 18) (st := []) hc ks_X9_tellCutOff iv_X9_tellCutOff lk_X9_175 (zrv_0 G M13) (S_X9_tellCutOff l G M13 _ h) rfl ⟨Nat.le_of_ble_eq_true rfl, Nat.le_of_ble_eq_true rfl⟩ (Nat.le_of_ble_eq_true rfl) ⟨Nat.le_of_ble_eq_true rfl, Nat.le_of_ble_eq_true rfl⟩ dX9_tellOutcome_18 rfl (fun y14 M15 h => ?_)
    exact zj_iret (pc := 21) hc hr hlk dX9_tellOutcome_21 (by decide) (by decide) h
set_option maxHeartbeats 4000000 in
set_option maxRecDepth 100000 in
theorem S_X9_carryOut (l : Launch) (G : zG) (v1 : Int) (v2 : Int) (M : zMem) (Qr : Int → zMem → Prop) (h : T_X9_carryOut v1 v2 Qr M) : zMetI l yX9_carryOut cX9_carryOut 3 (some .int) 4 125 3 1342 G [.inr 63, .inl v1, .inl v2] M Qr := by
  refine zmetI (by decide) (Nat.le_of_ble_eq_true rfl) [some (.inr 63), some (.inl v1), some (.inl v2)] rfl ?_
  intro p e s m args below meth c hc hr hlk
  unfold T_X9_carryOut at h
  refine zj_aload_n (pc := 0) hc dX9_carryOut_0 rfl ?_
  refine zj_iload_n (pc := 1) hc dX9_carryOut_1 rfl ?_
  refine zj_vtv (pc := 2) (st := []) hc ks_X9_keepAndLearn iv_X9_keepAndLearn lk_X9_291 (zrv_0 G M) (S_X9_keepAndLearn l G v1 M _ h) rfl ⟨Nat.le_of_ble_eq_true rfl, Nat.le_of_ble_eq_true rfl⟩ (Nat.le_of_ble_eq_true rfl) ⟨Nat.le_of_ble_eq_true rfl, Nat.le_of_ble_eq_true rfl⟩ dX9_carryOut_2 rfl (fun M1 h => ?_)
  refine zj_aload_n (pc := 5) hc dX9_carryOut_5 rfl ?_
  refine zg_0_9 (pc := 6) hc lk_X9_43 dX9_carryOut_6 ?_
  refine zj_aload_n (pc := 9) hc dX9_carryOut_9 rfl ?_
  refine zg_0_10 (pc := 10) hc lk_X9_50 dX9_carryOut_10 ?_
  refine zg_2_0 (pc := 13) hc lk_X9_262 dX9_carryOut_13 ?_
  refine zj_aload_n (pc := 16) hc dX9_carryOut_16 rfl ?_
  refine zg_0_10 (pc := 17) hc lk_X9_50 dX9_carryOut_17 ?_
  refine zg_2_2 (pc := 20) hc lk_X9_304 dX9_carryOut_20 ?_
  refine zj_vtv (pc := 23) (st := []) hc ks_X0_writeThroughJournal iv_X0_writeThroughJournal lk_X9_307 (zrv_1 G M1) (S_X0_writeThroughJournal l G 128 130 M1 _ h) rfl ⟨Nat.le_of_ble_eq_true rfl, Nat.le_of_ble_eq_true rfl⟩ (Nat.le_of_ble_eq_true rfl) ⟨Nat.le_of_ble_eq_true rfl, Nat.le_of_ble_eq_true rfl⟩ dX9_carryOut_23 rfl (fun M2 h => ?_)
  refine zj_aload_n (pc := 26) hc dX9_carryOut_26 rfl ?_
  refine zj_iload_n (pc := 27) hc dX9_carryOut_27 rfl ?_
  refine zj_iload_n (pc := 28) hc dX9_carryOut_28 rfl ?_
  refine zj_vti (pc := 29) (st := []) hc ks_X9_tellOutcome iv_X9_tellOutcome lk_X9_301 (zrv_0 G M2) (S_X9_tellOutcome l G v1 v2 M2 _ h) rfl ⟨Nat.le_of_ble_eq_true rfl, Nat.le_of_ble_eq_true rfl⟩ (Nat.le_of_ble_eq_true rfl) ⟨Nat.le_of_ble_eq_true rfl, Nat.le_of_ble_eq_true rfl⟩ dX9_carryOut_29 rfl (fun y3 M4 h => ?_)
  exact zj_iret (pc := 32) hc hr hlk dX9_carryOut_32 (by decide) (by decide) h
set_option maxHeartbeats 4000000 in
set_option maxRecDepth 100000 in
theorem S_X9_pageFor (l : Launch) (G : zG) (v1 : Int) (M : zMem) (Qr : Int → Prop) (h : T_X9_pageFor v1 Qr M) : zMetI l yX9_pageFor cX9_pageFor 2 (some .int) 2 45 0 0 G [.inr 63, .inl v1] M (fun r9 M9 => M = M9 ∧ Qr r9) := by
  refine zmetI (by decide) (Nat.le_of_ble_eq_true rfl) [some (.inr 63), some (.inl v1)] rfl ?_
  intro p e s m args below meth c hc hr hlk
  unfold T_X9_pageFor at h
  refine zj_aload_n (pc := 0) hc dX9_pageFor_0 rfl ?_
  refine zg_0_9 (pc := 1) hc lk_X9_43 dX9_pageFor_1 ?_
  refine zg_1_0 (pc := 4) hc lk_X9_149 dX9_pageFor_4 ?_
  refine zj_aload_n (pc := 7) hc dX9_pageFor_7 rfl ?_
  refine zg_0_9 (pc := 8) hc lk_X9_43 dX9_pageFor_8 ?_
  refine zg_1_0 (pc := 11) hc lk_X9_149 dX9_pageFor_11 ?_
  refine zj_iload_n (pc := 14) hc dX9_pageFor_14 rfl ?_
  refine zj_sti (pc := 15) (st := [.inr 64]) hc ks_X4_orderFor st_X4_orderFor lk_X9_274 (S_X4_orderFor l G 64 v1 M _ h) rfl ⟨Nat.le_of_ble_eq_true rfl, Nat.le_of_ble_eq_true rfl⟩ (Nat.le_of_ble_eq_true rfl) ⟨Nat.le_of_ble_eq_true rfl, Nat.le_of_ble_eq_true rfl⟩ dX9_pageFor_15 rfl (fun y1 M9 h => ?_)
  obtain ⟨hM9, h⟩ := h
  subst hM9
  refine zj_sti (pc := 18) (st := []) hc ks_X4_pageAt st_X4_pageAt lk_X9_214 (S_X4_pageAt l G 64 y1 M _ h) rfl ⟨Nat.le_of_ble_eq_true rfl, Nat.le_of_ble_eq_true rfl⟩ (Nat.le_of_ble_eq_true rfl) ⟨Nat.le_of_ble_eq_true rfl, Nat.le_of_ble_eq_true rfl⟩ dX9_pageFor_18 rfl (fun y2 M9 h => ?_)
  obtain ⟨hM9, h⟩ := h
  subst hM9
  exact zj_iret (pc := 21) hc hr hlk dX9_pageFor_21 (by decide) (by decide) ⟨rfl, h⟩
set_option maxHeartbeats 4000000 in
set_option maxRecDepth 100000 in
theorem S_X9_editAlone (l : Launch) (G : zG) (v1 : Int) (v2 : Int) (M : zMem) (Qr : Int → zMem → Prop) (h : T_X9_editAlone v1 v2 Qr M) : zMetI l yX9_editAlone cX9_editAlone 4 (some .int) 6 164 3 1342 G [.inr 63, .inl v1, .inl v2] M Qr := by
  refine zmetI (by decide) (Nat.le_of_ble_eq_true rfl) [some (.inr 63), some (.inl v1), some (.inl v2), none] rfl ?_
  intro p e s m args below meth c hc hr hlk
  have k94 : ∀ (M : zMem) (v2 : Int) (v3 : Int), T_X9_editAlone_94 v2 v3 Qr M → zJ p l e (zRoom 6 164 3 1342) s m args below meth c G 4 0 0 (MQ below (zQi G (Qr)) args s 3 1342 (zA G)) 94 [some (.inr 63), none, some (.inl v2), some (.inl v3)] [] M := by
    intro M v2 v3 h
    unfold T_X9_editAlone_94 at h
    refine zj_iload_n (pc := 94) hc dX9_editAlone_94 rfl ?_
    refine zj_if_eq (pc := 95) (tgt := 105) hc dX9_editAlone_95 (by decide) (fun hx1 => ?_) (fun hx1 => ?_)
    · have h := h.1 hx1
      refine zj_aload_n (pc := 105) hc dX9_editAlone_105 rfl ?_
      refine zj_iload_n (pc := 106) hc dX9_editAlone_106 rfl ?_
      refine zj_vtv (pc := 107) (st := []) hc ks_X9_keepAndLearn iv_X9_keepAndLearn lk_X9_291 (zrv_0 G M) (S_X9_keepAndLearn l G v2 M _ h) rfl ⟨Nat.le_of_ble_eq_true rfl, Nat.le_of_ble_eq_true rfl⟩ (Nat.le_of_ble_eq_true rfl) ⟨Nat.le_of_ble_eq_true rfl, Nat.le_of_ble_eq_true rfl⟩ dX9_editAlone_107 rfl (fun M2 h => ?_)
      refine zj_aload_n (pc := 110) hc dX9_editAlone_110 rfl ?_
      refine zg_0_9 (pc := 111) hc lk_X9_43 dX9_editAlone_111 ?_
      refine zj_aload_n (pc := 114) hc dX9_editAlone_114 rfl ?_
      refine zg_0_10 (pc := 115) hc lk_X9_50 dX9_editAlone_115 ?_
      refine zg_2_3 (pc := 118) hc lk_X9_294 dX9_editAlone_118 ?_
      refine zj_aload_n (pc := 121) hc dX9_editAlone_121 rfl ?_
      refine zg_0_4 (pc := 122) hc lk_X9_25 dX9_editAlone_122 ?_
      refine zj_vtv (pc := 125) (st := []) hc ks_X0_writeEntry iv_X0_writeEntry lk_X9_297 (zrv_1 G M2) (S_X0_writeEntry l G (M2.1 131) 4 M2 _ h) rfl ⟨Nat.le_of_ble_eq_true rfl, Nat.le_of_ble_eq_true rfl⟩ (Nat.le_of_ble_eq_true rfl) ⟨Nat.le_of_ble_eq_true rfl, Nat.le_of_ble_eq_true rfl⟩ dX9_editAlone_125 rfl (fun M3 h => ?_)
      refine zj_aload_n (pc := 128) hc dX9_editAlone_128 rfl ?_
      refine zj_iload_n (pc := 129) hc dX9_editAlone_129 rfl ?_
      refine zj_iload_n (pc := 130) hc dX9_editAlone_130 rfl ?_
      refine zj_vti (pc := 131) (st := []) hc ks_X9_tellOutcome iv_X9_tellOutcome lk_X9_301 (zrv_0 G M3) (S_X9_tellOutcome l G v2 v3 M3 _ h) rfl ⟨Nat.le_of_ble_eq_true rfl, Nat.le_of_ble_eq_true rfl⟩ (Nat.le_of_ble_eq_true rfl) ⟨Nat.le_of_ble_eq_true rfl, Nat.le_of_ble_eq_true rfl⟩ dX9_editAlone_131 rfl (fun y4 M5 h => ?_)
      exact zj_iret (pc := 134) hc hr hlk dX9_editAlone_134 (by decide) (by decide) h
    · have h := h.2 hx1
      refine zj_aload_n (pc := 98) hc dX9_editAlone_98 rfl ?_
      refine zj_iload_n (pc := 99) hc dX9_editAlone_99 rfl ?_
      refine zj_iload_n (pc := 100) hc dX9_editAlone_100 rfl ?_
      refine zj_vti (pc := 101) (st := []) hc ks_X9_carryOut iv_X9_carryOut lk_X9_146 (zrv_0 G M) (S_X9_carryOut l G v2 v3 M _ h) rfl ⟨Nat.le_of_ble_eq_true rfl, Nat.le_of_ble_eq_true rfl⟩ (Nat.le_of_ble_eq_true rfl) ⟨Nat.le_of_ble_eq_true rfl, Nat.le_of_ble_eq_true rfl⟩ dX9_editAlone_101 rfl (fun y6 M7 h => ?_)
      exact zj_iret (pc := 104) hc hr hlk dX9_editAlone_104 (by decide) (by decide) h
  have k89 : ∀ (M : zMem) (v2 : Int) (v3 : Int), T_X9_editAlone_89 v2 v3 Qr M → zJ p l e (zRoom 6 164 3 1342) s m args below meth c G 4 0 0 (MQ below (zQi G (Qr)) args s 3 1342 (zA G)) 89 [some (.inr 63), none, some (.inl v2), some (.inl v3)] [] M := by
    intro M v2 v3 h
    unfold T_X9_editAlone_89 at h
    refine zj_aload_n (pc := 89) hc dX9_editAlone_89 rfl ?_
    refine zj_iconst (pc := 90) hc dX9_editAlone_90 (zin _ rfl) ?_
    refine zs_0_3 (pc := 91) hc lk_X9_19 dX9_editAlone_91 (fun M8 hM8 => ?_)
    have h := h M8 hM8
    exact k94 M8 v2 v3 h
  unfold T_X9_editAlone at h
  refine zj_aload_n (pc := 0) hc dX9_editAlone_0 rfl ?_
  refine zg_0_9 (pc := 1) hc lk_X9_43 dX9_editAlone_1 ?_
  refine zg_1_2 (pc := 4) hc lk_X9_138 dX9_editAlone_4 ?_
  refine zj_if_eq (pc := 7) (tgt := 17) hc dX9_editAlone_7 (by decide) (fun hx9 => ?_) (fun hx9 => ?_)
  · have h := h.1 hx9
    refine zj_aload_n (pc := 17) hc dX9_editAlone_17 rfl ?_
    refine zg_0_12 (pc := 18) hc lk_X9_64 dX9_editAlone_18 ?_
    refine zj_aload_n (pc := 21) hc dX9_editAlone_21 rfl ?_
    refine zj_iload_n (pc := 22) hc dX9_editAlone_22 rfl ?_
    refine zj_vti (pc := 23) (st := [.inr 511]) hc ks_X9_pageFor iv_X9_pageFor lk_X9_181 (zrv_0 G M) (S_X9_pageFor l G v1 M _ h) rfl ⟨Nat.le_of_ble_eq_true rfl, Nat.le_of_ble_eq_true rfl⟩ (Nat.le_of_ble_eq_true rfl) ⟨Nat.le_of_ble_eq_true rfl, Nat.le_of_ble_eq_true rfl⟩ dX9_editAlone_23 rfl (fun y10 M9 h => ?_)
    obtain ⟨hM9, h⟩ := h
    subst hM9
    refine zj_aload_n (pc := 26) hc dX9_editAlone_26 rfl ?_
    refine zg_0_0 (pc := 27) hc lk_X9_9 dX9_editAlone_27 ?_
    refine zj_iconst (pc := 30) hc dX9_editAlone_30 (zin _ rfl) ?_
    refine zj_iald (pc := 31) hc dX9_editAlone_31 alen_0 h.1 ?_
    have h := h.2
    refine zj_vtv (pc := 32) (st := []) hc ks_X3_hold iv_X3_hold lk_X9_184 (zrv_7 G M) (S_X3_hold l G y10 (M.2 0 4) M _ h) rfl ⟨Nat.le_of_ble_eq_true rfl, Nat.le_of_ble_eq_true rfl⟩ (Nat.le_of_ble_eq_true rfl) ⟨Nat.le_of_ble_eq_true rfl, Nat.le_of_ble_eq_true rfl⟩ dX9_editAlone_32 rfl (fun M11 h => ?_)
    refine zj_aload_n (pc := 35) hc dX9_editAlone_35 rfl ?_
    refine zg_0_10 (pc := 36) hc lk_X9_50 dX9_editAlone_36 ?_
    refine zj_aload_n (pc := 39) hc dX9_editAlone_39 rfl ?_
    refine zg_0_9 (pc := 40) hc lk_X9_43 dX9_editAlone_40 ?_
    refine zg_1_0 (pc := 43) hc lk_X9_149 dX9_editAlone_43 ?_
    refine zj_aload_n (pc := 46) hc dX9_editAlone_46 rfl ?_
    refine zg_0_1 (pc := 47) hc lk_X9_13 dX9_editAlone_47 ?_
    refine zj_aload_n (pc := 50) hc dX9_editAlone_50 rfl ?_
    refine zg_0_0 (pc := 51) hc lk_X9_9 dX9_editAlone_51 ?_
    refine zj_vtv (pc := 54) (st := []) hc ks_X1_begin iv_X1_begin lk_X9_152 (zrv_2 G M11) (S_X1_begin l G 64 1 0 M11 _ h) rfl ⟨Nat.le_of_ble_eq_true rfl, Nat.le_of_ble_eq_true rfl⟩ (Nat.le_of_ble_eq_true rfl) ⟨Nat.le_of_ble_eq_true rfl, Nat.le_of_ble_eq_true rfl⟩ dX9_editAlone_54 rfl (fun M12 h => ?_)
    refine zj_aload_n (pc := 57) hc dX9_editAlone_57 rfl ?_
    refine zg_0_10 (pc := 58) hc lk_X9_50 dX9_editAlone_58 ?_
    refine zj_aload_n (pc := 61) hc dX9_editAlone_61 rfl ?_
    refine zg_0_4 (pc := 62) hc lk_X9_25 dX9_editAlone_62 ?_
    refine zj_iconst (pc := 65) hc dX9_editAlone_65 (zin _ rfl) ?_
    refine zj_vti (pc := 66) (st := []) hc ks_X1_edit iv_X1_edit lk_X9_288 (zrv_2 G M12) (S_X1_edit l G 4 0 M12 _ h) rfl ⟨Nat.le_of_ble_eq_true rfl, Nat.le_of_ble_eq_true rfl⟩ (Nat.le_of_ble_eq_true rfl) ⟨Nat.le_of_ble_eq_true rfl, Nat.le_of_ble_eq_true rfl⟩ dX9_editAlone_66 rfl (fun y13 M14 h => ?_)
    refine zj_istore_n (pc := 69) hc dX9_editAlone_69 (by decide) ?_
    refine zj_iload_n (pc := 70) hc dX9_editAlone_70 rfl ?_
    refine zj_if_ge (pc := 71) (tgt := 80) hc dX9_editAlone_71 (by decide) (fun hx15 => ?_) (fun hx15 => ?_)
    · have h := h.1 hx15
      refine zj_iload_n (pc := 80) hc dX9_editAlone_80 rfl ?_
      refine zj_if_eq (pc := 81) (tgt := 89) hc dX9_editAlone_81 (by decide) (fun hx16 => ?_) (fun hx16 => ?_)
      · have h := h.1 hx16
        refine zj_mask (bs := [true, false, true, true]) ?_
        exact k89 M14 v2 y13 h
      · have h := h.2 hx16
        refine zj_iload_n (pc := 84) hc dX9_editAlone_84 rfl ?_
        refine zj_iconst (pc := 85) hc dX9_editAlone_85 (zin _ rfl) ?_
        refine zj_icmp_ne (pc := 86) (tgt := 94) hc dX9_editAlone_86 (by decide) (fun hx17 => ?_) (fun hx17 => ?_)
        · have h := h.1 hx17
          refine zj_mask (bs := [true, false, true, true]) ?_
          exact k94 M14 v2 y13 h
        · have h := h.2 hx17
          refine zj_mask (bs := [true, false, true, true]) ?_
          exact k89 M14 v2 y13 h
    · have h := h.2 hx15
      refine zj_aload_n (pc := 74) hc dX9_editAlone_74 rfl ?_
      refine zj_iload_n (pc := 75) hc dX9_editAlone_75 rfl ?_
      refine zj_vti (pc := 76) (st := []) hc ks_X9_refuse iv_X9_refuse lk_X9_81 (zrv_0 G M14) (S_X9_refuse l G y13 M14 _ h) rfl ⟨Nat.le_of_ble_eq_true rfl, Nat.le_of_ble_eq_true rfl⟩ (Nat.le_of_ble_eq_true rfl) ⟨Nat.le_of_ble_eq_true rfl, Nat.le_of_ble_eq_true rfl⟩ dX9_editAlone_76 rfl (fun y18 M19 h => ?_)
      exact zj_iret (pc := 79) hc hr hlk dX9_editAlone_79 (by decide) (by decide) h
  · have h := h.2 hx9
    refine zj_aload_n (pc := 10) hc dX9_editAlone_10 rfl ?_
    refine zj_bipush (pc := 11) hc dX9_editAlone_11 (by decide) (zin _ rfl) ?_
    refine zj_vti (pc := 13) (st := []) hc ks_X9_refuse iv_X9_refuse lk_X9_81 (zrv_0 G M) (S_X9_refuse l G (-3) M _ h) rfl ⟨Nat.le_of_ble_eq_true rfl, Nat.le_of_ble_eq_true rfl⟩ (Nat.le_of_ble_eq_true rfl) ⟨Nat.le_of_ble_eq_true rfl, Nat.le_of_ble_eq_true rfl⟩ dX9_editAlone_13 rfl (fun y20 M21 h => ?_)
    exact zj_iret (pc := 16) hc hr hlk dX9_editAlone_16 (by decide) (by decide) h
set_option maxHeartbeats 4000000 in
set_option maxRecDepth 100000 in
theorem S_X9_layFromTape (l : Launch) (G : zG) (v1 : Int) (v2 : Int) (M : zMem) (Qr : zMem → Prop) (h : T_X9_layFromTape v1 v2 Qr M) : zMetV l yX9_layFromTape cX9_layFromTape 4 none 1 26 0 0 G [.inr 63, .inl v1, .inl v2] M Qr := by
  refine zmetV (by decide) (Nat.le_of_ble_eq_true rfl) [some (.inr 63), some (.inl v1), some (.inl v2), none] rfl ?_
  intro p e s m args below meth c hc hr hlk
  unfold T_X9_layFromTape at h
  refine zj_aload_n (pc := 0) hc dX9_layFromTape_0 rfl ?_
  refine zg_0_3 (pc := 1) hc lk_X9_19 dX9_layFromTape_1 ?_
  refine zj_bipush (pc := 4) hc dX9_layFromTape_4 (by decide) (zin _ rfl) ?_
  refine zj_min (pc := 6) hc dX9_layFromTape_6 lk_X9_283 st_min in_Math co_min (Nat.le_of_ble_eq_true rfl) (Nat.le_of_ble_eq_true rfl) ⟨Nat.le_of_ble_eq_true rfl, Nat.le_of_ble_eq_true rfl⟩ ?_
  refine zj_istore_n (pc := 9) hc dX9_layFromTape_9 (by decide) ?_
  refine zj_aload_n (pc := 10) hc dX9_layFromTape_10 rfl ?_
  refine zg_0_4 (pc := 11) hc lk_X9_25 dX9_layFromTape_11 ?_
  refine zj_iconst (pc := 14) hc dX9_layFromTape_14 (zin _ rfl) ?_
  refine zj_bipush (pc := 15) hc dX9_layFromTape_15 (by decide) (zin _ rfl) ?_
  refine zj_iload_n (pc := 17) hc dX9_layFromTape_17 rfl ?_
  refine zj_imul (pc := 18) hc dX9_layFromTape_18 h.1 ?_
  have h := h.2
  refine zj_iload_n (pc := 19) hc dX9_layFromTape_19 rfl ?_
  refine zj_iadd (pc := 20) hc dX9_layFromTape_20 h.1 ?_
  have h := h.2
  refine zj_iast (pc := 21) hc dX9_layFromTape_21 alen_4 h.1 (fun M1 hM1 => ?_)
  have h := h.2 M1 hM1
  refine zj_aload_n (pc := 22) hc dX9_layFromTape_22 rfl ?_
  refine zg_0_4 (pc := 23) hc lk_X9_25 dX9_layFromTape_23 ?_
  refine zj_iconst (pc := 26) hc dX9_layFromTape_26 (zin _ rfl) ?_
  refine zj_iload_n (pc := 27) hc dX9_layFromTape_27 rfl ?_
  refine zj_iast (pc := 28) hc dX9_layFromTape_28 alen_4 h.1 (fun M2 hM2 => ?_)
  have h := h.2 M2 hM2
  refine zj_aload_n (pc := 29) hc dX9_layFromTape_29 rfl ?_
  refine zg_0_2 (pc := 30) hc lk_X9_16 dX9_layFromTape_30 ?_
  refine zj_iconst (pc := 33) hc dX9_layFromTape_33 (zin _ rfl) ?_
  refine zj_aload_n (pc := 34) hc dX9_layFromTape_34 rfl ?_
  refine zg_0_4 (pc := 35) hc lk_X9_25 dX9_layFromTape_35 ?_
  refine zj_iconst (pc := 38) hc dX9_layFromTape_38 (zin _ rfl) ?_
  refine zj_iload_n (pc := 39) hc dX9_layFromTape_39 rfl ?_
  refine zj_copy (pc := 40) hc dX9_layFromTape_40 lk_X9_277 na_copy st_copy in_System alen_2 alen_4 h.1 (Nat.le_of_ble_eq_true rfl) (Nat.le_of_ble_eq_true rfl) (fun M3 hM3 => ?_)
  have h := h.2 M3 hM3
  exact zj_vret (pc := 43) hc hr hlk dX9_layFromTape_43 (by decide) (by decide) h
