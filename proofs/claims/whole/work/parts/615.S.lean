set_option maxHeartbeats 4000000 in
set_option maxRecDepth 100000 in
theorem S_X9_next (l : Launch) (G : zG) (v1 : Int) (M : zMem) (Qr : Int → zMem → Prop) (h : T_X9_next v1 Qr M) : zMetI l yX9_next cX9_next 2 (some .int) 5 131 0 0 G [.inr 63, .inl v1] M Qr := by
  refine zmetI (by decide) (Nat.le_of_ble_eq_true rfl) [some (.inr 63), some (.inl v1)] rfl ?_
  intro p e s m args below meth c hc hr hlk
  unfold T_X9_next at h
  refine zj_aload_n (pc := 0) hc dX9_next_0 rfl ?_
  refine zg_0_9 (pc := 1) hc lk_X9_43 dX9_next_1 ?_
  refine zg_1_2 (pc := 4) hc lk_X9_138 dX9_next_4 ?_
  refine zj_if_ne (pc := 7) (tgt := 17) hc dX9_next_7 (by decide) (fun hx1 => ?_) (fun hx1 => ?_)
  · have h := h.1 hx1
    refine zj_iconst (pc := 17) hc dX9_next_17 (zin _ rfl) ?_
    exact zj_iret (pc := 18) hc hr hlk dX9_next_18 (by decide) (by decide) h
  · have h := h.2 hx1
    refine zj_iload_n (pc := 10) hc dX9_next_10 rfl ?_
    refine zj_sti (pc := 11) (st := []) hc ks_X9_isByte st_X9_isByte lk_X9_126 (S_X9_isByte l G v1 M _ h) rfl ⟨Nat.le_of_ble_eq_true rfl, Nat.le_of_ble_eq_true rfl⟩ (Nat.le_of_ble_eq_true rfl) ⟨Nat.le_of_ble_eq_true rfl, Nat.le_of_ble_eq_true rfl⟩ dX9_next_11 rfl (fun y2 M9 h => ?_)
    obtain ⟨hM9, h⟩ := h
    subst hM9
    refine zj_if_ne (pc := 14) (tgt := 19) hc dX9_next_14 (by decide) (fun hx3 => ?_) (fun hx3 => ?_)
    · have h := h.1 hx3
      refine zj_aload_n (pc := 19) hc dX9_next_19 rfl ?_
      refine zg_0_11 (pc := 20) hc lk_X9_57 dX9_next_20 ?_
      refine zj_aload_n (pc := 23) hc dX9_next_23 rfl ?_
      refine zg_0_9 (pc := 24) hc lk_X9_43 dX9_next_24 ?_
      refine zg_1_0 (pc := 27) hc lk_X9_149 dX9_next_27 ?_
      refine zj_vtv (pc := 30) (st := []) hc ks_X8_loadAll iv_X8_loadAll lk_X9_204 (zrv_5 G M) (S_X8_loadAll l G (Or.inr rfl) 64 M _ h) rfl ⟨Nat.le_of_ble_eq_true rfl, Nat.le_of_ble_eq_true rfl⟩ (Nat.le_of_ble_eq_true rfl) ⟨Nat.le_of_ble_eq_true rfl, Nat.le_of_ble_eq_true rfl⟩ dX9_next_30 rfl (fun M4 h => ?_)
      refine zj_aload_n (pc := 33) hc dX9_next_33 rfl ?_
      refine zg_0_11 (pc := 34) hc lk_X9_57 dX9_next_34 ?_
      refine zj_iload_n (pc := 37) hc dX9_next_37 rfl ?_
      refine zj_sipush (pc := 38) hc dX9_next_38 (by decide) (zin _ rfl) ?_
      refine zj_vti (pc := 41) (st := []) hc ks_X8_lowestIn iv_X8_lowestIn lk_X9_208 (zrv_5 G M4) (S_X8_lowestIn l G (Or.inr rfl) v1 256 M4 _ h) rfl ⟨Nat.le_of_ble_eq_true rfl, Nat.le_of_ble_eq_true rfl⟩ (Nat.le_of_ble_eq_true rfl) ⟨Nat.le_of_ble_eq_true rfl, Nat.le_of_ble_eq_true rfl⟩ dX9_next_41 rfl (fun y5 M9 h => ?_)
      obtain ⟨hM9, h⟩ := h
      subst hM9
      exact zj_iret (pc := 44) hc hr hlk dX9_next_44 (by decide) (by decide) h
    · have h := h.2 hx3
      refine zj_iconst (pc := 17) hc dX9_next_17 (zin _ rfl) ?_
      exact zj_iret (pc := 18) hc hr hlk dX9_next_18 (by decide) (by decide) h
set_option maxHeartbeats 4000000 in
set_option maxRecDepth 100000 in
theorem S_X9_isOrder (l : Launch) (G : zG) (v1 : Int) (M : zMem) (Qr : Int → Prop) (h : T_X9_isOrder v1 Qr M) : zMetI l yX9_isOrder cX9_isOrder 2 (some .boolean) 1 21 0 0 G [.inr 63, .inl v1] M (fun r9 M9 => M = M9 ∧ Qr r9) := by
  refine zmetI (by decide) (Nat.le_of_ble_eq_true rfl) [some (.inr 63), some (.inl v1)] rfl ?_
  intro p e s m args below meth c hc hr hlk
  unfold T_X9_isOrder at h
  refine zj_aload_n (pc := 0) hc dX9_isOrder_0 rfl ?_
  refine zg_0_9 (pc := 1) hc lk_X9_43 dX9_isOrder_1 ?_
  refine zg_1_2 (pc := 4) hc lk_X9_138 dX9_isOrder_4 ?_
  refine zj_if_ne (pc := 7) (tgt := 32) hc dX9_isOrder_7 (by decide) (fun hx1 => ?_) (fun hx1 => ?_)
  · have h := h.1 hx1
    refine zj_iconst (pc := 32) hc dX9_isOrder_32 (zin _ rfl) ?_
    exact zj_zret (pc := 33) hc hr hlk dX9_isOrder_33 (by decide) (by decide) (Or.inl rfl) ⟨rfl, h⟩
  · have h := h.2 hx1
    refine zj_iload_n (pc := 10) hc dX9_isOrder_10 rfl ?_
    refine zj_if_lt (pc := 11) (tgt := 32) hc dX9_isOrder_11 (by decide) (fun hx2 => ?_) (fun hx2 => ?_)
    · have h := h.1 hx2
      refine zj_iconst (pc := 32) hc dX9_isOrder_32 (zin _ rfl) ?_
      exact zj_zret (pc := 33) hc hr hlk dX9_isOrder_33 (by decide) (by decide) (Or.inl rfl) ⟨rfl, h⟩
    · have h := h.2 hx2
      refine zj_iload_n (pc := 14) hc dX9_isOrder_14 rfl ?_
      refine zj_aload_n (pc := 15) hc dX9_isOrder_15 rfl ?_
      refine zg_0_9 (pc := 16) hc lk_X9_43 dX9_isOrder_16 ?_
      refine zg_1_0 (pc := 19) hc lk_X9_149 dX9_isOrder_19 ?_
      refine zj_sti (pc := 22) (st := [.inl v1]) hc ks_X4_inUse st_X4_inUse lk_X9_263 (S_X4_inUse l G 64 M _ h) rfl ⟨Nat.le_of_ble_eq_true rfl, Nat.le_of_ble_eq_true rfl⟩ (Nat.le_of_ble_eq_true rfl) ⟨Nat.le_of_ble_eq_true rfl, Nat.le_of_ble_eq_true rfl⟩ dX9_isOrder_22 rfl (fun y3 M9 h => ?_)
      obtain ⟨hM9, h⟩ := h
      subst hM9
      refine zj_icmp_ge (pc := 25) (tgt := 32) hc dX9_isOrder_25 (by decide) (fun hx4 => ?_) (fun hx4 => ?_)
      · have h := h.1 hx4
        refine zj_iconst (pc := 32) hc dX9_isOrder_32 (zin _ rfl) ?_
        exact zj_zret (pc := 33) hc hr hlk dX9_isOrder_33 (by decide) (by decide) (Or.inl rfl) ⟨rfl, h⟩
      · have h := h.2 hx4
        refine zj_iconst (pc := 28) hc dX9_isOrder_28 (zin _ rfl) ?_
        refine zj_goto (pc := 29) (tgt := 33) hc dX9_isOrder_29 (by decide) ?_
        exact zj_zret (pc := 33) hc hr hlk dX9_isOrder_33 (by decide) (by decide) (Or.inr rfl) ⟨rfl, h⟩
set_option maxHeartbeats 4000000 in
set_option maxRecDepth 100000 in
theorem S_X9_page (l : Launch) (G : zG) (v1 : Int) (v2 : Int) (M : zMem) (Qr : Int → zMem → Prop) (h : T_X9_page v1 v2 Qr M) : zMetI l yX9_page cX9_page 4 (some .int) 5 131 0 0 G [.inr 63, .inl v1, .inl v2] M Qr := by
  refine zmetI (by decide) (Nat.le_of_ble_eq_true rfl) [some (.inr 63), some (.inl v1), some (.inl v2), none] rfl ?_
  intro p e s m args below meth c hc hr hlk
  unfold T_X9_page at h
  refine zj_aload_n (pc := 0) hc dX9_page_0 rfl ?_
  refine zj_iload_n (pc := 1) hc dX9_page_1 rfl ?_
  refine zj_vti (pc := 2) (st := []) hc ks_X9_isOrder iv_X9_isOrder lk_X9_211 (zrv_0 G M) (S_X9_isOrder l G v1 M _ h) rfl ⟨Nat.le_of_ble_eq_true rfl, Nat.le_of_ble_eq_true rfl⟩ (Nat.le_of_ble_eq_true rfl) ⟨Nat.le_of_ble_eq_true rfl, Nat.le_of_ble_eq_true rfl⟩ dX9_page_2 rfl (fun y1 M9 h => ?_)
  obtain ⟨hM9, h⟩ := h
  subst hM9
  refine zj_if_ne (pc := 5) (tgt := 10) hc dX9_page_5 (by decide) (fun hx2 => ?_) (fun hx2 => ?_)
  · have h := h.1 hx2
    refine zj_aload_n (pc := 10) hc dX9_page_10 rfl ?_
    refine zg_0_9 (pc := 11) hc lk_X9_43 dX9_page_11 ?_
    refine zg_1_0 (pc := 14) hc lk_X9_149 dX9_page_14 ?_
    refine zj_iload_n (pc := 17) hc dX9_page_17 rfl ?_
    refine zj_sti (pc := 18) (st := []) hc ks_X4_pageAt st_X4_pageAt lk_X9_214 (S_X4_pageAt l G 64 v1 M _ h) rfl ⟨Nat.le_of_ble_eq_true rfl, Nat.le_of_ble_eq_true rfl⟩ (Nat.le_of_ble_eq_true rfl) ⟨Nat.le_of_ble_eq_true rfl, Nat.le_of_ble_eq_true rfl⟩ dX9_page_18 rfl (fun y3 M9 h => ?_)
    obtain ⟨hM9, h⟩ := h
    subst hM9
    refine zj_istore_n (pc := 21) hc dX9_page_21 (by decide) ?_
    refine zj_iload_n (pc := 22) hc dX9_page_22 rfl ?_
    by_cases hx4 : v2 < 0 ∨ 9 < v2
    · have h := h.2.2.2.2.2.2.2.2.2.2 hx4
      refine zj_tableOut (pc := 23) (tgt := 227) hc dX9_page_23 hx4 (by decide) ?_
      refine zj_iconst (pc := 227) hc dX9_page_227 (zin _ rfl) ?_
      exact zj_iret (pc := 228) hc hr hlk dX9_page_228 (by decide) (by decide) h
    · have hx4 : v2 = 0 ∨ v2 = 1 ∨ v2 = 2 ∨ v2 = 3 ∨ v2 = 4 ∨ v2 = 5 ∨ v2 = 6 ∨ v2 = 7 ∨ v2 = 8 ∨ v2 = 9 := by clear h; omega
      rcases hx4 with hx4 | hx4 | hx4 | hx4 | hx4 | hx4 | hx4 | hx4 | hx4 | hx4
      · have h := h.1 hx4
        refine zj_tableIn (pc := 23) (tgt := 76) (off := 53) hc dX9_page_23 (by rw [hx4]; decide) (by rw [hx4]; rfl) (by decide) ?_
        refine zj_iload_n (pc := 76) hc dX9_page_76 rfl ?_
        exact zj_iret (pc := 77) hc hr hlk dX9_page_77 (by decide) (by decide) h
      · have h := h.2.1 hx4
        refine zj_tableIn (pc := 23) (tgt := 78) (off := 55) hc dX9_page_23 (by rw [hx4]; decide) (by rw [hx4]; rfl) (by decide) ?_
        refine zj_aload_n (pc := 78) hc dX9_page_78 rfl ?_
        refine zg_0_9 (pc := 79) hc lk_X9_43 dX9_page_79 ?_
        refine zg_1_0 (pc := 82) hc lk_X9_149 dX9_page_82 ?_
        refine zj_iload_n (pc := 85) hc dX9_page_85 rfl ?_
        refine zj_sti (pc := 86) (st := []) hc ks_X4_fenceAt st_X4_fenceAt lk_X9_219 (S_X4_fenceAt l G 64 v1 M _ h) rfl ⟨Nat.le_of_ble_eq_true rfl, Nat.le_of_ble_eq_true rfl⟩ (Nat.le_of_ble_eq_true rfl) ⟨Nat.le_of_ble_eq_true rfl, Nat.le_of_ble_eq_true rfl⟩ dX9_page_86 rfl (fun y5 M9 h => ?_)
        obtain ⟨hM9, h⟩ := h
        subst hM9
        exact zj_iret (pc := 89) hc hr hlk dX9_page_89 (by decide) (by decide) h
      · have h := h.2.2.1 hx4
        refine zj_tableIn (pc := 23) (tgt := 90) (off := 67) hc dX9_page_23 (by rw [hx4]; decide) (by rw [hx4]; rfl) (by decide) ?_
        refine zj_aload_n (pc := 90) hc dX9_page_90 rfl ?_
        refine zg_0_11 (pc := 91) hc lk_X9_57 dX9_page_91 ?_
        refine zj_aload_n (pc := 94) hc dX9_page_94 rfl ?_
        refine zg_0_9 (pc := 95) hc lk_X9_43 dX9_page_95 ?_
        refine zg_1_0 (pc := 98) hc lk_X9_149 dX9_page_98 ?_
        refine zj_iload_n (pc := 101) hc dX9_page_101 rfl ?_
        refine zj_bipush (pc := 102) hc dX9_page_102 (by decide) (zin _ rfl) ?_
        refine zj_vtv (pc := 104) (st := []) hc ks_X8_loadOnly iv_X8_loadOnly lk_X9_187 (zrv_5 G M) (S_X8_loadOnly l G (Or.inr rfl) 64 y3 64 M _ h) rfl ⟨Nat.le_of_ble_eq_true rfl, Nat.le_of_ble_eq_true rfl⟩ (Nat.le_of_ble_eq_true rfl) ⟨Nat.le_of_ble_eq_true rfl, Nat.le_of_ble_eq_true rfl⟩ dX9_page_104 rfl (fun M6 h => ?_)
        refine zj_iload_n (pc := 107) hc dX9_page_107 rfl ?_
        refine zj_iconst (pc := 108) hc dX9_page_108 (zin _ rfl) ?_
        refine zj_icmp_ne (pc := 109) (tgt := 126) hc dX9_page_109 (by decide) (fun hx7 => ?_) (fun hx7 => ?_)
        · have h := h.1 hx7
          refine zj_aload_n (pc := 126) hc dX9_page_126 rfl ?_
          refine zg_0_11 (pc := 127) hc lk_X9_57 dX9_page_127 ?_
          refine zj_iconst (pc := 130) hc dX9_page_130 (zin _ rfl) ?_
          refine zj_sipush (pc := 131) hc dX9_page_131 (by decide) (zin _ rfl) ?_
          refine zj_vti (pc := 134) (st := []) hc ks_X8_plainSize iv_X8_plainSize lk_X9_225 (zrv_5 G M6) (S_X8_plainSize l G (Or.inr rfl) 0 256 M6 _ h) rfl ⟨Nat.le_of_ble_eq_true rfl, Nat.le_of_ble_eq_true rfl⟩ (Nat.le_of_ble_eq_true rfl) ⟨Nat.le_of_ble_eq_true rfl, Nat.le_of_ble_eq_true rfl⟩ dX9_page_134 rfl (fun y8 M9 h => ?_)
          obtain ⟨hM9, h⟩ := h
          subst hM9
          exact zj_iret (pc := 137) hc hr hlk dX9_page_137 (by decide) (by decide) h
        · have h := h.2 hx7
          refine zj_aload_n (pc := 112) hc dX9_page_112 rfl ?_
          refine zg_0_11 (pc := 113) hc lk_X9_57 dX9_page_113 ?_
          refine zj_iconst (pc := 116) hc dX9_page_116 (zin _ rfl) ?_
          refine zj_sipush (pc := 117) hc dX9_page_117 (by decide) (zin _ rfl) ?_
          refine zj_vti (pc := 120) (st := []) hc ks_X8_countIn iv_X8_countIn lk_X9_222 (zrv_5 G M6) (S_X8_countIn l G (Or.inr rfl) 0 256 M6 _ h) rfl ⟨Nat.le_of_ble_eq_true rfl, Nat.le_of_ble_eq_true rfl⟩ (Nat.le_of_ble_eq_true rfl) ⟨Nat.le_of_ble_eq_true rfl, Nat.le_of_ble_eq_true rfl⟩ dX9_page_120 rfl (fun y9 M9 h => ?_)
          obtain ⟨hM9, h⟩ := h
          subst hM9
          refine zj_goto (pc := 123) (tgt := 137) hc dX9_page_123 (by decide) ?_
          exact zj_iret (pc := 137) hc hr hlk dX9_page_137 (by decide) (by decide) h
      · have h := h.2.2.2.1 hx4
        refine zj_tableIn (pc := 23) (tgt := 90) (off := 67) hc dX9_page_23 (by rw [hx4]; decide) (by rw [hx4]; rfl) (by decide) ?_
        refine zj_aload_n (pc := 90) hc dX9_page_90 rfl ?_
        refine zg_0_11 (pc := 91) hc lk_X9_57 dX9_page_91 ?_
        refine zj_aload_n (pc := 94) hc dX9_page_94 rfl ?_
        refine zg_0_9 (pc := 95) hc lk_X9_43 dX9_page_95 ?_
        refine zg_1_0 (pc := 98) hc lk_X9_149 dX9_page_98 ?_
        refine zj_iload_n (pc := 101) hc dX9_page_101 rfl ?_
        refine zj_bipush (pc := 102) hc dX9_page_102 (by decide) (zin _ rfl) ?_
        refine zj_vtv (pc := 104) (st := []) hc ks_X8_loadOnly iv_X8_loadOnly lk_X9_187 (zrv_5 G M) (S_X8_loadOnly l G (Or.inr rfl) 64 y3 64 M _ h) rfl ⟨Nat.le_of_ble_eq_true rfl, Nat.le_of_ble_eq_true rfl⟩ (Nat.le_of_ble_eq_true rfl) ⟨Nat.le_of_ble_eq_true rfl, Nat.le_of_ble_eq_true rfl⟩ dX9_page_104 rfl (fun M10 h => ?_)
        refine zj_iload_n (pc := 107) hc dX9_page_107 rfl ?_
        refine zj_iconst (pc := 108) hc dX9_page_108 (zin _ rfl) ?_
        refine zj_icmp_ne (pc := 109) (tgt := 126) hc dX9_page_109 (by decide) (fun hx11 => ?_) (fun hx11 => ?_)
        · have h := h.1 hx11
          refine zj_aload_n (pc := 126) hc dX9_page_126 rfl ?_
          refine zg_0_11 (pc := 127) hc lk_X9_57 dX9_page_127 ?_
          refine zj_iconst (pc := 130) hc dX9_page_130 (zin _ rfl) ?_
          refine zj_sipush (pc := 131) hc dX9_page_131 (by decide) (zin _ rfl) ?_
          refine zj_vti (pc := 134) (st := []) hc ks_X8_plainSize iv_X8_plainSize lk_X9_225 (zrv_5 G M10) (S_X8_plainSize l G (Or.inr rfl) 0 256 M10 _ h) rfl ⟨Nat.le_of_ble_eq_true rfl, Nat.le_of_ble_eq_true rfl⟩ (Nat.le_of_ble_eq_true rfl) ⟨Nat.le_of_ble_eq_true rfl, Nat.le_of_ble_eq_true rfl⟩ dX9_page_134 rfl (fun y12 M9 h => ?_)
          obtain ⟨hM9, h⟩ := h
          subst hM9
          exact zj_iret (pc := 137) hc hr hlk dX9_page_137 (by decide) (by decide) h
        · have h := h.2 hx11
          refine zj_aload_n (pc := 112) hc dX9_page_112 rfl ?_
          refine zg_0_11 (pc := 113) hc lk_X9_57 dX9_page_113 ?_
          refine zj_iconst (pc := 116) hc dX9_page_116 (zin _ rfl) ?_
          refine zj_sipush (pc := 117) hc dX9_page_117 (by decide) (zin _ rfl) ?_
          refine zj_vti (pc := 120) (st := []) hc ks_X8_countIn iv_X8_countIn lk_X9_222 (zrv_5 G M10) (S_X8_countIn l G (Or.inr rfl) 0 256 M10 _ h) rfl ⟨Nat.le_of_ble_eq_true rfl, Nat.le_of_ble_eq_true rfl⟩ (Nat.le_of_ble_eq_true rfl) ⟨Nat.le_of_ble_eq_true rfl, Nat.le_of_ble_eq_true rfl⟩ dX9_page_120 rfl (fun y13 M9 h => ?_)
          obtain ⟨hM9, h⟩ := h
          subst hM9
          refine zj_goto (pc := 123) (tgt := 137) hc dX9_page_123 (by decide) ?_
          exact zj_iret (pc := 137) hc hr hlk dX9_page_137 (by decide) (by decide) h
      · have h := h.2.2.2.2.1 hx4
        refine zj_tableIn (pc := 23) (tgt := 138) (off := 115) hc dX9_page_23 (by rw [hx4]; decide) (by rw [hx4]; rfl) (by decide) ?_
        refine zj_aload_n (pc := 138) hc dX9_page_138 rfl ?_
        refine zg_0_9 (pc := 139) hc lk_X9_43 dX9_page_139 ?_
        refine zg_1_0 (pc := 142) hc lk_X9_149 dX9_page_142 ?_
        refine zj_iload_n (pc := 145) hc dX9_page_145 rfl ?_
        refine zj_bipush (pc := 146) hc dX9_page_146 (by decide) (zin _ rfl) ?_
        refine zj_imul (pc := 148) hc dX9_page_148 h.1 ?_
        have h := h.2
        refine zj_iload_n (pc := 149) hc dX9_page_149 rfl ?_
        refine zj_iadd (pc := 150) hc dX9_page_150 h.1 ?_
        have h := h.2
        refine zj_iconst (pc := 151) hc dX9_page_151 (zin _ rfl) ?_
        refine zj_isub (pc := 152) hc dX9_page_152 h.1 ?_
        have h := h.2
        refine zj_iald (pc := 153) hc dX9_page_153 alen_64 h.1 ?_
        have h := h.2
        exact zj_iret (pc := 154) hc hr hlk dX9_page_154 (by decide) (by decide) h
      · have h := h.2.2.2.2.2.1 hx4
        refine zj_tableIn (pc := 23) (tgt := 138) (off := 115) hc dX9_page_23 (by rw [hx4]; decide) (by rw [hx4]; rfl) (by decide) ?_
        refine zj_aload_n (pc := 138) hc dX9_page_138 rfl ?_
        refine zg_0_9 (pc := 139) hc lk_X9_43 dX9_page_139 ?_
        refine zg_1_0 (pc := 142) hc lk_X9_149 dX9_page_142 ?_
        refine zj_iload_n (pc := 145) hc dX9_page_145 rfl ?_
        refine zj_bipush (pc := 146) hc dX9_page_146 (by decide) (zin _ rfl) ?_
        refine zj_imul (pc := 148) hc dX9_page_148 h.1 ?_
        have h := h.2
        refine zj_iload_n (pc := 149) hc dX9_page_149 rfl ?_
        refine zj_iadd (pc := 150) hc dX9_page_150 h.1 ?_
        have h := h.2
        refine zj_iconst (pc := 151) hc dX9_page_151 (zin _ rfl) ?_
        refine zj_isub (pc := 152) hc dX9_page_152 h.1 ?_
        have h := h.2
        refine zj_iald (pc := 153) hc dX9_page_153 alen_64 h.1 ?_
        have h := h.2
        exact zj_iret (pc := 154) hc hr hlk dX9_page_154 (by decide) (by decide) h
      · have h := h.2.2.2.2.2.2.1 hx4
        refine zj_tableIn (pc := 23) (tgt := 155) (off := 132) hc dX9_page_23 (by rw [hx4]; decide) (by rw [hx4]; rfl) (by decide) ?_
        refine zj_aload_n (pc := 155) hc dX9_page_155 rfl ?_
        refine zg_0_9 (pc := 156) hc lk_X9_43 dX9_page_156 ?_
        refine zg_1_0 (pc := 159) hc lk_X9_149 dX9_page_159 ?_
        refine zj_iload_n (pc := 162) hc dX9_page_162 rfl ?_
        refine zj_sti (pc := 163) (st := []) hc ks_X4_entryCount st_X4_entryCount lk_X9_228 (S_X4_entryCount l G 64 y3 M _ h) rfl ⟨Nat.le_of_ble_eq_true rfl, Nat.le_of_ble_eq_true rfl⟩ (Nat.le_of_ble_eq_true rfl) ⟨Nat.le_of_ble_eq_true rfl, Nat.le_of_ble_eq_true rfl⟩ dX9_page_163 rfl (fun y14 M9 h => ?_)
        obtain ⟨hM9, h⟩ := h
        subst hM9
        exact zj_iret (pc := 166) hc hr hlk dX9_page_166 (by decide) (by decide) h
      · have h := h.2.2.2.2.2.2.2.1 hx4
        refine zj_tableIn (pc := 23) (tgt := 167) (off := 144) hc dX9_page_23 (by rw [hx4]; decide) (by rw [hx4]; rfl) (by decide) ?_
        refine zj_aload_n (pc := 167) hc dX9_page_167 rfl ?_
        refine zg_0_9 (pc := 168) hc lk_X9_43 dX9_page_168 ?_
        refine zg_1_0 (pc := 171) hc lk_X9_149 dX9_page_171 ?_
        refine zj_iload_n (pc := 174) hc dX9_page_174 rfl ?_
        refine zj_sti (pc := 175) (st := []) hc ks_X4_logEnd st_X4_logEnd lk_X9_231 (S_X4_logEnd l G 64 y3 M _ h) rfl ⟨Nat.le_of_ble_eq_true rfl, Nat.le_of_ble_eq_true rfl⟩ (Nat.le_of_ble_eq_true rfl) ⟨Nat.le_of_ble_eq_true rfl, Nat.le_of_ble_eq_true rfl⟩ dX9_page_175 rfl (fun y15 M9 h => ?_)
        obtain ⟨hM9, h⟩ := h
        subst hM9
        refine zj_aload_n (pc := 178) hc dX9_page_178 rfl ?_
        refine zg_0_9 (pc := 179) hc lk_X9_43 dX9_page_179 ?_
        refine zg_1_0 (pc := 182) hc lk_X9_149 dX9_page_182 ?_
        refine zj_iload_n (pc := 185) hc dX9_page_185 rfl ?_
        refine zj_sti (pc := 186) (st := [.inl y15]) hc ks_X4_logStart st_X4_logStart lk_X9_234 (S_X4_logStart l G 64 y3 M _ h) rfl ⟨Nat.le_of_ble_eq_true rfl, Nat.le_of_ble_eq_true rfl⟩ (Nat.le_of_ble_eq_true rfl) ⟨Nat.le_of_ble_eq_true rfl, Nat.le_of_ble_eq_true rfl⟩ dX9_page_186 rfl (fun y16 M9 h => ?_)
        obtain ⟨hM9, h⟩ := h
        subst hM9
        refine zj_isub (pc := 189) hc dX9_page_189 h.1 ?_
        have h := h.2
        exact zj_iret (pc := 190) hc hr hlk dX9_page_190 (by decide) (by decide) h
      · have h := h.2.2.2.2.2.2.2.2.1 hx4
        refine zj_tableIn (pc := 23) (tgt := 191) (off := 168) hc dX9_page_23 (by rw [hx4]; decide) (by rw [hx4]; rfl) (by decide) ?_
        refine zj_iload_n (pc := 191) hc dX9_page_191 rfl ?_
        refine zj_iconst (pc := 192) hc dX9_page_192 (zin _ rfl) ?_
        refine zj_iadd (pc := 193) hc dX9_page_193 h.1 ?_
        have h := h.2
        refine zj_bipush (pc := 194) hc dX9_page_194 (by decide) (zin _ rfl) ?_
        refine zj_imul (pc := 196) hc dX9_page_196 h.1 ?_
        have h := h.2
        refine zj_aload_n (pc := 197) hc dX9_page_197 rfl ?_
        refine zg_0_9 (pc := 198) hc lk_X9_43 dX9_page_198 ?_
        refine zg_1_0 (pc := 201) hc lk_X9_149 dX9_page_201 ?_
        refine zj_iload_n (pc := 204) hc dX9_page_204 rfl ?_
        refine zj_sti (pc := 205) (st := [.inl ((y3 + 1) * 64)]) hc ks_X4_logEnd st_X4_logEnd lk_X9_231 (S_X4_logEnd l G 64 y3 M _ h) rfl ⟨Nat.le_of_ble_eq_true rfl, Nat.le_of_ble_eq_true rfl⟩ (Nat.le_of_ble_eq_true rfl) ⟨Nat.le_of_ble_eq_true rfl, Nat.le_of_ble_eq_true rfl⟩ dX9_page_205 rfl (fun y17 M9 h => ?_)
        obtain ⟨hM9, h⟩ := h
        subst hM9
        refine zj_isub (pc := 208) hc dX9_page_208 h.1 ?_
        have h := h.2
        exact zj_iret (pc := 209) hc hr hlk dX9_page_209 (by decide) (by decide) h
      · have h := h.2.2.2.2.2.2.2.2.2.1 hx4
        refine zj_tableIn (pc := 23) (tgt := 210) (off := 187) hc dX9_page_23 (by rw [hx4]; decide) (by rw [hx4]; rfl) (by decide) ?_
        refine zj_aload_n (pc := 210) hc dX9_page_210 rfl ?_
        refine zg_0_12 (pc := 211) hc lk_X9_64 dX9_page_211 ?_
        refine zj_iload_n (pc := 214) hc dX9_page_214 rfl ?_
        refine zj_vti (pc := 215) (st := []) hc ks_X3_holds iv_X3_holds lk_X9_237 (zrv_7 G M) (S_X3_holds l G y3 M _ h) rfl ⟨Nat.le_of_ble_eq_true rfl, Nat.le_of_ble_eq_true rfl⟩ (Nat.le_of_ble_eq_true rfl) ⟨Nat.le_of_ble_eq_true rfl, Nat.le_of_ble_eq_true rfl⟩ dX9_page_215 rfl (fun y18 M9 h => ?_)
        obtain ⟨hM9, h⟩ := h
        subst hM9
        refine zj_if_eq (pc := 218) (tgt := 225) hc dX9_page_218 (by decide) (fun hx19 => ?_) (fun hx19 => ?_)
        · have h := h.1 hx19
          refine zj_iconst (pc := 225) hc dX9_page_225 (zin _ rfl) ?_
          exact zj_iret (pc := 226) hc hr hlk dX9_page_226 (by decide) (by decide) h
        · have h := h.2 hx19
          refine zj_iconst (pc := 221) hc dX9_page_221 (zin _ rfl) ?_
          refine zj_goto (pc := 222) (tgt := 226) hc dX9_page_222 (by decide) ?_
          exact zj_iret (pc := 226) hc hr hlk dX9_page_226 (by decide) (by decide) h
  · have h := h.2 hx2
    refine zj_iconst (pc := 8) hc dX9_page_8 (zin _ rfl) ?_
    exact zj_iret (pc := 9) hc hr hlk dX9_page_9 (by decide) (by decide) h
set_option maxHeartbeats 4000000 in
set_option maxRecDepth 100000 in
theorem S_X9_packing (l : Launch) (G : zG) (v1 : Int) (v2 : Int) (M : zMem) (Qr : Int → zMem → Prop) (h : T_X9_packing v1 v2 Qr M) : zMetI l yX9_packing cX9_packing 4 (some .int) 5 131 0 0 G [.inr 63, .inl v1, .inl v2] M Qr := by
  refine zmetI (by decide) (Nat.le_of_ble_eq_true rfl) [some (.inr 63), some (.inl v1), some (.inl v2), none] rfl ?_
  intro p e s m args below meth c hc hr hlk
  unfold T_X9_packing at h
  refine zj_aload_n (pc := 0) hc dX9_packing_0 rfl ?_
  refine zj_iload_n (pc := 1) hc dX9_packing_1 rfl ?_
  refine zj_vti (pc := 2) (st := []) hc ks_X9_isOrder iv_X9_isOrder lk_X9_211 (zrv_0 G M) (S_X9_isOrder l G v1 M _ h) rfl ⟨Nat.le_of_ble_eq_true rfl, Nat.le_of_ble_eq_true rfl⟩ (Nat.le_of_ble_eq_true rfl) ⟨Nat.le_of_ble_eq_true rfl, Nat.le_of_ble_eq_true rfl⟩ dX9_packing_2 rfl (fun y1 M9 h => ?_)
  obtain ⟨hM9, h⟩ := h
  subst hM9
  refine zj_if_eq (pc := 5) (tgt := 17) hc dX9_packing_5 (by decide) (fun hx2 => ?_) (fun hx2 => ?_)
  · have h := h.1 hx2
    refine zj_iconst (pc := 17) hc dX9_packing_17 (zin _ rfl) ?_
    exact zj_iret (pc := 18) hc hr hlk dX9_packing_18 (by decide) (by decide) h
  · have h := h.2 hx2
    refine zj_iload_n (pc := 8) hc dX9_packing_8 rfl ?_
    refine zj_if_lt (pc := 9) (tgt := 17) hc dX9_packing_9 (by decide) (fun hx3 => ?_) (fun hx3 => ?_)
    · have h := h.1 hx3
      refine zj_iconst (pc := 17) hc dX9_packing_17 (zin _ rfl) ?_
      exact zj_iret (pc := 18) hc hr hlk dX9_packing_18 (by decide) (by decide) h
    · have h := h.2 hx3
      refine zj_iload_n (pc := 12) hc dX9_packing_12 rfl ?_
      refine zj_iconst (pc := 13) hc dX9_packing_13 (zin _ rfl) ?_
      refine zj_icmp_lt (pc := 14) (tgt := 19) hc dX9_packing_14 (by decide) (fun hx4 => ?_) (fun hx4 => ?_)
      · have h := h.1 hx4
        refine zj_aload_n (pc := 19) hc dX9_packing_19 rfl ?_
        refine zg_0_11 (pc := 20) hc lk_X9_57 dX9_packing_20 ?_
        refine zj_aload_n (pc := 23) hc dX9_packing_23 rfl ?_
        refine zg_0_9 (pc := 24) hc lk_X9_43 dX9_packing_24 ?_
        refine zg_1_0 (pc := 27) hc lk_X9_149 dX9_packing_27 ?_
        refine zj_aload_n (pc := 30) hc dX9_packing_30 rfl ?_
        refine zg_0_9 (pc := 31) hc lk_X9_43 dX9_packing_31 ?_
        refine zg_1_0 (pc := 34) hc lk_X9_149 dX9_packing_34 ?_
        refine zj_iload_n (pc := 37) hc dX9_packing_37 rfl ?_
        refine zj_sti (pc := 38) (st := [.inr 64, .inr 383]) hc ks_X4_pageAt st_X4_pageAt lk_X9_214 (S_X4_pageAt l G 64 v1 M _ h) rfl ⟨Nat.le_of_ble_eq_true rfl, Nat.le_of_ble_eq_true rfl⟩ (Nat.le_of_ble_eq_true rfl) ⟨Nat.le_of_ble_eq_true rfl, Nat.le_of_ble_eq_true rfl⟩ dX9_packing_38 rfl (fun y5 M9 h => ?_)
        obtain ⟨hM9, h⟩ := h
        subst hM9
        refine zj_bipush (pc := 41) hc dX9_packing_41 (by decide) (zin _ rfl) ?_
        refine zj_vtv (pc := 43) (st := []) hc ks_X8_loadOnly iv_X8_loadOnly lk_X9_187 (zrv_5 G M) (S_X8_loadOnly l G (Or.inr rfl) 64 y5 64 M _ h) rfl ⟨Nat.le_of_ble_eq_true rfl, Nat.le_of_ble_eq_true rfl⟩ (Nat.le_of_ble_eq_true rfl) ⟨Nat.le_of_ble_eq_true rfl, Nat.le_of_ble_eq_true rfl⟩ dX9_packing_43 rfl (fun M6 h => ?_)
        refine zj_aload_n (pc := 46) hc dX9_packing_46 rfl ?_
        refine zg_0_11 (pc := 47) hc lk_X9_57 dX9_packing_47 ?_
        refine zj_iconst (pc := 50) hc dX9_packing_50 (zin _ rfl) ?_
        refine zj_sipush (pc := 51) hc dX9_packing_51 (by decide) (zin _ rfl) ?_
        refine zj_vti (pc := 54) (st := []) hc ks_X8_layOut iv_X8_layOut lk_X9_240 (zrv_5 G M6) (S_X8_layOut l G (Or.inr rfl) 0 256 M6 _ h) rfl ⟨Nat.le_of_ble_eq_true rfl, Nat.le_of_ble_eq_true rfl⟩ (Nat.le_of_ble_eq_true rfl) ⟨Nat.le_of_ble_eq_true rfl, Nat.le_of_ble_eq_true rfl⟩ dX9_packing_54 rfl (fun y7 M8 h => ?_)
        refine zj_istore_n (pc := 57) hc dX9_packing_57 (by decide) ?_
        refine zj_aload_n (pc := 58) hc dX9_packing_58 rfl ?_
        refine zg_0_11 (pc := 59) hc lk_X9_57 dX9_packing_59 ?_
        refine zg_5_0 (pc := 62) hc lk_X9_95 dX9_packing_62 ?_
        refine zj_aload_n (pc := 65) hc dX9_packing_65 rfl ?_
        refine zg_0_11 (pc := 66) hc lk_X9_57 dX9_packing_66 ?_
        refine zg_5_1 (pc := 69) hc lk_X9_243 dX9_packing_69 ?_
        refine zj_iload_n (pc := 72) hc dX9_packing_72 rfl ?_
        refine zj_iload_n (pc := 73) hc dX9_packing_73 rfl ?_
        refine zj_vti (pc := 74) (st := []) hc ks_X6_packRow iv_X6_packRow lk_X9_105 (zrv_6 G M8) (S_X6_packRow l G (Or.inr rfl) 321 y7 v2 M8 _ h) rfl ⟨Nat.le_of_ble_eq_true rfl, Nat.le_of_ble_eq_true rfl⟩ (Nat.le_of_ble_eq_true rfl) ⟨Nat.le_of_ble_eq_true rfl, Nat.le_of_ble_eq_true rfl⟩ dX9_packing_74 rfl (fun y9 M10 h => ?_)
        exact zj_iret (pc := 77) hc hr hlk dX9_packing_77 (by decide) (by decide) h
      · have h := h.2 hx4
        refine zj_iconst (pc := 17) hc dX9_packing_17 (zin _ rfl) ?_
        exact zj_iret (pc := 18) hc hr hlk dX9_packing_18 (by decide) (by decide) h
set_option maxHeartbeats 4000000 in
set_option maxRecDepth 100000 in
theorem S_X9_entry (l : Launch) (G : zG) (v1 : Int) (v2 : Int) (v3 : Int) (M : zMem) (Qr : Int → Prop) (h : T_X9_entry v1 v2 v3 Qr M) : zMetI l yX9_entry cX9_entry 7 (some .int) 5 111 0 0 G [.inr 63, .inl v1, .inl v2, .inl v3] M (fun r9 M9 => M = M9 ∧ Qr r9) := by
  refine zmetI (by decide) (Nat.le_of_ble_eq_true rfl) [some (.inr 63), some (.inl v1), some (.inl v2), some (.inl v3), none, none, none] rfl ?_
  intro p e s m args below meth c hc hr hlk
  unfold T_X9_entry at h
  refine zj_aload_n (pc := 0) hc dX9_entry_0 rfl ?_
  refine zj_iload_n (pc := 1) hc dX9_entry_1 rfl ?_
  refine zj_vti (pc := 2) (st := []) hc ks_X9_isOrder iv_X9_isOrder lk_X9_211 (zrv_0 G M) (S_X9_isOrder l G v1 M _ h) rfl ⟨Nat.le_of_ble_eq_true rfl, Nat.le_of_ble_eq_true rfl⟩ (Nat.le_of_ble_eq_true rfl) ⟨Nat.le_of_ble_eq_true rfl, Nat.le_of_ble_eq_true rfl⟩ dX9_entry_2 rfl (fun y1 M9 h => ?_)
  obtain ⟨hM9, h⟩ := h
  subst hM9
  refine zj_if_eq (pc := 5) (tgt := 16) hc dX9_entry_5 (by decide) (fun hx2 => ?_) (fun hx2 => ?_)
  · have h := h.1 hx2
    refine zj_iconst (pc := 16) hc dX9_entry_16 (zin _ rfl) ?_
    exact zj_iret (pc := 17) hc hr hlk dX9_entry_17 (by decide) (by decide) ⟨rfl, h⟩
  · have h := h.2 hx2
    refine zj_iload_n (pc := 8) hc dX9_entry_8 rfl ?_
    refine zj_if_lt (pc := 9) (tgt := 16) hc dX9_entry_9 (by decide) (fun hx3 => ?_) (fun hx3 => ?_)
    · have h := h.1 hx3
      refine zj_iconst (pc := 16) hc dX9_entry_16 (zin _ rfl) ?_
      exact zj_iret (pc := 17) hc hr hlk dX9_entry_17 (by decide) (by decide) ⟨rfl, h⟩
    · have h := h.2 hx3
      refine zj_iload_n (pc := 12) hc dX9_entry_12 rfl ?_
      refine zj_if_ge (pc := 13) (tgt := 18) hc dX9_entry_13 (by decide) (fun hx4 => ?_) (fun hx4 => ?_)
      · have h := h.1 hx4
        refine zj_aload_n (pc := 18) hc dX9_entry_18 rfl ?_
        refine zg_0_9 (pc := 19) hc lk_X9_43 dX9_entry_19 ?_
        refine zg_1_0 (pc := 22) hc lk_X9_149 dX9_entry_22 ?_
        refine zj_iload_n (pc := 25) hc dX9_entry_25 rfl ?_
        refine zj_sti (pc := 26) (st := []) hc ks_X4_pageAt st_X4_pageAt lk_X9_214 (S_X4_pageAt l G 64 v1 M _ h) rfl ⟨Nat.le_of_ble_eq_true rfl, Nat.le_of_ble_eq_true rfl⟩ (Nat.le_of_ble_eq_true rfl) ⟨Nat.le_of_ble_eq_true rfl, Nat.le_of_ble_eq_true rfl⟩ dX9_entry_26 rfl (fun y5 M9 h => ?_)
        obtain ⟨hM9, h⟩ := h
        subst hM9
        refine zj_istore (pc := 29) hc dX9_entry_29 (by decide) ?_
        refine zj_aload_n (pc := 31) hc dX9_entry_31 rfl ?_
        refine zg_0_9 (pc := 32) hc lk_X9_43 dX9_entry_32 ?_
        refine zg_1_0 (pc := 35) hc lk_X9_149 dX9_entry_35 ?_
        refine zj_iload (pc := 38) hc dX9_entry_38 rfl ?_
        refine zj_iload_n (pc := 40) hc dX9_entry_40 rfl ?_
        refine zj_sti (pc := 41) (st := []) hc ks_X4_placeBehind st_X4_placeBehind lk_X9_246 (S_X4_placeBehind l G 64 y5 v2 M _ h) rfl ⟨Nat.le_of_ble_eq_true rfl, Nat.le_of_ble_eq_true rfl⟩ (Nat.le_of_ble_eq_true rfl) ⟨Nat.le_of_ble_eq_true rfl, Nat.le_of_ble_eq_true rfl⟩ dX9_entry_41 rfl (fun y6 M9 h => ?_)
        obtain ⟨hM9, h⟩ := h
        subst hM9
        refine zj_istore (pc := 44) hc dX9_entry_44 (by decide) ?_
        refine zj_iload_n (pc := 46) hc dX9_entry_46 rfl ?_
        refine zj_bipush (pc := 47) hc dX9_entry_47 (by decide) (zin _ rfl) ?_
        refine zj_icmp_ge (pc := 49) (tgt := 69) hc dX9_entry_49 (by decide) (fun hx7 => ?_) (fun hx7 => ?_)
        · have h := h.1 hx7
          refine zj_iconst (pc := 69) hc dX9_entry_69 (zin _ rfl) ?_
          exact zj_iret (pc := 70) hc hr hlk dX9_entry_70 (by decide) (by decide) ⟨rfl, h⟩
        · have h := h.2 hx7
          refine zj_iload (pc := 52) hc dX9_entry_52 rfl ?_
          refine zj_aload_n (pc := 54) hc dX9_entry_54 rfl ?_
          refine zg_0_9 (pc := 55) hc lk_X9_43 dX9_entry_55 ?_
          refine zg_1_0 (pc := 58) hc lk_X9_149 dX9_entry_58 ?_
          refine zj_iload (pc := 61) hc dX9_entry_61 rfl ?_
          refine zj_sti (pc := 63) (st := [.inl y6]) hc ks_X4_logEnd st_X4_logEnd lk_X9_231 (S_X4_logEnd l G 64 y5 M _ h) rfl ⟨Nat.le_of_ble_eq_true rfl, Nat.le_of_ble_eq_true rfl⟩ (Nat.le_of_ble_eq_true rfl) ⟨Nat.le_of_ble_eq_true rfl, Nat.le_of_ble_eq_true rfl⟩ dX9_entry_63 rfl (fun y8 M9 h => ?_)
          obtain ⟨hM9, h⟩ := h
          subst hM9
          refine zj_icmp_lt (pc := 66) (tgt := 71) hc dX9_entry_66 (by decide) (fun hx9 => ?_) (fun hx9 => ?_)
          · have h := h.1 hx9
            refine zj_aload_n (pc := 71) hc dX9_entry_71 rfl ?_
            refine zg_0_9 (pc := 72) hc lk_X9_43 dX9_entry_72 ?_
            refine zg_1_0 (pc := 75) hc lk_X9_149 dX9_entry_75 ?_
            refine zj_iload (pc := 78) hc dX9_entry_78 rfl ?_
            refine zj_iald (pc := 80) hc dX9_entry_80 alen_64 h.1 ?_
            have h := h.2
            refine zj_istore (pc := 81) hc dX9_entry_81 (by decide) ?_
            refine zj_iload_n (pc := 83) hc dX9_entry_83 rfl ?_
            refine zj_if_ne (pc := 84) (tgt := 93) hc dX9_entry_84 (by decide) (fun hx10 => ?_) (fun hx10 => ?_)
            · have h := h.1 hx10
              refine zj_iload_n (pc := 93) hc dX9_entry_93 rfl ?_
              refine zj_iconst (pc := 94) hc dX9_entry_94 (zin _ rfl) ?_
              refine zj_icmp_ne (pc := 95) (tgt := 104) hc dX9_entry_95 (by decide) (fun hx11 => ?_) (fun hx11 => ?_)
              · have h := h.1 hx11
                refine zj_iload_n (pc := 104) hc dX9_entry_104 rfl ?_
                refine zj_iconst (pc := 105) hc dX9_entry_105 (zin _ rfl) ?_
                refine zj_isub (pc := 106) hc dX9_entry_106 h.1 ?_
                have h := h.2
                refine zj_iload (pc := 107) hc dX9_entry_107 rfl ?_
                refine zj_sti (pc := 109) (st := [.inl (v3 - 1)]) hc ks_X2_sizeBy st_X2_sizeBy lk_X9_255 (S_X2_sizeBy l G (M.2 64 y6) M _ h) rfl ⟨Nat.le_of_ble_eq_true rfl, Nat.le_of_ble_eq_true rfl⟩ (Nat.le_of_ble_eq_true rfl) ⟨Nat.le_of_ble_eq_true rfl, Nat.le_of_ble_eq_true rfl⟩ dX9_entry_109 rfl (fun y12 M9 h => ?_)
                obtain ⟨hM9, h⟩ := h
                subst hM9
                refine zj_icmp_ge (pc := 112) (tgt := 132) hc dX9_entry_112 (by decide) (fun hx13 => ?_) (fun hx13 => ?_)
                · have h := h.1 hx13
                  refine zj_iconst (pc := 132) hc dX9_entry_132 (zin _ rfl) ?_
                  exact zj_iret (pc := 133) hc hr hlk dX9_entry_133 (by decide) (by decide) ⟨rfl, h⟩
                · have h := h.2 hx13
                  refine zj_aload_n (pc := 115) hc dX9_entry_115 rfl ?_
                  refine zg_0_9 (pc := 116) hc lk_X9_43 dX9_entry_116 ?_
                  refine zg_1_0 (pc := 119) hc lk_X9_149 dX9_entry_119 ?_
                  refine zj_iload (pc := 122) hc dX9_entry_122 rfl ?_
                  refine zj_iload_n (pc := 124) hc dX9_entry_124 rfl ?_
                  refine zj_iadd (pc := 125) hc dX9_entry_125 h.1 ?_
                  have h := h.2
                  refine zj_iconst (pc := 126) hc dX9_entry_126 (zin _ rfl) ?_
                  refine zj_isub (pc := 127) hc dX9_entry_127 h.1 ?_
                  have h := h.2
                  refine zj_iald (pc := 128) hc dX9_entry_128 alen_64 h.1 ?_
                  have h := h.2
                  refine zj_goto (pc := 129) (tgt := 133) hc dX9_entry_129 (by decide) ?_
                  exact zj_iret (pc := 133) hc hr hlk dX9_entry_133 (by decide) (by decide) ⟨rfl, h⟩
              · have h := h.2 hx11
                refine zj_iload (pc := 98) hc dX9_entry_98 rfl ?_
                refine zj_sti (pc := 100) (st := []) hc ks_X2_numberOf st_X2_numberOf lk_X9_252 (S_X2_numberOf l G (M.2 64 y6) M _ h) rfl ⟨Nat.le_of_ble_eq_true rfl, Nat.le_of_ble_eq_true rfl⟩ (Nat.le_of_ble_eq_true rfl) ⟨Nat.le_of_ble_eq_true rfl, Nat.le_of_ble_eq_true rfl⟩ dX9_entry_100 rfl (fun y14 M9 h => ?_)
                obtain ⟨hM9, h⟩ := h
                subst hM9
                exact zj_iret (pc := 103) hc hr hlk dX9_entry_103 (by decide) (by decide) ⟨rfl, h⟩
            · have h := h.2 hx10
              refine zj_iload (pc := 87) hc dX9_entry_87 rfl ?_
              refine zj_sti (pc := 89) (st := []) hc ks_X2_kindOf st_X2_kindOf lk_X9_249 (S_X2_kindOf l G (M.2 64 y6) M _ h) rfl ⟨Nat.le_of_ble_eq_true rfl, Nat.le_of_ble_eq_true rfl⟩ (Nat.le_of_ble_eq_true rfl) ⟨Nat.le_of_ble_eq_true rfl, Nat.le_of_ble_eq_true rfl⟩ dX9_entry_89 rfl (fun y15 M9 h => ?_)
              obtain ⟨hM9, h⟩ := h
              subst hM9
              exact zj_iret (pc := 92) hc hr hlk dX9_entry_92 (by decide) (by decide) ⟨rfl, h⟩
          · have h := h.2 hx9
            refine zj_iconst (pc := 69) hc dX9_entry_69 (zin _ rfl) ?_
            exact zj_iret (pc := 70) hc hr hlk dX9_entry_70 (by decide) (by decide) ⟨rfl, h⟩
      · have h := h.2 hx4
        refine zj_iconst (pc := 16) hc dX9_entry_16 (zin _ rfl) ?_
        exact zj_iret (pc := 17) hc hr hlk dX9_entry_17 (by decide) (by decide) ⟨rfl, h⟩
