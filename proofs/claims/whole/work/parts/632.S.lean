set_option maxHeartbeats 4000000 in
set_option maxRecDepth 100000 in
theorem S_X10_count (l : Launch) (G : zG) (v1 : Int) (M : zMem) (Qr : Int → zMem → Prop) (h : T_X10_count v1 Qr M) : zMetI l yX10_count cX10_count 2 (some .int) 6 147 0 0 G [.inr 639, .inl v1] M Qr := by
  refine zmetI (by decide) (Nat.le_of_ble_eq_true rfl) [some (.inr 639), some (.inl v1)] rfl ?_
  intro p e s m args below meth c hc hr hlk
  unfold T_X10_count at h
  refine zj_aload_n (pc := 0) hc dX10_count_0 rfl ?_
  refine zj_iconst (pc := 1) hc dX10_count_1 (zin _ rfl) ?_
  refine zs_9_0 (pc := 2) hc lk_X10_77 dX10_count_2 (fun M1 hM1 => ?_)
  have h := h M1 hM1
  refine zj_iload_n (pc := 5) hc dX10_count_5 rfl ?_
  refine zj_iconst (pc := 6) hc dX10_count_6 (zin _ rfl) ?_
  refine zj_iconst (pc := 7) hc dX10_count_7 (zin _ rfl) ?_
  refine zj_sti (pc := 8) (st := []) hc ks_X10_isIn st_X10_isIn lk_X10_83 (S_X10_isIn l G v1 0 2 M1 _ h) rfl ⟨Nat.le_of_ble_eq_true rfl, Nat.le_of_ble_eq_true rfl⟩ (Nat.le_of_ble_eq_true rfl) ⟨Nat.le_of_ble_eq_true rfl, Nat.le_of_ble_eq_true rfl⟩ dX10_count_8 rfl (fun y2 M9 h => ?_)
  obtain ⟨hM9, h⟩ := h
  subst hM9
  refine zj_if_eq (pc := 11) (tgt := 20) hc dX10_count_11 (by decide) (fun hx3 => ?_) (fun hx3 => ?_)
  · have h := h.1 hx3
    refine zj_iload_n (pc := 20) hc dX10_count_20 rfl ?_
    refine zj_iconst (pc := 21) hc dX10_count_21 (zin _ rfl) ?_
    refine zj_bipush (pc := 22) hc dX10_count_22 (by decide) (zin _ rfl) ?_
    refine zj_sti (pc := 24) (st := []) hc ks_X10_isIn st_X10_isIn lk_X10_83 (S_X10_isIn l G v1 3 6 M1 _ h) rfl ⟨Nat.le_of_ble_eq_true rfl, Nat.le_of_ble_eq_true rfl⟩ (Nat.le_of_ble_eq_true rfl) ⟨Nat.le_of_ble_eq_true rfl, Nat.le_of_ble_eq_true rfl⟩ dX10_count_24 rfl (fun y4 M9 h => ?_)
    obtain ⟨hM9, h⟩ := h
    subst hM9
    refine zj_if_eq (pc := 27) (tgt := 43) hc dX10_count_27 (by decide) (fun hx5 => ?_) (fun hx5 => ?_)
    · have h := h.1 hx5
      refine zj_iload_n (pc := 43) hc dX10_count_43 rfl ?_
      refine zj_bipush (pc := 44) hc dX10_count_44 (by decide) (zin _ rfl) ?_
      refine zj_bipush (pc := 46) hc dX10_count_46 (by decide) (zin _ rfl) ?_
      refine zj_sti (pc := 48) (st := []) hc ks_X10_isIn st_X10_isIn lk_X10_83 (S_X10_isIn l G v1 13 19 M1 _ h) rfl ⟨Nat.le_of_ble_eq_true rfl, Nat.le_of_ble_eq_true rfl⟩ (Nat.le_of_ble_eq_true rfl) ⟨Nat.le_of_ble_eq_true rfl, Nat.le_of_ble_eq_true rfl⟩ dX10_count_48 rfl (fun y6 M9 h => ?_)
      obtain ⟨hM9, h⟩ := h
      subst hM9
      refine zj_if_eq (pc := 51) (tgt := 64) hc dX10_count_51 (by decide) (fun hx7 => ?_) (fun hx7 => ?_)
      · have h := h.1 hx7
        refine zj_iload_n (pc := 64) hc dX10_count_64 rfl ?_
        refine zj_bipush (pc := 65) hc dX10_count_65 (by decide) (zin _ rfl) ?_
        refine zj_bipush (pc := 67) hc dX10_count_67 (by decide) (zin _ rfl) ?_
        refine zj_sti (pc := 69) (st := []) hc ks_X10_isIn st_X10_isIn lk_X10_83 (S_X10_isIn l G v1 20 24 M1 _ h) rfl ⟨Nat.le_of_ble_eq_true rfl, Nat.le_of_ble_eq_true rfl⟩ (Nat.le_of_ble_eq_true rfl) ⟨Nat.le_of_ble_eq_true rfl, Nat.le_of_ble_eq_true rfl⟩ dX10_count_69 rfl (fun y8 M9 h => ?_)
        obtain ⟨hM9, h⟩ := h
        subst hM9
        refine zj_if_eq (pc := 72) (tgt := 85) hc dX10_count_72 (by decide) (fun hx9 => ?_) (fun hx9 => ?_)
        · have h := h.1 hx9
          refine zj_iload_n (pc := 85) hc dX10_count_85 rfl ?_
          by_cases hx10 : v1 < 7 ∨ 12 < v1
          · have h := h.2.2.2.2.2.2 hx10
            refine zj_tableOut (pc := 86) (tgt := 158) hc dX10_count_86 hx10 (by decide) ?_
            refine zj_iconst (pc := 158) hc dX10_count_158 (zin _ rfl) ?_
            exact zj_iret (pc := 159) hc hr hlk dX10_count_159 (by decide) (by decide) h
          · have hx10 : v1 = 7 ∨ v1 = 8 ∨ v1 = 9 ∨ v1 = 10 ∨ v1 = 11 ∨ v1 = 12 := by clear h; omega
            rcases hx10 with hx10 | hx10 | hx10 | hx10 | hx10 | hx10
            · have h := h.1 hx10
              refine zj_tableIn (pc := 86) (tgt := 124) (off := 38) hc dX10_count_86 (by rw [hx10]; decide) (by rw [hx10]; rfl) (by decide) ?_
              refine zj_aload_n (pc := 124) hc dX10_count_124 rfl ?_
              refine zg_9_36 (pc := 125) hc lk_X10_91 dX10_count_125 ?_
              exact zj_iret (pc := 128) hc hr hlk dX10_count_128 (by decide) (by decide) h
            · have h := h.2.1 hx10
              refine zj_tableIn (pc := 86) (tgt := 129) (off := 43) hc dX10_count_86 (by rw [hx10]; decide) (by rw [hx10]; rfl) (by decide) ?_
              refine zj_aload_n (pc := 129) hc dX10_count_129 rfl ?_
              refine zg_9_37 (pc := 130) hc lk_X10_286 dX10_count_130 ?_
              exact zj_iret (pc := 133) hc hr hlk dX10_count_133 (by decide) (by decide) h
            · have h := h.2.2.1 hx10
              refine zj_tableIn (pc := 86) (tgt := 134) (off := 48) hc dX10_count_86 (by rw [hx10]; decide) (by rw [hx10]; rfl) (by decide) ?_
              refine zj_aload_n (pc := 134) hc dX10_count_134 rfl ?_
              refine zg_9_11 (pc := 135) hc lk_X10_35 dX10_count_135 ?_
              exact zj_iret (pc := 138) hc hr hlk dX10_count_138 (by decide) (by decide) h
            · have h := h.2.2.2.1 hx10
              refine zj_tableIn (pc := 86) (tgt := 139) (off := 53) hc dX10_count_86 (by rw [hx10]; decide) (by rw [hx10]; rfl) (by decide) ?_
              refine zj_aload_n (pc := 139) hc dX10_count_139 rfl ?_
              refine zg_9_6 (pc := 140) hc lk_X10_22 dX10_count_140 ?_
              refine zj_sipush (pc := 143) hc dX10_count_143 (by decide) (zin _ rfl) ?_
              refine zj_iald (pc := 146) hc dX10_count_146 alen_582 h.1 ?_
              have h := h.2
              exact zj_iret (pc := 147) hc hr hlk dX10_count_147 (by decide) (by decide) h
            · have h := h.2.2.2.2.1 hx10
              refine zj_tableIn (pc := 86) (tgt := 148) (off := 62) hc dX10_count_86 (by rw [hx10]; decide) (by rw [hx10]; rfl) (by decide) ?_
              refine zj_aload_n (pc := 148) hc dX10_count_148 rfl ?_
              refine zg_9_33 (pc := 149) hc lk_X10_280 dX10_count_149 ?_
              exact zj_iret (pc := 152) hc hr hlk dX10_count_152 (by decide) (by decide) h
            · have h := h.2.2.2.2.2.1 hx10
              refine zj_tableIn (pc := 86) (tgt := 153) (off := 67) hc dX10_count_86 (by rw [hx10]; decide) (by rw [hx10]; rfl) (by decide) ?_
              refine zj_aload_n (pc := 153) hc dX10_count_153 rfl ?_
              refine zg_9_9 (pc := 154) hc lk_X10_101 dX10_count_154 ?_
              exact zj_iret (pc := 157) hc hr hlk dX10_count_157 (by decide) (by decide) h
        · have h := h.2 hx9
          refine zj_aload_n (pc := 75) hc dX10_count_75 rfl ?_
          refine zg_9_3 (pc := 76) hc lk_X10_13 dX10_count_76 ?_
          refine zj_iload_n (pc := 79) hc dX10_count_79 rfl ?_
          refine zj_bipush (pc := 80) hc dX10_count_80 (by decide) (zin _ rfl) ?_
          refine zj_isub (pc := 82) hc dX10_count_82 h.1 ?_
          have h := h.2
          refine zj_iald (pc := 83) hc dX10_count_83 alen_579 h.1 ?_
          have h := h.2
          exact zj_iret (pc := 84) hc hr hlk dX10_count_84 (by decide) (by decide) h
      · have h := h.2 hx7
        refine zj_aload_n (pc := 54) hc dX10_count_54 rfl ?_
        refine zg_9_2 (pc := 55) hc lk_X10_7 dX10_count_55 ?_
        refine zj_iload_n (pc := 58) hc dX10_count_58 rfl ?_
        refine zj_bipush (pc := 59) hc dX10_count_59 (by decide) (zin _ rfl) ?_
        refine zj_isub (pc := 61) hc dX10_count_61 h.1 ?_
        have h := h.2
        refine zj_iald (pc := 62) hc dX10_count_62 alen_578 h.1 ?_
        have h := h.2
        exact zj_iret (pc := 63) hc hr hlk dX10_count_63 (by decide) (by decide) h
    · have h := h.2 hx5
      refine zj_aload_n (pc := 30) hc dX10_count_30 rfl ?_
      refine zg_9_6 (pc := 31) hc lk_X10_22 dX10_count_31 ?_
      refine zj_sipush (pc := 34) hc dX10_count_34 (by decide) (zin _ rfl) ?_
      refine zj_iload_n (pc := 37) hc dX10_count_37 rfl ?_
      refine zj_iadd (pc := 38) hc dX10_count_38 h.1 ?_
      have h := h.2
      refine zj_iconst (pc := 39) hc dX10_count_39 (zin _ rfl) ?_
      refine zj_isub (pc := 40) hc dX10_count_40 h.1 ?_
      have h := h.2
      refine zj_iald (pc := 41) hc dX10_count_41 alen_582 h.1 ?_
      have h := h.2
      exact zj_iret (pc := 42) hc hr hlk dX10_count_42 (by decide) (by decide) h
  · have h := h.2 hx3
    refine zj_aload_n (pc := 14) hc dX10_count_14 rfl ?_
    refine zj_iload_n (pc := 15) hc dX10_count_15 rfl ?_
    refine zj_vti (pc := 16) (st := []) hc ks_X10_ofAll iv_X10_ofAll lk_X10_358 (zrv_9 G M1) (S_X10_ofAll l G v1 M1 _ h) rfl ⟨Nat.le_of_ble_eq_true rfl, Nat.le_of_ble_eq_true rfl⟩ (Nat.le_of_ble_eq_true rfl) ⟨Nat.le_of_ble_eq_true rfl, Nat.le_of_ble_eq_true rfl⟩ dX10_count_16 rfl (fun y11 M12 h => ?_)
    exact zj_iret (pc := 19) hc hr hlk dX10_count_19 (by decide) (by decide) h
set_option maxHeartbeats 4000000 in
set_option maxRecDepth 100000 in
theorem S_X10_status (l : Launch) (G : zG) (M : zMem) (Qr : Int → zMem → Prop) (h : T_X10_status Qr M) : zMetI l yX10_status cX10_status 1 (some .int) 0 0 0 0 G [.inr 639] M Qr := by
  refine zmetI (by decide) (Nat.le_of_ble_eq_true rfl) [some (.inr 639)] rfl ?_
  intro p e s m args below meth c hc hr hlk
  unfold T_X10_status at h
  refine zj_aload_n (pc := 0) hc dX10_status_0 rfl ?_
  refine zj_iconst (pc := 1) hc dX10_status_1 (zin _ rfl) ?_
  refine zs_9_0 (pc := 2) hc lk_X10_77 dX10_status_2 (fun M1 hM1 => ?_)
  have h := h M1 hM1
  refine zj_aload_n (pc := 5) hc dX10_status_5 rfl ?_
  refine zg_9_1 (pc := 6) hc lk_X10_80 dX10_status_6 ?_
  exact zj_iret (pc := 9) hc hr hlk dX10_status_9 (by decide) (by decide) h
