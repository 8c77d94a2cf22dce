set_option maxHeartbeats 4000000 in
set_option maxRecDepth 100000 in
theorem S_X1_insertIntoDirectory (l : Launch) (G : zG) (v1 : Int) (v2 : Int) (M : zMem) (Qr : Int → zMem → Prop) (h : T_X1_insertIntoDirectory v1 v2 Qr M) : zMetI l yX1_insertIntoDirectory cX1_insertIntoDirectory 6 (some .boolean) 3 66 0 0 G [.inr 191, .inl v1, .inl v2] M Qr := by
  refine zmetI (by decide) (Nat.le_of_ble_eq_true rfl) [some (.inr 191), some (.inl v1), some (.inl v2), none, none, none] rfl ?_
  intro p e s m args below meth c hc hr hlk
  unfold T_X1_insertIntoDirectory at h
  refine zj_aload_n (pc := 0) hc dX1_insertIntoDirectory_0 rfl ?_
  refine zg_2_0 (pc := 1) hc lk_X1_9 dX1_insertIntoDirectory_1 ?_
  refine zj_sti (pc := 4) (st := []) hc ks_X4_inUse st_X4_inUse lk_X1_162 (S_X4_inUse l G 128 M _ h) rfl ⟨Nat.le_of_ble_eq_true rfl, Nat.le_of_ble_eq_true rfl⟩ (Nat.le_of_ble_eq_true rfl) ⟨Nat.le_of_ble_eq_true rfl, Nat.le_of_ble_eq_true rfl⟩ dX1_insertIntoDirectory_4 rfl (fun y1 M9 h => ?_)
  obtain ⟨hM9, h⟩ := h
  subst hM9
  refine zj_istore_n (pc := 7) hc dX1_insertIntoDirectory_7 (by decide) ?_
  refine zj_aload_n (pc := 8) hc dX1_insertIntoDirectory_8 rfl ?_
  refine zg_2_0 (pc := 9) hc lk_X1_9 dX1_insertIntoDirectory_9 ?_
  refine zj_sti (pc := 12) (st := []) hc ks_X4_lowestFree st_X4_lowestFree lk_X1_166 (S_X4_lowestFree l G 128 M _ h) rfl ⟨Nat.le_of_ble_eq_true rfl, Nat.le_of_ble_eq_true rfl⟩ (Nat.le_of_ble_eq_true rfl) ⟨Nat.le_of_ble_eq_true rfl, Nat.le_of_ble_eq_true rfl⟩ dX1_insertIntoDirectory_12 rfl (fun y2 M9 h => ?_)
  obtain ⟨hM9, h⟩ := h
  subst hM9
  refine zj_istore (pc := 15) hc dX1_insertIntoDirectory_15 (by decide) ?_
  refine zj_iload (pc := 17) hc dX1_insertIntoDirectory_17 rfl ?_
  refine zj_iconst (pc := 19) hc dX1_insertIntoDirectory_19 (zin _ rfl) ?_
  refine zj_icmp_eq (pc := 20) (tgt := 38) hc dX1_insertIntoDirectory_20 (by decide) (fun hx3 => ?_) (fun hx3 => ?_)
  · have h := h.1 hx3
    refine zj_iconst (pc := 38) hc dX1_insertIntoDirectory_38 (zin _ rfl) ?_
    exact zj_zret (pc := 39) hc hr hlk dX1_insertIntoDirectory_39 (by decide) (by decide) (Or.inl rfl) h
  · have h := h.2 hx3
    refine zj_iload_n (pc := 23) hc dX1_insertIntoDirectory_23 rfl ?_
    refine zj_bipush (pc := 24) hc dX1_insertIntoDirectory_24 (by decide) (zin _ rfl) ?_
    refine zj_icmp_ge (pc := 26) (tgt := 38) hc dX1_insertIntoDirectory_26 (by decide) (fun hx4 => ?_) (fun hx4 => ?_)
    · have h := h.1 hx4
      refine zj_iconst (pc := 38) hc dX1_insertIntoDirectory_38 (zin _ rfl) ?_
      exact zj_zret (pc := 39) hc hr hlk dX1_insertIntoDirectory_39 (by decide) (by decide) (Or.inl rfl) h
    · have h := h.2 hx4
      refine zj_iload_n (pc := 29) hc dX1_insertIntoDirectory_29 rfl ?_
      refine zj_if_lt (pc := 30) (tgt := 38) hc dX1_insertIntoDirectory_30 (by decide) (fun hx5 => ?_) (fun hx5 => ?_)
      · have h := h.1 hx5
        refine zj_iconst (pc := 38) hc dX1_insertIntoDirectory_38 (zin _ rfl) ?_
        exact zj_zret (pc := 39) hc hr hlk dX1_insertIntoDirectory_39 (by decide) (by decide) (Or.inl rfl) h
      · have h := h.2 hx5
        refine zj_iload_n (pc := 33) hc dX1_insertIntoDirectory_33 rfl ?_
        refine zj_iload_n (pc := 34) hc dX1_insertIntoDirectory_34 rfl ?_
        refine zj_icmp_le (pc := 35) (tgt := 40) hc dX1_insertIntoDirectory_35 (by decide) (fun hx6 => ?_) (fun hx6 => ?_)
        · have h := h.1 hx6
          refine zj_sipush (pc := 40) hc dX1_insertIntoDirectory_40 (by decide) (zin _ rfl) ?_
          refine zj_iconst (pc := 43) hc dX1_insertIntoDirectory_43 (zin _ rfl) ?_
          refine zj_iload_n (pc := 44) hc dX1_insertIntoDirectory_44 rfl ?_
          refine zj_imul (pc := 45) hc dX1_insertIntoDirectory_45 h.1 ?_
          have h := h.2
          refine zj_iadd (pc := 46) hc dX1_insertIntoDirectory_46 h.1 ?_
          have h := h.2
          refine zj_istore (pc := 47) hc dX1_insertIntoDirectory_47 (by decide) ?_
          refine zj_aload_n (pc := 49) hc dX1_insertIntoDirectory_49 rfl ?_
          refine zg_2_0 (pc := 50) hc lk_X1_9 dX1_insertIntoDirectory_50 ?_
          refine zj_iload (pc := 53) hc dX1_insertIntoDirectory_53 rfl ?_
          refine zj_aload_n (pc := 55) hc dX1_insertIntoDirectory_55 rfl ?_
          refine zg_2_0 (pc := 56) hc lk_X1_9 dX1_insertIntoDirectory_56 ?_
          refine zj_iload (pc := 59) hc dX1_insertIntoDirectory_59 rfl ?_
          refine zj_iconst (pc := 61) hc dX1_insertIntoDirectory_61 (zin _ rfl) ?_
          refine zj_iadd (pc := 62) hc dX1_insertIntoDirectory_62 h.1 ?_
          have h := h.2
          refine zj_iconst (pc := 63) hc dX1_insertIntoDirectory_63 (zin _ rfl) ?_
          refine zj_iload_n (pc := 64) hc dX1_insertIntoDirectory_64 rfl ?_
          refine zj_iload_n (pc := 65) hc dX1_insertIntoDirectory_65 rfl ?_
          refine zj_isub (pc := 66) hc dX1_insertIntoDirectory_66 h.1 ?_
          have h := h.2
          refine zj_imul (pc := 67) hc dX1_insertIntoDirectory_67 h.1 ?_
          have h := h.2
          refine zj_copy (pc := 68) hc dX1_insertIntoDirectory_68 lk_X1_41 na_copy st_copy in_System alen_128 alen_128 h.1 (Nat.le_of_ble_eq_true rfl) (Nat.le_of_ble_eq_true rfl) (fun M7 hM7 => ?_)
          have h := h.2 M7 hM7
          refine zj_aload_n (pc := 71) hc dX1_insertIntoDirectory_71 rfl ?_
          refine zg_2_0 (pc := 72) hc lk_X1_9 dX1_insertIntoDirectory_72 ?_
          refine zj_iload (pc := 75) hc dX1_insertIntoDirectory_75 rfl ?_
          refine zj_iload (pc := 77) hc dX1_insertIntoDirectory_77 rfl ?_
          refine zj_iast (pc := 79) hc dX1_insertIntoDirectory_79 alen_128 h.1 (fun M8 hM8 => ?_)
          have h := h.2 M8 hM8
          refine zj_aload_n (pc := 80) hc dX1_insertIntoDirectory_80 rfl ?_
          refine zg_2_0 (pc := 81) hc lk_X1_9 dX1_insertIntoDirectory_81 ?_
          refine zj_iload (pc := 84) hc dX1_insertIntoDirectory_84 rfl ?_
          refine zj_iconst (pc := 86) hc dX1_insertIntoDirectory_86 (zin _ rfl) ?_
          refine zj_iadd (pc := 87) hc dX1_insertIntoDirectory_87 h.1 ?_
          have h := h.2
          refine zj_iload_n (pc := 88) hc dX1_insertIntoDirectory_88 rfl ?_
          refine zj_iast (pc := 89) hc dX1_insertIntoDirectory_89 alen_128 h.1 (fun M9 hM9 => ?_)
          have h := h.2 M9 hM9
          refine zj_aload_n (pc := 90) hc dX1_insertIntoDirectory_90 rfl ?_
          refine zg_2_0 (pc := 91) hc lk_X1_9 dX1_insertIntoDirectory_91 ?_
          refine zj_sipush (pc := 94) hc dX1_insertIntoDirectory_94 (by decide) (zin _ rfl) ?_
          refine zj_iload_n (pc := 97) hc dX1_insertIntoDirectory_97 rfl ?_
          refine zj_iconst (pc := 98) hc dX1_insertIntoDirectory_98 (zin _ rfl) ?_
          refine zj_iadd (pc := 99) hc dX1_insertIntoDirectory_99 h.1 ?_
          have h := h.2
          refine zj_iast (pc := 100) hc dX1_insertIntoDirectory_100 alen_128 h.1 (fun M10 hM10 => ?_)
          have h := h.2 M10 hM10
          refine zj_iconst (pc := 101) hc dX1_insertIntoDirectory_101 (zin _ rfl) ?_
          exact zj_zret (pc := 102) hc hr hlk dX1_insertIntoDirectory_102 (by decide) (by decide) (Or.inr rfl) h
        · have h := h.2 hx6
          refine zj_iconst (pc := 38) hc dX1_insertIntoDirectory_38 (zin _ rfl) ?_
          exact zj_zret (pc := 39) hc hr hlk dX1_insertIntoDirectory_39 (by decide) (by decide) (Or.inl rfl) h
set_option maxHeartbeats 4000000 in
set_option maxRecDepth 100000 in
theorem S_X1_fitsWith (l : Launch) (G : zG) (v1 : Int) (M : zMem) (Qr : Int → Prop) (h : T_X1_fitsWith v1 Qr M) : zMetI l yX1_fitsWith cX1_fitsWith 2 (some .boolean) 0 0 0 0 G [.inr 191, .inl v1] M (fun r9 M9 => M = M9 ∧ Qr r9) := by
  refine zmetI (by decide) (Nat.le_of_ble_eq_true rfl) [some (.inr 191), some (.inl v1)] rfl ?_
  intro p e s m args below meth c hc hr hlk
  unfold T_X1_fitsWith at h
  refine zj_iconst (pc := 0) hc dX1_fitsWith_0 (zin _ rfl) ?_
  refine zj_iload_n (pc := 1) hc dX1_fitsWith_1 rfl ?_
  refine zj_iadd (pc := 2) hc dX1_fitsWith_2 h.1 ?_
  have h := h.2
  refine zj_aload_n (pc := 3) hc dX1_fitsWith_3 rfl ?_
  refine zg_2_5 (pc := 4) hc lk_X1_32 dX1_fitsWith_4 ?_
  refine zj_iconst (pc := 7) hc dX1_fitsWith_7 (zin _ rfl) ?_
  refine zj_iald (pc := 8) hc dX1_fitsWith_8 alen_133 h.1 ?_
  have h := h.2
  refine zj_iadd (pc := 9) hc dX1_fitsWith_9 h.1 ?_
  have h := h.2
  refine zj_bipush (pc := 10) hc dX1_fitsWith_10 (by decide) (zin _ rfl) ?_
  refine zj_icmp_gt (pc := 12) (tgt := 19) hc dX1_fitsWith_12 (by decide) (fun hx1 => ?_) (fun hx1 => ?_)
  · have h := h.1 hx1
    refine zj_iconst (pc := 19) hc dX1_fitsWith_19 (zin _ rfl) ?_
    exact zj_zret (pc := 20) hc hr hlk dX1_fitsWith_20 (by decide) (by decide) (Or.inl rfl) ⟨rfl, h⟩
  · have h := h.2 hx1
    refine zj_iconst (pc := 15) hc dX1_fitsWith_15 (zin _ rfl) ?_
    refine zj_goto (pc := 16) (tgt := 20) hc dX1_fitsWith_16 (by decide) ?_
    exact zj_zret (pc := 20) hc hr hlk dX1_fitsWith_20 (by decide) (by decide) (Or.inr rfl) ⟨rfl, h⟩
set_option maxHeartbeats 4000000 in
set_option maxRecDepth 100000 in
theorem S_X1_learnFromTry (l : Launch) (G : zG) (v1 : Int) (M : zMem) (Qr : zMem → Prop) (h : T_X1_learnFromTry v1 Qr M) : zMetV l yX1_learnFromTry cX1_learnFromTry 2 none 1 21 0 0 G [.inr 191, .inl v1] M Qr := by
  refine zmetV (by decide) (Nat.le_of_ble_eq_true rfl) [some (.inr 191), some (.inl v1)] rfl ?_
  intro p e s m args below meth c hc hr hlk
  have k109 : ∀ (M : zMem), T_X1_learnFromTry_109 Qr M → zJ p l e (zRoom 1 21 0 0) s m args below meth c G 2 0 0 (MQ below (zQv G (Qr)) args s 0 0 (zA G)) 109 [some (.inr 191), none] [] M := by
    intro M h
    unfold T_X1_learnFromTry_109 at h
    refine zj_aload_n (pc := 109) hc dX1_learnFromTry_109 rfl ?_
    refine zg_2_1 (pc := 110) hc lk_X1_15 dX1_learnFromTry_110 ?_
    refine zj_iconst (pc := 113) hc dX1_learnFromTry_113 (zin _ rfl) ?_
    refine zj_iald (pc := 114) hc dX1_learnFromTry_114 alen_129 h.1 ?_
    have h := h.2
    refine zj_iconst (pc := 115) hc dX1_learnFromTry_115 (zin _ rfl) ?_
    refine zj_icmp_lt (pc := 116) (tgt := 149) hc dX1_learnFromTry_116 (by decide) (fun hx1 => ?_) (fun hx1 => ?_)
    · have h := h.1 hx1
      refine zj_aload_n (pc := 149) hc dX1_learnFromTry_149 rfl ?_
      refine zg_2_1 (pc := 150) hc lk_X1_15 dX1_learnFromTry_150 ?_
      refine zj_iconst (pc := 153) hc dX1_learnFromTry_153 (zin _ rfl) ?_
      refine zj_iconst (pc := 154) hc dX1_learnFromTry_154 (zin _ rfl) ?_
      refine zj_iast (pc := 155) hc dX1_learnFromTry_155 alen_129 h.1 (fun M2 hM2 => ?_)
      have h := h.2 M2 hM2
      refine zj_aload_n (pc := 156) hc dX1_learnFromTry_156 rfl ?_
      refine zg_2_1 (pc := 157) hc lk_X1_15 dX1_learnFromTry_157 ?_
      refine zj_iconst (pc := 160) hc dX1_learnFromTry_160 (zin _ rfl) ?_
      refine zj_iconst (pc := 161) hc dX1_learnFromTry_161 (zin _ rfl) ?_
      refine zj_iast (pc := 162) hc dX1_learnFromTry_162 alen_129 h.1 (fun M3 hM3 => ?_)
      have h := h.2 M3 hM3
      exact zj_vret (pc := 163) hc hr hlk dX1_learnFromTry_163 (by decide) (by decide) h
    · have h := h.2 hx1
      refine zj_aload_n (pc := 119) hc dX1_learnFromTry_119 rfl ?_
      refine zg_2_1 (pc := 120) hc lk_X1_15 dX1_learnFromTry_120 ?_
      refine zj_iconst (pc := 123) hc dX1_learnFromTry_123 (zin _ rfl) ?_
      refine zj_iconst (pc := 124) hc dX1_learnFromTry_124 (zin _ rfl) ?_
      refine zj_aload_n (pc := 125) hc dX1_learnFromTry_125 rfl ?_
      refine zg_2_1 (pc := 126) hc lk_X1_15 dX1_learnFromTry_126 ?_
      refine zj_iconst (pc := 129) hc dX1_learnFromTry_129 (zin _ rfl) ?_
      refine zj_iald (pc := 130) hc dX1_learnFromTry_130 alen_129 h.1 ?_
      have h := h.2
      refine zj_aload_n (pc := 131) hc dX1_learnFromTry_131 rfl ?_
      refine zg_2_5 (pc := 132) hc lk_X1_32 dX1_learnFromTry_132 ?_
      refine zj_iconst (pc := 135) hc dX1_learnFromTry_135 (zin _ rfl) ?_
      refine zj_iald (pc := 136) hc dX1_learnFromTry_136 alen_133 h.1 ?_
      have h := h.2
      refine zj_isub (pc := 137) hc dX1_learnFromTry_137 h.1 ?_
      have h := h.2
      refine zj_max (pc := 138) hc dX1_learnFromTry_138 lk_X1_150 st_max in_Math co_max (Nat.le_of_ble_eq_true rfl) (Nat.le_of_ble_eq_true rfl) ⟨Nat.le_of_ble_eq_true rfl, Nat.le_of_ble_eq_true rfl⟩ ?_
      refine zj_iast (pc := 141) hc dX1_learnFromTry_141 alen_129 h.1 (fun M4 hM4 => ?_)
      have h := h.2 M4 hM4
      refine zj_aload_n (pc := 142) hc dX1_learnFromTry_142 rfl ?_
      refine zg_2_1 (pc := 143) hc lk_X1_15 dX1_learnFromTry_143 ?_
      refine zj_iconst (pc := 146) hc dX1_learnFromTry_146 (zin _ rfl) ?_
      refine zj_iconst (pc := 147) hc dX1_learnFromTry_147 (zin _ rfl) ?_
      refine zj_iast (pc := 148) hc dX1_learnFromTry_148 alen_129 h.1 (fun M5 hM5 => ?_)
      have h := h.2 M5 hM5
      refine zj_aload_n (pc := 149) hc dX1_learnFromTry_149 rfl ?_
      refine zg_2_1 (pc := 150) hc lk_X1_15 dX1_learnFromTry_150 ?_
      refine zj_iconst (pc := 153) hc dX1_learnFromTry_153 (zin _ rfl) ?_
      refine zj_iconst (pc := 154) hc dX1_learnFromTry_154 (zin _ rfl) ?_
      refine zj_iast (pc := 155) hc dX1_learnFromTry_155 alen_129 h.1 (fun M6 hM6 => ?_)
      have h := h.2 M6 hM6
      refine zj_aload_n (pc := 156) hc dX1_learnFromTry_156 rfl ?_
      refine zg_2_1 (pc := 157) hc lk_X1_15 dX1_learnFromTry_157 ?_
      refine zj_iconst (pc := 160) hc dX1_learnFromTry_160 (zin _ rfl) ?_
      refine zj_iconst (pc := 161) hc dX1_learnFromTry_161 (zin _ rfl) ?_
      refine zj_iast (pc := 162) hc dX1_learnFromTry_162 alen_129 h.1 (fun M7 hM7 => ?_)
      have h := h.2 M7 hM7
      exact zj_vret (pc := 163) hc hr hlk dX1_learnFromTry_163 (by decide) (by decide) h
  have k24 : ∀ (M : zMem), T_X1_learnFromTry_24 Qr M → zJ p l e (zRoom 1 21 0 0) s m args below meth c G 2 0 0 (MQ below (zQv G (Qr)) args s 0 0 (zA G)) 24 [some (.inr 191), none] [] M := by
    intro M h
    unfold T_X1_learnFromTry_24 at h
    refine zj_aload_n (pc := 24) hc dX1_learnFromTry_24 rfl ?_
    refine zg_2_1 (pc := 25) hc lk_X1_15 dX1_learnFromTry_25 ?_
    refine zj_iconst (pc := 28) hc dX1_learnFromTry_28 (zin _ rfl) ?_
    refine zj_iald (pc := 29) hc dX1_learnFromTry_29 alen_129 h.1 ?_
    have h := h.2
    refine zj_aload_n (pc := 30) hc dX1_learnFromTry_30 rfl ?_
    refine zg_2_5 (pc := 31) hc lk_X1_32 dX1_learnFromTry_31 ?_
    refine zj_iconst (pc := 34) hc dX1_learnFromTry_34 (zin _ rfl) ?_
    refine zj_iald (pc := 35) hc dX1_learnFromTry_35 alen_133 h.1 ?_
    have h := h.2
    refine zj_icmp_ge (pc := 36) (tgt := 40) hc dX1_learnFromTry_36 (by decide) (fun hx8 => ?_) (fun hx8 => ?_)
    · have h := h.1 hx8
      refine zj_aload_n (pc := 40) hc dX1_learnFromTry_40 rfl ?_
      refine zg_2_1 (pc := 41) hc lk_X1_15 dX1_learnFromTry_41 ?_
      refine zj_iconst (pc := 44) hc dX1_learnFromTry_44 (zin _ rfl) ?_
      refine zj_iald (pc := 45) hc dX1_learnFromTry_45 alen_129 h.1 ?_
      have h := h.2
      refine zj_bipush (pc := 46) hc dX1_learnFromTry_46 (by decide) (zin _ rfl) ?_
      refine zj_imul (pc := 48) hc dX1_learnFromTry_48 h.1 ?_
      have h := h.2
      refine zj_aload_n (pc := 49) hc dX1_learnFromTry_49 rfl ?_
      refine zg_2_5 (pc := 50) hc lk_X1_32 dX1_learnFromTry_50 ?_
      refine zj_iconst (pc := 53) hc dX1_learnFromTry_53 (zin _ rfl) ?_
      refine zj_iald (pc := 54) hc dX1_learnFromTry_54 alen_133 h.1 ?_
      have h := h.2
      refine zj_aload_n (pc := 55) hc dX1_learnFromTry_55 rfl ?_
      refine zg_2_1 (pc := 56) hc lk_X1_15 dX1_learnFromTry_56 ?_
      refine zj_iconst (pc := 59) hc dX1_learnFromTry_59 (zin _ rfl) ?_
      refine zj_iald (pc := 60) hc dX1_learnFromTry_60 alen_129 h.1 ?_
      have h := h.2
      refine zj_imul (pc := 61) hc dX1_learnFromTry_61 h.1 ?_
      have h := h.2
      refine zj_icmp_le (pc := 62) (tgt := 99) hc dX1_learnFromTry_62 (by decide) (fun hx9 => ?_) (fun hx9 => ?_)
      · have h := h.1 hx9
        refine zj_aload_n (pc := 99) hc dX1_learnFromTry_99 rfl ?_
        refine zg_2_1 (pc := 100) hc lk_X1_15 dX1_learnFromTry_100 ?_
        refine zj_iconst (pc := 103) hc dX1_learnFromTry_103 (zin _ rfl) ?_
        refine zj_dup2 (pc := 104) hc dX1_learnFromTry_104 ?_
        refine zj_iald (pc := 105) hc dX1_learnFromTry_105 alen_129 h.1 ?_
        have h := h.2
        refine zj_iconst (pc := 106) hc dX1_learnFromTry_106 (zin _ rfl) ?_
        refine zj_iadd (pc := 107) hc dX1_learnFromTry_107 h.1 ?_
        have h := h.2
        refine zj_iast (pc := 108) hc dX1_learnFromTry_108 alen_129 h.1 (fun M10 hM10 => ?_)
        have h := h.2 M10 hM10
        exact k109 M10 h
      · have h := h.2 hx9
        refine zj_aload_n (pc := 65) hc dX1_learnFromTry_65 rfl ?_
        refine zg_2_1 (pc := 66) hc lk_X1_15 dX1_learnFromTry_66 ?_
        refine zj_iconst (pc := 69) hc dX1_learnFromTry_69 (zin _ rfl) ?_
        refine zj_bipush (pc := 70) hc dX1_learnFromTry_70 (by decide) (zin _ rfl) ?_
        refine zj_aload_n (pc := 72) hc dX1_learnFromTry_72 rfl ?_
        refine zg_2_1 (pc := 73) hc lk_X1_15 dX1_learnFromTry_73 ?_
        refine zj_iconst (pc := 76) hc dX1_learnFromTry_76 (zin _ rfl) ?_
        refine zj_iald (pc := 77) hc dX1_learnFromTry_77 alen_129 h.1 ?_
        have h := h.2
        refine zj_aload_n (pc := 78) hc dX1_learnFromTry_78 rfl ?_
        refine zg_2_5 (pc := 79) hc lk_X1_32 dX1_learnFromTry_79 ?_
        refine zj_iconst (pc := 82) hc dX1_learnFromTry_82 (zin _ rfl) ?_
        refine zj_iald (pc := 83) hc dX1_learnFromTry_83 alen_133 h.1 ?_
        have h := h.2
        refine zj_iadd (pc := 84) hc dX1_learnFromTry_84 h.1 ?_
        have h := h.2
        refine zj_min (pc := 85) hc dX1_learnFromTry_85 lk_X1_145 st_min in_Math co_min (Nat.le_of_ble_eq_true rfl) (Nat.le_of_ble_eq_true rfl) ⟨Nat.le_of_ble_eq_true rfl, Nat.le_of_ble_eq_true rfl⟩ ?_
        refine zj_iast (pc := 88) hc dX1_learnFromTry_88 alen_129 h.1 (fun M11 hM11 => ?_)
        have h := h.2 M11 hM11
        refine zj_aload_n (pc := 89) hc dX1_learnFromTry_89 rfl ?_
        refine zg_2_1 (pc := 90) hc lk_X1_15 dX1_learnFromTry_90 ?_
        refine zj_iconst (pc := 93) hc dX1_learnFromTry_93 (zin _ rfl) ?_
        refine zj_iconst (pc := 94) hc dX1_learnFromTry_94 (zin _ rfl) ?_
        refine zj_iast (pc := 95) hc dX1_learnFromTry_95 alen_129 h.1 (fun M12 hM12 => ?_)
        have h := h.2 M12 hM12
        refine zj_goto (pc := 96) (tgt := 109) hc dX1_learnFromTry_96 (by decide) ?_
        exact k109 M12 h
    · have h := h.2 hx8
      exact zj_vret (pc := 39) hc hr hlk dX1_learnFromTry_39 (by decide) (by decide) h
  unfold T_X1_learnFromTry at h
  refine zj_aload_n (pc := 0) hc dX1_learnFromTry_0 rfl ?_
  refine zg_2_1 (pc := 1) hc lk_X1_15 dX1_learnFromTry_1 ?_
  refine zj_iconst (pc := 4) hc dX1_learnFromTry_4 (zin _ rfl) ?_
  refine zj_dup2 (pc := 5) hc dX1_learnFromTry_5 ?_
  refine zj_iald (pc := 6) hc dX1_learnFromTry_6 alen_129 h.1 ?_
  have h := h.2
  refine zj_iconst (pc := 7) hc dX1_learnFromTry_7 (zin _ rfl) ?_
  refine zj_iadd (pc := 8) hc dX1_learnFromTry_8 h.1 ?_
  have h := h.2
  refine zj_iast (pc := 9) hc dX1_learnFromTry_9 alen_129 h.1 (fun M13 hM13 => ?_)
  have h := h.2 M13 hM13
  refine zj_iload_n (pc := 10) hc dX1_learnFromTry_10 rfl ?_
  refine zj_if_ne (pc := 11) (tgt := 24) hc dX1_learnFromTry_11 (by decide) (fun hx14 => ?_) (fun hx14 => ?_)
  · have h := h.1 hx14
    refine zj_mask (bs := [true, false]) ?_
    exact k24 M13 h
  · have h := h.2 hx14
    refine zj_aload_n (pc := 14) hc dX1_learnFromTry_14 rfl ?_
    refine zg_2_1 (pc := 15) hc lk_X1_15 dX1_learnFromTry_15 ?_
    refine zj_iconst (pc := 18) hc dX1_learnFromTry_18 (zin _ rfl) ?_
    refine zj_dup2 (pc := 19) hc dX1_learnFromTry_19 ?_
    refine zj_iald (pc := 20) hc dX1_learnFromTry_20 alen_129 h.1 ?_
    have h := h.2
    refine zj_iconst (pc := 21) hc dX1_learnFromTry_21 (zin _ rfl) ?_
    refine zj_iadd (pc := 22) hc dX1_learnFromTry_22 h.1 ?_
    have h := h.2
    refine zj_iast (pc := 23) hc dX1_learnFromTry_23 alen_129 h.1 (fun M15 hM15 => ?_)
    have h := h.2 M15 hM15
    refine zj_mask (bs := [true, false]) ?_
    exact k24 M15 h
set_option maxHeartbeats 4000000 in
set_option maxRecDepth 100000 in
theorem S_X1_tryShape (l : Launch) (G : zG) (v1 : Int) (v2 : Int) (M : zMem) (Qr : Int → zMem → Prop) (h : T_X1_tryShape v1 v2 Qr M) : zMetI l yX1_tryShape cX1_tryShape 6 (some .boolean) 3 81 0 0 G [.inr 191, .inl v1, .inl v2] M Qr := by
  refine zmetI (by decide) (Nat.le_of_ble_eq_true rfl) [some (.inr 191), some (.inl v1), some (.inl v2), none, none, none] rfl ?_
  intro p e s m args below meth c hc hr hlk
  have k41 : ∀ (M : zMem) (v1 : Int) (v2 : Int) (v3 : Int), T_X1_tryShape_41 v1 v2 v3 Qr M → zJ p l e (zRoom 3 81 0 0) s m args below meth c G 6 0 0 (MQ below (zQi G (Qr)) args s 0 0 (zA G)) 41 [some (.inr 191), some (.inl v1), some (.inl v2), some (.inl v3), none, none] [] M := by
    intro M v1 v2 v3 h
    unfold T_X1_tryShape_41 at h
    refine zj_aload_n (pc := 41) hc dX1_tryShape_41 rfl ?_
    refine zg_2_4 (pc := 42) hc lk_X1_28 dX1_tryShape_42 ?_
    refine zj_iload_n (pc := 45) hc dX1_tryShape_45 rfl ?_
    refine zj_iload_n (pc := 46) hc dX1_tryShape_46 rfl ?_
    refine zj_vti (pc := 47) (st := []) hc ks_X8_layOut iv_X8_layOut lk_X1_122 (zrv_3 G M) (S_X8_layOut l G (Or.inl rfl) v1 v2 M _ h) rfl ⟨Nat.le_of_ble_eq_true rfl, Nat.le_of_ble_eq_true rfl⟩ (Nat.le_of_ble_eq_true rfl) ⟨Nat.le_of_ble_eq_true rfl, Nat.le_of_ble_eq_true rfl⟩ dX1_tryShape_47 rfl (fun y1 M2 h => ?_)
    refine zj_istore (pc := 50) hc dX1_tryShape_50 (by decide) ?_
    refine zj_aload_n (pc := 52) hc dX1_tryShape_52 rfl ?_
    refine zj_aload_n (pc := 53) hc dX1_tryShape_53 rfl ?_
    refine zg_2_4 (pc := 54) hc lk_X1_28 dX1_tryShape_54 ?_
    refine zg_3_0 (pc := 57) hc lk_X1_125 dX1_tryShape_57 ?_
    refine zj_aload_n (pc := 60) hc dX1_tryShape_60 rfl ?_
    refine zg_2_4 (pc := 61) hc lk_X1_28 dX1_tryShape_61 ?_
    refine zg_3_1 (pc := 64) hc lk_X1_129 dX1_tryShape_64 ?_
    refine zj_iload (pc := 67) hc dX1_tryShape_67 rfl ?_
    refine zj_vti (pc := 69) (st := [.inr 191]) hc ks_X6_packBest iv_X6_packBest lk_X1_132 (zrv_4 G M2) (S_X6_packBest l G (Or.inl rfl) 193 y1 M2 _ h) rfl ⟨Nat.le_of_ble_eq_true rfl, Nat.le_of_ble_eq_true rfl⟩ (Nat.le_of_ble_eq_true rfl) ⟨Nat.le_of_ble_eq_true rfl, Nat.le_of_ble_eq_true rfl⟩ dX1_tryShape_69 rfl (fun y3 M4 h => ?_)
    refine zs_2_7 (pc := 72) hc lk_X1_38 dX1_tryShape_72 (fun M5 hM5 => ?_)
    have h := h M5 hM5
    refine zj_iload_n (pc := 75) hc dX1_tryShape_75 rfl ?_
    refine zj_if_ne (pc := 76) (tgt := 90) hc dX1_tryShape_76 (by decide) (fun hx6 => ?_) (fun hx6 => ?_)
    · have h := h.1 hx6
      refine zj_iconst (pc := 90) hc dX1_tryShape_90 (zin _ rfl) ?_
      refine zj_goto (pc := 91) (tgt := 95) hc dX1_tryShape_91 (by decide) ?_
      refine zj_istore (pc := 95) hc dX1_tryShape_95 (by decide) ?_
      refine zj_aload_n (pc := 97) hc dX1_tryShape_97 rfl ?_
      refine zj_iload (pc := 98) hc dX1_tryShape_98 rfl ?_
      refine zj_vtv (pc := 100) (st := []) hc ks_X1_learnFromTry iv_X1_learnFromTry lk_X1_141 (zrv_2 G M5) (S_X1_learnFromTry l G 1 M5 _ h) rfl ⟨Nat.le_of_ble_eq_true rfl, Nat.le_of_ble_eq_true rfl⟩ (Nat.le_of_ble_eq_true rfl) ⟨Nat.le_of_ble_eq_true rfl, Nat.le_of_ble_eq_true rfl⟩ dX1_tryShape_100 rfl (fun M7 h => ?_)
      refine zj_iload (pc := 103) hc dX1_tryShape_103 rfl ?_
      exact zj_zret (pc := 105) hc hr hlk dX1_tryShape_105 (by decide) (by decide) (Or.inr rfl) h
    · have h := h.2 hx6
      refine zj_aload_n (pc := 79) hc dX1_tryShape_79 rfl ?_
      refine zj_aload_n (pc := 80) hc dX1_tryShape_80 rfl ?_
      refine zg_2_7 (pc := 81) hc lk_X1_38 dX1_tryShape_81 ?_
      refine zj_vti (pc := 84) (st := []) hc ks_X1_fitsWith iv_X1_fitsWith lk_X1_137 (zrv_2 G M5) (S_X1_fitsWith l G (M5.1 135) M5 _ h) rfl ⟨Nat.le_of_ble_eq_true rfl, Nat.le_of_ble_eq_true rfl⟩ (Nat.le_of_ble_eq_true rfl) ⟨Nat.le_of_ble_eq_true rfl, Nat.le_of_ble_eq_true rfl⟩ dX1_tryShape_84 rfl (fun y8 M9 h => ?_)
      obtain ⟨hM9, h⟩ := h
      subst hM9
      refine zj_if_eq (pc := 87) (tgt := 94) hc dX1_tryShape_87 (by decide) (fun hx9 => ?_) (fun hx9 => ?_)
      · have h := h.1 hx9
        refine zj_iconst (pc := 94) hc dX1_tryShape_94 (zin _ rfl) ?_
        refine zj_istore (pc := 95) hc dX1_tryShape_95 (by decide) ?_
        refine zj_aload_n (pc := 97) hc dX1_tryShape_97 rfl ?_
        refine zj_iload (pc := 98) hc dX1_tryShape_98 rfl ?_
        refine zj_vtv (pc := 100) (st := []) hc ks_X1_learnFromTry iv_X1_learnFromTry lk_X1_141 (zrv_2 G M5) (S_X1_learnFromTry l G 0 M5 _ h) rfl ⟨Nat.le_of_ble_eq_true rfl, Nat.le_of_ble_eq_true rfl⟩ (Nat.le_of_ble_eq_true rfl) ⟨Nat.le_of_ble_eq_true rfl, Nat.le_of_ble_eq_true rfl⟩ dX1_tryShape_100 rfl (fun M10 h => ?_)
        refine zj_iload (pc := 103) hc dX1_tryShape_103 rfl ?_
        exact zj_zret (pc := 105) hc hr hlk dX1_tryShape_105 (by decide) (by decide) (Or.inl rfl) h
      · have h := h.2 hx9
        refine zj_iconst (pc := 90) hc dX1_tryShape_90 (zin _ rfl) ?_
        refine zj_goto (pc := 91) (tgt := 95) hc dX1_tryShape_91 (by decide) ?_
        refine zj_istore (pc := 95) hc dX1_tryShape_95 (by decide) ?_
        refine zj_aload_n (pc := 97) hc dX1_tryShape_97 rfl ?_
        refine zj_iload (pc := 98) hc dX1_tryShape_98 rfl ?_
        refine zj_vtv (pc := 100) (st := []) hc ks_X1_learnFromTry iv_X1_learnFromTry lk_X1_141 (zrv_2 G M5) (S_X1_learnFromTry l G 1 M5 _ h) rfl ⟨Nat.le_of_ble_eq_true rfl, Nat.le_of_ble_eq_true rfl⟩ (Nat.le_of_ble_eq_true rfl) ⟨Nat.le_of_ble_eq_true rfl, Nat.le_of_ble_eq_true rfl⟩ dX1_tryShape_100 rfl (fun M11 h => ?_)
        refine zj_iload (pc := 103) hc dX1_tryShape_103 rfl ?_
        exact zj_zret (pc := 105) hc hr hlk dX1_tryShape_105 (by decide) (by decide) (Or.inr rfl) h
  have k18 : ∀ (M : zMem) (v1 : Int) (v2 : Int) (s0 : Int), T_X1_tryShape_18 v1 v2 s0 Qr M → zJ p l e (zRoom 3 81 0 0) s m args below meth c G 6 0 0 (MQ below (zQi G (Qr)) args s 0 0 (zA G)) 18 [some (.inr 191), some (.inl v1), some (.inl v2), none, none, none] [.inl s0] M := by
    intro M v1 v2 s0 h
    unfold T_X1_tryShape_18 at h
    refine zj_istore_n (pc := 18) hc dX1_tryShape_18 (by decide) ?_
    refine zj_iload_n (pc := 19) hc dX1_tryShape_19 rfl ?_
    refine zj_if_ne (pc := 20) (tgt := 41) hc dX1_tryShape_20 (by decide) (fun hx12 => ?_) (fun hx12 => ?_)
    · have h := h.1 hx12
      exact k41 M v1 v2 s0 h
    · have h := h.2 hx12
      refine zj_aload_n (pc := 23) hc dX1_tryShape_23 rfl ?_
      refine zg_2_4 (pc := 24) hc lk_X1_28 dX1_tryShape_24 ?_
      refine zj_iload_n (pc := 27) hc dX1_tryShape_27 rfl ?_
      refine zj_iload_n (pc := 28) hc dX1_tryShape_28 rfl ?_
      refine zj_vti (pc := 29) (st := []) hc ks_X8_plainSize iv_X8_plainSize lk_X1_75 (zrv_3 G M) (S_X8_plainSize l G (Or.inl rfl) v1 v2 M _ h) rfl ⟨Nat.le_of_ble_eq_true rfl, Nat.le_of_ble_eq_true rfl⟩ (Nat.le_of_ble_eq_true rfl) ⟨Nat.le_of_ble_eq_true rfl, Nat.le_of_ble_eq_true rfl⟩ dX1_tryShape_29 rfl (fun y13 M9 h => ?_)
      obtain ⟨hM9, h⟩ := h
      subst hM9
      refine zj_aload_n (pc := 32) hc dX1_tryShape_32 rfl ?_
      refine zj_vti (pc := 33) (st := [.inl y13]) hc ks_X1_full iv_X1_full lk_X1_96 (zrv_2 G M) (S_X1_full l G M _ h) rfl ⟨Nat.le_of_ble_eq_true rfl, Nat.le_of_ble_eq_true rfl⟩ (Nat.le_of_ble_eq_true rfl) ⟨Nat.le_of_ble_eq_true rfl, Nat.le_of_ble_eq_true rfl⟩ dX1_tryShape_33 rfl (fun y14 M9 h => ?_)
      obtain ⟨hM9, h⟩ := h
      subst hM9
      refine zj_icmp_le (pc := 36) (tgt := 41) hc dX1_tryShape_36 (by decide) (fun hx15 => ?_) (fun hx15 => ?_)
      · have h := h.1 hx15
        exact k41 M v1 v2 s0 h
      · have h := h.2 hx15
        refine zj_iconst (pc := 39) hc dX1_tryShape_39 (zin _ rfl) ?_
        exact zj_zret (pc := 40) hc hr hlk dX1_tryShape_40 (by decide) (by decide) (Or.inl rfl) h
  unfold T_X1_tryShape at h
  refine zj_aload_n (pc := 0) hc dX1_tryShape_0 rfl ?_
  refine zg_2_4 (pc := 1) hc lk_X1_28 dX1_tryShape_1 ?_
  refine zj_iload_n (pc := 4) hc dX1_tryShape_4 rfl ?_
  refine zj_iload_n (pc := 5) hc dX1_tryShape_5 rfl ?_
  refine zj_vti (pc := 6) (st := []) hc ks_X8_countIn iv_X8_countIn lk_X1_119 (zrv_3 G M) (S_X8_countIn l G (Or.inl rfl) v1 v2 M _ h) rfl ⟨Nat.le_of_ble_eq_true rfl, Nat.le_of_ble_eq_true rfl⟩ (Nat.le_of_ble_eq_true rfl) ⟨Nat.le_of_ble_eq_true rfl, Nat.le_of_ble_eq_true rfl⟩ dX1_tryShape_6 rfl (fun y16 M9 h => ?_)
  obtain ⟨hM9, h⟩ := h
  subst hM9
  refine zj_iconst (pc := 9) hc dX1_tryShape_9 (zin _ rfl) ?_
  refine zj_icmp_gt (pc := 10) (tgt := 17) hc dX1_tryShape_10 (by decide) (fun hx17 => ?_) (fun hx17 => ?_)
  · have h := h.1 hx17
    refine zj_iconst (pc := 17) hc dX1_tryShape_17 (zin _ rfl) ?_
    exact k18 M v1 v2 0 h
  · have h := h.2 hx17
    refine zj_iconst (pc := 13) hc dX1_tryShape_13 (zin _ rfl) ?_
    refine zj_goto (pc := 14) (tgt := 18) hc dX1_tryShape_14 (by decide) ?_
    exact k18 M v1 v2 1 h
