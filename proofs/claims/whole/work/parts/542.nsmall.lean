abbrev sX5 (G : zG) (q a1 a2 : Nat) : va_W := [(q, .inr (3, [.int (Int32.ofInt 0), .int (Int32.ofInt 0), .ref a1, .ref a2])), (a1, zarrE G 1334 (fun _ => 0)), (a2, zarrE G 4 (fun _ => 0))]
def rX5 (G : zG) (q : Nat) (w : va_W) : Prop := ∃ a1 a2 : Nat, w = sX5 G q a1 a2
set_option maxRecDepth 100000 in
set_option maxHeartbeats 4000000 in
theorem N_X5 (l : Launch) (G : zG) (ws : va_W) (q : Nat) : zMetN l yX5_init cX5_init 1 12 2 1338 G ws q (.inr (3, [.int 0, .int 0, .null, .null])) (rX5 G q) := by
  refine zmetN rfl rfl ?_
  intro p e s m args below meth c hc hr hlk hmn
  refine zn_this (pc := 0) hc dX5_init_0 rfl ?_
  refine zn_obj (pc := 1) hc lk_X5_oi oi_i oi_c dX5_init_1 (by decide) (by decide) ?_
  refine zn_this (pc := 4) hc dX5_init_4 rfl ?_
  refine zn_iconst (pc := 5) hc dX5_init_5 ?_
  refine zn_put (pc := 6) (C := RX5) (T := TX5) (N := 4) (ci := 3) (k := 0) (o := 0) (ty := .int) hc tyX5_ok nmX5 inT5 rfl rfl (by decide) (Nat.le_of_ble_eq_true rfl) lk_X5_9 rfl (by decide +kernel) rfl rfl dX5_init_6 (w' := [(q, .inr (3, [.int (Int32.ofInt 0), .int 0, .null, .null]))]) rfl ?_
  refine zn_this (pc := 9) hc dX5_init_9 rfl ?_
  refine zn_iconst (pc := 10) hc dX5_init_10 ?_
  refine zn_put (pc := 11) (C := RX5) (T := TX5) (N := 4) (ci := 3) (k := 1) (o := 0) (ty := .boolean) hc tyX5_ok nmX5 inT5 rfl rfl (by decide) (Nat.le_of_ble_eq_true rfl) lk_X5_15 rfl (by decide +kernel) rfl rfl dX5_init_11 (w' := [(q, .inr (3, [.int (Int32.ofInt 0), .int (Int32.ofInt 0), .null, .null]))]) rfl ?_
  refine zn_this (pc := 14) hc dX5_init_14 rfl ?_
  refine zn_sipush (pc := 15) hc dX5_init_15 (by decide) ?_
  refine zn_newa (pc := 18) (n := 1334) hc rfl (by decide) ac_i dX5_init_18 ⟨by decide, by decide⟩ (fun a1 => ?_)
  refine zn_putF (pc := 20) (C := RX5) (T := TX5) (N := 4) (ci := 3) (k := 2) (o := 0) (ty := (.array .int)) hc hmn tyX5_ok nmX5 inT5 rfl rfl (by decide) (Nat.le_of_ble_eq_true rfl) lk_X5_19 rfl rfl (by decide +kernel) rfl rfl dX5_init_20 (w' := [(q, .inr (3, [.int (Int32.ofInt 0), .int (Int32.ofInt 0), .ref a1, .null])), (a1, zarrE G 1334 (fun _ => 0))]) rfl ?_
  refine zn_this (pc := 23) hc dX5_init_23 rfl ?_
  refine zn_iconst (pc := 24) hc dX5_init_24 ?_
  refine zn_newa (pc := 25) (n := 4) hc rfl (by decide) ac_i dX5_init_25 ⟨by decide, by decide⟩ (fun a2 => ?_)
  refine zn_putF (pc := 27) (C := RX5) (T := TX5) (N := 4) (ci := 3) (k := 3) (o := 0) (ty := (.array .int)) hc hmn tyX5_ok nmX5 inT5 rfl rfl (by decide) (Nat.le_of_ble_eq_true rfl) lk_X5_23 rfl rfl (by decide +kernel) rfl rfl dX5_init_27 (w' := [(q, .inr (3, [.int (Int32.ofInt 0), .int (Int32.ofInt 0), .ref a1, .ref a2])), (a1, zarrE G 1334 (fun _ => 0)), (a2, zarrE G 4 (fun _ => 0))]) rfl ?_
  exact zn_ret (pc := 30) hc hr hlk dX5_init_30 (by decide) (by decide) ⟨a1, a2, rfl⟩
abbrev sX6 (G : zG) (q a1 a2 a3 a4 a5 : Nat) : va_W := [(q, .inr (4, [.ref a1, .ref a2, .int (Int32.ofInt (-1)), .int (Int32.ofInt 0), .ref a3, .ref a4, .ref a5, .int (Int32.ofInt 0)])), (a1, zarrE G 408 (fun _ => 0)), (a2, zarrE G 400 (fun _ => 0)), (a3, zarrE G 400 (fun _ => 0)), (a4, zarrE G 400 (fun _ => 0)), (a5, zarrE G 256 (fun _ => 0))]
def rX6 (G : zG) (q : Nat) (w : va_W) : Prop := ∃ a1 a2 a3 a4 a5 : Nat, w = sX6 G q a1 a2 a3 a4 a5
set_option maxRecDepth 100000 in
set_option maxHeartbeats 4000000 in
theorem N_X6 (l : Launch) (G : zG) (ws : va_W) (q : Nat) : zMetN l yX6_init cX6_init 1 12 5 1864 G ws q (.inr (4, [.null, .null, .int 0, .int 0, .null, .null, .null, .int 0])) (rX6 G q) := by
  refine zmetN rfl rfl ?_
  intro p e s m args below meth c hc hr hlk hmn
  refine zn_this (pc := 0) hc dX6_init_0 rfl ?_
  refine zn_obj (pc := 1) hc lk_X6_oi oi_i oi_c dX6_init_1 (by decide) (by decide) ?_
  refine zn_this (pc := 4) hc dX6_init_4 rfl ?_
  refine zn_sipush (pc := 5) hc dX6_init_5 (by decide) ?_
  refine zn_newa (pc := 8) (n := 408) hc rfl (by decide) ac_i dX6_init_8 ⟨by decide, by decide⟩ (fun a1 => ?_)
  refine zn_putF (pc := 10) (C := RX6) (T := TX6) (N := 8) (ci := 4) (k := 0) (o := 0) (ty := (.array .int)) hc hmn tyX6_ok nmX6 inT6 rfl rfl (by decide) (Nat.le_of_ble_eq_true rfl) lk_X6_9 rfl rfl (by decide +kernel) rfl rfl dX6_init_10 (w' := [(q, .inr (4, [.ref a1, .null, .int 0, .int 0, .null, .null, .null, .int 0])), (a1, zarrE G 408 (fun _ => 0))]) rfl ?_
  refine zn_this (pc := 13) hc dX6_init_13 rfl ?_
  refine zn_sipush (pc := 14) hc dX6_init_14 (by decide) ?_
  refine zn_newa (pc := 17) (n := 400) hc rfl (by decide) ac_i dX6_init_17 ⟨by decide, by decide⟩ (fun a2 => ?_)
  refine zn_putF (pc := 19) (C := RX6) (T := TX6) (N := 8) (ci := 4) (k := 1) (o := 0) (ty := (.array .int)) hc hmn tyX6_ok nmX6 inT6 rfl rfl (by decide) (Nat.le_of_ble_eq_true rfl) lk_X6_15 rfl rfl (by decide +kernel) rfl rfl dX6_init_19 (w' := [(q, .inr (4, [.ref a1, .ref a2, .int 0, .int 0, .null, .null, .null, .int 0])), (a1, zarrE G 408 (fun _ => 0)), (a2, zarrE G 400 (fun _ => 0))]) rfl ?_
  refine zn_this (pc := 22) hc dX6_init_22 rfl ?_
  refine zn_iconst (pc := 23) hc dX6_init_23 ?_
  refine zn_put (pc := 24) (C := RX6) (T := TX6) (N := 8) (ci := 4) (k := 2) (o := 0) (ty := .int) hc tyX6_ok nmX6 inT6 rfl rfl (by decide) (Nat.le_of_ble_eq_true rfl) lk_X6_18 rfl (by decide +kernel) rfl rfl dX6_init_24 (w' := [(q, .inr (4, [.ref a1, .ref a2, .int (Int32.ofInt (-1)), .int 0, .null, .null, .null, .int 0])), (a1, zarrE G 408 (fun _ => 0)), (a2, zarrE G 400 (fun _ => 0))]) rfl ?_
  refine zn_this (pc := 27) hc dX6_init_27 rfl ?_
  refine zn_iconst (pc := 28) hc dX6_init_28 ?_
  refine zn_put (pc := 29) (C := RX6) (T := TX6) (N := 8) (ci := 4) (k := 3) (o := 0) (ty := .int) hc tyX6_ok nmX6 inT6 rfl rfl (by decide) (Nat.le_of_ble_eq_true rfl) lk_X6_22 rfl (by decide +kernel) rfl rfl dX6_init_29 (w' := [(q, .inr (4, [.ref a1, .ref a2, .int (Int32.ofInt (-1)), .int (Int32.ofInt 0), .null, .null, .null, .int 0])), (a1, zarrE G 408 (fun _ => 0)), (a2, zarrE G 400 (fun _ => 0))]) rfl ?_
  refine zn_this (pc := 32) hc dX6_init_32 rfl ?_
  refine zn_sipush (pc := 33) hc dX6_init_33 (by decide) ?_
  refine zn_newa (pc := 36) (n := 400) hc rfl (by decide) ac_i dX6_init_36 ⟨by decide, by decide⟩ (fun a3 => ?_)
  refine zn_putF (pc := 38) (C := RX6) (T := TX6) (N := 8) (ci := 4) (k := 4) (o := 0) (ty := (.array .int)) hc hmn tyX6_ok nmX6 inT6 rfl rfl (by decide) (Nat.le_of_ble_eq_true rfl) lk_X6_25 rfl rfl (by decide +kernel) rfl rfl dX6_init_38 (w' := [(q, .inr (4, [.ref a1, .ref a2, .int (Int32.ofInt (-1)), .int (Int32.ofInt 0), .ref a3, .null, .null, .int 0])), (a1, zarrE G 408 (fun _ => 0)), (a2, zarrE G 400 (fun _ => 0)), (a3, zarrE G 400 (fun _ => 0))]) rfl ?_
  refine zn_this (pc := 41) hc dX6_init_41 rfl ?_
  refine zn_sipush (pc := 42) hc dX6_init_42 (by decide) ?_
  refine zn_newa (pc := 45) (n := 400) hc rfl (by decide) ac_i dX6_init_45 ⟨by decide, by decide⟩ (fun a4 => ?_)
  refine zn_putF (pc := 47) (C := RX6) (T := TX6) (N := 8) (ci := 4) (k := 5) (o := 0) (ty := (.array .int)) hc hmn tyX6_ok nmX6 inT6 rfl rfl (by decide) (Nat.le_of_ble_eq_true rfl) lk_X6_28 rfl rfl (by decide +kernel) rfl rfl dX6_init_47 (w' := [(q, .inr (4, [.ref a1, .ref a2, .int (Int32.ofInt (-1)), .int (Int32.ofInt 0), .ref a3, .ref a4, .null, .int 0])), (a1, zarrE G 408 (fun _ => 0)), (a2, zarrE G 400 (fun _ => 0)), (a3, zarrE G 400 (fun _ => 0)), (a4, zarrE G 400 (fun _ => 0))]) rfl ?_
  refine zn_this (pc := 50) hc dX6_init_50 rfl ?_
  refine zn_sipush (pc := 51) hc dX6_init_51 (by decide) ?_
  refine zn_newa (pc := 54) (n := 256) hc rfl (by decide) ac_i dX6_init_54 ⟨by decide, by decide⟩ (fun a5 => ?_)
  refine zn_putF (pc := 56) (C := RX6) (T := TX6) (N := 8) (ci := 4) (k := 6) (o := 0) (ty := (.array .int)) hc hmn tyX6_ok nmX6 inT6 rfl rfl (by decide) (Nat.le_of_ble_eq_true rfl) lk_X6_31 rfl rfl (by decide +kernel) rfl rfl dX6_init_56 (w' := [(q, .inr (4, [.ref a1, .ref a2, .int (Int32.ofInt (-1)), .int (Int32.ofInt 0), .ref a3, .ref a4, .ref a5, .int 0])), (a1, zarrE G 408 (fun _ => 0)), (a2, zarrE G 400 (fun _ => 0)), (a3, zarrE G 400 (fun _ => 0)), (a4, zarrE G 400 (fun _ => 0)), (a5, zarrE G 256 (fun _ => 0))]) rfl ?_
  refine zn_this (pc := 59) hc dX6_init_59 rfl ?_
  refine zn_iconst (pc := 60) hc dX6_init_60 ?_
  refine zn_put (pc := 61) (C := RX6) (T := TX6) (N := 8) (ci := 4) (k := 7) (o := 0) (ty := .int) hc tyX6_ok nmX6 inT6 rfl rfl (by decide) (Nat.le_of_ble_eq_true rfl) lk_X6_34 rfl (by decide +kernel) rfl rfl dX6_init_61 (w' := [(q, .inr (4, [.ref a1, .ref a2, .int (Int32.ofInt (-1)), .int (Int32.ofInt 0), .ref a3, .ref a4, .ref a5, .int (Int32.ofInt 0)])), (a1, zarrE G 408 (fun _ => 0)), (a2, zarrE G 400 (fun _ => 0)), (a3, zarrE G 400 (fun _ => 0)), (a4, zarrE G 400 (fun _ => 0)), (a5, zarrE G 256 (fun _ => 0))]) rfl ?_
  exact zn_ret (pc := 64) hc hr hlk dX6_init_64 (by decide) (by decide) ⟨a1, a2, a3, a4, a5, rfl⟩
abbrev sX8 (G : zG) (q a1 b2 b3 b4 b5 b6 a7 a8 a9 : Nat) : va_W := [(q, .inr (6, [.ref a1, .ref a7, .ref a8, .ref a9])), (a1, .inr (4, [.ref b2, .ref b3, .int (Int32.ofInt (-1)), .int (Int32.ofInt 0), .ref b4, .ref b5, .ref b6, .int (Int32.ofInt 0)])), (b2, zarrE G 408 (fun _ => 0)), (b3, zarrE G 400 (fun _ => 0)), (b4, zarrE G 400 (fun _ => 0)), (b5, zarrE G 400 (fun _ => 0)), (b6, zarrE G 256 (fun _ => 0)), (a7, zarrE G 400 (fun _ => 0)), (a8, zarrE G 256 (fun _ => 0)), (a9, zarrE G 2048 (fun _ => 0))]
def rX8 (G : zG) (q : Nat) (w : va_W) : Prop := ∃ a1 b2 b3 b4 b5 b6 a7 a8 a9 : Nat, w = sX8 G q a1 b2 b3 b4 b5 b6 a7 a8 a9
set_option maxRecDepth 100000 in
set_option maxHeartbeats 4000000 in
theorem N_X8 (l : Launch) (G : zG) (ws : va_W) (q : Nat) : zMetN l yX8_init cX8_init 2 32 9 4576 G ws q (.inr (6, [.null, .null, .null, .null])) (rX8 G q) := by
  refine zmetN rfl rfl ?_
  intro p e s m args below meth c hc hr hlk hmn
  refine zn_this (pc := 0) hc dX8_init_0 rfl ?_
  refine zn_obj (pc := 1) hc lk_X8_oi oi_i oi_c dX8_init_1 (by decide) (by decide) ?_
  refine zn_this (pc := 4) hc dX8_init_4 rfl ?_
  refine zn_new (pc := 5) (C := RX6) (T := TX6) (N := 8) (ci := 4) (fs := [.null, .null, .int 0, .int 0, .null, .null, .null, .int 0]) hc tyX6_ok inT6 rfl cl_X8_9 it_X6 ini_X6 (fun j hj => by match j, hj with | 0, _ => rfl | 1, _ => rfl | 2, _ => rfl | 3, _ => rfl | 4, _ => rfl | 5, _ => rfl | 6, _ => rfl | 7, _ => rfl) dX8_init_5 ⟨by decide, by decide⟩ (fun a1 => ?_)
  refine zn_dup (pc := 8) hc dX8_init_8 ?_
  refine zn_callN (pc := 9) (w := [(q, .inr (6, [.null, .null, .null, .null]))]) (q := a1) (E0 := .inr (4, [.null, .null, .int 0, .int 0, .null, .null, .null, .int 0])) hc ks_X6_init rfl iv_X6_init nw_X8_i11 (N_X6 l G (ws ++ [(q, .inr (6, [.null, .null, .null, .null]))]) a1) ⟨by decide, by decide⟩ (Nat.le_of_ble_eq_true rfl) ⟨by decide, by decide⟩ dX8_init_9 ?_
  rintro _ ⟨b2, b3, b4, b5, b6, rfl⟩
  show zN _ _ _ _ _ _ _ _ _ _ _ _ _ _ _ _ _ _ _ [(q, .inr (6, [.null, .null, .null, .null])), (a1, .inr (4, [.ref b2, .ref b3, .int (Int32.ofInt (-1)), .int (Int32.ofInt 0), .ref b4, .ref b5, .ref b6, .int (Int32.ofInt 0)])), (b2, zarrE G 408 (fun _ => 0)), (b3, zarrE G 400 (fun _ => 0)), (b4, zarrE G 400 (fun _ => 0)), (b5, zarrE G 400 (fun _ => 0)), (b6, zarrE G 256 (fun _ => 0))]
  refine zn_putF (pc := 12) (C := RX8) (T := TX8) (N := 4) (ci := 6) (k := 0) (o := 0) (ty := (.object "PackedPages$Packer")) hc hmn tyX8_ok nmX8 inT8 rfl rfl (by decide) (Nat.le_of_ble_eq_true rfl) lk_X8_12 rfl rfl (by decide +kernel) rfl rfl dX8_init_12 (w' := [(q, .inr (6, [.ref a1, .null, .null, .null])), (a1, .inr (4, [.ref b2, .ref b3, .int (Int32.ofInt (-1)), .int (Int32.ofInt 0), .ref b4, .ref b5, .ref b6, .int (Int32.ofInt 0)])), (b2, zarrE G 408 (fun _ => 0)), (b3, zarrE G 400 (fun _ => 0)), (b4, zarrE G 400 (fun _ => 0)), (b5, zarrE G 400 (fun _ => 0)), (b6, zarrE G 256 (fun _ => 0))]) rfl ?_
  refine zn_this (pc := 15) hc dX8_init_15 rfl ?_
  refine zn_sipush (pc := 16) hc dX8_init_16 (by decide) ?_
  refine zn_newa (pc := 19) (n := 400) hc rfl (by decide) ac_i dX8_init_19 ⟨by decide, by decide⟩ (fun a7 => ?_)
  refine zn_putF (pc := 21) (C := RX8) (T := TX8) (N := 4) (ci := 6) (k := 1) (o := 0) (ty := (.array .int)) hc hmn tyX8_ok nmX8 inT8 rfl rfl (by decide) (Nat.le_of_ble_eq_true rfl) lk_X8_18 rfl rfl (by decide +kernel) rfl rfl dX8_init_21 (w' := [(q, .inr (6, [.ref a1, .ref a7, .null, .null])), (a1, .inr (4, [.ref b2, .ref b3, .int (Int32.ofInt (-1)), .int (Int32.ofInt 0), .ref b4, .ref b5, .ref b6, .int (Int32.ofInt 0)])), (b2, zarrE G 408 (fun _ => 0)), (b3, zarrE G 400 (fun _ => 0)), (b4, zarrE G 400 (fun _ => 0)), (b5, zarrE G 400 (fun _ => 0)), (b6, zarrE G 256 (fun _ => 0)), (a7, zarrE G 400 (fun _ => 0))]) rfl ?_
  refine zn_this (pc := 24) hc dX8_init_24 rfl ?_
  refine zn_sipush (pc := 25) hc dX8_init_25 (by decide) ?_
  refine zn_newa (pc := 28) (n := 256) hc rfl (by decide) ac_i dX8_init_28 ⟨by decide, by decide⟩ (fun a8 => ?_)
  refine zn_putF (pc := 30) (C := RX8) (T := TX8) (N := 4) (ci := 6) (k := 2) (o := 0) (ty := (.array .int)) hc hmn tyX8_ok nmX8 inT8 rfl rfl (by decide) (Nat.le_of_ble_eq_true rfl) lk_X8_22 rfl rfl (by decide +kernel) rfl rfl dX8_init_30 (w' := [(q, .inr (6, [.ref a1, .ref a7, .ref a8, .null])), (a1, .inr (4, [.ref b2, .ref b3, .int (Int32.ofInt (-1)), .int (Int32.ofInt 0), .ref b4, .ref b5, .ref b6, .int (Int32.ofInt 0)])), (b2, zarrE G 408 (fun _ => 0)), (b3, zarrE G 400 (fun _ => 0)), (b4, zarrE G 400 (fun _ => 0)), (b5, zarrE G 400 (fun _ => 0)), (b6, zarrE G 256 (fun _ => 0)), (a7, zarrE G 400 (fun _ => 0)), (a8, zarrE G 256 (fun _ => 0))]) rfl ?_
  refine zn_this (pc := 33) hc dX8_init_33 rfl ?_
  refine zn_sipush (pc := 34) hc dX8_init_34 (by decide) ?_
  refine zn_newa (pc := 37) (n := 2048) hc rfl (by decide) ac_i dX8_init_37 ⟨by decide, by decide⟩ (fun a9 => ?_)
  refine zn_putF (pc := 39) (C := RX8) (T := TX8) (N := 4) (ci := 6) (k := 3) (o := 0) (ty := (.array .int)) hc hmn tyX8_ok nmX8 inT8 rfl rfl (by decide) (Nat.le_of_ble_eq_true rfl) lk_X8_25 rfl rfl (by decide +kernel) rfl rfl dX8_init_39 (w' := [(q, .inr (6, [.ref a1, .ref a7, .ref a8, .ref a9])), (a1, .inr (4, [.ref b2, .ref b3, .int (Int32.ofInt (-1)), .int (Int32.ofInt 0), .ref b4, .ref b5, .ref b6, .int (Int32.ofInt 0)])), (b2, zarrE G 408 (fun _ => 0)), (b3, zarrE G 400 (fun _ => 0)), (b4, zarrE G 400 (fun _ => 0)), (b5, zarrE G 400 (fun _ => 0)), (b6, zarrE G 256 (fun _ => 0)), (a7, zarrE G 400 (fun _ => 0)), (a8, zarrE G 256 (fun _ => 0)), (a9, zarrE G 2048 (fun _ => 0))]) rfl ?_
  exact zn_ret (pc := 42) hc hr hlk dX8_init_42 (by decide) (by decide) ⟨a1, b2, b3, b4, b5, b6, a7, a8, a9, rfl⟩
abbrev sX0 (G : zG) (q a1 : Nat) : va_W := [(q, .inr (0, [.ref a1, .int (Int32.ofInt (-1)), .int (Int32.ofInt 0), .int (Int32.ofInt 0), .int (Int32.ofInt 0)])), (a1, zarrE G 1334 (upI (fun _ => 0) 640 1))]
def rX0 (G : zG) (q : Nat) (w : va_W) : Prop := ∃ a1 : Nat, w = sX0 G q a1
set_option maxRecDepth 100000 in
set_option maxHeartbeats 4000000 in
theorem N_X0 (l : Launch) (G : zG) (ws : va_W) (q : Nat) : zMetN l yX0_init cX0_init 1 12 1 1334 G ws q (.inr (0, [.null, .int 0, .int 0, .int 0, .int 0])) (rX0 G q) := by
  refine zmetN rfl rfl ?_
  intro p e s m args below meth c hc hr hlk hmn
  refine zn_this (pc := 0) hc dX0_init_0 rfl ?_
  refine zn_obj (pc := 1) hc lk_X0_oi oi_i oi_c dX0_init_1 (by decide) (by decide) ?_
  refine zn_this (pc := 4) hc dX0_init_4 rfl ?_
  refine zn_sipush (pc := 5) hc dX0_init_5 (by decide) ?_
  refine zn_newa (pc := 8) (n := 1334) hc rfl (by decide) ac_i dX0_init_8 ⟨by decide, by decide⟩ (fun a1 => ?_)
  refine zn_putF (pc := 10) (C := RX0) (T := TX0) (N := 5) (ci := 0) (k := 0) (o := 0) (ty := (.array .int)) hc hmn tyX0_ok nmX0 inT0 rfl rfl (by decide) (Nat.le_of_ble_eq_true rfl) lk_X0_9 rfl rfl (by decide +kernel) rfl rfl dX0_init_10 (w' := [(q, .inr (0, [.ref a1, .int 0, .int 0, .int 0, .int 0])), (a1, zarrE G 1334 (fun _ => 0))]) rfl ?_
  refine zn_this (pc := 13) hc dX0_init_13 rfl ?_
  refine zn_iconst (pc := 14) hc dX0_init_14 ?_
  refine zn_put (pc := 15) (C := RX0) (T := TX0) (N := 5) (ci := 0) (k := 1) (o := 0) (ty := .int) hc tyX0_ok nmX0 inT0 rfl rfl (by decide) (Nat.le_of_ble_eq_true rfl) lk_X0_15 rfl (by decide +kernel) rfl rfl dX0_init_15 (w' := [(q, .inr (0, [.ref a1, .int (Int32.ofInt (-1)), .int 0, .int 0, .int 0])), (a1, zarrE G 1334 (fun _ => 0))]) rfl ?_
  refine zn_this (pc := 18) hc dX0_init_18 rfl ?_
  refine zn_iconst (pc := 19) hc dX0_init_19 ?_
  refine zn_put (pc := 20) (C := RX0) (T := TX0) (N := 5) (ci := 0) (k := 2) (o := 0) (ty := .boolean) hc tyX0_ok nmX0 inT0 rfl rfl (by decide) (Nat.le_of_ble_eq_true rfl) lk_X0_19 rfl (by decide +kernel) rfl rfl dX0_init_20 (w' := [(q, .inr (0, [.ref a1, .int (Int32.ofInt (-1)), .int (Int32.ofInt 0), .int 0, .int 0])), (a1, zarrE G 1334 (fun _ => 0))]) rfl ?_
  refine zn_this (pc := 23) hc dX0_init_23 rfl ?_
  refine zn_iconst (pc := 24) hc dX0_init_24 ?_
  refine zn_put (pc := 25) (C := RX0) (T := TX0) (N := 5) (ci := 0) (k := 3) (o := 0) (ty := .boolean) hc tyX0_ok nmX0 inT0 rfl rfl (by decide) (Nat.le_of_ble_eq_true rfl) lk_X0_23 rfl (by decide +kernel) rfl rfl dX0_init_25 (w' := [(q, .inr (0, [.ref a1, .int (Int32.ofInt (-1)), .int (Int32.ofInt 0), .int (Int32.ofInt 0), .int 0])), (a1, zarrE G 1334 (fun _ => 0))]) rfl ?_
  refine zn_this (pc := 28) hc dX0_init_28 rfl ?_
  refine zn_iconst (pc := 29) hc dX0_init_29 ?_
  refine zn_put (pc := 30) (C := RX0) (T := TX0) (N := 5) (ci := 0) (k := 4) (o := 0) (ty := .int) hc tyX0_ok nmX0 inT0 rfl rfl (by decide) (Nat.le_of_ble_eq_true rfl) lk_X0_26 rfl (by decide +kernel) rfl rfl dX0_init_30 (w' := [(q, .inr (0, [.ref a1, .int (Int32.ofInt (-1)), .int (Int32.ofInt 0), .int (Int32.ofInt 0), .int (Int32.ofInt 0)])), (a1, zarrE G 1334 (fun _ => 0))]) rfl ?_
  refine zn_this (pc := 33) hc dX0_init_33 rfl ?_
  refine zn_get (pc := 34) (C := RX0) (T := TX0) (N := 5) (ci := 0) (k := 0) (o := 0) (v := .ref a1) hc inT0 rfl rfl (by decide) rfl lk_X0_9 dX0_init_34 ?_
  refine zn_sipush (pc := 37) hc dX0_init_37 (by decide) ?_
  refine zn_iconst (pc := 40) hc dX0_init_40 ?_
  refine zn_ist (pc := 41) (o := 1) (n := 1334) (f := fun _ => 0) (i := 640) (v := 1) hc rfl ⟨by decide, by decide⟩ (by decide) dX0_init_41 (w' := [(q, .inr (0, [.ref a1, .int (Int32.ofInt (-1)), .int (Int32.ofInt 0), .int (Int32.ofInt 0), .int (Int32.ofInt 0)])), (a1, zarrE G 1334 (upI (fun _ => 0) 640 1))]) rfl ?_
  exact zn_ret (pc := 42) hc hr hlk dX0_init_42 (by decide) (by decide) ⟨a1, rfl⟩
abbrev sX1 (G : zG) (q a1 a2 a3 a4 b5 b6 b7 b8 b9 b10 b11 b12 b13 a14 a15 : Nat) : va_W := [(q, .inr (1, [.ref a1, .ref a2, .ref a3, .int (Int32.ofInt 0), .ref a4, .ref a14, .ref a15, .int (Int32.ofInt 0)])), (a1, zarrE G 661 (fun _ => 0)), (a2, zarrE G 4 (fun _ => 0)), (a3, zarrE G 10 (fun _ => 0)), (a4, .inr (6, [.ref b5, .ref b11, .ref b12, .ref b13])), (b5, .inr (4, [.ref b6, .ref b7, .int (Int32.ofInt (-1)), .int (Int32.ofInt 0), .ref b8, .ref b9, .ref b10, .int (Int32.ofInt 0)])), (b6, zarrE G 408 (fun _ => 0)), (b7, zarrE G 400 (fun _ => 0)), (b8, zarrE G 400 (fun _ => 0)), (b9, zarrE G 400 (fun _ => 0)), (b10, zarrE G 256 (fun _ => 0)), (b11, zarrE G 400 (fun _ => 0)), (b12, zarrE G 256 (fun _ => 0)), (b13, zarrE G 2048 (fun _ => 0)), (a14, zarrE G 5 (fun _ => 0)), (a15, zarrE G 16 (fun _ => 0))]
def rX1 (G : zG) (q : Nat) (w : va_W) : Prop := ∃ a1 a2 a3 a4 b5 b6 b7 b8 b9 b10 b11 b12 b13 a14 a15 : Nat, w = sX1 G q a1 a2 a3 a4 b5 b6 b7 b8 b9 b10 b11 b12 b13 a14 a15
set_option maxRecDepth 100000 in
set_option maxHeartbeats 4000000 in
theorem N_X1 (l : Launch) (G : zG) (ws : va_W) (q : Nat) : zMetN l yX1_init cX1_init 3 52 15 5276 G ws q (.inr (1, [.null, .null, .null, .int 0, .null, .null, .null, .int 0])) (rX1 G q) := by
  refine zmetN rfl rfl ?_
  intro p e s m args below meth c hc hr hlk hmn
  refine zn_this (pc := 0) hc dX1_init_0 rfl ?_
  refine zn_obj (pc := 1) hc lk_X1_oi oi_i oi_c dX1_init_1 (by decide) (by decide) ?_
  refine zn_this (pc := 4) hc dX1_init_4 rfl ?_
  refine zn_sipush (pc := 5) hc dX1_init_5 (by decide) ?_
  refine zn_newa (pc := 8) (n := 661) hc rfl (by decide) ac_i dX1_init_8 ⟨by decide, by decide⟩ (fun a1 => ?_)
  refine zn_putF (pc := 10) (C := RX1) (T := TX1) (N := 8) (ci := 1) (k := 0) (o := 0) (ty := (.array .int)) hc hmn tyX1_ok nmX1 inT1 rfl rfl (by decide) (Nat.le_of_ble_eq_true rfl) lk_X1_9 rfl rfl (by decide +kernel) rfl rfl dX1_init_10 (w' := [(q, .inr (1, [.ref a1, .null, .null, .int 0, .null, .null, .null, .int 0])), (a1, zarrE G 661 (fun _ => 0))]) rfl ?_
  refine zn_this (pc := 13) hc dX1_init_13 rfl ?_
  refine zn_iconst (pc := 14) hc dX1_init_14 ?_
  refine zn_newa (pc := 15) (n := 4) hc rfl (by decide) ac_i dX1_init_15 ⟨by decide, by decide⟩ (fun a2 => ?_)
  refine zn_putF (pc := 17) (C := RX1) (T := TX1) (N := 8) (ci := 1) (k := 1) (o := 0) (ty := (.array .int)) hc hmn tyX1_ok nmX1 inT1 rfl rfl (by decide) (Nat.le_of_ble_eq_true rfl) lk_X1_15 rfl rfl (by decide +kernel) rfl rfl dX1_init_17 (w' := [(q, .inr (1, [.ref a1, .ref a2, .null, .int 0, .null, .null, .null, .int 0])), (a1, zarrE G 661 (fun _ => 0)), (a2, zarrE G 4 (fun _ => 0))]) rfl ?_
  refine zn_this (pc := 20) hc dX1_init_20 rfl ?_
  refine zn_bipush (pc := 21) hc dX1_init_21 (by decide) ?_
  refine zn_newa (pc := 23) (n := 10) hc rfl (by decide) ac_i dX1_init_23 ⟨by decide, by decide⟩ (fun a3 => ?_)
  refine zn_putF (pc := 25) (C := RX1) (T := TX1) (N := 8) (ci := 1) (k := 2) (o := 0) (ty := (.array .int)) hc hmn tyX1_ok nmX1 inT1 rfl rfl (by decide) (Nat.le_of_ble_eq_true rfl) lk_X1_18 rfl rfl (by decide +kernel) rfl rfl dX1_init_25 (w' := [(q, .inr (1, [.ref a1, .ref a2, .ref a3, .int 0, .null, .null, .null, .int 0])), (a1, zarrE G 661 (fun _ => 0)), (a2, zarrE G 4 (fun _ => 0)), (a3, zarrE G 10 (fun _ => 0))]) rfl ?_
  refine zn_this (pc := 28) hc dX1_init_28 rfl ?_
  refine zn_iconst (pc := 29) hc dX1_init_29 ?_
  refine zn_put (pc := 30) (C := RX1) (T := TX1) (N := 8) (ci := 1) (k := 3) (o := 0) (ty := .int) hc tyX1_ok nmX1 inT1 rfl rfl (by decide) (Nat.le_of_ble_eq_true rfl) lk_X1_21 rfl (by decide +kernel) rfl rfl dX1_init_30 (w' := [(q, .inr (1, [.ref a1, .ref a2, .ref a3, .int (Int32.ofInt 0), .null, .null, .null, .int 0])), (a1, zarrE G 661 (fun _ => 0)), (a2, zarrE G 4 (fun _ => 0)), (a3, zarrE G 10 (fun _ => 0))]) rfl ?_
  refine zn_this (pc := 33) hc dX1_init_33 rfl ?_
  refine zn_new (pc := 34) (C := RX8) (T := TX8) (N := 4) (ci := 6) (fs := [.null, .null, .null, .null]) hc tyX8_ok inT8 rfl cl_X1_25 it_X8 ini_X8 (fun j hj => by match j, hj with | 0, _ => rfl | 1, _ => rfl | 2, _ => rfl | 3, _ => rfl) dX1_init_34 ⟨by decide, by decide⟩ (fun a4 => ?_)
  refine zn_dup (pc := 37) hc dX1_init_37 ?_
  refine zn_callN (pc := 38) (w := [(q, .inr (1, [.ref a1, .ref a2, .ref a3, .int (Int32.ofInt 0), .null, .null, .null, .int 0])), (a1, zarrE G 661 (fun _ => 0)), (a2, zarrE G 4 (fun _ => 0)), (a3, zarrE G 10 (fun _ => 0))]) (q := a4) (E0 := .inr (6, [.null, .null, .null, .null])) hc ks_X8_init rfl iv_X8_init nw_X1_i27 (N_X8 l G (ws ++ [(q, .inr (1, [.ref a1, .ref a2, .ref a3, .int (Int32.ofInt 0), .null, .null, .null, .int 0])), (a1, zarrE G 661 (fun _ => 0)), (a2, zarrE G 4 (fun _ => 0)), (a3, zarrE G 10 (fun _ => 0))]) a4) ⟨by decide, by decide⟩ (Nat.le_of_ble_eq_true rfl) ⟨by decide, by decide⟩ dX1_init_38 ?_
  rintro _ ⟨b5, b6, b7, b8, b9, b10, b11, b12, b13, rfl⟩
  show zN _ _ _ _ _ _ _ _ _ _ _ _ _ _ _ _ _ _ _ [(q, .inr (1, [.ref a1, .ref a2, .ref a3, .int (Int32.ofInt 0), .null, .null, .null, .int 0])), (a1, zarrE G 661 (fun _ => 0)), (a2, zarrE G 4 (fun _ => 0)), (a3, zarrE G 10 (fun _ => 0)), (a4, .inr (6, [.ref b5, .ref b11, .ref b12, .ref b13])), (b5, .inr (4, [.ref b6, .ref b7, .int (Int32.ofInt (-1)), .int (Int32.ofInt 0), .ref b8, .ref b9, .ref b10, .int (Int32.ofInt 0)])), (b6, zarrE G 408 (fun _ => 0)), (b7, zarrE G 400 (fun _ => 0)), (b8, zarrE G 400 (fun _ => 0)), (b9, zarrE G 400 (fun _ => 0)), (b10, zarrE G 256 (fun _ => 0)), (b11, zarrE G 400 (fun _ => 0)), (b12, zarrE G 256 (fun _ => 0)), (b13, zarrE G 2048 (fun _ => 0))]
  refine zn_putF (pc := 41) (C := RX1) (T := TX1) (N := 8) (ci := 1) (k := 4) (o := 0) (ty := (.object "PackedPages$Records")) hc hmn tyX1_ok nmX1 inT1 rfl rfl (by decide) (Nat.le_of_ble_eq_true rfl) lk_X1_28 rfl rfl (by decide +kernel) rfl rfl dX1_init_41 (w' := [(q, .inr (1, [.ref a1, .ref a2, .ref a3, .int (Int32.ofInt 0), .ref a4, .null, .null, .int 0])), (a1, zarrE G 661 (fun _ => 0)), (a2, zarrE G 4 (fun _ => 0)), (a3, zarrE G 10 (fun _ => 0)), (a4, .inr (6, [.ref b5, .ref b11, .ref b12, .ref b13])), (b5, .inr (4, [.ref b6, .ref b7, .int (Int32.ofInt (-1)), .int (Int32.ofInt 0), .ref b8, .ref b9, .ref b10, .int (Int32.ofInt 0)])), (b6, zarrE G 408 (fun _ => 0)), (b7, zarrE G 400 (fun _ => 0)), (b8, zarrE G 400 (fun _ => 0)), (b9, zarrE G 400 (fun _ => 0)), (b10, zarrE G 256 (fun _ => 0)), (b11, zarrE G 400 (fun _ => 0)), (b12, zarrE G 256 (fun _ => 0)), (b13, zarrE G 2048 (fun _ => 0))]) rfl ?_
  refine zn_this (pc := 44) hc dX1_init_44 rfl ?_
  refine zn_iconst (pc := 45) hc dX1_init_45 ?_
  refine zn_newa (pc := 46) (n := 5) hc rfl (by decide) ac_i dX1_init_46 ⟨by decide, by decide⟩ (fun a14 => ?_)
  refine zn_putF (pc := 48) (C := RX1) (T := TX1) (N := 8) (ci := 1) (k := 5) (o := 0) (ty := (.array .int)) hc hmn tyX1_ok nmX1 inT1 rfl rfl (by decide) (Nat.le_of_ble_eq_true rfl) lk_X1_32 rfl rfl (by decide +kernel) rfl rfl dX1_init_48 (w' := [(q, .inr (1, [.ref a1, .ref a2, .ref a3, .int (Int32.ofInt 0), .ref a4, .ref a14, .null, .int 0])), (a1, zarrE G 661 (fun _ => 0)), (a2, zarrE G 4 (fun _ => 0)), (a3, zarrE G 10 (fun _ => 0)), (a4, .inr (6, [.ref b5, .ref b11, .ref b12, .ref b13])), (b5, .inr (4, [.ref b6, .ref b7, .int (Int32.ofInt (-1)), .int (Int32.ofInt 0), .ref b8, .ref b9, .ref b10, .int (Int32.ofInt 0)])), (b6, zarrE G 408 (fun _ => 0)), (b7, zarrE G 400 (fun _ => 0)), (b8, zarrE G 400 (fun _ => 0)), (b9, zarrE G 400 (fun _ => 0)), (b10, zarrE G 256 (fun _ => 0)), (b11, zarrE G 400 (fun _ => 0)), (b12, zarrE G 256 (fun _ => 0)), (b13, zarrE G 2048 (fun _ => 0)), (a14, zarrE G 5 (fun _ => 0))]) rfl ?_
  refine zn_this (pc := 51) hc dX1_init_51 rfl ?_
  refine zn_bipush (pc := 52) hc dX1_init_52 (by decide) ?_
  refine zn_newa (pc := 54) (n := 16) hc rfl (by decide) ac_i dX1_init_54 ⟨by decide, by decide⟩ (fun a15 => ?_)
  refine zn_putF (pc := 56) (C := RX1) (T := TX1) (N := 8) (ci := 1) (k := 6) (o := 0) (ty := (.array .int)) hc hmn tyX1_ok nmX1 inT1 rfl rfl (by decide) (Nat.le_of_ble_eq_true rfl) lk_X1_35 rfl rfl (by decide +kernel) rfl rfl dX1_init_56 (w' := [(q, .inr (1, [.ref a1, .ref a2, .ref a3, .int (Int32.ofInt 0), .ref a4, .ref a14, .ref a15, .int 0])), (a1, zarrE G 661 (fun _ => 0)), (a2, zarrE G 4 (fun _ => 0)), (a3, zarrE G 10 (fun _ => 0)), (a4, .inr (6, [.ref b5, .ref b11, .ref b12, .ref b13])), (b5, .inr (4, [.ref b6, .ref b7, .int (Int32.ofInt (-1)), .int (Int32.ofInt 0), .ref b8, .ref b9, .ref b10, .int (Int32.ofInt 0)])), (b6, zarrE G 408 (fun _ => 0)), (b7, zarrE G 400 (fun _ => 0)), (b8, zarrE G 400 (fun _ => 0)), (b9, zarrE G 400 (fun _ => 0)), (b10, zarrE G 256 (fun _ => 0)), (b11, zarrE G 400 (fun _ => 0)), (b12, zarrE G 256 (fun _ => 0)), (b13, zarrE G 2048 (fun _ => 0)), (a14, zarrE G 5 (fun _ => 0)), (a15, zarrE G 16 (fun _ => 0))]) rfl ?_
  refine zn_this (pc := 59) hc dX1_init_59 rfl ?_
  refine zn_iconst (pc := 60) hc dX1_init_60 ?_
  refine zn_put (pc := 61) (C := RX1) (T := TX1) (N := 8) (ci := 1) (k := 7) (o := 0) (ty := .int) hc tyX1_ok nmX1 inT1 rfl rfl (by decide) (Nat.le_of_ble_eq_true rfl) lk_X1_38 rfl (by decide +kernel) rfl rfl dX1_init_61 (w' := [(q, .inr (1, [.ref a1, .ref a2, .ref a3, .int (Int32.ofInt 0), .ref a4, .ref a14, .ref a15, .int (Int32.ofInt 0)])), (a1, zarrE G 661 (fun _ => 0)), (a2, zarrE G 4 (fun _ => 0)), (a3, zarrE G 10 (fun _ => 0)), (a4, .inr (6, [.ref b5, .ref b11, .ref b12, .ref b13])), (b5, .inr (4, [.ref b6, .ref b7, .int (Int32.ofInt (-1)), .int (Int32.ofInt 0), .ref b8, .ref b9, .ref b10, .int (Int32.ofInt 0)])), (b6, zarrE G 408 (fun _ => 0)), (b7, zarrE G 400 (fun _ => 0)), (b8, zarrE G 400 (fun _ => 0)), (b9, zarrE G 400 (fun _ => 0)), (b10, zarrE G 256 (fun _ => 0)), (b11, zarrE G 400 (fun _ => 0)), (b12, zarrE G 256 (fun _ => 0)), (b13, zarrE G 2048 (fun _ => 0)), (a14, zarrE G 5 (fun _ => 0)), (a15, zarrE G 16 (fun _ => 0))]) rfl ?_
  exact zn_ret (pc := 64) hc hr hlk dX1_init_64 (by decide) (by decide) ⟨a1, a2, a3, a4, b5, b6, b7, b8, b9, b10, b11, b12, b13, a14, a15, rfl⟩
abbrev sX3 (G : zG) (q a1 : Nat) : va_W := [(q, .inr (2, [.int (Int32.ofInt 0), .int (Int32.ofInt 0), .ref a1])), (a1, zarrE G 4 (fun _ => 0))]
def rX3 (G : zG) (q : Nat) (w : va_W) : Prop := ∃ a1 : Nat, w = sX3 G q a1
set_option maxRecDepth 100000 in
set_option maxHeartbeats 4000000 in
theorem N_X3 (l : Launch) (G : zG) (ws : va_W) (q : Nat) : zMetN l yX3_init cX3_init 1 12 1 4 G ws q (.inr (2, [.int 0, .int 0, .null])) (rX3 G q) := by
  refine zmetN rfl rfl ?_
  intro p e s m args below meth c hc hr hlk hmn
  refine zn_this (pc := 0) hc dX3_init_0 rfl ?_
  refine zn_obj (pc := 1) hc lk_X3_oi oi_i oi_c dX3_init_1 (by decide) (by decide) ?_
  refine zn_this (pc := 4) hc dX3_init_4 rfl ?_
  refine zn_iconst (pc := 5) hc dX3_init_5 ?_
  refine zn_put (pc := 6) (C := RX3) (T := TX3) (N := 3) (ci := 2) (k := 0) (o := 0) (ty := .int) hc tyX3_ok nmX3 inT3 rfl rfl (by decide) (Nat.le_of_ble_eq_true rfl) lk_X3_9 rfl (by decide +kernel) rfl rfl dX3_init_6 (w' := [(q, .inr (2, [.int (Int32.ofInt 0), .int 0, .null]))]) rfl ?_
  refine zn_this (pc := 9) hc dX3_init_9 rfl ?_
  refine zn_iconst (pc := 10) hc dX3_init_10 ?_
  refine zn_put (pc := 11) (C := RX3) (T := TX3) (N := 3) (ci := 2) (k := 1) (o := 0) (ty := .int) hc tyX3_ok nmX3 inT3 rfl rfl (by decide) (Nat.le_of_ble_eq_true rfl) lk_X3_15 rfl (by decide +kernel) rfl rfl dX3_init_11 (w' := [(q, .inr (2, [.int (Int32.ofInt 0), .int (Int32.ofInt 0), .null]))]) rfl ?_
  refine zn_this (pc := 14) hc dX3_init_14 rfl ?_
  refine zn_iconst (pc := 15) hc dX3_init_15 ?_
  refine zn_newa (pc := 16) (n := 4) hc rfl (by decide) ac_i dX3_init_16 ⟨by decide, by decide⟩ (fun a1 => ?_)
  refine zn_putF (pc := 18) (C := RX3) (T := TX3) (N := 3) (ci := 2) (k := 2) (o := 0) (ty := (.array .int)) hc hmn tyX3_ok nmX3 inT3 rfl rfl (by decide) (Nat.le_of_ble_eq_true rfl) lk_X3_18 rfl rfl (by decide +kernel) rfl rfl dX3_init_18 (w' := [(q, .inr (2, [.int (Int32.ofInt 0), .int (Int32.ofInt 0), .ref a1])), (a1, zarrE G 4 (fun _ => 0))]) rfl ?_
  exact zn_ret (pc := 21) hc hr hlk dX3_init_21 (by decide) (by decide) ⟨a1, rfl⟩
abbrev sX7 (G : zG) (q a1 : Nat) : va_W := [(q, .inr (5, [.int (Int32.ofInt 0), .ref a1, .int (Int32.ofInt 0)])), (a1, .inl (G.2.2.1, 16, .inr (.inr (.inr (.inr (fun _ => none))))))]
def rX7 (G : zG) (q : Nat) (w : va_W) : Prop := ∃ a1 : Nat, w = sX7 G q a1
set_option maxRecDepth 100000 in
set_option maxHeartbeats 4000000 in
theorem N_X7 (l : Launch) (G : zG) (ws : va_W) (q : Nat) : zMetN l yX7_init cX7_init 1 12 1 16 G ws q (.inr (5, [.int 0, .null, .int 0])) (rX7 G q) := by
  refine zmetN rfl rfl ?_
  intro p e s m args below meth c hc hr hlk hmn
  refine zn_this (pc := 0) hc dX7_init_0 rfl ?_
  refine zn_obj (pc := 1) hc lk_X7_oi oi_i oi_c dX7_init_1 (by decide) (by decide) ?_
  refine zn_this (pc := 4) hc dX7_init_4 rfl ?_
  refine zn_iconst (pc := 5) hc dX7_init_5 ?_
  refine zn_put (pc := 6) (C := RX7) (T := TX7) (N := 3) (ci := 5) (k := 0) (o := 0) (ty := .int) hc tyX7_ok nmX7 inT7 rfl rfl (by decide) (Nat.le_of_ble_eq_true rfl) lk_X7_9 rfl (by decide +kernel) rfl rfl dX7_init_6 (w' := [(q, .inr (5, [.int (Int32.ofInt 0), .null, .int 0]))]) rfl ?_
  refine zn_this (pc := 9) hc dX7_init_9 rfl ?_
  refine zn_bipush (pc := 10) hc dX7_init_10 (by decide) ?_
  refine zn_newq (pc := 12) (n := 16) hc rfl (by decide) cl_X7_15 dX7_init_12 ⟨by decide, by decide⟩ (fun a1 => ?_)
  refine zn_putF (pc := 15) (C := RX7) (T := TX7) (N := 3) (ci := 5) (k := 1) (o := 0) (ty := (.array (.object "PackedPages$Moment"))) hc hmn tyX7_ok nmX7 inT7 rfl rfl (by decide) (Nat.le_of_ble_eq_true rfl) lk_X7_17 rfl rfl (by decide +kernel) rfl rfl dX7_init_15 (w' := [(q, .inr (5, [.int (Int32.ofInt 0), .ref a1, .int 0])), (a1, .inl (G.2.2.1, 16, .inr (.inr (.inr (.inr (fun _ => none))))))]) rfl ?_
  refine zn_this (pc := 18) hc dX7_init_18 rfl ?_
  refine zn_iconst (pc := 19) hc dX7_init_19 ?_
  refine zn_put (pc := 20) (C := RX7) (T := TX7) (N := 3) (ci := 5) (k := 2) (o := 0) (ty := .int) hc tyX7_ok nmX7 inT7 rfl rfl (by decide) (Nat.le_of_ble_eq_true rfl) lk_X7_21 rfl (by decide +kernel) rfl rfl dX7_init_20 (w' := [(q, .inr (5, [.int (Int32.ofInt 0), .ref a1, .int (Int32.ofInt 0)])), (a1, .inl (G.2.2.1, 16, .inr (.inr (.inr (.inr (fun _ => none))))))]) rfl ?_
  exact zn_ret (pc := 23) hc hr hlk dX7_init_23 (by decide) (by decide) ⟨a1, rfl⟩
