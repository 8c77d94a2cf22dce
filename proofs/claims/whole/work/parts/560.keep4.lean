set_option maxHeartbeats 1000000 in
theorem S_X7_keep (l : Launch) (G : zG) (v1 : Int) (r3 : Nat) (M : zMem) (Qr : zMem → Prop) (h : T_X7_keep v1 r3 Qr M) : zMetV l yX7_keep cX7_keep 5 none 2 80 3 1342 G [.inr 575, .inl v1, .inr 127, .inr r3] M Qr := by
  refine zmetV rfl (by decide : 4 ≤ 5) [some (.inr 575), some (.inl v1), some (.inr 127), some (.inr r3), none] rfl ?_
  intro p e s m args below meth c hc hr hlk
  unfold T_X7_keep at h
  obtain ⟨hs, hsz, h4, hdn, hq⟩ := h
  have hQ := hq _ rfl
  obtain ⟨i, hi⟩ : ∃ i : Nat, M.1 514 = (i : Int) := ⟨(M.1 514).toNat, by omega⟩
  have hi16 : i < 16 := by omega
  have hz0 : zmo (M.1 514) = 64 * (16 + i) := by unfold zmo; rw [hi]; rfl
  have hr3 : r3 < 640 := by
    obtain ⟨n, hn, -⟩ := zlen_mem (id := r3) (i := 0) ⟨Int.le_refl 0, by rw [h4]; decide⟩
    exact (zlen_small _ hn).1
  refine zj_aload_n (pc := 0) (x := 575) hc dX7_keep_0 rfl ?_
  refine zg_8_1 (pc := 1) hc lk_X7_17 dX7_keep_1 ?_
  refine zj_aload_n (pc := 4) (x := 575) hc dX7_keep_4 rfl ?_
  refine zg_8_2 (pc := 5) hc lk_X7_21 dX7_keep_5 ?_
  refine zm_of (fun f h1 h2 hRM => ?_)
  have hv : inR v1 := h2 (.inl v1) (List.mem_cons_of_mem _ List.mem_cons_self)
  have hir : inR (i : Int) := ⟨by omega, by omega⟩
  intro ls H locs hL hW hS
  show W p l e _ s m args below meth c H locs 0 0 _ (F0 m 8 ls [.int (Int32.ofInt (M.1 514)), .ref (zad G 513)])
  rw [hi]
  refine va_aldq (a := zad G 513) hc.1 hc.2.1 hc.2.2.2.2.2.1.1 hW.1 58 1 (zmom_513 G M f) rfl (zr_in hir (by omega) (by omega)) dX7_keep_8 ?_
  rw [zr_cl hir, Int.toNat_natCast]
  have hL : lv_has ls 5 [(0, .ref (zad G 575)), (1, .int (Int32.ofInt v1)), (2, .ref (zad G 127)), (3, .ref (zad G r3))] := hL
  cases hfi : f i with
  | some q =>
    obtain ⟨a, b, d⟩ := q
    refine lv_astore hc.1 hc.2.1 (x := a) dX7_keep_9 hL (by decide) rfl (fun ls2 hL2 => ?_)
    have hL2 : lv_has ls2 5 [(4, .ref a), (0, .ref (zad G 575)), (1, .int (Int32.ofInt v1)), (2, .ref (zad G 127)), (3, .ref (zad G r3))] := hL2
    refine lv_aload hc.1 hc.2.1 (pc := 11) dX7_keep_11 (lv_at hL2 0 rfl) ?_
    refine lv_ifnonnull hc.1 hc.2.1 (pc := 13) (tgt := 36) dX7_keep_13 (by decide) ?_
    have hox : zoth i M (setS M (64 * (16 + i) + 5) 1) := zoth_set (by omega) (by omega)
    have hcl : zcl G (setS M (64 * (16 + i) + 5) 1) (zmomX G (setS M (64 * (16 + i) + 5) 1) f) = zcl G M (zmomX G M f) := by
      obtain ⟨A, B, hA, A', hu⟩ := zmom_upd G M f hi16
      rw [hu _ f hox (fun _ _ => rfl), hu M f (zoth_rf i M) (fun _ _ => rfl), zmomC_cong (M := M) (M' := setS M (64 * (16 + i) + 5) 1) (f := f) rfl (if_neg (by omega)) (if_neg (by omega)) rfl rfl]
    refine zk_tail (M := M) (Mx := setS M (64 * (16 + i) + 5) 1) (i := i) (v1 := v1) (r3 := r3) hc hr hlk (by decide) (by decide) ⟨by decide, by decide⟩ (by decide) (by decide) hi16 hi hsz h4 hdn hv hfi (if_pos rfl) hox (zkept_eq ?_ ?_ ?_ rfl rfl (fun k _ _ h5 => ?_) (fun _ _ _ => rfl)) hQ ls2 H locs hL2 ⟨by rw [hcl]; exact hW.1, by rw [hcl]; exact hW.2.1, zRM_set hW.2.2.1 ⟨by decide, by decide⟩, fun j hj h5 => ?_⟩ hS
    · exact if_neg (by omega)
    · exact if_neg (by omega)
    · exact if_neg (by omega)
    · exact if_neg (by rw [hz0] at h5; exact h5)
    · by_cases hji : j = i
      · rw [hji, hfi]; exact fun hh => by cases hh
      · exact hW.2.2.2 j hj (by rw [← h5]; exact (if_neg (by omega)).symm)
  | none =>
    refine lv_astoreN hc.1 hc.2.1 dX7_keep_9 hL (by decide) rfl (fun ls2 hL2 => ?_)
    have hL2 : lv_has ls2 5 [(4, .null), (0, .ref (zad G 575)), (1, .int (Int32.ofInt v1)), (2, .ref (zad G 127)), (3, .ref (zad G r3))] := hL2
    refine lv_aloadN hc.1 hc.2.1 (pc := 11) dX7_keep_11 (lv_at hL2 0 rfl) ?_
    refine lv_ifnonnullN hc.1 hc.2.1 (pc := 13) dX7_keep_13 ?_
    have key : zN p l e (zRoom 2 80 3 1342) s m args below meth c G 5 0 0 (MQ below (zQv G Qr) args s 3 1342 (zA G)) [(4, .null), (0, .ref (zad G 575)), (1, .int (Int32.ofInt v1)), (2, .ref (zad G 127)), (3, .ref (zad G r3))] (zcl G M (zmomX G M f)) 16 [] [] := by
      refine zn_new (pc := 16) (C := RX5) (T := TX5) (N := 4) (ci := 3) (fs := [.int 0, .int 0, .null, .null]) hc tyX5_ok inT5 rfl cl_X7_15 it_X5 ini_X5 (fun j hj => by match j, hj with | 0, _ => rfl | 1, _ => rfl | 2, _ => rfl | 3, _ => rfl) dX7_keep_16 ⟨by decide, by decide⟩ (fun q => ?_)
      refine zn_dup (pc := 19) hc dX7_keep_19 ?_
      refine zn_callN (pc := 20) (w := []) (q := q) (E0 := .inr (3, [.int 0, .int 0, .null, .null])) hc ks_X5_init rfl iv_X5_init nw_X7_i24 (N_X5 l G (zcl G M (zmomX G M f) ++ []) q) ⟨by decide, by decide⟩ (Nat.le_of_ble_eq_true rfl) ⟨by decide, by decide⟩ dX7_keep_20 ?_
      rintro _ ⟨b, d, rfl⟩
      intro ls3 H3 locs3 hL3 hP3 hD3 hS3
      rw [List.nil_append] at hP3 hD3
      refine lv_astore hc.1 hc.2.1 (pc := 23) (x := q) dX7_keep_23 hL3 (by decide) rfl (fun ls4 hL4 => ?_)
      have hL4 : lv_has ls4 5 [(4, .ref q), (0, .ref (zad G 575)), (1, .int (Int32.ofInt v1)), (2, .ref (zad G 127)), (3, .ref (zad G r3))] := hL4
      have hlen : 58 < (zcl G M (zmomX G M f)).length := (List.getElem?_eq_some_iff.mp (zmom_513 G M f)).1
      have at8 : (zcl G M (zmomX G M f) ++ sX5 G q b d)[8]? = some (zo8 G M) := rfl
      refine lv_aload_n hc.1 hc.2.1 (pc := 25) (i := 0) dX7_keep_25 rfl (lv_at hL4 1 rfl) ?_
      refine va_get (D := G.1) (ci := 5) (C := RX7) (T := TX7) (N := 3) (pc := 26) hc.1 hc.2.1 hc.2.2.2.2.1 inT7 hc.2.2.2.1 hc.2.2.2.2.2.1.1 hP3 8 at8 rfl 1 (by decide) (hc.2.2.2.2.1 _ lk_X7_17) (fun _ h9 => h9) rfl dX7_keep_26 ?_
      refine lv_aload_n hc.1 hc.2.1 (pc := 29) (i := 0) dX7_keep_29 rfl (lv_at hL4 1 rfl) ?_
      refine va_get (D := G.1) (ci := 5) (C := RX7) (T := TX7) (N := 3) (pc := 30) hc.1 hc.2.1 hc.2.2.2.2.1 inT7 hc.2.2.2.1 hc.2.2.2.2.2.1.1 hP3 8 at8 rfl 2 (by decide) (hc.2.2.2.2.1 _ lk_X7_21) (fun _ h9 => h9) rfl dX7_keep_30 ?_
      refine lv_aload hc.1 hc.2.1 (pc := 33) dX7_keep_33 (lv_at hL4 0 rfl) ?_
      rw [hi]
      refine va_astq (a := zad G 513) (pc := 35) (r := (RX5, TX5, 4)) hc.1 hc.2.1 hc.2.2.2.2.2.1.1 hP3 hD3 hS3 58 1 ((zcl G M (zmomX G M f)).length + 0) 3 (by rw [List.getElem?_append_left hlen]; exact zmom_513 G M f) rfl (zn_at rfl) rfl (zr_in hir (by omega) (by omega)) dX7_keep_35 (fun H4 locs4 hP4 hD4 hS4 => ?_)
      rw [zr_cl hir, Int.toNat_natCast] at hP4 hD4
      have hpm := zmom_new G M f (q := q) (b := b) (d := d) hi16 hfi
      have hP5 := vaP_perm hpm hP4
      have hD5 := vaD_perm hpm hD4
      have hox := zfr_oth i M
      refine zk_tail (M := M) (Mx := zfr i M) (i := i) (v1 := v1) (r3 := r3) (f := va_up f i (some (q, b, d))) hc hr hlk (by decide) (by decide) ⟨by decide, by decide⟩ (by decide) (by decide) hi16 hi hsz h4 hdn hv (va_up_self _ _ _) ?_ hox (zkept_eq (hox 514 (by omega)).1 (hox 66 (by omega)).1 (hox 512 (by omega)).1 (hox 64 (by omega)).2 (hox r3 (by omega)).2 (fun k a1 a2 a3 => ?_) (fun k a1 a2 => ?_)) hQ ls4 H4 locs4 hL4 ⟨hP5, hD5, ?_, fun j hj h5 => ?_⟩ hS4
      · unfold zfr
        rw [putA_1, putA_1, setS_1, if_neg (by omega), setS_1, if_neg (by omega), setS_1, if_pos rfl]
      · rw [hz0] at a1 a2 a3
        unfold zfr
        rw [putA_1, putA_1, setS_1, if_neg a2, setS_1, if_neg a1, setS_1, if_neg a3]
      · rw [hz0] at a1 a2
        unfold zfr
        rw [putA_2, if_neg a2, putA_2, if_neg a1, setS_2, setS_2, setS_2]
      · unfold zfr
        exact zRM_put (zRM_put (zRM_set (zRM_set (zRM_set hW.2.2.1 ⟨by decide, by decide⟩) zr_inR0) zr_inR0) (fun _ => zr_inR0)) (fun _ => zr_inR0)
      · by_cases hji : j = i
        · rw [hji, va_up_self]; exact fun hh => by cases hh
        · rw [va_up_ne _ _ hji]
          refine hW.2.2.2 j hj ?_
          rw [← h5]
          exact (hox _ (by omega)).1.symm
    exact key ls2 H locs hL2 (by rw [List.append_nil]; exact hW.1) (by rw [List.append_nil]; exact hW.2.1) hS
