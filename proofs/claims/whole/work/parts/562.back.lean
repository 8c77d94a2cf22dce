section zBack
variable {p : Program} {l : Launch} {e : Env} {R : Room} {s : State} {m : MethodId} {args : Array Value} {below : List Frame} {meth : Method} {c : Code} {cells slots : Nat} {Q : State → Prop} {cc : ByteArray} {nL : Nat} {own : String} {G : zG} {pc : Nat} {Lv : List (Nat × Value)} {st : List Value} {M : zMem} {f : Nat → Option (Nat × Nat × Nat)} {i a b d : Nat}
theorem zm_dup (hc : zCx p s m args c cc nL own G) {q : Nat} (hd : decode cc pc = .ok (.dup, 1)) (kk : zM p l e R s m args below meth c G nL cells slots Q f Lv (pc + 1) (.ref q :: .ref q :: st) M) : zM p l e R s m args below meth c G nL cells slots Q f Lv pc (.ref q :: st) M := by
  intro ls H locs hL hW hS
  exact lv_dup hc.1 hc.2.1 hd rfl (kk ls H locs hL hW hS)
theorem zm_isub (hc : zCx p s m args c cc nL own G) {x y : Int} (hd : decode cc pc = .ok (.isub, 1)) (kk : zM p l e R s m args below meth c G nL cells slots Q f Lv (pc + 1) (.int (Int32.ofInt (x - y)) :: st) M) : zM p l e R s m args below meth c G nL cells slots Q f Lv pc (.int (Int32.ofInt y) :: .int (Int32.ofInt x) :: st) M := by
  intro ls H locs hL hW hS
  have he : Int32.ofInt x - Int32.ofInt y = Int32.ofInt (x - y) := by rw [← Int32.ofInt_sub]
  refine lv_isub hc.1 hc.2.1 hd ?_
  rw [he]
  exact kk ls H locs hL hW hS
theorem zm_puti (hc : zCx p s m args c cc nL own G) {C : String} {T : u_T} {N ci index k o0 q j : Nat} {fs : List Value} {x : Int} {ty0 : Nat → FieldType} (hx : inR x) (hty : ∀ k, k < N → parseFieldDescriptor (T k).2.2.1 = some (ty0 k)) (hnm : ∀ a, a < N → ∀ b, b < N → a ≠ b → (T a).2.1 ≠ (T b).2.1) (hin : ∀ w ∈ u_ws C T N, w ∈ lw_ws) (hcl : vwCl[ci]? = some (C, T, N)) (hob : (zobjs G M)[o0]? = some (q, .inr (ci, fs))) (hset : (zobjs G M).set o0 (q, .inr (ci, fs.set k (.int (Int32.ofInt x)))) = zobjs G (setS M j x)) (hj : j < 1024) (hk : k < N) (hl : k < fs.length) (hlink : Cond.fieldLink own index (T k).1 (T k).2.1 (T k).2.2.1 ∈ lw_ws) (hfin : (T k).2.2.2 = false) (hdesc : parseFieldDescriptor (T k).2.2.1 = some .int) (hd : decode cc pc = .ok (.putfield index, 3)) (kk : ∀ M1 : zMem, M1 = setS M j x → zM p l e R s m args below meth c G nL cells slots Q f Lv (pc + 3) st M1) : zM p l e R s m args below meth c G nL cells slots Q f Lv pc (.int (Int32.ofInt x) :: .ref q :: st) M := by
  intro ls H locs hL hW hS
  have hlt : o0 < (zobjs G M).length := (List.getElem?_eq_some_iff.mp hob).1
  refine va_put (D := G.1) (ci := ci) (C := C) (T := T) (N := N) (ty := .int) hc.1 hc.2.1 hc.2.2.2.2.1 hin ty0 hty hnm hc.2.2.2.1 hc.2.2.2.2.2.1.1 hW.1 hW.2.1 hS o0 (by unfold zcl; rw [List.getElem?_append_left hlt]; exact hob) hcl k hk (hc.2.2.2.2.1 _ hlink) (fun _ h9 => h9) hfin hdesc rfl rfl hl hd (fun H1 locs1 hP hD hS1 => ?_)
  have e1 : zmomX G (setS M j x) f = zmomX G M f := zmX_cong (fun k hk => ⟨if_neg (by omega), rfl⟩)
  have he : (zcl G M (zmomX G M f)).set o0 (q, .inr (ci, fs.set k (.int (Int32.ofInt x)))) = zcl G (setS M j x) (zmomX G M f) := by
    unfold zcl
    rw [List.set_append_left _ _ hlt, hset]
    rfl
  have hP : va_P G.1 vwCl ((zcl G M (zmomX G M f)).set o0 (q, .inr (ci, fs.set k (.int (Int32.ofInt x))))) H1 := hP
  have hD : va_D (zA G) ((zcl G M (zmomX G M f)).set o0 (q, .inr (ci, fs.set k (.int (Int32.ofInt x))))) := hD
  rw [he, ← e1] at hP hD
  exact kk _ rfl ls H1 locs1 hL ⟨hP, hD, zRM_set hW.2.2.1 hx, fun j hj h5 => hW.2.2.2 j hj (by rw [← h5]; exact (if_neg (by omega)).symm)⟩ hS1
end zBack
set_option maxHeartbeats 1000000 in
theorem S_X7_takeBack (l : Launch) (G : zG) (r2 : Nat) (M : zMem) (Qr : Int → zMem → Prop) (h : T_X7_takeBack r2 Qr M) : zMetI l yX7_takeBack cX7_takeBack 5 (some .int) 1 40 0 0 G [.inr 575, .inr 127, .inr r2] M Qr := by
  refine zmetI rfl (by decide : 3 ≤ 5) [some (.inr 575), some (.inr 127), some (.inr r2), none, none] rfl ?_
  intro p e s m args below meth c hc hr hlk
  unfold T_X7_takeBack at h
  obtain ⟨hs, hsz, h4, h5, hdn, hq⟩ := h
  have hQ := hq _ rfl
  have e15 : M.1 514 + 16 - 1 = M.1 514 + 15 := by omega
  obtain ⟨i, hi⟩ : ∃ i : Nat, Int.tmod (M.1 514 + 15) 16 = (i : Int) := ⟨(Int.tmod (M.1 514 + 15) 16).toNat, by rw [tmod_pos (by omega)]; omega⟩
  have hi16 : i < 16 := by rw [tmod_pos (by omega)] at hi; omega
  have hz0 : zmo (Int.tmod (M.1 514 + 15) 16) = 64 * (16 + i) := by unfold zmo; rw [hi]; rfl
  unfold ztaken at hQ
  rw [hz0] at h5 hdn hQ
  rw [hi] at hQ
  have hir : inR (i : Int) := ⟨by omega, by omega⟩
  have hr2 : r2 < 640 := by
    obtain ⟨n, hn, -⟩ := zlen_mem (id := r2) (i := 0) ⟨Int.le_refl 0, by rw [h4]; decide⟩
    exact (zlen_small _ hn).1
  refine zj_aload_n (pc := 0) (x := 575) hc dX7_takeBack_0 rfl ?_
  refine zg_8_2 (pc := 1) hc lk_X7_21 dX7_takeBack_1 ?_
  refine zj_bipush (pc := 4) hc dX7_takeBack_4 (by decide) (zin _ (by decide)) ?_
  refine zj_iadd (pc := 6) hc dX7_takeBack_6 ⟨by omega, by omega⟩ ?_
  refine zj_iconst (pc := 7) hc dX7_takeBack_7 (zin _ (by decide)) ?_
  refine zj_isub (pc := 8) hc dX7_takeBack_8 ⟨by omega, by omega⟩ ?_
  refine zj_bipush (pc := 9) hc dX7_takeBack_9 (by decide) (zin _ (by decide)) ?_
  refine zj_irem (pc := 11) hc dX7_takeBack_11 (by decide) ?_
  rw [e15, hi]
  refine zj_istore_n (pc := 12) hc dX7_takeBack_12 (by decide) ?_
  refine zj_aload_n (pc := 13) (x := 575) hc dX7_takeBack_13 rfl ?_
  refine zg_8_1 (pc := 14) hc lk_X7_17 dX7_takeBack_14 ?_
  refine zj_iload_n (pc := 17) (x := (i : Int)) hc dX7_takeBack_17 rfl ?_
  refine zm_of (fun f h1 h2 hRM => ?_)
  intro ls H locs hL hW hS
  have hL : lv_has ls 5 [(0, .ref (zad G 575)), (1, .ref (zad G 127)), (2, .ref (zad G r2)), (3, .int (Int32.ofInt (i : Int)))] := hL
  show W p l e _ s m args below meth c H locs 0 0 _ (F0 m 18 ls [.int (Int32.ofInt (i : Int)), .ref (zad G 513)])
  refine va_aldq (a := zad G 513) hc.1 hc.2.1 hc.2.2.2.2.2.1.1 hW.1 58 1 (zmom_513 G M f) rfl (zr_in hir (by omega) (by omega)) dX7_takeBack_18 ?_
  rw [zr_cl hir, Int.toNat_natCast]
  cases hfi : f i with
  | none => exact absurd hfi (hW.2.2.2 i hi16 h5)
  | some q =>
    obtain ⟨a, b, d⟩ := q
    refine lv_astore hc.1 hc.2.1 (x := a) dX7_takeBack_19 hL (by decide) rfl (fun ls2 hL2 => ?_)
    have hL2 : lv_has ls2 5 [(4, .ref a), (0, .ref (zad G 575)), (1, .ref (zad G 127)), (2, .ref (zad G r2)), (3, .int (Int32.ofInt (i : Int)))] := hL2
    refine lv_aload_n hc.1 hc.2.1 (pc := 21) (i := 0) dX7_takeBack_21 rfl (lv_at hL2 1 rfl) ?_
    refine va_get (D := G.1) (ci := 5) (C := RX7) (T := TX7) (N := 3) (pc := 22) hc.1 hc.2.1 hc.2.2.2.2.1 inT7 hc.2.2.2.1 hc.2.2.2.2.2.1.1 hW.1 8 rfl rfl 0 (by decide) (hc.2.2.2.2.1 _ lk_X7_9) (fun _ h9 => h9) rfl dX7_takeBack_22 ?_
    refine lv_if_eq hc.1 hc.2.1 (pc := 25) (tgt := 33) dX7_takeBack_25 (by decide) (fun h9 => ?_) (fun _ => ?_)
    · exfalso
      rw [zr_0, zr_eq (hRM.1 512) zr_inR0] at h9
      omega
    refine lv_aload hc.1 hc.2.1 (pc := 28) dX7_takeBack_28 (lv_at hL2 0 rfl) ?_
    refine lv_ifnonnull hc.1 hc.2.1 (pc := 30) (tgt := 35) dX7_takeBack_30 (by decide) ?_
    have key : zM p l e (zRoom 1 40 0 0) s m args below meth c G 5 0 0 (MQ below (zQi G Qr) args s 0 0 (zA G)) f [(4, .ref a), (0, .ref (zad G 575)), (1, .ref (zad G 127)), (2, .ref (zad G r2)), (3, .int (Int32.ofInt (i : Int)))] 35 [] M := by
      refine zm_aload_n (pc := 35) hc 1 dX7_takeBack_35 rfl ?_
      refine zm_iload_n (pc := 36) hc 4 dX7_takeBack_36 rfl ?_
      refine zm_puti (pc := 37) (C := RX7) (T := TX7) (N := 3) (ci := 5) (k := 2) (o0 := 8) (j := 514) hc hir tyX7_ok nmX7 inT7 rfl rfl rfl (by decide) (by decide) (Nat.le_of_ble_eq_true rfl) lk_X7_21 rfl (by decide +kernel) dX7_takeBack_37 (fun M1 e1 => ?_)
      refine zm_aload_n (pc := 40) hc 1 dX7_takeBack_40 rfl ?_
      refine zm_dup (pc := 41) hc dX7_takeBack_41 ?_
      refine zm_get (pc := 42) (C := RX7) (T := TX7) (N := 3) (ci := 5) (k := 0) (o0 := 8) hc inT7 rfl rfl (by decide) rfl lk_X7_9 dX7_takeBack_42 ?_
      refine zm_iconst (pc := 45) hc dX7_takeBack_45 ?_
      refine zm_isub (pc := 46) hc dX7_takeBack_46 ?_
      have x512 : M1.1 512 = M.1 512 := by rw [e1, setS_1, if_neg (by decide)]
      refine zm_puti (pc := 47) (C := RX7) (T := TX7) (N := 3) (ci := 5) (k := 0) (o0 := 8) (j := 512) hc ⟨by omega, by omega⟩ tyX7_ok nmX7 inT7 rfl rfl rfl (by decide) (by decide) (Nat.le_of_ble_eq_true rfl) lk_X7_9 rfl (by decide +kernel) dX7_takeBack_47 (fun M2 e2 => ?_)
      refine zm_aload_n (pc := 50) hc 2 dX7_takeBack_50 rfl ?_
      refine zm_aload (pc := 51) hc 0 dX7_takeBack_51 rfl ?_
      refine zm_mget (pc := 53) hc hi16 hfi (k := 1) (by decide) rfl lk_X7_34 dX7_takeBack_53 ?_
      have xd : ∀ k, 1024 ≤ k → M2.1 k = M.1 k := by
        intro k hk
        rw [e2, setS_1, if_neg (by omega), e1, setS_1, if_neg (by omega)]
      refine zm_put66 (pc := 56) hc (by rw [xd _ (by omega)]; exact hdn) lk_X7_28 dX7_takeBack_56 (fun M3 e3 => ?_)
      refine zm_aload (pc := 59) hc 0 dX7_takeBack_59 rfl ?_
      refine zm_mget (pc := 61) hc hi16 hfi (k := 2) (by decide) rfl lk_X7_39 dX7_takeBack_61 ?_
      refine zm_iconst (pc := 64) hc dX7_takeBack_64 ?_
      refine zm_aload_n (pc := 65) hc 2 dX7_takeBack_65 rfl ?_
      refine zm_get (pc := 66) (C := RX0) (T := TX0) (N := 5) (ci := 0) (k := 0) (o0 := 1) hc inT0 rfl rfl (by decide) rfl lk_X7_35 dX7_takeBack_66 ?_
      refine zm_iconst (pc := 69) hc dX7_takeBack_69 ?_
      refine zm_sipush (pc := 70) hc dX7_takeBack_70 (by decide) ?_
      refine zm_cpF2 (pc := 73) (id := 64) hc hi16 hfi alen_64 rfl dX7_takeBack_73 lk_X7_40 (by decide) (by decide) (fun M4 e4 => ?_)
      refine zm_aload (pc := 76) hc 0 dX7_takeBack_76 rfl ?_
      refine zm_mget (pc := 78) hc hi16 hfi (k := 3) (by decide) rfl lk_X7_46 dX7_takeBack_78 ?_
      refine zm_iconst (pc := 81) hc dX7_takeBack_81 ?_
      refine zm_aload_n (pc := 82) hc 3 dX7_takeBack_82 rfl ?_
      refine zm_iconst (pc := 83) hc dX7_takeBack_83 ?_
      refine zm_iconst (pc := 84) hc dX7_takeBack_84 ?_
      refine zm_cpF3 (pc := 85) (id := r2) hc hi16 hfi h4 rfl dX7_takeBack_85 lk_X7_40 (by decide) (by decide) (fun M5 e5 => ?_)
      refine zm_aload (pc := 88) hc 0 dX7_takeBack_88 rfl ?_
      refine zm_mget (pc := 90) hc hi16 hfi (k := 0) (by decide) rfl lk_X7_25 dX7_takeBack_90 ?_
      have xa : M5.1 (64 * (16 + i)) = M.1 (64 * (16 + i)) := by
        rw [e5, putA_1, e4, putA_1, e3, setS_1, if_neg (by omega), xd _ (by omega)]
      rw [xa]
      refine zm_to (L := []) (st := [.inl (M.1 (64 * (16 + i)))]) (fun v hv => by rw [List.mem_singleton] at hv; rw [hv]; exact hRM.1 _) (fun v hv => by cases hv) (fun q hq => by cases hq) ?_
      refine zj_iret (pc := 93) hc hr hlk dX7_takeBack_93 (by decide) (by decide) ?_
      have hM5 : M5 = putA (putA (setS (setS (setS M 514 (i : Int)) 512 (M.1 512 - 1)) 66 (M.1 (64 * (16 + i) + 1))) 64 (M.2 (64 * (16 + i) + 2))) r2 (M.2 (64 * (16 + i) + 3)) := by
        have a2 : M3.2 = M.2 := by rw [e3, e2, e1]; rfl
        have a3 : M4.2 (64 * (16 + i) + 3) = M.2 (64 * (16 + i) + 3) := by rw [e4, putA_2, if_neg (by omega), a2]
        rw [e5, a3, e4, a2, e3, xd _ (by omega), e2, x512, e1]
      rw [hM5]
      exact hQ
    exact key ls2 H locs hL2 hW hS
