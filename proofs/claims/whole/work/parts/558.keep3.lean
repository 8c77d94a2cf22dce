-- Past.keep, from the moment on
theorem zk_tail {p : Program} {l : Launch} {e : Env} {R : Room} {s : State} {m : MethodId} {args : Array Value} {below : List Frame} {meth : Method} {c : Code} {cells slots mc ms : Nat} {G : zG} {M Mx : zMem} {f : Nat → Option (Nat × Nat × Nat)} {i a b d : Nat} {v1 : Int} {r3 : Nat} {Qr : zMem → Prop}
    (hc : zCx p s m args c cX7_keep 5 RX7 G) (hr : meth.sig.returnType = none) (hlk : meth.locks = false) (hfr : 1 ≤ R.frames) (hlo : 80 ≤ R.locals) (hcs : cells ≤ R.cells ∧ slots ≤ R.slots) (hcc : cells ≤ mc) (hss : slots ≤ ms) (hi : i < 16) (hs : M.1 514 = (i : Int)) (hsz : 0 ≤ M.1 512 ∧ M.1 512 ≤ 16) (h4 : alen r3 = 4) (hdn : M.1 66 = 0 ∨ M.1 66 = 1) (hv : inR v1) (hf : f i = some (a, b, d)) (h5 : Mx.1 (64 * (16 + i) + 5) = 1) (hox : zoth i M Mx) (hz : zkept v1 r3 Mx = zkept v1 r3 M) (hQ : Qr (zkept v1 r3 M)) :
    zM p l e R s m args below meth c G 5 cells slots (MQ below (zQv G Qr) args s mc ms (zA G)) f [(4, .ref a), (0, .ref (zad G 575)), (1, .int (Int32.ofInt v1)), (2, .ref (zad G 127)), (3, .ref (zad G r3))] 36 [] Mx := by
  refine zm_aload (pc := 36) hc 0 dX7_keep_36 rfl ?_
  refine zm_iload_n (pc := 38) hc 2 dX7_keep_38 rfl ?_
  refine zm_mput0 (pc := 39) hc hi hf hv lk_X7_25 dX7_keep_39 (fun M1 e1 => ?_)
  refine zm_aload (pc := 42) hc 0 dX7_keep_42 rfl ?_
  refine zm_aload_n (pc := 44) hc 3 dX7_keep_44 rfl ?_
  refine zm_get (pc := 45) (C := RX0) (T := TX0) (N := 5) (ci := 0) (k := 2) (o0 := 1) hc inT0 rfl rfl (by decide) rfl lk_X7_28 dX7_keep_45 ?_
  have x66 : M1.1 66 = M.1 66 := by rw [e1, setS_1, if_neg (by omega)]; exact (hox 66 (by omega)).1
  refine zm_mput1 (pc := 48) hc hi hf (by rw [x66]; exact hdn) lk_X7_34 dX7_keep_48 (fun M2 e2 => ?_)
  refine zm_aload_n (pc := 51) hc 3 dX7_keep_51 rfl ?_
  refine zm_get (pc := 52) (C := RX0) (T := TX0) (N := 5) (ci := 0) (k := 0) (o0 := 1) hc inT0 rfl rfl (by decide) rfl lk_X7_35 dX7_keep_52 ?_
  refine zm_iconst (pc := 55) hc dX7_keep_55 ?_
  refine zm_aload (pc := 56) hc 0 dX7_keep_56 rfl ?_
  refine zm_mget (pc := 58) hc hi hf (k := 2) (by decide) rfl lk_X7_39 dX7_keep_58 ?_
  refine zm_iconst (pc := 61) hc dX7_keep_61 ?_
  refine zm_sipush (pc := 62) hc dX7_keep_62 (by decide) ?_
  refine zm_cpT2 (pc := 65) (id := 64) hc hi hf alen_64 rfl dX7_keep_65 lk_X7_40 hfr (Nat.le_trans (by decide) hlo) (fun M3 e3 => ?_)
  refine zm_aload_n (pc := 68) hc 4 dX7_keep_68 rfl ?_
  refine zm_iconst (pc := 69) hc dX7_keep_69 ?_
  refine zm_aload (pc := 70) hc 0 dX7_keep_70 rfl ?_
  refine zm_mget (pc := 72) hc hi hf (k := 3) (by decide) rfl lk_X7_46 dX7_keep_72 ?_
  refine zm_iconst (pc := 75) hc dX7_keep_75 ?_
  refine zm_iconst (pc := 76) hc dX7_keep_76 ?_
  refine zm_cpT3 (pc := 77) (id := r3) hc hi hf h4 rfl dX7_keep_77 lk_X7_40 hfr (Nat.le_trans (by decide) hlo) (fun M4 e4 => ?_)
  have hr3 : r3 < 640 := by
    obtain ⟨n, hn, -⟩ := zlen_mem (id := r3) (i := 0) ⟨Int.le_refl 0, by rw [h4]; decide⟩
    exact (zlen_small _ hn).1
  have y1 : ∀ k, k < 1024 → M4.1 k = Mx.1 k := by
    intro k hk
    rw [e4, putA_1, e3, putA_1, e2, setS_1, if_neg (by omega), e1, setS_1, if_neg (by omega)]
  have o1 : ∀ k, k < 1024 → Mx.1 k = M.1 k := fun k hk => (hox k (by omega)).1
  refine zm_to (L := [some (.inr 575), some (.inl v1), some (.inr 127), some (.inr r3), none]) (st := []) (fun v h => by cases h) (fun v h => by
    simp only [List.mem_cons, Option.some.injEq, reduceCtorEq, List.not_mem_nil, or_false] at h
    rcases h with rfl | rfl | rfl | rfl
    · trivial
    · exact hv
    · trivial
    · trivial) (fun q hq => List.mem_cons_of_mem _ hq) ?_
  refine zj_aload_n (pc := 80) (x := 575) hc dX7_keep_80 rfl ?_
  refine zj_aload_n (pc := 81) (x := 575) hc dX7_keep_81 rfl ?_
  refine zg_8_2 (pc := 82) hc lk_X7_21 dX7_keep_82 ?_
  refine zj_iconst (pc := 85) hc dX7_keep_85 (zin _ (by decide)) ?_
  have f514 : M4.1 514 = (i : Int) := by rw [y1 514 (by decide), o1 514 (by decide), hs]
  have f512 : M4.1 512 = M.1 512 := by rw [y1 512 (by decide), o1 512 (by decide)]
  refine zj_iadd (pc := 86) hc dX7_keep_86 ⟨by omega, by omega⟩ ?_
  refine zj_bipush (pc := 87) hc dX7_keep_87 (by decide) (zin _ (by decide)) ?_
  refine zj_irem (pc := 89) hc dX7_keep_89 (by decide) ?_
  refine zs_8_2 (pc := 90) hc lk_X7_21 dX7_keep_90 (fun M5 e5 => ?_)
  refine zj_aload_n (pc := 93) (x := 575) hc dX7_keep_93 rfl ?_
  refine zj_bipush (pc := 94) hc dX7_keep_94 (by decide) (zin _ (by decide)) ?_
  refine zj_aload_n (pc := 96) (x := 575) hc dX7_keep_96 rfl ?_
  refine zg_8_0 (pc := 97) hc lk_X7_9 dX7_keep_97 ?_
  refine zj_iconst (pc := 100) hc dX7_keep_100 (zin _ (by decide)) ?_
  have g512 : M5.1 512 = M.1 512 := by rw [e5, setS_1, if_neg (by decide), f512]
  refine zj_iadd (pc := 101) hc dX7_keep_101 ⟨by omega, by omega⟩ ?_
  refine zj_min (pc := 102) hc dX7_keep_102 lk_X7_49 st_min in_Math co_min hfr (Nat.le_trans (by decide) hlo) hcs ?_
  refine zs_8_0 (pc := 105) hc lk_X7_9 dX7_keep_105 (fun M6 e6 => ?_)
  refine zj_vret (pc := 108) hc hr hlk dX7_keep_108 hcc hss ?_
  have hM6 : M6 = zkept v1 r3 Mx := by
    have s514 : Mx.1 514 = (i : Int) := by rw [o1 514 (by decide), hs]
    have ez : zmo (Mx.1 514) = 64 * (16 + i) := by unfold zmo; rw [s514]; rfl
    have e0 : setS Mx (64 * (16 + i) + 5) 1 = Mx := by
      refine Prod.ext (funext fun k => ?_) rfl
      rw [setS_1]
      split
      · rename_i h; rw [h, h5]
      · rfl
    unfold zkept
    rw [ez, e0, e6, g512, e5, f514, e4, e3, e2, x66, e1, s514, o1 66 (by decide), o1 512 (by decide)]
    rw [putA_2, if_neg (by omega), setS_2, setS_2]
  rw [hM6, hz]
  exact hQ
