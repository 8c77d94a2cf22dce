section zKeep
variable {p : Program} {l : Launch} {e : Env} {R : Room} {s : State} {m : MethodId} {args : Array Value} {below : List Frame} {meth : Method} {c : Code} {cells slots : Nat} {Q : State → Prop} {cc : ByteArray} {nL : Nat} {own : String} {G : zG} {pc : Nat} {Lv : List (Nat × Value)} {st : List Value} {M : zMem} {f : Nat → Option (Nat × Nat × Nat)} {i a b d : Nat}
theorem zm_cpT2 (hc : zCx p s m args c cc nL own G) (hi : i < 16) (hf : f i = some (a, b, d)) {index id : Nat} {n : Int} (hid : alen id = 1334) (hn : n = 1334) (hd : decode cc pc = .ok (.invokestatic index, 3)) (hlink : Cond.methodLink own index arraycopyName ∈ lw_ws) (hfr : 1 ≤ R.frames) (hlo : (nativeFrameWords "java/lang/System" "arraycopy" 5 + 11) ≤ R.locals) (kk : ∀ M1, M1 = putA M (64 * (16 + i) + 2) (M.2 id) → zM p l e R s m args below meth c G nL cells slots Q f Lv (pc + 3) [] M1) : zM p l e R s m args below meth c G nL cells slots Q f Lv pc [.int (Int32.ofInt n), .int (Int32.ofInt 0), .ref b, .int (Int32.ofInt 0), .ref (zad G id)] M := by
  intro ls H locs hL hW hS
  obtain ⟨n', hn', hl'⟩ := zlen_mem (id := id) (i := 0) ⟨Int.le_refl 0, by rw [hid]; decide⟩
  have e0 : n' = 1334 := by omega
  subst e0
  obtain ⟨ka, hka, -⟩ := zarr_at G M (zmomX G M f) hn'
  obtain ⟨q, -, h1, -, -, hs, -⟩ := zmom_at G M f hi hf
  refine zw_copy hc (N := 1334) (ka := ka) (kb := q + 1) hn (by decide) hd hlink na_copy st_copy in_System hL.1 hW.1 hW.2.1 hS hka h1 hfr hlo (fun H1 locs1 hP hD hS1 => ?_)
  have e := hs (putA M (64 * (16 + i) + 2) (M.2 id)) (zoth_put (by omega) (by omega)) rfl (if_neg (by omega))
  rw [putA_2, if_pos rfl] at e
  rw [e] at hP hD
  exact kk _ rfl ls H1 locs1 hL ⟨hP, hD, zRM_put hW.2.2.1 (fun j => hW.2.2.1.2 id j), hW.2.2.2⟩ hS1
theorem zm_cpT3 (hc : zCx p s m args c cc nL own G) (hi : i < 16) (hf : f i = some (a, b, d)) {index id : Nat} {n : Int} (hid : alen id = 4) (hn : n = 4) (hd : decode cc pc = .ok (.invokestatic index, 3)) (hlink : Cond.methodLink own index arraycopyName ∈ lw_ws) (hfr : 1 ≤ R.frames) (hlo : (nativeFrameWords "java/lang/System" "arraycopy" 5 + 11) ≤ R.locals) (kk : ∀ M1, M1 = putA M (64 * (16 + i) + 3) (M.2 id) → zM p l e R s m args below meth c G nL cells slots Q f Lv (pc + 3) [] M1) : zM p l e R s m args below meth c G nL cells slots Q f Lv pc [.int (Int32.ofInt n), .int (Int32.ofInt 0), .ref d, .int (Int32.ofInt 0), .ref (zad G id)] M := by
  intro ls H locs hL hW hS
  obtain ⟨n', hn', hl'⟩ := zlen_mem (id := id) (i := 0) ⟨Int.le_refl 0, by rw [hid]; decide⟩
  have e0 : n' = 4 := by omega
  subst e0
  obtain ⟨ka, hka, -⟩ := zarr_at G M (zmomX G M f) hn'
  obtain ⟨q, -, -, h1, -, -, hs⟩ := zmom_at G M f hi hf
  refine zw_copy hc (N := 4) (ka := ka) (kb := q + 2) hn (by decide) hd hlink na_copy st_copy in_System hL.1 hW.1 hW.2.1 hS hka h1 hfr hlo (fun H1 locs1 hP hD hS1 => ?_)
  have e := hs (putA M (64 * (16 + i) + 3) (M.2 id)) (zoth_put (by omega) (by omega)) rfl (if_neg (by omega))
  rw [putA_2, if_pos rfl] at e
  rw [e] at hP hD
  exact kk _ rfl ls H1 locs1 hL ⟨hP, hD, zRM_put hW.2.2.1 (fun j => hW.2.2.1.2 id j), hW.2.2.2⟩ hS1
theorem zm_cpF2 (hc : zCx p s m args c cc nL own G) (hi : i < 16) (hf : f i = some (a, b, d)) {index id : Nat} {n : Int} (hid : alen id = 1334) (hn : n = 1334) (hd : decode cc pc = .ok (.invokestatic index, 3)) (hlink : Cond.methodLink own index arraycopyName ∈ lw_ws) (hfr : 1 ≤ R.frames) (hlo : (nativeFrameWords "java/lang/System" "arraycopy" 5 + 11) ≤ R.locals) (kk : ∀ M1, M1 = putA M id (M.2 (64 * (16 + i) + 2)) → zM p l e R s m args below meth c G nL cells slots Q f Lv (pc + 3) [] M1) : zM p l e R s m args below meth c G nL cells slots Q f Lv pc [.int (Int32.ofInt n), .int (Int32.ofInt 0), .ref (zad G id), .int (Int32.ofInt 0), .ref b] M := by
  intro ls H locs hL hW hS
  obtain ⟨n', hn', hl'⟩ := zlen_mem (id := id) (i := 0) ⟨Int.le_refl 0, by rw [hid]; decide⟩
  have e0 : n' = 1334 := by omega
  subst e0
  obtain ⟨kb, hkb, hset⟩ := zarr_at G M (zmomX G M f) hn'
  obtain ⟨q, -, h1, -⟩ := zmom_at G M f hi hf
  refine zw_copy hc (N := 1334) (ka := q + 1) (kb := kb) hn (by decide) hd hlink na_copy st_copy in_System hL.1 hW.1 hW.2.1 hS h1 hkb hfr hlo (fun H1 locs1 hP hD hS1 => ?_)
  have hsm := (zlen_small _ hn').1
  dsimp only at hsm
  have e1 : zmomX G (putA M id (M.2 (64 * (16 + i) + 2))) f = zmomX G M f := zmX_cong (fun k hk => ⟨rfl, if_neg (by omega)⟩)
  rw [hset, ← e1] at hP hD
  exact kk _ rfl ls H1 locs1 hL ⟨hP, hD, zRM_put hW.2.2.1 (fun j => hW.2.2.1.2 _ j), hW.2.2.2⟩ hS1
theorem zm_cpF3 (hc : zCx p s m args c cc nL own G) (hi : i < 16) (hf : f i = some (a, b, d)) {index id : Nat} {n : Int} (hid : alen id = 4) (hn : n = 4) (hd : decode cc pc = .ok (.invokestatic index, 3)) (hlink : Cond.methodLink own index arraycopyName ∈ lw_ws) (hfr : 1 ≤ R.frames) (hlo : (nativeFrameWords "java/lang/System" "arraycopy" 5 + 11) ≤ R.locals) (kk : ∀ M1, M1 = putA M id (M.2 (64 * (16 + i) + 3)) → zM p l e R s m args below meth c G nL cells slots Q f Lv (pc + 3) [] M1) : zM p l e R s m args below meth c G nL cells slots Q f Lv pc [.int (Int32.ofInt n), .int (Int32.ofInt 0), .ref (zad G id), .int (Int32.ofInt 0), .ref d] M := by
  intro ls H locs hL hW hS
  obtain ⟨n', hn', hl'⟩ := zlen_mem (id := id) (i := 0) ⟨Int.le_refl 0, by rw [hid]; decide⟩
  have e0 : n' = 4 := by omega
  subst e0
  obtain ⟨kb, hkb, hset⟩ := zarr_at G M (zmomX G M f) hn'
  obtain ⟨q, -, -, h1, -⟩ := zmom_at G M f hi hf
  refine zw_copy hc (N := 4) (ka := q + 2) (kb := kb) hn (by decide) hd hlink na_copy st_copy in_System hL.1 hW.1 hW.2.1 hS h1 hkb hfr hlo (fun H1 locs1 hP hD hS1 => ?_)
  have hsm := (zlen_small _ hn').1
  dsimp only at hsm
  have e1 : zmomX G (putA M id (M.2 (64 * (16 + i) + 3))) f = zmomX G M f := zmX_cong (fun k hk => ⟨rfl, if_neg (by omega)⟩)
  rw [hset, ← e1] at hP hD
  exact kk _ rfl ls H1 locs1 hL ⟨hP, hD, zRM_put hW.2.2.1 (fun j => hW.2.2.1.2 _ j), hW.2.2.2⟩ hS1
-- a boolean of a known object
theorem zm_put66 (hc : zCx p s m args c cc nL own G) {index : Nat} {x : Int} (hx : x = 0 ∨ x = 1) (hlink : Cond.fieldLink own index "PackedPages$Disk" "down" "Z" ∈ lw_ws) (hd : decode cc pc = .ok (.putfield index, 3)) (kk : ∀ M1 : zMem, M1 = setS M 66 x → zM p l e R s m args below meth c G nL cells slots Q f Lv (pc + 3) st M1) : zM p l e R s m args below meth c G nL cells slots Q f Lv pc (.int (Int32.ofInt x) :: .ref (zad G 127) :: st) M := by
  intro ls H locs hL hW hS
  refine va_put (D := G.1) (ci := 0) (C := RX0) (T := TX0) (N := 5) (ty := .boolean) hc.1 hc.2.1 hc.2.2.2.2.1 inT0 tyX0 tyX0_ok nmX0 hc.2.2.2.1 hc.2.2.2.2.2.1.1 hW.1 hW.2.1 hS 1 rfl rfl 2 (by decide) (hc.2.2.2.2.1 _ hlink) (fun _ h9 => h9) rfl (by decide +kernel) (by rcases hx with rfl | rfl <;> rfl) (by rcases hx with rfl | rfl <;> rfl) (Nat.le_of_ble_eq_true rfl) hd (fun H1 locs1 hP hD hS1 => ?_)
  have e1 : zmomX G (setS M 66 x) f = zmomX G M f := zmX_cong (fun k hk => ⟨if_neg (by omega), rfl⟩)
  have hP : va_P G.1 vwCl (zcl G (setS M 66 x) (zmomX G M f)) H1 := hP
  have hD : va_D (zA G) (zcl G (setS M 66 x) (zmomX G M f)) := hD
  rw [← e1] at hP hD
  exact kk _ rfl ls H1 locs1 hL ⟨hP, hD, zRM_set hW.2.2.1 (by rcases hx with rfl | rfl <;> exact ⟨by decide, by decide⟩), fun j hj h5 => hW.2.2.2 j hj (by rw [← h5]; exact (if_neg (by omega)).symm)⟩ hS1
end zKeep
