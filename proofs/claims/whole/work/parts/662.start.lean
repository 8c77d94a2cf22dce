theorem dfX10 : ∀ j, j < 40 → defaultValue (tyX10 j) = vp_V [.int 0, .int 0, .null, .null, .null, .null, .null, .null, .null, .int 0, .int 0, .int 0, .int 0, .int 0, .null, .int 0, .null, .null, .int 0, .int 0, .null, .null, .null, .null, .int 0, .null, .null, .int 0, .int 0, .int 0, .int 0, .null, .null, .int 0, .int 0, .null, .int 0, .int 0, .null, .int 0] j := by
  intro j hj
  rcases (show j = 0 ∨ j = 1 ∨ j = 2 ∨ j = 3 ∨ j = 4 ∨ j = 5 ∨ j = 6 ∨ j = 7 ∨ j = 8 ∨ j = 9 ∨ j = 10 ∨ j = 11 ∨ j = 12 ∨ j = 13 ∨ j = 14 ∨ j = 15 ∨ j = 16 ∨ j = 17 ∨ j = 18 ∨ j = 19 ∨ j = 20 ∨ j = 21 ∨ j = 22 ∨ j = 23 ∨ j = 24 ∨ j = 25 ∨ j = 26 ∨ j = 27 ∨ j = 28 ∨ j = 29 ∨ j = 30 ∨ j = 31 ∨ j = 32 ∨ j = 33 ∨ j = 34 ∨ j = 35 ∨ j = 36 ∨ j = 37 ∨ j = 38 ∨ j = 39 by omega) with rfl | rfl | rfl | rfl | rfl | rfl | rfl | rfl | rfl | rfl | rfl | rfl | rfl | rfl | rfl | rfl | rfl | rfl | rfl | rfl | rfl | rfl | rfl | rfl | rfl | rfl | rfl | rfl | rfl | rfl | rfl | rfl | rfl | rfl | rfl | rfl | rfl | rfl | rfl | rfl <;> rfl
set_option maxRecDepth 100000 in
set_option maxHeartbeats 4000000 in
theorem whole_start {p : Program} {e : Env} {s : State} {m : MethodId} {below : List Frame} {meth : Method} {c : Code} (l : Launch) (hflags : l.flags = flags0) {b L : Nat} {xs : Nat → Int32} (hL : L ≤ 3072) (C0 : lw_At p s m meth c b L xs) : W p l e room_1 s m #[Value.ref b] below meth c s.heap [] 0 0 (lw_Z below #[Value.ref b] s) (entryFrame m ([Value.ref b] : List Value).toArray 4) := by
  obtain ⟨hx, hb, hr, hml, hown, hts, hX, hbl, hlocks, hgv⟩ := id C0
  obtain ⟨D, cI, cO, hKK⟩ := zKK_of hts
  have hws : ∀ w ∈ lw_ws, w.before #[Value.ref b] s = true := fun w hw => hts w (ws_tbl w hw)
  have hc0 : zCx p s m #[Value.ref b] c cL_law 4 RL (D, cI, cO, fun _ => 0, s.heap.size) := ⟨hx, hb, hml, hown, hws, hKK _ _, Nat.le_refl _⟩
  have key : zN p l e room_1 s m #[Value.ref b] below meth c (D, cI, cO, fun _ => 0, s.heap.size) 4 0 0 (lw_Z below #[Value.ref b] s) [(0, .ref b)] [] 0 [] [] := by
    refine zn_new (pc := 0) (C := RX9) (T := TX9) (N := 14) (ci := 7) (fs := [.null, .null, .null, .int 0, .null, .null, .int 0, .int 0, .int 0, .null, .null, .null, .null, .null]) hc0 tyX9_ok inT9 rfl cl_L_7 it_X9 ini_X9 (fun j hj => by match j, hj with | 0, _ => rfl | 1, _ => rfl | 2, _ => rfl | 3, _ => rfl | 4, _ => rfl | 5, _ => rfl | 6, _ => rfl | 7, _ => rfl | 8, _ => rfl | 9, _ => rfl | 10, _ => rfl | 11, _ => rfl | 12, _ => rfl | 13, _ => rfl) dL_law_0 ⟨by decide, by decide⟩ (fun q => ?_)
    refine zn_dup (pc := 3) hc0 dL_law_3 ?_
    refine zn_call (pc := 4) (w := []) (q := q) (E0 := .inr (7, [.null, .null, .null, .int 0, .null, .null, .int 0, .int 0, .int 0, .null, .null, .null, .null, .null])) hc0 ks_X9_init rfl iv_X9_init lk_L_i9 (N_X9 l _ ([] ++ []) q) ⟨by decide, by decide⟩ (Nat.le_of_ble_eq_true rfl) ⟨by decide, by decide⟩ dL_law_4 ?_
    rintro _ ⟨a1, a2, a3, a4, a5, a6, b7, a8, b9, b10, b11, b12, b13, b14, b15, b16, b17, b18, b19, b20, b21, b22, b23, a24, b25, b26, b27, b28, b29, b30, b31, b32, b33, a34, b35, a36, b37, rfl⟩
    rw [List.nil_append]
    obtain ⟨w1, hw1⟩ : ∃ w1 : va_W, w1 = sX9 (D, cI, cO, fun _ => 0, s.heap.size) q a1 a2 a3 a4 a5 a6 b7 a8 b9 b10 b11 b12 b13 b14 b15 b16 b17 b18 b19 b20 b21 b22 b23 a24 b25 b26 b27 b28 b29 b30 b31 b32 b33 a34 b35 a36 b37 := ⟨_, rfl⟩
    rw [← hw1]
    refine zn_astore_n (pc := 7) (Lv' := [(1, .ref q), (0, .ref b)]) hc0 dL_law_7 (by decide) rfl ?_
    refine zn_new (pc := 8) (C := RX10) (T := TX10) (N := 40) (ci := 8) (fs := [.int 0, .int 0, .null, .null, .null, .null, .null, .null, .null, .int 0, .int 0, .int 0, .int 0, .int 0, .null, .int 0, .null, .null, .int 0, .int 0, .null, .null, .null, .null, .int 0, .null, .null, .int 0, .int 0, .int 0, .int 0, .null, .null, .int 0, .int 0, .null, .int 0, .int 0, .null, .int 0]) hc0 tyX10_ok inT10 rfl cl_L_10 it_X10 ini_X10 dfX10 dL_law_8 ⟨by decide, by decide⟩ (fun kq => ?_)
    refine zn_dup (pc := 11) hc0 dL_law_11 ?_
    refine zn_call (pc := 12) (w := w1) (q := kq) (E0 := .inr (8, [.int 0, .int 0, .null, .null, .null, .null, .null, .null, .null, .int 0, .int 0, .int 0, .int 0, .int 0, .null, .int 0, .null, .null, .int 0, .int 0, .null, .null, .null, .null, .int 0, .null, .null, .int 0, .int 0, .int 0, .int 0, .null, .null, .int 0, .int 0, .null, .int 0, .int 0, .null, .int 0])) hc0 ks_X10_init rfl iv_X10_init lk_L_i12 (N_X10 l _ ([] ++ w1) kq) ⟨by decide, by decide⟩ (Nat.le_of_ble_eq_true rfl) ⟨by decide, by decide⟩ dL_law_12 ?_
    rintro _ ⟨ka1, ka2, ka3, ka4, ka5, ka6, ka7, ka8, ka9, ka10, ka11, ka12, ka13, ka14, ka15, ka16, ka17, ka18, ka19, ka20, rfl⟩
    refine zn_astore_n (pc := 15) (Lv' := [(2, .ref kq), (1, .ref q), (0, .ref b)]) hc0 dL_law_15 (by decide) rfl ?_
    refine zn_iconst (pc := 16) hc0 dL_law_16 ?_
    refine zn_istore_n (pc := 17) (Lv' := [(3, .int (Int32.ofInt 0)), (2, .ref kq), (1, .ref q), (0, .ref b)]) hc0 dL_law_17 (by decide) rfl ?_
    intro ls H locs hl hP hD hS
    rw [hw1] at hP hD
    obtain ⟨ad, X, ⟨e1, e2, e3⟩, hW⟩ := zW0 (b := b) hP hD
    have hc1 : zCx p s m #[Value.ref b] c cL_law 4 RL (D, cI, cO, ad, s.heap.size) := ⟨hx, hb, hml, hown, hws, hKK _ _, Nat.le_refl _⟩
    have hX1 : zScr (D, cI, cO, ad, s.heap.size) s L xs := by
      refine ⟨?_, ?_, ?_, hL⟩
      · show va_X (ad 700) L xs s s.heap
        rw [e1]; exact hX
      · show ad 700 < s.heap.size
        rw [e1]; exact hbl
      · show ¬ s.heap.size ≤ ad 700
        rw [e1]; omega
    have hst := zST_of (Gz := (D, cI, cO, ad, s.heap.size)) hts hgv rfl
    refine L_loop (l := l) (e := e) (below := below) hc1 hX1 hst hr hlocks rfl 513 0 zM0 0 _ _ rfl (by decide) Inv_0 (by decide) (by decide) (fun v h => by cases h) (fun v h => ?_) ls H locs X ⟨hl.1, hl.2.1, fun x hx9 => ?_⟩ hW hS
    · simp only [List.mem_cons, Option.some.injEq, List.not_mem_nil, or_false] at h
      rcases h with rfl | rfl | rfl | rfl
      · trivial
      · trivial
      · trivial
      · exact ⟨by decide, by decide⟩
    · have hx9 : x ∈ ([(0, .ref (ad 700)), (1, .ref (ad 63)), (2, .ref (ad 639)), (3, .int (Int32.ofInt 0))] : List (Nat × Value)) := hx9
      rw [e1, e2, e3] at hx9
      simp only [List.mem_cons, List.not_mem_nil, or_false] at hx9
      rcases hx9 with rfl | rfl | rfl | rfl
      · exact hl.2.2 _ (by simp)
      · exact hl.2.2 _ (by simp)
      · exact hl.2.2 _ (by simp)
      · exact hl.2.2 _ (by simp)
  have hl := lv_entry ([.ref b]) (n := 4) (Nat.le_of_ble_eq_true rfl)
  rw [lg_entry_eq]
  exact key _ s.heap [] hl (fun k q h => by simp at h) ⟨fun i j p q h => by simp at h, fun k q h => by simp at h⟩ va_S.rf
