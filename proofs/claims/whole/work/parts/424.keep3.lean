theorem sorted_part {R : List RS} : ∀ (n : Nat) (rs : RS), R[n]? = some rs → sorted R.flatten → sorted rs ∧ ∀ k rs', k < n → R[k]? = some rs' → ∀ p ∈ rs', ∀ q ∈ rs, p.1 < q.1 := by
  intro n rs h hs
  have hn : n < R.length := (List.getElem?_eq_some_iff.mp h).1
  have e1 : R = R.take n ++ rs :: R.drop (n + 1) := by
    have : R.drop n = rs :: R.drop (n + 1) := by
      rw [List.drop_eq_getElem_cons hn]
      congr 1
      rw [List.getElem?_eq_getElem hn] at h
      exact Option.some.inj h
    rw [← this, List.take_append_drop]
  rw [e1, List.flatten_append, List.flatten_cons] at hs
  obtain ⟨s1, s2, s3⟩ := sorted_app hs
  obtain ⟨s4, s5, s6⟩ := sorted_app s2
  refine ⟨s4, fun k rs' hk hk2 p hp q hq => ?_⟩
  refine s3 p (List.mem_flatten.mpr ⟨rs', ?_, hp⟩) q (List.mem_append_left _ hq)
  apply List.mem_of_getElem? (i := k)
  rw [List.getElem?_take, if_pos hk]
  exact hk2
theorem sorted_low {rs : RS} (h : sorted rs) : ∀ q ∈ rs, lowK rs ≤ q.1 := by
  cases rs with
  | nil => intro q hq; cases hq
  | cons p t =>
    intro q hq
    show p.1 ≤ q.1
    rw [List.mem_cons] at hq
    rcases hq with hq | hq
    · rw [hq]; omega
    · exact Int.le_of_lt (h.1 q hq)
theorem WFz_sp {f g : Int → Int} {i : Int} {r : Rec} {R : List RS} (hW : WFz f) (hi : 0 ≤ i ∧ i < f 640) (hR : RecOK r) (hrin : rIn (f (642 + 2 * i)) (hiF f i) r) (hf : R.flatten = rI r 0 256) (hn : neP R) (hg : trmOK g) (hpt : ∀ rs ∈ R, partOK g rs) (hcap : f 640 + R.length - 1 ≤ 10) : ∀ n : Nat, 1 ≤ n → n ≤ R.length → ∀ rs, R[n - 1]? = some rs → WFz (spW f i 0 (R.take n)) ∧ spW f i 0 (R.take n) 640 = f 640 + n - 1 ∧ hiF (spW f i 0 (R.take n)) (i + n - 1) = hiF f i ∧ f (642 + 2 * i) ≤ spW f i 0 (R.take n) (642 + 2 * (i + n - 1)) ∧ (n = 1 ∨ spW f i 0 (R.take n) (642 + 2 * (i + n - 1)) = lowK rs) ∧ (n = 1 → spW f i 0 (R.take n) (642 + 2 * (i + n - 1)) = f (642 + 2 * i)) ∧ PgB (spW f i 0 (R.take n)) (spW f i 0 (R.take n) (641 + 2 * (i + n - 1))) (spW f i 0 (R.take n) (642 + 2 * (i + n - 1))) (hiF f i) (shape (plain rs)) [] rs
  | 0, h, _, _, _ => by omega
  | 1, _, h1, rs, hrs => by
    have hD := hW.1
    have hp := hD.2.1 i hi.1 hi.2
    have hmem : rs ∈ R := List.mem_of_getElem? hrs
    have hsort : sorted R.flatten := by rw [hf]; exact (rl_keys r _ 0).2
    have hso := (sorted_part 0 rs hrs hsort).1
    have hok := part_of hf hmem hR
    have hk : keysIn (f (642 + 2 * i)) (hiF f i) rs := fun q hq => rI_in hrin 0 256 q (by rw [← hf]; exact List.mem_flatten.mpr ⟨rs, hmem, hq⟩)
    have e : spW f i 0 (R.take 1) = wB f (f (641 + 2 * i)) (plain rs) := by
      have : R.take 1 = [rs] := by
        cases R with
        | nil => cases hmem
        | cons a b => simp at hrs; rw [hrs]; rfl
      rw [this]; rfl
    have hw : ∀ k, 640 ≤ k → wB f (f (641 + 2 * i)) (plain rs) k = f k := fun k hk => wB_dir hp hk
    have ei : i + ((1 : Nat) : Int) - 1 = i := by omega
    rw [e, ei, hw 640 (by omega), hw (642 + 2 * i) (by omega), hw (641 + 2 * i) (by omega)]
    refine ⟨WFz_wB hW hi hok hso hg (hpt rs hmem) hk, by omega, ?_, Int.le_refl _, Or.inl rfl, fun _ => rfl, wB_Pg hp hok hso hg (hpt rs hmem) hk⟩
    unfold hiF
    rw [hw 640 (by omega), hw _ (by omega)]
  | n + 2, _, h1, rs, hrs => by
    have e1 : n + 2 - 1 = n + 1 := rfl
    rw [e1] at hrs
    obtain ⟨rs0, hrs0⟩ : ∃ x, R[n]? = some x := ⟨R[n]'(by omega), List.getElem?_eq_getElem (by omega)⟩
    obtain ⟨a1, a2, a3, a4, a5, a6, a7⟩ := WFz_sp hW hi hR hrin hf hn hg hpt hcap (n + 1) (by omega) (by omega) rs0 hrs0
    have hmem : rs ∈ R := List.mem_of_getElem? hrs
    have hsort : sorted R.flatten := by rw [hf]; exact (rl_keys r _ 0).2
    have hso := sorted_part (n + 1) rs hrs hsort
    have hok := part_of hf hmem hR
    have hk : keysIn (f (642 + 2 * i)) (hiF f i) rs := fun q hq => rI_in hrin 0 256 q (by rw [← hf]; exact List.mem_flatten.mpr ⟨rs, hmem, hq⟩)
    have hall : ∀ x ∈ R, x ≠ [] := by
      rcases hn with hn | hn
      · exact hn
      · omega
    have hne := hall rs hmem
    have hne0 := hall rs0 (List.mem_of_getElem? hrs0)
    have htk : R.take (n + 2) = R.take (n + 1) ++ [rs] := by rw [List.take_succ, hrs]; rfl
    have htl : (R.take (n + 1)).length = n + 1 := by rw [List.length_take]; omega
    obtain ⟨F, hF⟩ : ∃ F, F = spW f i 0 (R.take (n + 1)) := ⟨_, rfl⟩
    rw [← hF] at a1 a2 a3 a4 a5 a6 a7
    have hlf := lfN_ok a1.1 (by rw [a2]; omega)
    have eF : spW f i 0 (R.take (n + 2)) = wB (inD F (i + (n + 1 : Nat)) (lfN F) (lowK rs)) (lfN F) (plain rs) := by
      rw [htk, spW_snoc, htl, ← hF, Nat.zero_add]
      unfold wr1
      rw [if_neg (by omega)]
    obtain ⟨m, hm⟩ : ∃ m : Int, m = i + (n + 1 : Nat) := ⟨_, rfl⟩
    have em1 : i + ((n + 1 : Nat) : Int) - 1 = m - 1 := by omega
    have em2 : i + ((n + 2 : Nat) : Int) - 1 = m := by omega
    rw [em1] at a3 a4 a5 a6 a7
    rw [eF, ← hm, em2]
    obtain ⟨p1, hp1, hp2⟩ := lowK_mem hne
    obtain ⟨p0, hp0, hp02⟩ := lowK_mem hne0
    have hlt0 : ∀ q ∈ rs0, q.1 < lowK rs := fun q hq => by rw [hp2]; exact hso.2 n rs0 (by omega) hrs0 q hq p1 hp1
    have hlo : F (642 + 2 * (m - 1)) < lowK rs := by
      have h2 := hlt0 p0 hp0
      rcases a5 with a5 | a5
      · rw [a6 a5]
        have := a7.2.1 p0 hp0
        rw [a6 a5] at this
        omega
      · rw [a5, hp02]; exact h2
    have hk2 : ∀ q ∈ rs, lowK rs ≤ q.1 ∧ q.1 < hiF F (m - 1) := fun q hq => ⟨sorted_low hso.1 q hq, by rw [a3]; exact (hk q hq).2⟩
    obtain ⟨b1, b2⟩ := WFz_ins a1 (by rw [a2]; omega) (by rw [a2]; omega) hlf.1 hlf.2.2 hok hso.1 hg (hpt rs hmem) hne (by rw [a3]; exact a7) hlt0 hk2 hlo
    have hnw := inD_new (f := F) (m := m) (num := lfN F) (fen := lowK rs) (by omega)
    have hw : ∀ k, 640 ≤ k → wB (inD F m (lfN F) (lowK rs)) (lfN F) (plain rs) k = inD F m (lfN F) (lowK rs) k := fun k hk => wB_dir hlf.1 hk
    rw [hw 640 (by omega), hw (641 + 2 * m) (by omega), hw (642 + 2 * m) (by omega), hnw.1, hnw.2.1, hnw.2.2]
    refine ⟨b1, by rw [a2]; omega, by rw [b2, a3], by omega, Or.inr rfl, fun h => by omega, ?_⟩
    exact wB_Pg hlf.1 hok hso.1 hg (hpt rs hmem) (fun q hq => by rw [← a3]; exact hk2 q hq)
theorem edW_keeps {f g : Int → Int} {L : Lrn} {e : List Int} {i : Int} {pkd : List Int} {es : List (List Int)} {rs : RS} (hW : WFz f) (hg : trmOK g) (hL : lrnOK L) (he : eOK e) (hO : IsOrd f (gi e 1) i) (hP : PgX f i pkd es rs) (hz : zB f (f (641 + 2 * i)) pkd es) (hc : 0 ≤ (edW g f L e i pkd es rs).1) : WFz (edW g f L e i pkd es rs).2.1 ∧ lrnOK (edW g f L e i pkd es rs).2.2.1 ∧ (∀ p ∈ (edW g f L e i pkd es rs).2.2.2.1, 0 ≤ p ∧ p < 10) := by
  have hD := hW.1
  have hu := hD.1
  have hk := ord_keys hD (allB_gi he.2.2 1) hO
  have hR := Pg_RecOK hP.1
  by_cases h1 : rf (pR es rs) e = 0
  case neg =>
    rw [edW_rf h1] at hc
    have := rf_neg (pR es rs) e
    dsimp only at hc
    omega
  have hcan := can_of_rf he h1
  by_cases h2 : goneP f e i es rs
  · rw [edW_gone h1 h2]
    have hi0 : i ≠ 0 := by
      intro h
      apply h2.2.2
      rw [h]
      exact hD.2.2.2.1
    exact ⟨WFz_rm hW (by have := hO.1; omega), hL, fun p hp => (by cases hp)⟩
  by_cases h3 : roomP g L e pkd es rs
  · rw [edW_log h1 h2 h3]
    have hr1 := h3.1
    have hg0 := hg.1
    have hl0 := hL.1
    refine ⟨WFz_log hW hO.1 hP hz he hk hcan ?_ ?_, hL, fun p hp => (by cases hp)⟩
    · split at hr1 <;> omega
    · have := h3.2
      have := hP.2.2.2
      omega
  by_cases h4 : 10 < f 640 + (spRes g (ap (pR es rs) e) L).1.length - 1
  · rw [edW_no h1 h2 h3 h4] at hc
    dsimp only at hc
    omega
  · rw [edW_sp h1 h2 h3 h4]
    obtain ⟨r1, r2, r3, r4, r5⟩ := spRes_ok (r := ap (pR es rs) e) hg hL
    obtain ⟨R, hRR⟩ : ∃ R, R = spRes g (ap (pR es rs) e) L := ⟨_, rfl⟩
    rw [← hRR] at r1 r2 r3 r4 r5 h4 ⊢
    have hn1 : 1 ≤ R.1.length := by
      cases hq : R.1 with
      | nil => exact absurd hq r3
      | cons a b => simp
    have hrin : rIn (f (642 + 2 * i)) (hiF f i) (ap (pR es rs) e) := rIn_ap (rIn_pR hP.2.1 hP.2.2.1) hk
    have hks := keysAt_of hD hO.1.1 hrin
    have hsp := WFz_sp hW hO.1 (RecOK_ap hR he hcan) hrin r1 r2 hg r4 (by omega) R.1.length hn1 (Nat.le_refl _) (R.1[R.1.length - 1]'(by omega)) (List.getElem?_eq_getElem (by omega))
    rw [List.take_length] at hsp
    refine ⟨hsp.1, r5, ?_⟩
    have hpg : ∀ n, n ≤ R.1.length → ∀ p ∈ spP f i 0 (R.1.take n), 0 ≤ p ∧ p < 10 := by
      intro n
      induction n with
      | zero => intro _ p hp; rw [List.take_zero] at hp; cases hp
      | succ n ih =>
        intro hn p hp
        obtain ⟨x, hx⟩ : ∃ x, R.1[n]? = some x := ⟨R.1[n]'(by omega), List.getElem?_eq_getElem (by omega)⟩
        have htk : R.1.take (n + 1) = R.1.take n ++ [x] := by rw [List.take_succ, hx]; rfl
        have htl : (R.1.take n).length = n := by rw [List.length_take]; omega
        rw [htk, spP_snoc, htl, List.mem_append] at hp
        rcases hp with hp | hp
        · exact ih (by omega) p hp
        · rw [mem_single hp, Nat.zero_add]
          unfold pgN
          by_cases h0 : n = 0
          · subst h0
            rw [if_pos rfl, List.take_zero]
            exact hD.2.1 i hO.1.1 hO.1.2
          · rw [if_neg h0]
            have hd := spW_dirN hD hO.1 hks r1 r2 (by omega) n (by omega) (by omega)
            exact (lfN_ok hd.1 (by rw [hd.2]; omega)).1
    have := hpg R.1.length (Nat.le_refl _)
    rw [List.take_length] at this
    exact this
