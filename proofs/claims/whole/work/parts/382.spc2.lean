theorem mem_single {α : Type} {a b : α} (h : a ∈ [b]) : a = b := List.mem_singleton.mp h
theorem P_X1_spread {i0 : Int} {r : Rec} {L0 : Lrn} {Q : Int → zMem → Prop} {M0 : zMem} (hT0 : tabC 3 M0 r) (hR : RecOK r) (h4 : (plain (rI r 0 256)).length ≤ 400) (hg : trmOK (M0.2 133)) (hL0 : lrnOK L0) (hA0 : Lat (M0.2 129) 0 L0) (hD : DirOK (M0.2 128)) (hi : 0 ≤ i0 ∧ i0 < M0.2 128 640) (hk : keysAt (M0.2 128) i0 r)
    (hQ0 : 10 < M0.2 128 640 + (spRes (M0.2 133) r L0).1.length - 1 → ∀ M', Fr fSp M0 M' → Q (-5) M')
    (hQ1 : M0.2 128 640 + (spRes (M0.2 133) r L0).1.length - 1 ≤ 10 → ∀ M', Fr fSp M0 M' → M'.2 128 = spW (M0.2 128) i0 0 (spRes (M0.2 133) r L0).1 → Lat (M'.2 129) 0 (spRes (M0.2 133) r L0).2 → (∀ j, M'.2 130 j = if j ∈ spP (M0.2 128) i0 0 (spRes (M0.2 133) r L0).1 then 1 else M0.2 130 j) → Q (spCode (spRes (M0.2 133) r L0).1.length) M') : T_X1_spread i0 Q M0 := by
  obtain ⟨f0, hf0⟩ : ∃ f, f = M0.2 128 := ⟨_, rfl⟩
  obtain ⟨g, hg0⟩ : ∃ g, g = M0.2 133 := ⟨_, rfl⟩
  obtain ⟨lo, hi9, k1, k2, k3, k4⟩ := hk
  rw [← hf0] at hD hi hQ0 hQ1 k1 k2
  rw [← hg0] at hg hQ0 hQ1
  have hu := hD.1
  have hsort : sorted (rI r 0 256) := (rl_keys r _ 0).2
  unfold T_X1_spread
  refine ⟨by omega, fun M17 hM17 => ?_⟩
  unfold T_X1_spread_19
  apply zl4_rule (spInv g r L0 f0 (M0.2 130) i0 M0) (fun _ _ _ v5 _ => (512 - v5).toNat)
  · intro X v2 v3 v4 v5 M ⟨st, L, acc, e1, e2, e3, e4, e5, e6, e6b, e7, e8, e9, e10, e11, e12, e13, e14, e15⟩ hX
    have hlen : st = [] → T_X1_spread_142 v2 Q M := by
      intro hs
      rw [hs, spG_nil] at e1
      have ha : acc ≠ [] := by
        intro h
        rw [hs, h] at e9
        rcases e9 with e9 | e9
        · have : (rI r 0 256) = [] := by rw [← e8, hs, h]; rfl
          have hz := (spG_all hg 512 [rI r 0 256] L0 [] (by rw [this]; decide) hL0)
          obtain ⟨rest, z1, z2, z3, z4, z5⟩ := hz
          unfold spRes at e1
          rw [← e1, h] at z1
          simp only [List.nil_append] at z1
          have : (spG g 512 [rI r 0 256] L0 []) = ([[]], lrnG g 1 L0) := by
            rw [this, spG_fit (n := 511) (by unfold bigS; simp) (by unfold fitS; rw [if_pos (by simp)]), spG_nil]; rfl
          rw [this, h] at e1
          exact absurd (congrArg Prod.fst e1) (by simp)
        · simp at e9
      have hn := e14 ha
      have hQ := hQ1 (by rw [← e1]; exact hn) M e15 (by rw [← e1]; exact e12) (by rw [← e1]; exact e11) (by rw [← e1]; exact e13)
      rw [← e1] at hQ
      unfold spCode at hQ
      unfold T_X1_spread_142
      rw [e4]
      refine ⟨fun q => ⟨inR_mk (by omega) (by omega), ?_⟩, fun q => ?_⟩
      · rw [if_neg (by dsimp only; omega)] at hQ; exact hQ
      · rw [if_pos (by dsimp only; omega)] at hQ; exact hQ
    refine ⟨fun h5 => hlen (smu_0 (by omega)), fun h5 => ⟨fun h4 => hlen (by cases st with | nil => rfl | cons a b => simp at e5; omega), fun h4 => ?_⟩⟩
    cases st with
    | nil => simp at e5; omega
    | cons rs t =>
      have ht : v4 - 1 = t.length := by rw [e5, List.length_cons]; omega
      obtain ⟨⟨s1, s2⟩, s3, s4⟩ := e6
      rw [ht]
      obtain ⟨E, hE⟩ : ∃ E, E = M.2 134 := ⟨_, rfl⟩
      rw [← hE] at s1 s2 s3 s4 ⊢
      obtain ⟨high, hhigh⟩ : ∃ h, h = E t.length := ⟨_, rfl⟩
      rw [← hhigh] at s1 s2 s3 s4 ⊢
      have hfuel : (512 - v5).toNat = (511 - v5).toNat + 1 := by omega
      rw [hfuel] at e1 e2
      have hrl := rI_len r (low := 0) (high := 256) (by omega)
      have hac : (acc ++ rs :: t).length ≤ 256 := by
        rcases e9 with e9 | e9
        · have := flat_ne_len e9; rw [e8] at this; omega
        · omega
      rw [List.length_append, List.length_cons] at hac
      have hpl : (plain rs).length ≤ 400 := by
        have := plain_mem_le (l := acc ++ rs :: t) (rs := rs) (List.mem_append_right _ List.mem_cons_self)
        rw [e8] at this; omega
      have hrsok : rsOK rs := by rw [s3]; exact rI_ok hR _ _
      have e133 : M.2 133 = g := by rw [hg0]; exact e15.2 133 (by unfold fSp fTy fPb fPk; decide)
      have hT : tabC 3 M r := by
        unfold tabC
        rw [e15.2 (64 * 3 + 2) (by unfold fSp fTy fPb fPk; decide), e15.2 (64 * 3 + 3) (by unfold fSp fTy fPb fPk; decide)]
        exact hT0
      have hTy : ∀ M7, Fr fTy M M7 → tabC 3 M7 r := by
        intro M7 hF
        unfold tabC
        rw [hF.2 (64 * 3 + 2) (by unfold fTy fPb fPk; decide), hF.2 (64 * 3 + 3) (by unfold fTy fPb fPk; decide)]
        exact hT
      -- a row that is cut in two
      have split : ∀ L2 M7, lrnOK L2 → 1 < rs.length → spG g (511 - v5).toNat (halfT rs :: halfD rs :: t) L2 acc = spRes g r L0 → Fr fTy M M7 → Lat (M7.2 129) 0 L2 → ((16 ≤ v4 → (T_X1_spread_136 i0 v2 v3 v4 v5 X Q M7)) ∧ (¬ 16 ≤ v4 → (T_X8_cutOf 3 v3 high (fun y10 => ((0 : Int) ≤ v4 ∧ v4 < 16) ∧ ∀ M11 : zMem, M11 = setA M7 134 v4 y10 → inR (v4 + 1) ∧ (T_X1_spread_136 i0 v2 v3 (v4 + 1) v5 X Q M11)) M7))) := by
        intro L2 M7 hL2 hlen2 hsp hF7 hLat
        have htl := dpt_len e7 hlen2
        refine ⟨fun q => by omega, fun q => ?_⟩
        apply P_X8_cutOf (hTy M7 hF7) ⟨e6b, s1, s2⟩ (by rw [← s3]; omega)
        intro c hc hc1 hc2
        rw [← s3] at hc1 hc2
        refine ⟨⟨by omega, by omega⟩, fun M11 hM11 => ⟨inR_mk (by omega) (by omega), ?_⟩⟩
        unfold T_X1_spread_136
        refine ⟨inR_mk (by omega) (by omega), hX _ _ _ _ _ ?_ (by omega)⟩
        have E7 : M7.2 134 = E := by rw [hE]; exact hF7.2 134 (by unfold fTy fPb fPk; decide)
        have F11 : ∀ k, k ≠ 134 → M11.2 k = M7.2 k := fun k hk => by rw [hM11]; exact if_neg hk
        have E11 : M11.2 134 = upI E v4 c := by rw [hM11, ← E7]; rfl
        have hsm := smu_split rs t hlen2
        refine ⟨halfT rs :: halfD rs :: t, L2, acc, ?_, ?_, ⟨by omega, by omega⟩, e4, ?_, ?_, e6b, dpt_split e7, ?_, ne_split hlen2 e9, hL2, ?_, ?_, ?_, e14, ?_⟩
        · have : (512 - (v5 + 1)).toNat = (511 - v5).toNat := by omega
          rw [this]; exact hsp
        · omega
        · simp only [List.length_cons]; omega
        · rw [E11]
          have q1 : upI E v4 c ((halfD rs :: t).length : Int) = c := by
            unfold upI; rw [if_pos (by simp only [List.length_cons]; omega)]
          have q2 : upI E v4 c (t.length : Int) = high := by
            unfold upI; rw [if_neg (by omega), hhigh]
          refine ⟨?_, ?_, ?_⟩
          · rw [q1]; omega
          · rw [q1, hc1]; rfl
          · rw [q1]
            refine ⟨?_, ?_, ?_⟩
            · rw [q2]; omega
            · rw [q2, hc2]; rfl
            · rw [q2]
              exact StkC_congr t _ (fun j h0 hj => by unfold upI; rw [if_neg (by omega)]) s4
        · rw [flat_split]; exact e8
        · rw [F11 129 (by decide)]; exact hLat
        · rw [F11 128 (by decide), hF7.2 128 (by unfold fTy fPb fPk; decide)]; exact e12
        · intro j
          rw [F11 130 (by decide), hF7.2 130 (by unfold fTy fPb fPk; decide)]; exact e13 j
        · refine Fr_trans e15 (Fr_trans (Fr_mono hF7 (fun k h => Or.inl h)) ?_)
          rw [hM11]; exact Fr_setA (Or.inr (Or.inr (Or.inr rfl)))
      have ht8 := dpt_len1 e7 e9
      refine ⟨inR_mk (by omega) (by omega), ⟨by omega, by omega⟩, ?_⟩
      apply P_X1_tryShape (L := L) hT hR ⟨e6b, s1, s2⟩ (by rw [← s3]; exact hpl) (by rw [e133]; exact hg) e10 e11
      · rw [← s3]
        intro hb
        refine ⟨fun _ => ?_, fun q => absurd rfl q⟩
        rw [spG_big hb] at e1
        exact split L M e10 hb.1 e1 (Fr_refl M) e11
      · rw [← s3, e133]
        intro hnb M7 hF7 hL7 hA7 hs7 hb7
        rcases fitS_01 rs (g 0) with hf | hf
        · rw [hf]
          rw [hf] at hL7
          refine ⟨fun _ => ?_, fun q => absurd rfl q⟩
          rw [spG_not hnb hf] at e1
          exact split _ M7 (lrnOK_S hg e10) (fit0_len hf) e1 hF7 hL7
        · rw [hf]
          rw [hf] at hL7
          refine ⟨fun q => by omega, fun _ => ?_⟩
          rw [spG_fit hnb hf] at e1
          have hp62 := part62 hg (partOK_of e10 hnb hf) hrsok
          have e128 : M7.2 128 = spW f0 i0 0 acc := by rw [hF7.2 128 (by unfold fTy fPb fPk; decide)]; exact e12
          have e130 : ∀ j, M7.2 130 j = if j ∈ spP f0 i0 0 acc then 1 else M0.2 130 j := by
            intro j; rw [hF7.2 130 (by unfold fTy fPb fPk; decide)]; exact e13 j
          have e134 : M7.2 134 = E := by rw [hE]; exact hF7.2 134 (by unfold fTy fPb fPk; decide)
          have hsm := smu_pop rs t
          -- the block written, in a memory whose directory has the page
          have wr : ∀ M15 pg, Fr (fun k => k = 128) M7 M15 → (0 ≤ pg ∧ pg < 10) → M15.2 128 (641 + 2 * (i0 + v2)) = pg → i0 + v2 < 10 → wB (M15.2 128) pg (plain rs) = spW f0 i0 0 (acc ++ [rs]) → pg = pgN (spW f0 i0 0 acc) i0 (0 + acc.length) → f0 640 + (acc.length + 1 : Nat) - 1 ≤ 10 → T_X1_spread_80 i0 v2 v4 v5 high X Q M15 := by
            intro M15 pg hF15 hpg hat hlt hw hpn hcap
            unfold T_X1_spread_80
            refine ⟨inR_mk (by omega) (by omega), ?_⟩
            apply P_X4_pageAt (by rw [alen_128]; omega) ⟨by omega, hlt⟩ (by rw [hat]; exact hpg)
            rw [hat]
            apply P_X1_writeBlock (x := plain rs) hpg (by rw [hF15.1 135 (by decide)]; exact hs7) hp62 (by rw [hF15.1 259 (by decide)]; exact hb7) (by rw [hF15.2 256 (by decide)]; exact hA7)
            intro M3 hF3 hw3 ha3
            refine ⟨inR_mk (by omega) (by omega), inR_mk (by omega) (by omega), ?_⟩
            unfold T_X1_spread_136
            refine ⟨inR_mk (by omega) (by omega), hX _ _ _ _ _ ?_ (by omega)⟩
            refine ⟨t, lrnG g 1 L, acc ++ [rs], ?_, by omega, ⟨by omega, by omega⟩, ?_, by omega, ?_, by omega, e7.2, ?_, ?_, lrnOK_S hg e10, ?_, ?_, ?_, ?_, ?_⟩
            · have : (512 - (v5 + 1)).toNat = (511 - v5).toNat := by omega
              rw [this]; exact e1
            · rw [e4, List.length_append]; simp only [List.length_cons, List.length_nil]; omega
            · rw [hF3.2 134 (by decide), hF15.2 134 (by decide), e134]; exact s4
            · rw [← app_move]; exact e8
            · rw [← app_move]; exact e9
            · rw [hF3.2 129 (by decide), hF15.2 129 (by decide)]; exact hL7
            · rw [← hw]; exact funext hw3
            · intro j
              rw [ha3 j, hF15.2 130 (by decide), e130 j, spP_snoc, ← hpn]
              by_cases hj : j = pg
              · rw [if_pos hj, if_pos (List.mem_append_right _ (by rw [hj]; exact List.mem_cons_self))]
              · rw [if_neg hj]
                by_cases hj2 : j ∈ spP f0 i0 0 acc
                · rw [if_pos hj2, if_pos (List.mem_append_left _ hj2)]
                · rw [if_neg hj2, if_neg (fun h => by
                    rw [List.mem_append] at h
                    rcases h with h | h
                    · exact hj2 h
                    · exact hj (mem_single h))]
            · intro _
              rw [List.length_append]; simp only [List.length_cons, List.length_nil]; omega
            · refine Fr_trans e15 (Fr_trans (Fr_mono hF7 (fun k h => Or.inl h)) (Fr_trans (Fr_mono hF15 (fun k h => Or.inr (Or.inl h))) (Fr_mono hF3 (fun k h => ?_))))
              rcases h with h | h
              · exact Or.inr (Or.inl h)
              · exact Or.inr (Or.inr (Or.inl h))
          refine ⟨fun hv2 => ?_, fun hv2 => ?_⟩
          · have ha : acc = [] := by cases acc with | nil => rfl | cons a b => simp at e4; omega
            have hv : v2 = 0 := by rw [e4, ha]; rfl
            have hp0 := hD.2.1 i0 hi.1 hi.2
            subst ha
            refine wr M7 (f0 (641 + 2 * i0)) (Fr_refl M7) hp0 ?_ (by omega) ?_ rfl (by simp; omega)
            · rw [e128, hv, Int.add_zero]; rfl
            · rw [e128]; rfl
          · have ha : acc ≠ [] := by intro h; rw [h] at e4; simp at e4; omega
            have hal : 1 ≤ acc.length := by omega
            have hne1 : ∀ x ∈ acc ++ rs :: t, x ≠ [] := by
              rcases e9 with e9 | e9
              · exact e9
              · rw [List.length_append, List.length_cons] at e9; omega
            have hcap := e14 ha
            have hflat := e8
            rw [List.flatten_append] at hflat
            have hso := hsort
            rw [← hflat] at hso
            have hdir := spW_dir hD hi k1 ⟨k2, k3⟩ acc ha (Or.inl (fun x hx => hne1 x (List.mem_append_left _ hx))) (sorted_app hso).1 (fun p hp => k4 p (by rw [← hflat]; exact List.mem_append_left _ hp)) hcap
            obtain ⟨d1, d2, d3, d4⟩ := hdir
            refine ⟨inR_mk (by omega) (by omega), ?_⟩
            apply P_X8_lowestIn (hTy M7 hF7) ⟨e6b, s1, s2⟩
            rw [← s3]
            apply P_X1_insertIntoDirectory (by rw [e128]; exact d1) (by rw [e128, d2]; omega)
            · intro hfull
              refine ⟨fun q => absurd rfl q, fun _ => ?_⟩
              refine hQ0 ?_ M7 (Fr_trans e15 (Fr_mono hF7 (fun k h => Or.inl h)))
              have h10 : spW f0 i0 0 acc 640 = 10 := by
                rw [e128] at hfull
                rcases hfull with hfull | hfull
                · exact hfull
                · by_cases q : spW f0 i0 0 acc 640 < 10
                  · obtain ⟨p, hp0, hp1⟩ := dir_free d1 q
                    have := isLF_uniq (fun _ _ _ => Iff.rfl) hp1 hfull
                    omega
                  · have := d1.1; omega
              obtain ⟨rest, z1, _⟩ := spG_all hg (511 - v5).toNat t (lrnG g 1 L) (acc ++ [rs]) (by omega) (lrnOK_S hg e10)
              rw [← e1, z1, List.length_append, List.length_append]
              simp only [List.length_cons, List.length_nil]
              omega
            · intro num hlt hn0 hLF M15 hF15 hw15
              refine ⟨fun _ => ?_, fun q => by omega⟩
              rw [e128] at hlt hLF hw15
              have hln : lfN (spW f0 i0 0 acc) = num := lfN_eq hLF
              have hok := lfN_ok d1 hlt
              rw [hln] at hok
              have hnw := inD_new (f := spW f0 i0 0 acc) (m := i0 + v2) (num := num) (fen := lowK rs) (by omega)
              refine wr M15 num hF15 hok.1 (by rw [hw15]; exact hnw.1) (by omega) ?_ ?_ (by omega)
              · rw [spW_snoc, Nat.zero_add]
                unfold wr1
                rw [if_neg (by omega), hln, ← e4, funext hw15]
              · unfold pgN
                rw [if_neg (by omega), hln]
  · refine ⟨[rI r 0 256], L0, [], rfl, ?_, ⟨by omega, by omega⟩, rfl, rfl, ?_, by omega, ?_, by simp, Or.inr rfl, hL0, ?_, ?_, ?_, fun h => absurd rfl h, ?_⟩
    · have hrl := rI_len r (low := 0) (high := 256) (by omega)
      have : smu [rI r 0 256] = (2 * max (rI r 0 256).length 1 - 1) + 0 := rfl
      rw [this]
      omega
    · have q : M17.2 134 ((([] : List RS).length : Nat) : Int) = 256 := by rw [hM17]; rfl
      refine ⟨?_, ?_, ?_⟩
      · rw [q]; omega
      · rw [q]
      · rw [q]; rfl
    · have hrl := rI_len r (low := 0) (high := 256) (by omega)
      refine ⟨?_, trivial⟩
      simp only [List.length_nil]
      omega
    · rw [hM17]; exact hA0
    · rw [hM17]; exact hf0.symm
    · intro j; rw [hM17]; rw [if_neg (by intro h; cases h)]; rfl
    · rw [hM17]; exact Fr_setA (Or.inr (Or.inr (Or.inr rfl)))
