def sN (h : Int → Nat) : Nat → Nat
  | 0 => 0
  | n + 1 => sN h n + h n
theorem sN_b {h : Int → Nat} {b m : Nat} (hb : ∀ i : Nat, i < m → h i ≤ b) : ∀ n : Nat, n ≤ m → sN h n ≤ b * n
  | 0, _ => Nat.zero_le _
  | n + 1, hn => by
    have h1 := sN_b hb n (by omega)
    have h2 := hb n (by omega)
    show sN h n + h n ≤ b * (n + 1)
    rw [Nat.mul_succ]
    omega
theorem allF_len {f : Int → Int} {W : WT} (hD : DirOK f) (hW : ∀ i, 0 ≤ i → i < f 640 → PgX f i (W i).1 (W i).2.1 (W i).2.2) : ∀ n : Nat, (n : Int) ≤ f 640 → (rI (allF W n) 0 256).length = sN (fun i => (rI (pR (W i).2.1 (W i).2.2) 0 256).length) n
  | 0, _ => by
    have : rI (allF W 0) 0 256 = [] := rI_empty (fun j _ _ => rfl)
    rw [this]; rfl
  | n + 1, hn => by
    have ih := allF_len hD hW n (by omega)
    obtain ⟨a1, a2, a3⟩ := allF_ok hD hW n (by omega)
    obtain ⟨b1, b2, b3⟩ := allF_ok hD hW (n + 1) hn
    have hP := hW n (by omega) (by omega)
    have hnf : (n : Int) < f 640 := by omega
    rw [if_pos hnf] at a2
    have hf0 := fen_b hD (i := n) ⟨by omega, hnf⟩
    have hf1 := hD.2.2.2.2.2 n (by omega) hnf
    have hhi := hiF_b hD (i := n) (by omega)
    have hag := b3 n (by omega)
    have hrin := rIn_pR hP.2.1 hP.2.2.1
    obtain ⟨fn, hfn⟩ : ∃ fn, fn = f (642 + 2 * (n : Int)) := ⟨_, rfl⟩
    obtain ⟨hi, hhi2⟩ : ∃ hi, hi = hiF f n := ⟨_, rfl⟩
    rw [← hfn] at a2 hf0 hf1 hag hrin
    rw [← hhi2] at hhi hag hrin
    have hout : ∀ k, ¬ (fn ≤ k ∧ k < hi) → allF W (n + 1) k = allF W n k := by
      intro k hk
      rw [hfn, hhi2] at hk
      show (W n).2.1.foldl ap (adds (allF W n) (W n).2.2) k = _
      rw [aps_out _ hP.2.2.1 hk, adds_out hP.2.1 hk]
    have e1 : rI (allF W (n + 1)) 0 fn = rI (allF W n) 0 fn := rI_congr (fun j j0 j1 => hout j (by omega))
    have e2 : rI (allF W n) 0 256 = rI (allF W n) 0 fn := by
      rw [rI_split (allF W n) (low := 0) (mid := fn) (high := 256) (by omega) (by omega)]
      have : rI (allF W n) fn 256 = [] := rI_empty (fun j j0 j1 => by
        cases hk : allF W n j with
        | none => rfl
        | some x => have := a2 j (by rw [hk]; intro e; cases e); omega)
      rw [this, List.append_nil]
    have e3 : rI (allF W (n + 1)) fn 256 = rI (pR (W n).2.1 (W n).2.2) 0 256 := by
      rw [rI_split (pR (W n).2.1 (W n).2.2) (low := 0) (mid := fn) (high := 256) (by omega) (by omega)]
      have : rI (pR (W n).2.1 (W n).2.2) 0 fn = [] := rI_empty (fun j j0 j1 => by
        cases hk : pR (W n).2.1 (W n).2.2 j with
        | none => rfl
        | some x => have := hrin j (by rw [hk]; intro e; cases e); omega)
      rw [this, List.nil_append]
      apply rI_congr
      intro j j0 j1
      by_cases q : j < hi
      · exact hag j j0 q
      · rw [hout j (by omega)]
        have x1 : allF W n j = none := by
          cases hk : allF W n j with
          | none => rfl
          | some x => have := a2 j (by rw [hk]; intro e; cases e); omega
        have x2 : pR (W n).2.1 (W n).2.2 j = none := by
          cases hk : pR (W n).2.1 (W n).2.2 j with
          | none => rfl
          | some x => have := hrin j (by rw [hk]; intro e; cases e); omega
        rw [x1, x2]
    rw [rI_split (allF W (n + 1)) (low := 0) (mid := fn) (high := 256) (by omega) (by omega), e1, e3, List.length_append, ← e2, ih]
    rfl
theorem I_count {v N : Int} {M : zMem} (h : Inv N M) : T_X9_count v (fun r M1 => T_X10_count v (fun r' M2 => G N r r' M2) M1) M := by
  obtain ⟨tr, t, s, fl, D, u, H, ps, hC, hR, hO⟩ := h
  have a582 : alen 582 = 1339 := alen_582
  have a64 : alen 64 = 1334 := alen_64
  have hd := DOK_d hO.2.2.2.1.1
  have hO1 := OKS_mono hO (N' := N + 1) (by omega)
  obtain ⟨c1, c2, c3, c4, c5, c6, c7, c8⟩ := id hC
  -- the reference on plain counts
  have rs : ¬ (0 ≤ v ∧ v ≤ 2) → ∀ r, (3 ≤ v → v ≤ 6 → r = M.2 582 (661 + v - 3)) → (13 ≤ v → v ≤ 19 → r = s.2 (v - 13)) → (20 ≤ v → v ≤ 24 → r = tr (v - 20)) → (v = 7 → r = H.1.length) → (v = 8 → r = H.2) → (v = 9 → r = u.1) → (v = 10 → r = D.2.2) → (v = 11 → r = ps.length) → (v = 12 → r = t.length) → (v < 0 ∨ 24 < v → r = -1) → T_X10_count v (fun r' M2 => G N r r' M2) M := by
    intro hv r d1 d2 d3 d7 d8 d9 d10 d11 d12 dn
    unfold T_X10_count
    intro M1 hM1
    have e582 : M1.2 582 = M.2 582 := by rw [hM1]; rfl
    obtain ⟨r1, r2, r3, r4, r5, r6, r7, r8⟩ := RT_576 hR hM1
    have gg : ∀ {y}, r = y → G N r y M1 := fun e => G_576 hC hR hO hM1 e
    apply P_X10_isIn
    · intro a b; exact absurd ⟨a, b⟩ hv
    · intro _
      refine ⟨fun _ => ?_, fun q => absurd rfl q⟩
      apply P_X10_isIn
      · intro a b
        exact ⟨fun q => by omega, fun _ => ⟨inR_mk (by omega) (by omega), inR_mk (by omega) (by omega), ⟨by omega, by omega⟩, gg (by rw [e582]; exact d1 a b)⟩⟩
      · intro _
        refine ⟨fun _ => ?_, fun q => absurd rfl q⟩
        apply P_X10_isIn
        · intro a b
          refine ⟨fun q => by omega, fun _ => ⟨inR_mk (by omega) (by omega), ⟨by omega, by omega⟩, gg ?_⟩⟩
          rw [d2 a b]
          have := r3.2 (v - 13) (by omega) (by omega)
          have e9 : v - 13 + 1 = v - 12 := by omega
          rw [e9] at this
          exact this.symm
        · intro _
          refine ⟨fun _ => ?_, fun q => absurd rfl q⟩
          apply P_X10_isIn
          · intro a b
            refine ⟨fun q => by omega, fun _ => ⟨inR_mk (by omega) (by omega), ⟨by omega, by omega⟩, gg ?_⟩⟩
            rw [d3 a b]
            exact (r1.1 (v - 20) (by omega) (by omega)).symm
          · intro _
            refine ⟨fun _ => ⟨fun q => gg (by rw [d7 q]; exact r7.1.1.symm), fun q => gg (by rw [d8 q]; exact r7.2.symm), fun q => gg (by rw [d9 q]; exact r6.1.symm), fun q => ⟨⟨by omega, by omega⟩, gg (by rw [d10 q]; exact r5.2.2.symm)⟩, fun q => gg (by rw [d11 q]; exact r8.1.symm), fun q => gg (by rw [d12 q]; exact r2.1.symm), fun q => gg (dn (by omega))⟩, fun q => absurd rfl q⟩
  -- the reference on what is on the disk
  have rd0 : 0 ≤ v ∧ v ≤ 2 → D.2.2 ≠ 0 → T_X10_count v (fun r' M2 => G N (-1) r' M2) M := by
    intro hv hn
    unfold T_X10_count
    intro M1 hM1
    apply P_X10_isIn
    · intro _ _
      refine ⟨fun q => by omega, fun _ => ?_⟩
      unfold T_X10_ofAll
      apply P_X10_isDown (RT_576 hR hM1).2.2.2.2.1.2.2 hd
      exact ⟨fun q => absurd q hn, fun _ => G_576 hC hR hO hM1 rfl⟩
    · intro a; omega
  have rd1 : (hdn : D.2.2 = 0) → 0 ≤ v ∧ v ≤ 2 → ∀ (r : Int) (M3 : zMem), CS M3 tr t s fl D u H ps → RT M3 tr t s fl D u H ps → (v = 1 → r = D.1 640) → (v = 0 → r = sN (fun i => (rI (recI D.1 i) 0 256).length) (D.1 640).toNat) → (v = 2 → r = sN (fun i => (wt D.1 i).2.1.length) (D.1 640).toNat) → T_X10_count v (fun r' M2 => G N r r' M2) M3 := by
    intro hdn hv r M3 hC3 hR3 e1 e0 e2
    obtain ⟨hW, _⟩ := OK_z hO hdn
    have hu := hW.1.1
    unfold T_X10_count
    intro M1 hM1
    have hR1 := RT_576 hR3 hM1
    have hC1 := CS_576 hC3 hM1
    have e640 := (rd_all hW (agr_r hR1)).2
    apply P_X10_isIn
    · intro _ _
      refine ⟨fun q => by omega, fun _ => ?_⟩
      unfold T_X10_ofAll
      apply P_X10_isDown hR1.2.2.2.2.1.2.2 hd
      refine ⟨fun _ => ⟨fun q => ?_, fun q => ?_⟩, fun q => absurd hdn q⟩
      · obtain ⟨g, hg⟩ : ∃ g : Int → Nat, g = fun i => if v = 0 then (rI (recI D.1 i) 0 256).length else (wt D.1 i).2.1.length := ⟨_, rfl⟩
        have hgb : ∀ i : Nat, i < (D.1 640).toNat → g i ≤ 256 := by
          intro i hi
          rw [hg]
          dsimp only
          split
          · have := rI_len (recI D.1 i) (low := 0) (high := 256) (by omega); omega
          · have hP := (wt_ok hW (i := i) ⟨by omega, by omega⟩).1.1.1
            have h1 := flat_len hP.2.2.2.2.1
            have h2 := hP.2.2.2.1
            omega
        have hr : r = sN g (D.1 640).toNat := by
          by_cases q0 : v = 0
          · rw [e0 q0, hg]; simp only [q0, if_true]
          · rw [e2 (by omega), hg]; simp only [q0, if_false]
        unfold T_X10_ofAll_26
        apply zl2_rule (fun v2 v3 M2 => (0 ≤ v3 ∧ v3 ≤ D.1 640) ∧ v2 = sN g v3.toNat ∧ Fr fLr M1 M2) (fun _ v3 _ => (D.1 640 - v3).toNat)
        · intro X v2 v3 M2 ⟨k1, k2, k3⟩ hX
          have hR2 := RT_sc hR1 k3 fLr_sc
          have hC2 := CS_rf hC1 k3 fLr_rf
          have x640 := (rd_all hW (agr_r hR2)).2
          apply P_X10_pagesOf (by omega)
          rw [x640]
          refine ⟨fun q2 => ?_, fun q2 => ?_⟩
          · have e3 : v3.toNat = (D.1 640).toNat := by omega
            rw [k2, e3, ← hr]
            exact G_in hC2 hR2 hO1
          · obtain ⟨n, hn⟩ : ∃ n : Nat, v3 = n := ⟨v3.toNat, by omega⟩
            subst hn
            rw [Int.toNat_natCast] at k2
            have hin : 0 ≤ (n : Int) ∧ (n : Int) < D.1 640 := by omega
            obtain ⟨_, ⟨s3, s4⟩, _, s6⟩ := rd hW (agr_r hR2) hin
            have hsb := sN_b hgb n (by omega)
            have hgn := hgb n (by omega)
            have en : ((n : Int) + 1).toNat = n + 1 := by omega
            apply P_X10_numberOf (by omega) ⟨by omega, by omega⟩
            rw [s3]
            apply P_lays582 hW (agr_r hR2) hin
            intro M4 hF4 hT4
            have hR4 := RT_sc hR2 hF4 fLr_sc
            have F4 := Fr_trans k3 hF4
            obtain ⟨_, ⟨y3, y4⟩, _, y6⟩ := rd hW (agr_r hR4) hin
            refine ⟨fun q0 => ?_, fun q0 => ?_⟩
            · have egn : g n = (wt D.1 n).2.1.length := by rw [hg]; simp only [q0, if_false]
              apply P_X10_numberOf (by omega) ⟨by omega, by omega⟩
              rw [y3]
              apply P_X10_entriesOf (by omega) y6.1
              unfold T_X10_ofAll_80
              rw [← egn]
              refine ⟨inR_mk (by omega) (by omega), inR_mk (by omega) (by omega), hX _ _ _ ⟨by omega, ?_, F4⟩ (by omega)⟩
              rw [en, k2]; rfl
            · have egn : g n = (rI (recI D.1 n) 0 256).length := by rw [hg]; simp only [q0, if_true]
              apply P_X10_recordMany hT4
              unfold T_X10_ofAll_80
              rw [← egn]
              refine ⟨inR_mk (by omega) (by omega), inR_mk (by omega) (by omega), hX _ _ _ ⟨by omega, ?_, F4⟩ (by omega)⟩
              rw [en, k2]; rfl
        · exact ⟨by omega, rfl, Fr_refl M1⟩
      · apply P_X10_pagesOf (by omega)
        rw [e640, e1 q]
        exact G_in hC1 hR1 hO1
    · intro a; omega
  have nine : ∀ r : Int, (v < 7 ∨ 12 < v → r = -1) → ¬ (0 ≤ v ∧ v ≤ 6) → ¬ (13 ≤ v ∧ v ≤ 24) → (v = 7 → r = H.1.length) → (v = 8 → r = H.2) → (v = 9 → r = u.1) → (v = 10 → r = D.2.2) → (v = 11 → r = ps.length) → (v = 12 → r = t.length) → T_X10_count v (fun r' M2 => G N r r' M2) M := fun r hr h1 h2 d7 d8 d9 d10 d11 d12 => rs (by omega) r (fun a b => by omega) (fun a b => by omega) (fun a b => by omega) d7 d8 d9 d10 d11 d12 (fun a => hr (by omega))
  have t79 : ¬ (0 ≤ v ∧ v ≤ 6) → ¬ (13 ≤ v ∧ v ≤ 24) → T_X9_count_79 v (fun r M1 => T_X10_count v (fun r' M2 => G N r r' M2) M1) M := by
    intro h1 h2
    unfold T_X9_count_79
    rw [c7.1.1, c7.2, c6.1, c5.2.2, c8.1, c2.1]
    refine ⟨fun q => nine _ (fun e => by omega) h1 h2 (fun _ => rfl) (fun e => by omega) (fun e => by omega) (fun e => by omega) (fun e => by omega) (fun e => by omega), fun q => nine _ (fun e => by omega) h1 h2 (fun e => by omega) (fun _ => rfl) (fun e => by omega) (fun e => by omega) (fun e => by omega) (fun e => by omega), fun q => nine _ (fun e => by omega) h1 h2 (fun e => by omega) (fun e => by omega) (fun _ => rfl) (fun e => by omega) (fun e => by omega) (fun e => by omega), fun q => ⟨fun q2 => nine _ (fun e => by omega) h1 h2 (fun e => by omega) (fun e => by omega) (fun e => by omega) (fun _ => q2.symm) (fun e => by omega) (fun e => by omega), fun q2 => nine _ (fun e => by omega) h1 h2 (fun e => by omega) (fun e => by omega) (fun e => by omega) (fun _ => by omega) (fun e => by omega) (fun e => by omega)⟩, fun q => nine _ (fun e => by omega) h1 h2 (fun e => by omega) (fun e => by omega) (fun e => by omega) (fun e => by omega) (fun _ => rfl) (fun e => by omega), fun q => nine _ (fun e => by omega) h1 h2 (fun e => by omega) (fun e => by omega) (fun e => by omega) (fun e => by omega) (fun e => by omega) (fun _ => rfl), fun q => nine _ (fun _ => rfl) h1 h2 (fun e => by omega) (fun e => by omega) (fun e => by omega) (fun e => by omega) (fun e => by omega) (fun e => by omega)⟩
  have t57 : ¬ (0 ≤ v ∧ v ≤ 6) → ¬ (13 ≤ v ∧ v ≤ 19) → T_X9_count_57 v (fun r M1 => T_X10_count v (fun r' M2 => G N r r' M2) M1) M := by
    intro h1 h2
    unfold T_X9_count_57
    refine ⟨fun q => t79 h1 (by omega), fun q => ⟨fun q2 => t79 h1 (by omega), fun q2 => ⟨inR_mk (by omega) (by omega), ⟨by omega, by omega⟩, rs (by omega) _ (fun a b => by omega) (fun a b => by omega) (fun a b => c1 _ (by omega) (by omega)) (fun e => by omega) (fun e => by omega) (fun e => by omega) (fun e => by omega) (fun e => by omega) (fun e => by omega) (fun e => by omega)⟩⟩⟩
  have t35 : ¬ (0 ≤ v ∧ v ≤ 6) → T_X9_count_35 v (fun r M1 => T_X10_count v (fun r' M2 => G N r r' M2) M1) M := by
    intro h1
    unfold T_X9_count_35
    refine ⟨fun q => t57 h1 (by omega), fun q => ⟨fun q2 => t57 h1 (by omega), fun q2 => ⟨inR_mk (by omega) (by omega), ⟨by omega, by omega⟩, rs (by omega) _ (fun a b => by omega) (fun a b => c3.2 _ (by omega) (by omega)) (fun a b => by omega) (fun e => by omega) (fun e => by omega) (fun e => by omega) (fun e => by omega) (fun e => by omega) (fun e => by omega) (fun e => by omega)⟩⟩⟩
  have t15 : ¬ (0 ≤ v ∧ v ≤ 2) → T_X9_count_15 v (fun r M1 => T_X10_count v (fun r' M2 => G N r r' M2) M1) M := by
    intro h1
    unfold T_X9_count_15
    refine ⟨fun q => t35 (by omega), fun q => ⟨fun q2 => t35 (by omega), fun q2 => ⟨inR_mk (by omega) (by omega), ⟨by omega, by omega⟩, rs h1 _ (fun a b => ?_) (fun a b => by omega) (fun a b => by omega) (fun e => by omega) (fun e => by omega) (fun e => by omega) (fun e => by omega) (fun e => by omega) (fun e => by omega) (fun e => by omega)⟩⟩⟩
    have hl1 := c5.2.1
    have hl2 := hR.2.2.2.2.1.2.1
    have hv : v = 3 ∨ v = 4 ∨ v = 5 ∨ v = 6 := by omega
    unfold Lat at hl1 hl2
    rcases hv with rfl | rfl | rfl | rfl
    · show M.2 1 0 = M.2 582 661
      rw [hl1.1, hl2.1]
    · show M.2 1 (0 + 1) = M.2 582 (661 + 1)
      rw [hl1.2.1, hl2.2.1]
    · show M.2 1 (0 + 2) = M.2 582 (661 + 2)
      rw [hl1.2.2.1, hl2.2.2.1]
    · show M.2 1 (0 + 3) = M.2 582 (661 + 3)
      rw [hl1.2.2.2, hl2.2.2.2]
  unfold T_X9_count
  refine ⟨fun q => t15 (by omega), fun q => ⟨fun q2 => t15 (by omega), fun q2 => ?_⟩⟩
  have hv : 0 ≤ v ∧ v ≤ 2 := by omega
  unfold T_X9_countOnDisk
  rw [c5.2.2]
  refine ⟨fun hdn => ?_, fun hdn => rd0 hv hdn⟩
  obtain ⟨hW, _⟩ := OK_z hO hdn
  have hu := hW.1.1
  have e640 := (rd_all hW (agr_c hC)).2
  have hA : ∀ i, 0 ≤ i → i < D.1 640 → PgX D.1 i (wt D.1 i).1 (wt D.1 i).2.1 (wt D.1 i).2.2 := fun i a b => (wt_ok hW ⟨a, b⟩).1
  apply P_X4_inUse (by omega) (by rw [e640]; omega)
  rw [e640]
  refine ⟨fun q3 => ⟨fun q4 => ?_, fun q4 => ?_⟩, fun q3 => rd1 hdn hv _ M hC hR (fun _ => rfl) (fun e => by omega) (fun e => by omega)⟩
  · unfold T_X9_countOnDisk_65
    have hgb : ∀ i : Nat, i < (D.1 640).toNat → (fun i => (wt D.1 i).2.1.length) (i : Int) ≤ 256 := by
      intro i hi
      have hP := (wt_ok hW (i := i) ⟨by omega, by omega⟩).1.1.1
      have h1 := flat_len hP.2.2.2.2.1
      have h2 := hP.2.2.2.1
      dsimp only
      omega
    apply zp2_rule (fun v3 v4 => (0 ≤ v4 ∧ v4 ≤ D.1 640) ∧ v3 = sN (fun i => (wt D.1 i).2.1.length) v4.toNat) (fun _ v4 => (D.1 640 - v4).toNat)
    · intro X v3 v4 ⟨k1, k2⟩ hX
      refine ⟨fun q5 => ?_, fun q5 => ?_⟩
      · have e3 : v4.toNat = (D.1 640).toNat := by omega
        rw [k2, e3]
        exact rd1 hdn hv _ M hC hR (fun e => by omega) (fun e => by omega) (fun _ => rfl)
      · obtain ⟨n, hn⟩ : ∃ n : Nat, v4 = n := ⟨v4.toNat, by omega⟩
        subst hn
        rw [Int.toNat_natCast] at k2
        have hin : 0 ≤ (n : Int) ∧ (n : Int) < D.1 640 := by omega
        obtain ⟨_, ⟨s3, s4⟩, _, s6⟩ := rd hW (agr_c hC) hin
        have hsb := sN_b (h := fun i => (wt D.1 i).2.1.length) (b := 256) (m := (D.1 640).toNat) hgb n (by omega)
        have hgn := hgb n (by omega)
        dsimp only at hgn
        have en : ((n : Int) + 1).toNat = n + 1 := by omega
        apply P_X4_pageAt (by omega) ⟨by omega, by omega⟩ (by rw [s3]; exact s4)
        rw [s3]
        apply P_X4_entryCount (by omega) s6.1 (rd_in hW (agr_c hC))
        refine ⟨inR_mk (by omega) (by omega), inR_mk (by omega) (by omega), hX _ _ ⟨by omega, ?_⟩ (by omega)⟩
        rw [en, k2]; rfl
    · exact ⟨by omega, rfl⟩
  · apply P_X8_loadAll (W := wt D.1) (Or.inr rfl) (by omega) (by unfold fLd fTb fUn; decide) (agr_c hC) (WFz_i hW) hA
    intro M8 hF8 hT8
    apply P_X8_countIn hT8 (by omega)
    rw [allF_len hW.1 hA _ (by omega)]
    exact rd1 hdn hv _ M8 (CS_sc hC hF8 fLd5_sc) (RT_cl hR hF8 fLd5_cl) (fun e => by omega) (fun _ => rfl) (fun e => by omega)
