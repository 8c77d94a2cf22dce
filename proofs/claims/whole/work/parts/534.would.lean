theorem P_X1_bytesThroughJournal {F b : Int → Int} {Q : Int → Prop} {M : zMem} (hF : agr (M.2 128) F) (hu : 1 ≤ F 640 ∧ F 640 ≤ 10) (hb : ∀ p, 0 ≤ p → p < 10 → M.2 130 p = b p ∧ (b p = 0 ∨ b p = 1)) (hQ : Q (5 + 129 * (pgsTo b 10).length + 4 * F 640)) : T_X1_bytesThroughJournal Q M := by
  have a128 : alen 128 = 661 := alen_128
  have e640 := hF 640 (by omega) (by omega)
  unfold T_X1_bytesThroughJournal T_X1_bytesThroughJournal_4
  apply zp2_rule (fun v1 v2 => (0 ≤ v2 ∧ v2 ≤ 10) ∧ v1 = (pgsTo b v2.toNat).length) (fun _ v2 => (10 - v2).toNat)
  · intro X v1 v2 ⟨h1, h2⟩ hX
    have hn := pgsTo_len b v2.toNat
    refine ⟨fun q => ?_, fun q => ⟨⟨by omega, by omega⟩, ?_⟩⟩
    · have e2 : v2.toNat = 10 := by omega
      rw [e2] at h2 hn
      apply P_X4_inUse (by omega) (by rw [e640]; omega)
      rw [e640]
      refine ⟨inR_mk (by omega) (by omega), inR_mk (by omega) (by omega), inR_mk (by omega) (by omega), inR_mk (by omega) (by omega), inR_mk (by omega) (by omega), inR_mk (by omega) (by omega), inR_mk (by omega) (by omega), inR_mk (by omega) (by omega), inR_mk (by omega) (by omega), inR_mk (by omega) (by omega), ?_⟩
      refine Eq.mp (congrArg Q ?_) hQ
      omega
    · obtain ⟨n, hnn⟩ : ∃ n : Nat, v2 = n := ⟨v2.toNat, by omega⟩
      subst hnn
      obtain ⟨x1, x2⟩ := hb n (by omega) (by omega)
      rw [x1]
      rw [Int.toNat_natCast] at h2 hn
      refine ⟨inR_mk (by omega) (by omega), inR_mk (by omega) (by omega), hX _ _ ⟨by omega, ?_⟩ (by omega)⟩
      have en : ((n : Int) + 1).toNat = n + 1 := by omega
      rw [en, pgsTo]
      rcases x2 with x2 | x2
      · rw [if_neg (by omega), x2]; omega
      · rw [if_pos x2, len_snoc, x2]; omega
  · exact ⟨by omega, rfl⟩
theorem P_X10_would_102 {n : Int} {F b : Int → Int} {Q : Int → zMem → Prop} {M : zMem} (hp : 0 ≤ n → agr (M.2 583) F ∧ (1 ≤ F 640 ∧ F 640 ≤ 10) ∧ ∀ p, 0 ≤ p → p < 10 → bt (M.1 606) p = b p) (hQ0 : n < 0 → Q 0 M) (hQ1 : 0 ≤ n → Q (5 + 129 * (pgsTo b 10).length + 4 * F 640) M) : T_X10_would_102 n Q 0 0 M := by
  have a583 : alen 583 = 665 := alen_583
  unfold T_X10_would_102
  apply zp2_rule (fun v3 v4 => (0 ≤ v4 ∧ v4 ≤ 10) ∧ (0 ≤ v3 ∧ v3 ≤ v4) ∧ (0 ≤ n → v3 = (pgsTo b v4.toNat).length)) (fun _ v4 => (10 - v4).toNat)
  · intro X v3 v4 ⟨h1, h2, h3⟩ hX
    refine ⟨fun q => ⟨fun q0 => ?_, fun q0 => hQ0 (by omega)⟩, fun q => ?_⟩
    · obtain ⟨p1, p2, p3⟩ := hp q0
      have e4 : v4.toNat = 10 := by omega
      have h3 := h3 q0
      rw [e4] at h3
      refine ⟨inR_mk (by omega) (by omega), inR_mk (by omega) (by omega), ?_⟩
      unfold T_X10_directoryMany
      apply P_X10_pagesOf (by omega)
      rw [p1 640 (by omega) (by omega)]
      refine ⟨inR_mk (by omega) (by omega), inR_mk (by omega) (by omega), inR_mk (by omega) (by omega), inR_mk (by omega) (by omega), ?_⟩
      refine Eq.mp (congrArg (fun z => Q z M) ?_) (hQ1 q0)
      omega
    · have hz : zand (zshr (M.1 606) v4) 1 = 0 ∨ zand (zshr (M.1 606) v4) 1 = 1 := by rw [zand_1]; omega
      refine ⟨inR_mk (by omega) (by omega), inR_mk (by omega) (by omega), hX _ _ ⟨by omega, by omega, fun q0 => ?_⟩ (by omega)⟩
      obtain ⟨p1, p2, p3⟩ := hp q0
      have h3 := h3 q0
      obtain ⟨k, hk⟩ : ∃ k : Nat, v4 = k := ⟨v4.toNat, by omega⟩
      subst hk
      have hb : zand (zshr (M.1 606) k) 1 = b k := p3 k (by omega) (by omega)
      rw [hb] at hz ⊢
      rw [Int.toNat_natCast] at h3
      have en : ((k : Int) + 1).toNat = k + 1 := by omega
      rw [en, pgsTo]
      rcases hz with x2 | x2
      · rw [if_neg (by omega), x2]; omega
      · rw [if_pos x2, len_snoc, x2]; omega
  · exact ⟨by omega, by omega, fun _ => rfl⟩
theorem I_would {v N : Int} {M : zMem} (h : Inv N M) : T_X9_would v (fun r M1 => T_X10_would v (fun r' M2 => G N r r' M2) M1) M := by
  obtain ⟨tr, t, s, fl, ⟨f, L, d⟩, u, H, ps, hC, hR, hO⟩ := h
  have a582 : alen 582 = 1339 := alen_582
  have a583 : alen 583 = 665 := alen_583
  have a64 : alen 64 = 1334 := alen_64
  have a128 : alen 128 = 661 := alen_128
  have hg := hO.1
  have hLk : lrnOK L := hO.2.2.2.1.2
  have hd := DOK_d hO.2.2.2.1.1
  have ho2 := hO.2.1
  have hO1 := OKS_mono hO (N' := N + 1) (by omega)
  have none1 : (d ≠ 0 ∨ ¬ (0 ≤ v ∧ v ≤ 3)) → T_X10_would v (fun r' M2 => G N (-1) r' M2) M := by
    intro hno
    unfold T_X10_would
    intro M1 hM1
    have hR1 := RT_576 hR hM1
    apply P_X10_isDown hR1.2.2.2.2.1.2.2 hd
    refine ⟨fun _ => G_576 hC hR hO hM1 rfl, fun q => ?_⟩
    have q : d = 0 := q
    apply P_X10_isIn
    · intro a b; omega
    · intro _; exact ⟨fun q => absurd rfl q, fun _ => G_576 hC hR hO hM1 rfl⟩
  unfold T_X9_would
  rw [hC.2.2.2.2.1.2.2]
  refine ⟨fun q => none1 (Or.inl q), fun hdn => ⟨fun q => none1 (by omega), fun q => ⟨fun q2 => ?_, fun q2 => none1 (by omega)⟩⟩⟩
  have hdn : d = 0 := hdn
  subst hdn
  obtain ⟨hW, h661⟩ : WFz f ∧ f 661 = 0 := OK_z hO rfl
  have hu := hW.1.1
  obtain ⟨r, hr⟩ := TO_ex tr f L ho2.2
  obtain ⟨t1, t2, t3⟩ := TO_res hr hg hW hLk ho2.1
  -- the reference, by the answer
  have rf : ∀ (y : Int) (M3 : zMem), CS M3 tr t s fl (f, L, 0) u H ps → RT M3 tr t s fl (f, L, 0) u H ps → (v = 0 → y = r.1) → (v = 1 → r.1 < 0 → y = 0) → (v = 1 → 0 ≤ r.1 → y = 5 + 129 * (pgsTo (dfN r.2.2.1 f) 10).length + 4 * r.2.2.1 640) → (v = 2 → r.1 < 0 → y = L.1) → (v = 2 → 0 ≤ r.1 → y = r.2.2.2.1) → (v = 3 → r.1 < 0 → y = f 640) → (v = 3 → 0 ≤ r.1 → y = r.2.2.1 640) → T_X10_would v (fun r' M2 => G N y r' M2) M3 := by
    intro y M3 hC3 hR3 c0 c1 c1' c2 c2' c3 c3'
    unfold T_X10_would
    intro M4 hM4
    have hR4 := RT_576 hR3 hM4
    have hC4 := CS_576 hC3 hM4
    apply P_X10_isDown hR4.2.2.2.2.1.2.2 hd
    refine ⟨fun q => absurd rfl q, fun _ => ?_⟩
    apply P_X10_isIn
    · intro _ _
      refine ⟨fun _ => ?_, fun q => by omega⟩
      rw [hR4.2.1.1]
      apply P_dra hr hR4.2.1.2 ho2.1 ho2.2 (agr_r hR4) hW hR4.1.1 hg hLk hR4.2.2.2.2.1.2.1
      · intro hneg M10 hF10 _
        have hR10 := RT_sc hR4 hF10 fDd_sc
        have hC10 := CS_rf hC4 hF10 fDd_rf
        have gg : ∀ {z}, y = z → G N y z M10 := fun e => by rw [e]; exact G_in hC10 hR10 hO1
        have e640 := (rd_all hW (agr_r hR10)).2
        have eL : M10.2 582 661 = L.1 := hR10.2.2.2.2.1.2.1.1
        refine ⟨fun v0 => ⟨fun v1 => ?_, fun v1 => ⟨fun q => by omega, fun _ => ⟨fun v2 => ?_, fun v2 => ⟨⟨by omega, by omega⟩, gg (by rw [eL]; exact c2 v2 hneg)⟩⟩⟩⟩, fun v0 => gg (c0 v0)⟩
        · refine P_X10_would_102 (F := r.2.2.1) (b := dfN r.2.2.1 f) (fun q => by omega) (fun _ => gg (c1 (by omega) hneg)) (fun q => by omega)
        · apply P_X10_pagesOf (by omega)
          rw [e640]
          exact gg (c3 (by omega) hneg)
      · intro hpos M10 hF10 _ w1 w2 w3 w4
        have hl10 := (t2 hpos).2.1.1.1
        have hR10 := RT_sc hR4 hF10 fDd_sc
        have hC10 := CS_rf hC4 hF10 fDd_rf
        have gg : ∀ {z}, y = z → G N y z M10 := fun e => by rw [e]; exact G_in hC10 hR10 hO1
        have eL : M10.2 583 661 = r.2.2.2.1 := w2.1
        refine ⟨fun v0 => ⟨fun v1 => ?_, fun v1 => ⟨fun _ => ⟨fun v2 => ?_, fun v2 => ⟨⟨by omega, by omega⟩, gg (by rw [eL]; exact c2' v2 hpos)⟩⟩, fun q => by omega⟩⟩, fun v0 => gg (c0 v0)⟩
        · exact P_X10_would_102 (F := r.2.2.1) (b := dfN r.2.2.1 f) (fun _ => ⟨w1, hl10, fun p p0 p1 => dfN_of (w4 p p0 p1)⟩) (fun q => by omega) (fun _ => gg (c1' (by omega) hpos))
        · apply P_X10_pagesOf (by omega)
          rw [w1 640 (by omega) (by omega)]
          exact gg (c3' (by omega) hpos)
    · intro a; omega
  apply P_reh hr hC.2.1 ho2.1 ho2.2 (agr_c hC) hW hC.1 hg hLk hC.2.2.2.2.1.2.1
  · intro hneg M12 hF12 _
    have hC12 := CS_sc hC hF12 fRh_sc
    have hR12 := RT_cl hR hF12 fRh_cl
    have e640 := (rd_all hW (agr_c hC12)).2
    have eL : M12.2 1 0 = L.1 := hC12.2.2.2.2.1.2.1.1
    refine ⟨fun q => by omega, fun _ => ?_⟩
    unfold T_X9_would_35
    refine ⟨fun q => rf _ M12 hC12 hR12 (fun _ => rfl) (fun e => by omega) (fun e => by omega) (fun e => by omega) (fun e => by omega) (fun e => by omega) (fun e => by omega), fun q => ⟨fun q => by omega, fun _ => rf _ M12 hC12 hR12 (fun e => by omega) (fun _ _ => rfl) (fun _ e => by omega) (fun e => by omega) (fun e => by omega) (fun e => by omega) (fun e => by omega)⟩, fun q => ⟨fun q => by omega, fun _ => ⟨⟨by omega, by omega⟩, rf _ M12 hC12 hR12 (fun e => by omega) (fun e => by omega) (fun e => by omega) (fun _ _ => eL) (fun _ e => by omega) (fun e => by omega) (fun e => by omega)⟩⟩, fun q => ⟨fun q => by omega, fun _ => ?_⟩⟩
    apply P_X4_inUse (by omega) (by rw [e640]; omega)
    rw [e640]
    exact rf _ M12 hC12 hR12 (fun e => by omega) (fun e => by omega) (fun e => by omega) (fun e => by omega) (fun e => by omega) (fun _ _ => rfl) (fun _ e => by omega)
  · intro hpos M12 hF12 _ w1 w2 w3
    have hl10 := (t2 hpos).2.1.1.1
    have hC12 := CS_sc hC hF12 fRh_sc
    have hR12 := RT_cl hR hF12 fRh_cl
    have eL : M12.2 129 0 = r.2.2.2.1 := w2.1
    have e640 := w1 640 (by omega) (by omega)
    refine ⟨fun _ => ?_, fun q => by omega⟩
    unfold T_X9_would_35
    refine ⟨fun q => rf _ M12 hC12 hR12 (fun _ => rfl) (fun e => by omega) (fun e => by omega) (fun e => by omega) (fun e => by omega) (fun e => by omega) (fun e => by omega), fun q => ⟨fun _ => ?_, fun q => absurd rfl q⟩, fun q => ⟨fun _ => ⟨⟨by omega, by omega⟩, rf _ M12 hC12 hR12 (fun e => by omega) (fun e => by omega) (fun e => by omega) (fun _ e => by omega) (fun _ _ => eL) (fun e => by omega) (fun e => by omega)⟩, fun q => absurd rfl q⟩, fun q => ⟨fun _ => ?_, fun q => absurd rfl q⟩⟩
    · apply P_X1_bytesThroughJournal w1 hl10 (fun p p0 p1 => ⟨dfN_of (w3 p p0 p1), dfN_01 _ _ _⟩)
      exact rf _ M12 hC12 hR12 (fun e => by omega) (fun _ e => by omega) (fun _ _ => rfl) (fun e => by omega) (fun e => by omega) (fun e => by omega) (fun e => by omega)
    · apply P_X4_inUse (by omega) (by rw [e640]; omega)
      rw [e640]
      exact rf _ M12 hC12 hR12 (fun e => by omega) (fun e => by omega) (fun e => by omega) (fun e => by omega) (fun e => by omega) (fun _ e => by omega) (fun _ _ => rfl)
