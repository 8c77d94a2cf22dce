section
variable {tr : Int → Int} {t : List Int} {s : Int × (Int → Int)} {fl : Int} {D : (Int → Int) × Lrn × Int} {u : Int × Int} {H : List Int × Int} {ps : List Mom}
theorem P_X9_isOrder {v N : Int} {Q : Int → Prop} {M : zMem} (hC : CS M tr t s fl D u H ps) (hO : OKS N tr t s D u H ps) (hQ1 : D.2.2 = 0 → 0 ≤ v → v < D.1 640 → Q 1) (hQ0 : ¬ (D.2.2 = 0 ∧ 0 ≤ v ∧ v < D.1 640) → Q 0) : T_X9_isOrder v Q M := by
  have a64 : alen 64 = 1334 := alen_64
  unfold T_X9_isOrder
  rw [hC.2.2.2.2.1.2.2]
  refine ⟨fun q => hQ0 (by omega), fun q => ⟨fun q2 => hQ0 (by omega), fun q2 => ?_⟩⟩
  obtain ⟨hW, _⟩ := OK_z hO q
  have hu := hW.1.1
  have e := (rd_all hW (agr_c hC)).2
  apply P_X4_inUse (by omega) (by rw [e]; omega)
  rw [e]
  exact ⟨fun q3 => hQ0 (by omega), fun q3 => hQ1 q (by omega) (by omega)⟩
theorem P_X10_isPlace {v N : Int} {Q : Int → Prop} {M : zMem} (hR : RT M tr t s fl D u H ps) (hO : OKS N tr t s D u H ps) (hQ1 : D.2.2 = 0 → 0 ≤ v → v < D.1 640 → Q 1) (hQ0 : ¬ (D.2.2 = 0 ∧ 0 ≤ v ∧ v < D.1 640) → Q 0) : T_X10_isPlace v Q M := by
  have a582 : alen 582 = 1339 := alen_582
  unfold T_X10_isPlace
  apply P_X10_isDown hR.2.2.2.2.1.2.2 (DOK_d hO.2.2.2.1.1)
  refine ⟨fun q => hQ0 (by omega), fun q => ?_⟩
  obtain ⟨hW, _⟩ := OK_z hO q
  have hu := hW.1.1
  have e := (rd_all hW (agr_r hR)).2
  apply P_X10_pagesOf (by omega)
  rw [e]
  refine ⟨inR_mk (by omega) (by omega), ?_⟩
  apply P_X10_isIn
  · intro a b; exact ⟨fun q => by omega, fun _ => hQ1 q a (by omega)⟩
  · intro a; exact ⟨fun _ => hQ0 (by omega), fun q => absurd rfl q⟩
end
theorem lowK_from {r : Rec} {v k : Int} (hk : v ≤ k ∧ k ≤ 256) (h1 : rI r v k = []) (h2 : k < 256 → r k ≠ none) : lowK (rI r v 256) = if 256 ≤ k then -1 else k := by
  rw [rI_split r (low := v) (mid := k) (high := 256) hk.1 hk.2, h1, List.nil_append]
  by_cases q : 256 ≤ k
  · rw [if_pos q, rI_nil r q]; rfl
  · rw [if_neg q]
    obtain ⟨x, _, e, _⟩ := rI_from (by omega) (h2 (by omega))
    rw [e]; rfl
theorem I_next {v N : Int} {M : zMem} (h : Inv N M) : T_X9_next v (fun r M1 => T_X10_next v (fun r' M2 => G N r r' M2) M1) M := by
  obtain ⟨tr, t, s, fl, D, u, H, ps, hC, hR, hO⟩ := h
  have a582 : alen 582 = 1339 := alen_582
  have a64 : alen 64 = 1334 := alen_64
  have hd := DOK_d hO.2.2.2.1.1
  have ec := hC.2.2.2.2.1.2.2
  have none1 : (D.2.2 ≠ 0 ∨ ¬ (0 ≤ v ∧ v < 256)) → T_X10_next v (fun r' M2 => G N (-1) r' M2) M := by
    intro hno
    unfold T_X10_next
    intro M1 hM1
    have hR1 := RT_576 hR hM1
    apply P_X10_isDown hR1.2.2.2.2.1.2.2 hd
    refine ⟨fun _ => G_576 hC hR hO hM1 rfl, fun q => ?_⟩
    apply P_X10_isKey
    · intro hk; omega
    · intro _; exact ⟨fun q => absurd rfl q, fun _ => G_576 hC hR hO hM1 rfl⟩
  unfold T_X9_next
  rw [ec]
  refine ⟨fun q => none1 (Or.inl q), fun q => ?_⟩
  apply P_X9_isByte
  · intro hk
    refine ⟨fun _ => ?_, fun q => by omega⟩
    obtain ⟨hW, _⟩ := OK_z hO q
    have hA : ∀ i, 0 ≤ i → i < D.1 640 → PgX D.1 i (wt D.1 i).1 (wt D.1 i).2.1 (wt D.1 i).2.2 := fun i a b => (wt_ok hW ⟨a, b⟩).1
    apply P_X8_loadAll (W := wt D.1) (Or.inr rfl) (by omega) (by unfold fLd fTb fUn; decide) (agr_c hC) (WFz_i hW) hA
    intro M4 hF4 hT4
    have hC4 := CS_sc hC hF4 fLd5_sc
    have hR4 := RT_cl hR hF4 fLd5_cl
    apply P_X8_lowestIn hT4 (by omega)
    unfold T_X10_next
    intro M1 hM1
    have hR1 := RT_576 hR4 hM1
    have hC1 := CS_576 hC4 hM1
    apply P_X10_isDown hR1.2.2.2.2.1.2.2 hd
    refine ⟨fun q2 => absurd q q2, fun _ => ?_⟩
    apply P_X10_isKey
    · intro _
      refine ⟨fun _ => ?_, fun q => by omega⟩
      apply P_X10_laysAll (W := wt D.1) (by omega) (by unfold fLr fTr fUr; decide) (agr_r hR1) (WFz_i hW) hA
      intro M6 hF6 hT6
      have hC6 := CS_rf hC1 hF6 fLr_rf
      have hR6 := RT_sc hR1 hF6 fLr_sc
      have hO6 := OKS_mono hO (N' := N + 1) (by omega)
      apply P_X10_lowestKey hT6 (by omega)
      intro k hk0 hk1 hk2
      rw [lowK_from hk0 hk1 hk2]
      refine ⟨fun q2 => ?_, fun q2 => ?_⟩
      · rw [if_pos q2]; exact G_in hC6 hR6 hO6
      · rw [if_neg q2]; exact G_in hC6 hR6 hO6
    · intro q2; exact absurd hk q2
  · intro hk; exact ⟨fun q => absurd rfl q, fun _ => none1 (Or.inr hk)⟩
theorem I_packing {v w N : Int} {M : zMem} (h : Inv N M) : T_X9_packing v w (fun r M1 => T_X10_packing v w (fun r' M2 => G N r r' M2) M1) M := by
  obtain ⟨tr, t, s, fl, D, u, H, ps, hC, hR, hO⟩ := h
  have a582 : alen 582 = 1339 := alen_582
  have a64 : alen 64 = 1334 := alen_64
  have a321 : alen 321 = 400 := alen_321
  have none1 : ¬ ((D.2.2 = 0 ∧ 0 ≤ v ∧ v < D.1 640) ∧ 0 ≤ w ∧ w ≤ 3) → T_X10_packing v w (fun r' M2 => G N (-1) r' M2) M := by
    intro hno
    unfold T_X10_packing
    intro M1 hM1
    have hR1 := RT_576 hR hM1
    apply P_X10_isPlace hR1 hO
    · intro a b c
      refine ⟨fun q => by omega, fun _ => ?_⟩
      apply P_X10_isIn
      · intro a2 b2; exact absurd ⟨⟨a, b, c⟩, a2, b2⟩ hno
      · intro _; exact ⟨fun q => absurd rfl q, fun _ => G_576 hC hR hO hM1 rfl⟩
    · intro _; exact ⟨fun _ => G_576 hC hR hO hM1 rfl, fun q => absurd rfl q⟩
  unfold T_X9_packing
  apply P_X9_isOrder hC hO
  · intro hd v0 v1
    refine ⟨fun q => by omega, fun _ => ⟨fun q => none1 (by omega), fun q => ⟨fun q2 => ?_, fun q2 => none1 (by omega)⟩⟩⟩
    obtain ⟨hW, _⟩ := OK_z hO hd
    have hu := hW.1.1
    obtain ⟨_, ⟨r3, r4⟩, _, _⟩ := rd hW (agr_c hC) ⟨v0, v1⟩
    have hRk := recI_ok hW ⟨v0, v1⟩
    have h120 : (plain (rI (recI D.1 v) 0 256)).length ≤ 120 := (wt_ok hW ⟨v0, v1⟩).1.2.2.2
    apply P_X4_pageAt (by omega) ⟨v0, by omega⟩ (by rw [r3]; exact r4)
    rw [r3]
    apply P_load5 hW (agr_c hC) ⟨v0, v1⟩
    intro M6 hF6 hT6
    apply P_X8_layOut hT6 hRk (by omega) (by omega)
    intro M8 hF8 hA8
    have hbp := plain_b (rI_ok hRk 0 256)
    apply P_X6_packRow (r := 321) (Or.inr rfl) hA8 rfl (by omega) (by omega) (by unfold fPk; decide) hbp
    intro M10 hF10 _
    have FF : Fr (fun k => 128 ≤ k ∧ k < 448) M M10 := Fr_trans (Fr_trans (Fr_mono hF6 (fun k h => by unfold fLd fTb fUn at h; omega)) (Fr_mono hF8 (fun k h => by omega))) (Fr_mono hF10 (fun k h => by unfold fPk at h; omega))
    have hC10 := CS_sc hC FF (fun k h => by omega)
    have hR10 := RT_cl hR FF (fun k h => by omega)
    unfold T_X10_packing
    intro M1 hM1
    have hR1 := RT_576 hR10 hM1
    have hC1 := CS_576 hC10 hM1
    apply P_X10_isPlace hR1 hO
    · intro _ _ _
      refine ⟨fun q => by omega, fun _ => ?_⟩
      apply P_X10_isIn
      · intro _ _
        refine ⟨fun _ => ?_, fun q => by omega⟩
        obtain ⟨_, ⟨s3, s4⟩, _, _⟩ := rd hW (agr_r hR1) ⟨v0, v1⟩
        apply P_X10_numberOf (by omega) ⟨v0, by omega⟩
        rw [s3]
        apply P_lays582 hW (agr_r hR1) ⟨v0, v1⟩
        intro M7 hF7 hT7
        apply P_X10_laysPlain hT7 hRk (by omega)
        intro B8 hFB8 hA9 hn9
        apply P_X10_packs hA9 hn9 (by have e9 : (255 : Int) + 1 = 256 := rfl; rw [e9]; omega) (plain_b (rI_ok hRk _ _))
        intro B10 hFB10 _ _
        have GG : Fr (fun k => 589 ≤ k ∧ k ≤ 606) M1 B10 := Fr_trans (Fr_trans (Fr_mono hF7 (fun k h => by unfold fLr fTr fUr at h; omega)) (Fr_mono hFB8 (fun k h => by omega))) (Fr_mono hFB10 (fun k h => by unfold fRp at h; omega))
        exact G_in (CS_rf hC1 GG (fun k h => by omega)) (RT_sc hR1 GG (fun k h => by omega)) (OKS_mono hO (by omega))
      · intro a; omega
    · intro hno; exact absurd ⟨hd, v0, v1⟩ hno
  · intro hno
    exact ⟨fun _ => none1 (fun h => hno h.1), fun q => absurd rfl q⟩
theorem I_behind {v j w N : Int} {M : zMem} (h : Inv N M) : T_X9_behind v j w (fun r M1 => T_X10_behind v j w (fun r' M2 => G N r r' M2) M1) M := by
  obtain ⟨tr, t, s, fl, D, u, H, ps, hC, hR, hO⟩ := h
  have a582 : alen 582 = 1339 := alen_582
  have a64 : alen 64 = 1334 := alen_64
  by_cases hb : D.2.2 = 0 ∧ 0 ≤ v ∧ v < D.1 640
  · obtain ⟨hd, v0, v1⟩ := hb
    obtain ⟨hW, _⟩ := OK_z hO hd
    have hu := hW.1.1
    have hPw := (wt_ok hW ⟨v0, v1⟩).1
    obtain ⟨es, hes⟩ : ∃ es, es = (wt D.1 v).2.1 := ⟨_, rfl⟩
    obtain ⟨rs, hrs⟩ : ∃ rs, rs = (wt D.1 v).2.2 := ⟨_, rfl⟩
    have hRk : RecOK (pR (es.take j.toNat) rs) := by
      have := hPw.1
      rw [← hes, ← hrs] at this
      exact RecOK_aps _ (RecOK_adds rs RecOK_0 this.2.2.2.2.1) (fun e he => this.1.2.2.2.2.1 e (take_mem he)) (canAll_take _ _ _ this.2.2.2.2.2)
    have rf : ∀ (r : Int) (M3 : zMem), CS M3 tr t s fl D u H ps → RT M3 tr t s fl D u H ps → ((0 ≤ j ∧ j ≤ es.length) → w = -1 → r = (rI (pR (es.take j.toNat) rs) 0 256).length) → ((0 ≤ j ∧ j ≤ es.length) → (0 ≤ w ∧ w < 256) → r = szR (pR (es.take j.toNat) rs) w) → (¬ ((0 ≤ j ∧ j ≤ es.length) ∧ (w = -1 ∨ (0 ≤ w ∧ w < 256))) → r = -1) → T_X10_behind v j w (fun r' M2 => G N r r' M2) M3 := by
      intro r M3 hC3 hR3 c1 c2 c3
      unfold T_X10_behind
      intro M9 hM9
      have hR9 := RT_576 hR3 hM9
      have hC9 := CS_576 hC3 hM9
      have hO9 := OKS_mono hO (N' := N + 1) (by omega)
      have b27 : (w = -1 ∨ (0 ≤ w ∧ w < 256)) → T_X10_behind_27 v j w (fun r' M2 => G N r r' M2) M9 := by
        intro hw
        obtain ⟨_, ⟨s3, s4⟩, _, s5⟩ := rd hW (agr_r hR9) ⟨v0, v1⟩
        rw [← hes, ← hrs] at s5
        unfold T_X10_behind_27
        apply P_X10_numberOf (by omega) ⟨v0, by omega⟩
        rw [s3]
        apply P_X10_entriesOf (by omega) s5.1
        apply P_X10_isIn
        · intro a b
          refine ⟨fun _ => ?_, fun q => by omega⟩
          apply P_X10_clears
          intro M5 hF5 hT5
          have hF5b : Fr fLr M9 M5 := Fr_mono hF5 (fun k h => by unfold fLr fTr; omega)
          have e582 : M5.2 582 = M9.2 582 := hF5.2 582 (by decide)
          obtain ⟨k1, k2, k3, ⟨out, k4, k5⟩, k6, k7⟩ := s5
          rw [← e582] at k1 k2 k5
          apply P_X10_lays (by omega) (by unfold fLr fTr fUr; decide) hT5 RecOK_0 k1 k2 k3 k4 k5 k6 (canAll_take _ _ _ k7)
          intro M6 hF6 hT6
          have FF := Fr_trans hF5b hF6
          have hC6 := CS_rf hC9 FF fLr_rf
          have hR6 := RT_sc hR9 FF fLr_sc
          refine ⟨fun q => ⟨by omega, ?_⟩, fun q => ?_⟩
          · rw [tabR_sz (r := pR (es.take j.toNat) rs) hT6 (by omega), c2 ⟨a, b⟩ (by omega)]
            exact G_in hC6 hR6 hO9
          · apply P_X10_recordMany (r := pR (es.take j.toNat) rs) hT6
            rw [c1 ⟨a, b⟩ q]
            exact G_in hC6 hR6 hO9
        · intro a
          refine ⟨fun q => absurd rfl q, fun _ => ?_⟩
          rw [c3 (by omega)]
          exact G_in hC9 hR9 hO9
      apply P_X10_isPlace hR9 hO
      · intro _ _ _
        refine ⟨fun q => by omega, fun _ => ⟨fun q => b27 (Or.inl q), fun q => ?_⟩⟩
        apply P_X10_isKey
        · intro hk; exact ⟨fun _ => b27 (Or.inr hk), fun q => by omega⟩
        · intro hk
          refine ⟨fun q => absurd rfl q, fun _ => ?_⟩
          rw [c3 (by omega)]
          exact G_in hC9 hR9 hO9
      · intro hno; exact absurd ⟨hd, v0, v1⟩ hno
    unfold T_X9_behind
    apply P_X9_isOrder hC hO
    · intro _ _ _
      refine ⟨fun q => by omega, fun _ => ⟨fun q => ?_, fun q => rf _ M hC hR (fun h => by omega) (fun h => by omega) (fun _ => rfl)⟩⟩
      obtain ⟨_, ⟨r3, r4⟩, _, r5⟩ := rd hW (agr_c hC) ⟨v0, v1⟩
      rw [← hes, ← hrs] at r5
      apply P_X4_pageAt (by omega) ⟨v0, by omega⟩ (by rw [r3]; exact r4)
      rw [r3]
      apply P_X4_entryCount (by omega) r5.1 (rd_in hW (agr_c hC))
      refine ⟨fun q2 => ?_, fun q2 => rf _ M hC hR (fun h => by omega) (fun h => by omega) (fun _ => rfl)⟩
      apply P_X8_loadOnly (Or.inr rfl) (by omega) (by unfold fLd fTb fUn; decide) r5 (rd_in hW (agr_c hC))
      intro M7 hF7 hT7
      have hC7 := CS_sc hC hF7 fLd5_sc
      have hR7 := RT_cl hR hF7 fLd5_cl
      refine ⟨fun q3 => ?_, fun q3 => ?_⟩
      · apply P_X8_sizeOf2 hT7 hRk
        refine rf _ M7 hC7 hR7 (fun _ e => absurd e q3) (fun _ _ => rfl) (fun hn => ?_)
        have : ¬ (0 ≤ w ∧ w < 256) := by omega
        cases hr : pR (es.take j.toNat) rs w with
        | none => exact szR_none hr
        | some x => exact absurd (hRk w x hr).1 this
      · apply P_X8_countIn hT7 (by omega)
        exact rf _ M7 hC7 hR7 (fun _ _ => rfl) (fun _ h => by omega) (fun hn => by omega)
    · intro hno; exact absurd ⟨hd, v0, v1⟩ hno
  · unfold T_X9_behind
    apply P_X9_isOrder hC hO
    · intro a b c; exact absurd ⟨a, b, c⟩ hb
    · intro _
      refine ⟨fun _ => ?_, fun q => absurd rfl q⟩
      unfold T_X10_behind
      intro M9 hM9
      apply P_X10_isPlace (RT_576 hR hM9) hO
      · intro a b c; exact absurd ⟨a, b, c⟩ hb
      · intro _; exact ⟨fun _ => G_576 hC hR hO hM9 rfl, fun q => absurd rfl q⟩
