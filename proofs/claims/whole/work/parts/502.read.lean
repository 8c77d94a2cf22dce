section
variable {tr : Int → Int} {t : List Int} {s : Int × (Int → Int)} {fl : Int} {D : (Int → Int) × Lrn × Int} {u : Int × Int} {H : List Int × Int} {ps : List Mom}
theorem agr_c {M : zMem} (hC : CS M tr t s fl D u H ps) : agr (M.2 64) D.1 := fun j a b => hC.2.2.2.2.1.1 j a (by omega)
theorem agr_r {M : zMem} (hR : RT M tr t s fl D u H ps) : agr (M.2 582) D.1 := fun j a b => by rw [rv_lo b]; exact hR.2.2.2.2.1.1 j a (by omega)
theorem OK_z {N : Int} (hO : OKS N tr t s D u H ps) (hd : D.2.2 = 0) : WFz D.1 ∧ D.1 661 = 0 := by
  rcases hO.2.2.2.1.1 with h | h
  · exact ⟨h.2.2, h.2.1⟩
  · have := h.1; omega
end
theorem rd {f a : Int → Int} (hW : WFz f) (ha : agr a f) {i : Int} (hi : 0 ≤ i ∧ i < f 640) : (DirOK a ∧ a 640 = f 640) ∧ (a (641 + 2 * i) = f (641 + 2 * i) ∧ 0 ≤ f (641 + 2 * i) ∧ f (641 + 2 * i) < 10) ∧ a (642 + 2 * i) = f (642 + 2 * i) ∧ Pg a (f (641 + 2 * i)) (wt f i).1 (wt f i).2.1 (wt f i).2.2 := by
  have fa := agr_symm ha
  have hu := hW.1.1
  have hP := (wt_ok hW hi).1
  have hPa := PgX_agr fa hu.2 hi hP
  have e := ha (641 + 2 * i) (by omega) (by omega)
  refine ⟨⟨agr_dir fa hW.1, ha 640 (by omega) (by omega)⟩, ⟨e, hW.1.2.1 i hi.1 hi.2⟩, ha _ (by omega) (by omega), ?_⟩
  have := hPa.1
  rw [e] at this
  exact this
theorem rd_in {f a : Int → Int} (hW : WFz f) (ha : agr a f) : ∀ j, 0 ≤ j → j < 640 → inR (a j) := fun j h0 h1 => by
  rw [ha j h0 (by omega)]
  have := hW.2.1 j h0 (by omega)
  exact inR_mk (by omega) (by omega)
theorem rd_all {f a : Int → Int} (hW : WFz f) (ha : agr a f) : DirOK a ∧ a 640 = f 640 := ⟨agr_dir (agr_symm ha) hW.1, ha 640 (by omega) (by omega)⟩
theorem wt64 {f a : Int → Int} {p i : Int} (hP : Pg a p (wt f i).1 (wt f i).2.1 (wt f i).2.2) : (wt f i).2.1.take (64 : Int).toNat = (wt f i).2.1 := take64 hP.1
theorem P_X9_pageFor {f : Int → Int} {key i : Int} {Q : Int → Prop} {M : zMem} (hW : WFz f) (ha : agr (M.2 64) f) (hO : IsOrd f key i) (hQ : Q (f (641 + 2 * i))) : T_X9_pageFor key Q M := by
  have a64 : alen 64 = 1334 := alen_64
  have hu := hW.1.1
  obtain ⟨⟨r1, r2⟩, ⟨r3, r4⟩, _, _⟩ := rd hW ha hO.1
  unfold T_X9_pageFor
  apply P_X4_orderFor (by omega) r1.1 (IsOrd_agr (agr_symm ha) hu.2 hO)
  apply P_X4_pageAt (by omega) ⟨hO.1.1, by have := hO.1.2; omega⟩ (by rw [r3]; exact r4)
  rw [r3]; exact hQ
noncomputable abbrev recI (f : Int → Int) (i : Int) : Rec := pR (wt f i).2.1 (wt f i).2.2
theorem recI_ok {f : Int → Int} (hW : WFz f) {i : Int} (hi : 0 ≤ i ∧ i < f 640) : RecOK (recI f i) := Pg_RecOK (wt_ok hW hi).1.1
theorem P_load5 {f : Int → Int} {i : Int} {Q : zMem → Prop} {M : zMem} (hW : WFz f) (ha : agr (M.2 64) f) (hi : 0 ≤ i ∧ i < f 640) (hQ : ∀ M', Fr (fLd 5) M M' → tabC 5 M' (recI f i) → Q M') : T_X8_loadOnly 5 64 (f (641 + 2 * i)) 64 Q M := by
  have a64 : alen 64 = 1334 := alen_64
  obtain ⟨_, _, _, r5⟩ := rd hW ha hi
  apply P_X8_loadOnly (Or.inr rfl) (by omega) (by unfold fLd fTb fUn; decide) r5 (rd_in hW ha)
  rw [wt64 r5]
  exact hQ
theorem P_lays582 {f : Int → Int} {i : Int} {Q : zMem → Prop} {M : zMem} (hW : WFz f) (ha : agr (M.2 582) f) (hi : 0 ≤ i ∧ i < f 640) (hQ : ∀ M', Fr fLr M M' → tabR M' (recI f i) → Q M') : T_X10_laysAlone 582 (f (641 + 2 * i)) Q M := by
  have a582 : alen 582 = 1339 := alen_582
  obtain ⟨_, _, _, r5⟩ := rd hW ha hi
  exact P_X10_laysAlone (by omega) (by unfold fLr fTr fUr; decide) r5 hQ
theorem fLd5_sc : ∀ k, fLd 5 k → k = 4 ∨ k = 8 ∨ k = 67 ∨ (128 ≤ k ∧ k < 448) := fun k h => by unfold fLd fTb fUn at h; omega
theorem fLr_sc : ∀ k, fLr k → k = 576 ∨ k = 583 ∨ (589 ≤ k ∧ k ≤ 606) ∨ k = 614 ∨ k = 615 := fun k h => by unfold fLr fTr fUr at h; omega
theorem fLd5_cl : ∀ k, fLd 5 k → k < 576 ∨ 640 ≤ k := fun k h => by unfold fLd fTb fUn at h; omega
theorem fLr_rf : ∀ k, fLr k → 576 ≤ k ∧ k < 640 := fun k h => by unfold fLr fTr fUr at h; omega
def szR (r : Rec) (k : Int) : Int := match r k with
  | some v => v.length
  | none => -1
theorem szR_some {r : Rec} {k : Int} {v : List Int} (h : r k = some v) : szR r k = v.length := by unfold szR; rw [h]
theorem szR_none {r : Rec} {k : Int} (h : r k = none) : szR r k = -1 := by unfold szR; rw [h]
theorem tabR_sz {M : zMem} {r : Rec} (hT : tabR M r) {k : Int} (hk : 0 ≤ k ∧ k < 256) : M.2 596 k = szR r k := by
  cases hr : r k with
  | none => rw [szR_none hr]; exact (hT k hk.1 hk.2).1 hr
  | some v => rw [szR_some hr]; exact ((hT k hk.1 hk.2).2 v hr).1
theorem P_X8_sizeOf2 {o : Nat} {key : Int} {r : Rec} {Q : Int → Prop} {M : zMem} (hT : tabC o M r) (hR : RecOK r) (hQ : Q (szR r key)) : T_X8_sizeOf o key Q M := by
  apply P_X8_sizeOf hT hR
  · intro v hv; rw [szR_some hv] at hQ; exact hQ
  · intro hv; rw [szR_none hv] at hQ; exact hQ
theorem I_value {v w N : Int} {M : zMem} (h : Inv N M) (hw : inR w) : T_X9_value v w (fun r M1 => T_X10_value v w (fun r' M2 => G N r r' M2) M1) M := by
  obtain ⟨tr, t, s, fl, D, u, H, ps, hC, hR, hO⟩ := h
  have a582 : alen 582 = 1339 := alen_582
  have hd := DOK_d hO.2.2.2.1.1
  have ec := hC.2.2.2.2.1.2.2
  -- answers NONE where both do
  have none1 : (D.2.2 ≠ 0 ∨ ¬ (0 ≤ v ∧ v < 256)) → T_X10_value v w (fun r' M2 => G N (-1) r' M2) M := by
    intro hno
    unfold T_X10_value
    intro M1 hM1
    have hR1 := RT_576 hR hM1
    apply P_X10_isDown hR1.2.2.2.2.1.2.2 hd
    refine ⟨fun _ => G_576 hC hR hO hM1 rfl, fun q => ?_⟩
    apply P_X10_isKey
    · intro hk; omega
    · intro _; exact ⟨fun q => absurd rfl q, fun _ => G_576 hC hR hO hM1 rfl⟩
  by_cases hb : D.2.2 = 0 ∧ 0 ≤ v ∧ v < 256
  · obtain ⟨hW, _⟩ := OK_z hO hb.1
    have hu := hW.1.1
    have hOd := od_ok hW.1 v
    obtain ⟨i, hi⟩ : ∃ i, i = od D.1 v := ⟨_, rfl⟩
    rw [← hi] at hOd
    have hRk := recI_ok hW hOd.1
    -- the reference, by what the class answers
    have rf : ∀ (r : Int) (M3 : zMem), CS M3 tr t s fl D u H ps → RT M3 tr t s fl D u H ps → (w = 1 → r = D.1 (641 + 2 * i)) → (w = 0 → r = szR (recI D.1 i) v) → (w ≠ 0 → w ≠ 1 → ∀ x, recI D.1 i v = some x → 2 ≤ w → w ≤ 1 + x.length → r = gi x (w - 2)) → (w ≠ 0 → w ≠ 1 → ¬ (2 ≤ w ∧ w ≤ 1 + szR (recI D.1 i) v) → r = -1) → T_X10_value v w (fun r' M2 => G N r r' M2) M3 := by
      intro r M3 hC3 hR3 c1 c2 c3 c4
      unfold T_X10_value
      intro M1 hM1
      have hR1 := RT_576 hR3 hM1
      have hC1 := CS_576 hC3 hM1
      apply P_X10_isDown hR1.2.2.2.2.1.2.2 hd
      refine ⟨fun q => absurd hb.1 q, fun _ => ?_⟩
      apply P_X10_isKey
      · intro _
        refine ⟨fun _ => ?_, fun q => by omega⟩
        have ag := agr_r hR1
        obtain ⟨⟨r1, r2⟩, ⟨r3, r4⟩, _, _⟩ := rd hW ag hOd.1
        apply P_X10_placeFor (by omega) r1 (IsOrd_agr (agr_symm ag) hu.2 hOd)
        apply P_X10_numberOf (by omega) ⟨hOd.1.1, by have := hOd.1.2; omega⟩
        rw [r3]
        refine ⟨fun q1 => ?_, fun q1 => ?_⟩
        · apply P_lays582 hW ag hOd.1
          intro M9 hF9 hT9
          have hC9 := CS_rf hC1 hF9 fLr_rf
          have hR9 := RT_sc hR1 hF9 fLr_sc
          have hO9 := OKS_mono hO (N' := N + 1) (by omega)
          rw [tabR_sz hT9 hb.2]
          have hsz : -1 ≤ szR (recI D.1 i) v ∧ szR (recI D.1 i) v ≤ 8 := by
            cases hr : recI D.1 i v with
            | none => rw [szR_none hr]; omega
            | some x => rw [szR_some hr]; have := (hRk v x hr).2.1; omega
          refine ⟨fun q0 => ⟨hb.2, inR_mk (by omega) (by omega), ?_⟩, fun q0 => ⟨hb.2, ?_⟩⟩
          · apply P_X10_isIn
            · intro a b
              refine ⟨fun q => by omega, fun _ => ⟨inR_mk (by omega) (by omega), inR_mk (by omega) (by omega), inR_mk (by omega) (by omega), ⟨by omega, by omega⟩, ?_⟩⟩
              cases hr : recI D.1 i v with
              | none => rw [szR_none hr] at b; omega
              | some x =>
                rw [szR_some hr] at b
                have hx := ((hT9 v hb.2.1 hb.2.2).2 x hr).2 (w - 2) (by omega) (by omega)
                have e9 : 8 * v + (w - 2) = 8 * v + w - 2 := by omega
                rw [e9] at hx
                rw [hx, c3 q0 q1 x hr a b]
                exact G_in hC9 hR9 hO9
            · intro a
              refine ⟨fun _ => ?_, fun q => absurd rfl q⟩
              rw [c4 q0 q1 (by omega)]
              exact G_in hC9 hR9 hO9
          · rw [c2 q0]; exact G_in hC9 hR9 hO9
        · rw [c1 q1]
          exact G_in hC1 hR1 (OKS_mono hO (by omega))
      · intro q; exact absurd hb.2 q
    unfold T_X9_value
    rw [ec]
    refine ⟨fun q => absurd hb.1 q, fun _ => ?_⟩
    apply P_X9_isByte
    · intro _
      refine ⟨fun q => by omega, fun _ => ⟨fun q => ?_, fun q => ?_⟩⟩
      · apply P_X9_pageFor hW (agr_c hC) hOd
        refine ⟨fun q1 => ?_, fun q1 => ?_⟩
        · apply P_load5 hW (agr_c hC) hOd.1
          intro M7 hF7 hT7
          have hC7 := CS_sc hC hF7 fLd5_sc
          have hR7 := RT_cl hR hF7 fLd5_cl
          refine ⟨fun q0 => ⟨by have := hw.2; exact inR_mk (by omega) (by omega), ?_⟩, fun q0 => ?_⟩
          · apply P_X8_byteOf hT7 hRk
            · intro x hx j0 j1
              refine rf _ M7 hC7 hR7 (fun e => absurd e q1) (fun e => absurd e q0) (fun _ _ x' hx' _ _ => ?_) (fun _ _ hn => ?_)
              · rw [hx] at hx'; rw [Option.some.inj hx']
              · rw [szR_some hx] at hn; omega
            · intro hn
              refine rf _ M7 hC7 hR7 (fun e => absurd e q1) (fun e => absurd e q0) (fun _ _ x' hx' a b => ?_) (fun _ _ _ => rfl)
              exact absurd ⟨by omega, by omega⟩ (hn x' hx')
          · apply P_X8_sizeOf2 hT7 hRk
            exact rf _ M7 hC7 hR7 (fun e => absurd e q1) (fun _ => rfl) (fun a => absurd q0 a) (fun a => absurd q0 a)
        · exact rf _ M hC hR (fun _ => rfl) (fun e => by omega) (fun _ a => absurd q1 a) (fun _ a => absurd q1 a)
      · exact rf _ M hC hR (fun e => by omega) (fun e => by omega) (fun _ _ x hx a b => by omega) (fun _ _ _ => rfl)
    · intro q; exact absurd hb.2 q
  · have hno : D.2.2 ≠ 0 ∨ ¬ (0 ≤ v ∧ v < 256) := by omega
    unfold T_X9_value
    rw [ec]
    refine ⟨fun _ => none1 hno, fun q => ?_⟩
    apply P_X9_isByte
    · intro hk; omega
    · intro _; exact ⟨fun _ => none1 hno, fun q => absurd rfl q⟩
