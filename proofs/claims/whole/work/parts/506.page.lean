theorem entry_at {a : Int → Int} {p : Int} {pkd : List Int} {es : List (List Int)} (hB : Blk a p pkd es) {j : Nat} {e : List Int} (he : es[j]? = some e) : eOK e ∧ (2 + (pkd.length : Int) + (es.take j).flatten.length + e.length ≤ 2 + pkd.length + es.flatten.length) ∧ ∀ k : Int, 0 ≤ k → k < e.length → a (64 * p + (2 + pkd.length + (es.take j).flatten.length) + k) = gi e k := by
  obtain ⟨h1, h2, h3, h4, h5, h6⟩ := hB
  have hj : j < es.length := (List.getElem?_eq_some_iff.mp he).1
  have e1 : es = es.take j ++ e :: es.drop (j + 1) := by
    have : es.drop j = e :: es.drop (j + 1) := by
      rw [List.drop_eq_getElem_cons hj]
      congr 1
      rw [List.getElem?_eq_getElem hj] at he
      exact Option.some.inj he
    rw [← this, List.take_append_drop]
  have ef : es.flatten = (es.take j).flatten ++ (e ++ (es.drop (j + 1)).flatten) := by
    conv => lhs; rw [e1]
    rw [List.flatten_append, List.flatten_cons]
  refine ⟨h5 e (List.mem_of_getElem? he), ?_, fun k k0 k1 => ?_⟩
  · rw [ef, List.length_append, List.length_append]; omega
  · rw [ef, AL_app, AL_app, AL_app] at h3
    have := h3.2.2.1 k k0 k1
    rw [← this]
    congr 1; omega
theorem I_page {v w N : Int} {M : zMem} (h : Inv N M) : T_X9_page v w (fun r M1 => T_X10_page v w (fun r' M2 => G N r r' M2) M1) M := by
  obtain ⟨tr, t, s, fl, D, u, H, ps, hC, hR, hO⟩ := h
  have a582 : alen 582 = 1339 := alen_582
  have a64 : alen 64 = 1334 := alen_64
  have hlim := hO.1.2.2.2.2
  have hhl := hO.2.2.2.2.2.1.1
  by_cases hb : D.2.2 = 0 ∧ 0 ≤ v ∧ v < D.1 640
  · obtain ⟨hd, v0, v1⟩ := hb
    obtain ⟨hW, _⟩ := OK_z hO hd
    have hu := hW.1.1
    have hRk := recI_ok hW ⟨v0, v1⟩
    obtain ⟨p, hp⟩ : ∃ p, p = D.1 (641 + 2 * v) := ⟨_, rfl⟩
    obtain ⟨pkd, hpk⟩ : ∃ pkd, pkd = (wt D.1 v).1 := ⟨_, rfl⟩
    obtain ⟨es, hes⟩ : ∃ es, es = (wt D.1 v).2.1 := ⟨_, rfl⟩
    obtain ⟨r0, hr0⟩ : ∃ r0, r0 = recI D.1 v := ⟨_, rfl⟩
    rw [← hr0] at hRk
    have rf : ∀ (r : Int) (M3 : zMem), CS M3 tr t s fl D u H ps → RT M3 tr t s fl D u H ps → (w = 0 → r = p) → (w = 1 → r = D.1 (642 + 2 * v)) → (w = 2 → r = (rI r0 0 256).length) → (w = 3 → r = (plain (rI r0 0 256)).length) → (w = 4 → r = D.1 (64 * p)) → (w = 5 → r = D.1 (64 * p + 1)) → (w = 6 → r = es.length) → (w = 7 → r = es.flatten.length) → (w = 8 → r = 64 - (2 + pkd.length + es.flatten.length)) → (w = 9 → r = if ixF p H.1 = -1 then 0 else 1) → (w < 0 ∨ 9 < w → r = -1) → T_X10_page v w (fun r' M2 => G N r r' M2) M3 := by
      intro r M3 hC3 hR3 c0 c1 c2 c3 c4 c5 c6 c7 c8 c9 cn
      unfold T_X10_page
      intro M1 hM1
      have hR1 := RT_576 hR3 hM1
      have hC1 := CS_576 hC3 hM1
      have hO1 := OKS_mono hO (N' := N + 1) (by omega)
      apply P_X10_isPlace hR1 hO
      · intro _ _ _
        refine ⟨fun q => by omega, fun _ => ?_⟩
        apply P_X10_isIn
        · intro w0 w9
          refine ⟨fun _ => ?_, fun q => by omega⟩
          obtain ⟨_, ⟨s3, s4⟩, _, s6⟩ := rd hW (agr_r hR1) ⟨v0, v1⟩
          have hls := P_lays582 (Q := fun M8 => (w = 0 → G N r p M8) ∧ (w = 1 → T_X10_fenceOf 582 v (fun y12 => G N r y12 M8) M8) ∧ (w = 2 → T_X10_recordMany (fun y13 => G N r y13 M8) M8) ∧ (w = 3 → T_X10_plainOf 0 255 (fun y14 => G N r y14 M8) M8) ∧ (w = 4 → (inR (64 * p) ∧ (((0 : Int) ≤ (64 * p) ∧ (64 * p) < 1339) ∧ (G N r (M8.2 582 (64 * p)) M8)))) ∧ (w = 5 → (inR (64 * p) ∧ (inR ((64 * p) + 1) ∧ (((0 : Int) ≤ ((64 * p) + 1) ∧ ((64 * p) + 1) < 1339) ∧ (G N r (M8.2 582 ((64 * p) + 1)) M8))))) ∧ (w = 6 → (T_X10_entriesOf 582 p (fun y15 => G N r y15 M8) M8)) ∧ (w = 7 → (inR ((2 + pkd.length + (es.flatten.length : Int)) - 2) ∧ (inR (64 * p) ∧ (inR ((64 * p) + 1) ∧ (((0 : Int) ≤ ((64 * p) + 1) ∧ ((64 * p) + 1) < 1339) ∧ (inR (((2 + pkd.length + (es.flatten.length : Int)) - 2) - (M8.2 582 ((64 * p) + 1))) ∧ (G N r (((2 + pkd.length + (es.flatten.length : Int)) - 2) - (M8.2 582 ((64 * p) + 1))) M8))))))) ∧ (w = 8 → (inR (64 - (2 + pkd.length + (es.flatten.length : Int))) ∧ (G N r (64 - (2 + pkd.length + (es.flatten.length : Int))) M8))) ∧ (w < 0 ∨ 8 < w → (T_X10_placeHeld p (fun y10 => (¬ y10 = (-1) → (G N r 1 M8)) ∧ (y10 = (-1) → (G N r 0 M8))) M8))) hW (agr_r hR1) ⟨v0, v1⟩
          rw [← hp] at hls s4 s3 s6
          rw [← hpk, ← hes] at s6
          apply P_X10_numberOf (by omega) ⟨v0, by omega⟩
          rw [s3]
          apply P_X10_endOf (by omega) s6.1
          have h62 := s6.1.2.2.2.1
          apply hls
          intro M8 hF8 hT8
          rw [← hr0] at hT8
          have hC8 := CS_rf hC1 hF8 fLr_rf
          have hR8 := RT_sc hR1 hF8 fLr_sc
          obtain ⟨_, ⟨x3, x4⟩, x5, x6⟩ := rd hW (agr_r hR8) ⟨v0, v1⟩
          rw [← hp, ← hpk, ← hes] at x6
          have gg : ∀ {y}, r = y → G N r y M8 := fun e => by rw [e]; exact G_in hC8 hR8 hO1
          have e1 : M8.2 582 (64 * p + 1) = pkd.length := x6.1.2.1
          refine ⟨fun q => gg (c0 q), fun q => ?_, fun q => ?_, fun q => ?_, fun q => ⟨inR_mk (by omega) (by omega), ⟨by omega, by omega⟩, gg ?_⟩, fun q => ⟨inR_mk (by omega) (by omega), inR_mk (by omega) (by omega), ⟨by omega, by omega⟩, gg ?_⟩, fun q => ?_, fun q => ?_, fun q => ⟨inR_mk (by omega) (by omega), gg (c8 q)⟩, fun q => ?_⟩
          · apply P_X10_fenceOf (by omega) ⟨v0, by omega⟩
            rw [x5]; exact gg (c1 q)
          · apply P_X10_recordMany hT8
            exact gg (c2 q)
          · apply P_X10_plainOf hT8 hRk (by omega)
            exact gg (c3 q)
          · rw [c4 q]; exact (agr_r hR8 _ (by omega) (by omega)).symm
          · rw [c5 q]; exact (agr_r hR8 _ (by omega) (by omega)).symm
          · apply P_X10_entriesOf (by omega) x6.1
            exact gg (c6 q)
          · rw [e1]
            exact ⟨inR_mk (by omega) (by omega), inR_mk (by omega) (by omega), inR_mk (by omega) (by omega), ⟨by omega, by omega⟩, inR_mk (by omega) (by omega), gg (by rw [c7 q]; omega)⟩
          · have hH8 := hR8.2.2.2.2.2.2.1.1
            apply P_X10_placeHeld hH8 (by omega)
            intro k hk
            have c9 := c9 (by omega)
            rw [ixF_eq hk] at c9
            refine ⟨fun q2 => gg ?_, fun q2 => gg ?_⟩
            · rw [if_neg q2] at c9; exact c9
            · rw [if_pos q2] at c9; exact c9
        · intro a
          refine ⟨fun q => absurd rfl q, fun _ => ?_⟩
          rw [cn (by omega)]
          exact G_in hC1 hR1 hO1
      · intro hno; exact absurd ⟨hd, v0, v1⟩ hno
    unfold T_X9_page
    apply P_X9_isOrder hC hO
    · intro _ _ _
      refine ⟨fun _ => ?_, fun q => by omega⟩
      obtain ⟨_, ⟨r3, r4⟩, r5, r6⟩ := rd hW (agr_c hC) ⟨v0, v1⟩
      have hld := P_load5 (Q := fun M6 => (¬ w = 2 → (T_X8_plainSize 5 0 256 (fun y8 => T_X10_page v w (fun r' M2 => G N y8 r' M2) M6) M6)) ∧ (w = 2 → (T_X8_countIn 5 0 256 (fun y9 => T_X10_page v w (fun r' M2 => G N y9 r' M2) M6) M6))) hW (agr_c hC) ⟨v0, v1⟩
      rw [← hp] at r3 r4 hld r6
      rw [← hpk, ← hes] at r6
      rw [← hr0] at hld
      have h62 := r6.1.2.2.2.1
      apply P_X4_pageAt (by omega) ⟨v0, by omega⟩ (by rw [r3]; exact r4)
      rw [r3]
      have ld : T_X8_loadOnly 5 64 p 64 (fun M6 => (¬ w = 2 → (T_X8_plainSize 5 0 256 (fun y8 => T_X10_page v w (fun r' M2 => G N y8 r' M2) M6) M6)) ∧ (w = 2 → (T_X8_countIn 5 0 256 (fun y9 => T_X10_page v w (fun r' M2 => G N y9 r' M2) M6) M6))) M ∨ ¬ (w = 2 ∨ w = 3) := by
        by_cases hw : w = 2 ∨ w = 3
        · refine Or.inl (hld (fun M6 hF6 hT6 => ?_))
          have hC6 := CS_sc hC hF6 fLd5_sc
          have hR6 := RT_cl hR hF6 fLd5_cl
          refine ⟨fun q => ?_, fun q => ?_⟩
          · apply P_X8_plainSize hT6 hRk (by omega)
            exact rf _ M6 hC6 hR6 (fun e => by omega) (fun e => by omega) (fun e => by omega) (fun _ => rfl) (fun e => by omega) (fun e => by omega) (fun e => by omega) (fun e => by omega) (fun e => by omega) (fun e => by omega) (fun e => by omega)
          · apply P_X8_countIn hT6 (by omega)
            exact rf _ M6 hC6 hR6 (fun e => by omega) (fun e => by omega) (fun _ => rfl) (fun e => by omega) (fun e => by omega) (fun e => by omega) (fun e => by omega) (fun e => by omega) (fun e => by omega) (fun e => by omega) (fun e => by omega)
        · exact Or.inr hw
      refine ⟨fun q => ?_, fun q => ?_, fun q => ?_, fun q => ?_, fun q => ⟨inR_mk (by omega) (by omega), inR_mk (by omega) (by omega), inR_mk (by omega) (by omega), ⟨by omega, by omega⟩, ?_⟩, fun q => ⟨inR_mk (by omega) (by omega), inR_mk (by omega) (by omega), inR_mk (by omega) (by omega), ⟨by omega, by omega⟩, ?_⟩, fun q => ?_, fun q => ?_, fun q => ⟨inR_mk (by omega) (by omega), inR_mk (by omega) (by omega), ?_⟩, fun q => ?_, fun q => ?_⟩
      · exact rf _ M hC hR (fun _ => rfl) (fun e => by omega) (fun e => by omega) (fun e => by omega) (fun e => by omega) (fun e => by omega) (fun e => by omega) (fun e => by omega) (fun e => by omega) (fun e => by omega) (fun e => by omega)
      · apply P_X4_fenceAt (by omega) ⟨v0, by omega⟩
        rw [r5]
        exact rf _ M hC hR (fun e => by omega) (fun _ => rfl) (fun e => by omega) (fun e => by omega) (fun e => by omega) (fun e => by omega) (fun e => by omega) (fun e => by omega) (fun e => by omega) (fun e => by omega) (fun e => by omega)
      · rcases ld with ld | ld
        · exact ld
        · omega
      · rcases ld with ld | ld
        · exact ld
        · omega
      · refine rf _ M hC hR (fun e => by omega) (fun e => by omega) (fun e => by omega) (fun e => by omega) (fun _ => ?_) (fun e => by omega) (fun e => by omega) (fun e => by omega) (fun e => by omega) (fun e => by omega) (fun e => by omega)
        have e9 : p * 64 + w - 4 = 64 * p := by omega
        rw [e9]; exact agr_c hC _ (by omega) (by omega)
      · refine rf _ M hC hR (fun e => by omega) (fun e => by omega) (fun e => by omega) (fun e => by omega) (fun e => by omega) (fun _ => ?_) (fun e => by omega) (fun e => by omega) (fun e => by omega) (fun e => by omega) (fun e => by omega)
        have e9 : p * 64 + w - 4 = 64 * p + 1 := by omega
        rw [e9]; exact agr_c hC _ (by omega) (by omega)
      · apply P_X4_entryCount (by omega) r6.1 (rd_in hW (agr_c hC))
        exact rf _ M hC hR (fun e => by omega) (fun e => by omega) (fun e => by omega) (fun e => by omega) (fun e => by omega) (fun e => by omega) (fun _ => rfl) (fun e => by omega) (fun e => by omega) (fun e => by omega) (fun e => by omega)
      · apply P_X4_logEnd (by omega) r6.1 (rd_in hW (agr_c hC))
        apply P_X4_logStart (by omega) r6.1
        exact ⟨inR_mk (by omega) (by omega), rf _ M hC hR (fun e => by omega) (fun e => by omega) (fun e => by omega) (fun e => by omega) (fun e => by omega) (fun e => by omega) (fun e => by omega) (fun _ => by omega) (fun e => by omega) (fun e => by omega) (fun e => by omega)⟩
      · apply P_X4_logEnd (by omega) r6.1 (rd_in hW (agr_c hC))
        exact ⟨inR_mk (by omega) (by omega), rf _ M hC hR (fun e => by omega) (fun e => by omega) (fun e => by omega) (fun e => by omega) (fun e => by omega) (fun e => by omega) (fun e => by omega) (fun e => by omega) (fun _ => by omega) (fun e => by omega) (fun e => by omega)⟩
      · unfold T_X3_holds
        apply P_X3_placeOf hC.2.2.2.2.2.2.1.1 (by omega)
        intro k hk
        refine ⟨fun q2 => ⟨fun _ => ?_, fun q3 => absurd rfl q3⟩, fun q2 => ⟨fun q3 => by omega, fun _ => ?_⟩⟩
        · exact rf _ M hC hR (fun e => by omega) (fun e => by omega) (fun e => by omega) (fun e => by omega) (fun e => by omega) (fun e => by omega) (fun e => by omega) (fun e => by omega) (fun e => by omega) (fun _ => by rw [ixF_eq hk, if_pos q2]) (fun e => by omega)
        · exact rf _ M hC hR (fun e => by omega) (fun e => by omega) (fun e => by omega) (fun e => by omega) (fun e => by omega) (fun e => by omega) (fun e => by omega) (fun e => by omega) (fun e => by omega) (fun _ => by rw [ixF_eq hk, if_neg q2]) (fun e => by omega)
      · exact rf _ M hC hR (fun e => by omega) (fun e => by omega) (fun e => by omega) (fun e => by omega) (fun e => by omega) (fun e => by omega) (fun e => by omega) (fun e => by omega) (fun e => by omega) (fun e => by omega) (fun _ => rfl)
    · intro hno; exact absurd ⟨hd, v0, v1⟩ hno
  · unfold T_X9_page
    apply P_X9_isOrder hC hO
    · intro a b c; exact absurd ⟨a, b, c⟩ hb
    · intro _
      refine ⟨fun q => absurd rfl q, fun _ => ?_⟩
      unfold T_X10_page
      intro M9 hM9
      apply P_X10_isPlace (RT_576 hR hM9) hO
      · intro a b c; exact absurd ⟨a, b, c⟩ hb
      · intro _; exact ⟨fun _ => G_576 hC hR hO hM9 rfl, fun q => absurd rfl q⟩
