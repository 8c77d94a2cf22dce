theorem I_entry {v j w N : Int} {M : zMem} (h : Inv N M) (hw : inR w) : T_X9_entry v j w (fun r => T_X10_entry v j w (fun r' M2 => G N r r' M2) M) M := by
  obtain ⟨tr, t, s, fl, D, u, H, ps, hC, hR, hO⟩ := h
  have a582 : alen 582 = 1339 := alen_582
  have a64 : alen 64 = 1334 := alen_64
  by_cases hb : D.2.2 = 0 ∧ 0 ≤ v ∧ v < D.1 640
  · obtain ⟨hd, v0, v1⟩ := hb
    obtain ⟨hW, _⟩ := OK_z hO hd
    have hu := hW.1.1
    obtain ⟨p, hp⟩ : ∃ p, p = D.1 (641 + 2 * v) := ⟨_, rfl⟩
    obtain ⟨pkd, hpk⟩ : ∃ pkd, pkd = (wt D.1 v).1 := ⟨_, rfl⟩
    obtain ⟨es, hes⟩ : ∃ es, es = (wt D.1 v).2.1 := ⟨_, rfl⟩
    have rf : ∀ r : Int, (∀ e, 0 ≤ j → es[j.toNat]? = some e → (w = 0 → r = gi e 0 / 16) ∧ (w = 1 → r = gi e 0 % 16) ∧ (2 ≤ w → w ≤ e.length → r = gi e (w - 1)) ∧ (w < 0 ∨ e.length < w → r = -1)) → (¬ (0 ≤ j ∧ j < es.length) → r = -1) → T_X10_entry v j w (fun r' M2 => G N r r' M2) M := by
      intro r c1 c2
      unfold T_X10_entry
      intro M1 hM1
      have hR1 := RT_576 hR hM1
      have gg : ∀ {y}, r = y → G N r y M1 := fun e => G_576 hC hR hO hM1 e
      apply P_X10_isPlace hR1 hO
      · intro _ _ _
        refine ⟨fun _ => ?_, fun q => by omega⟩
        obtain ⟨_, ⟨s3, s4⟩, _, s6⟩ := rd hW (agr_r hR1) ⟨v0, v1⟩
        rw [← hp] at s3 s4 s6
        rw [← hpk, ← hes] at s6
        have h62 := s6.1.2.2.2.1
        have hfl := flat_len s6.1.2.2.2.2.1
        apply P_X10_numberOf (by omega) ⟨v0, by omega⟩
        rw [s3]
        apply P_X10_entriesOf (by omega) s6.1
        refine ⟨inR_mk (by omega) (by omega), ?_⟩
        apply P_X10_isIn
        · intro j0 j1
          refine ⟨fun _ => ⟨inR_mk (by omega) (by omega), ?_⟩, fun q => by omega⟩
          apply P_X10_entryAt (by omega) s6.1
          obtain ⟨e, he⟩ : ∃ e, es[j.toNat]? = some e := ⟨es[j.toNat]'(by omega), List.getElem?_eq_getElem (by omega)⟩
          obtain ⟨hE, hle, hat⟩ := entry_at s6.1 he
          obtain ⟨d1, d2, d3, d4⟩ := c1 e j0 he
          have hel := eOK_len hE
          obtain ⟨off, hoff⟩ : ∃ off, off = 2 + (pkd.length : Int) + ((es.take j.toNat).flatten.length : Int) := ⟨_, rfl⟩
          rw [← hoff] at hat hle ⊢
          have h0 : 0 ≤ off := by omega
          have e0 : M1.2 582 (64 * p + off) = gi e 0 := by have := hat 0 (by omega) (by omega); rw [Int.add_zero] at this; exact this
          have hb0 := allB_gi hE.2.2 0
          rw [e0]
          refine ⟨inR_mk (by omega) (by omega), fun q0 => ⟨fun q1 => ⟨fun q2 => ⟨⟨by omega, by omega⟩, ?_⟩, fun q2 => ⟨inR_mk (by omega) (by omega), ⟨by omega, by omega⟩, gg ?_⟩⟩, fun q1 => ⟨⟨by omega, by omega⟩, gg ?_⟩⟩, fun q0 => ⟨⟨by omega, by omega⟩, ?_⟩⟩
          · apply P_X10_lengthOf hb0
            rw [lnR_szB (by rw [hE.1]; omega), hE.1]
            apply P_X10_isIn
            · intro a b
              refine ⟨fun q => by omega, fun _ => ⟨inR_mk (by omega) (by omega), inR_mk (by omega) (by omega), ⟨by omega, by omega⟩, gg ?_⟩⟩
              rw [d3 (by omega) b]
              have := hat (w - 1) (by omega) (by omega)
              have e9 : 64 * p + off + (w - 1) = 64 * p + off + w - 1 := by omega
              rw [e9] at this
              exact this.symm
            · intro a
              exact ⟨fun _ => gg (d4 (by omega)), fun q => absurd rfl q⟩
          · rw [d3 (by omega) (by omega), q2]
            exact (hat 1 (by omega) (by omega)).symm
          · rw [d2 q1, tmod_pos hb0.1]
          · apply P_X10_kindOf hb0.1
            exact gg (d1 q0)
        · intro a
          exact ⟨fun q => absurd rfl q, fun _ => gg (c2 (by omega))⟩
      · intro hno; exact absurd ⟨hd, v0, v1⟩ hno
    unfold T_X9_entry
    apply P_X9_isOrder hC hO
    · intro _ _ _
      obtain ⟨_, ⟨r3, r4⟩, _, r6⟩ := rd hW (agr_c hC) ⟨v0, v1⟩
      rw [← hp] at r3 r4 r6
      rw [← hpk, ← hes] at r6
      have h62 := r6.1.2.2.2.1
      have hfl := flat_len r6.1.2.2.2.2.1
      refine ⟨fun q => by omega, fun _ => ⟨fun q => rf _ (fun e j0 => by omega) (fun _ => rfl), fun q => ⟨fun q1 => ?_, fun q1 => rf _ (fun e _ _ => ⟨fun e => by omega, fun e => by omega, fun e => by omega, fun _ => rfl⟩) (fun _ => rfl)⟩⟩⟩
      apply P_X4_pageAt (by omega) ⟨v0, by omega⟩ (by rw [r3]; exact r4)
      rw [r3]
      apply P_X4_placeBehind (by omega) r6.1 (rd_in hW (agr_c hC))
      refine ⟨fun q2 => rf _ (fun e j0 he => ?_) (fun _ => rfl), fun q2 => ?_⟩
      · have := (List.getElem?_eq_some_iff.mp he).1
        omega
      · apply P_X4_logEnd (by omega) r6.1 (rd_in hW (agr_c hC))
        by_cases hj : j < es.length
        · obtain ⟨e, he⟩ : ∃ e, es[j.toNat]? = some e := ⟨es[j.toNat]'(by omega), List.getElem?_eq_getElem (by omega)⟩
          obtain ⟨hE, hle, hat⟩ := entry_at r6.1 he
          have hel := eOK_len hE
          have hb0 := allB_gi hE.2.2 0
          have uq : ∀ e', es[j.toNat]? = some e' → e' = e := fun e' h' => by rw [he] at h'; exact (Option.some.inj h').symm
          obtain ⟨off, hoff⟩ : ∃ off, off = 64 * p + 2 + (pkd.length : Int) + ((es.take j.toNat).flatten.length : Int) := ⟨_, rfl⟩
          have hat2 : ∀ k : Int, 0 ≤ k → k < e.length → M.2 64 (off + k) = gi e k := by
            intro k k0 k1
            have := hat k k0 k1
            have e9 : 64 * p + (2 + (pkd.length : Int) + (es.take j.toNat).flatten.length) + k = off + k := by omega
            rw [e9] at this
            exact this
          have e0 : M.2 64 off = gi e 0 := by have := hat2 0 (by omega) (by omega); rw [Int.add_zero] at this; exact this
          rw [← hoff]
          refine ⟨fun _ => ⟨⟨by omega, by omega⟩, ?_⟩, fun q3 => by omega⟩
          rw [e0]
          refine ⟨fun q0 => ⟨fun q3 => ⟨inR_mk (by have := szB_b (gi e 0); omega) ?_, ?_⟩, fun q3 => ?_⟩, fun q0 => ?_⟩
          · have := hw.2; omega
          · apply P_X2_sizeBy (inR_mk (by omega) (by omega))
            rw [hE.1]
            refine ⟨fun q4 => rf _ (fun e' _ he' => ?_) (fun hn => by omega), fun q4 => ⟨inR_mk (by omega) (by omega), inR_mk (by omega) (by omega), ⟨by omega, by omega⟩, rf _ (fun e' _ he' => ?_) (fun hn => by omega)⟩⟩
            · rw [uq e' he']; exact ⟨fun e => by omega, fun e => by omega, fun _ b => by omega, fun _ => rfl⟩
            · rw [uq e' he']
              refine ⟨fun e => by omega, fun e => by omega, fun _ _ => ?_, fun b => by omega⟩
              have e9 : off + w - 1 = off + (w - 1) := by omega
              rw [e9]; exact hat2 (w - 1) (by omega) (by omega)
          · apply P_X2_numberOf
            exact rf _ (fun e' _ he' => by rw [uq e' he']; exact ⟨fun e => by omega, fun _ => rfl, fun b => by omega, fun b => by omega⟩) (fun hn => by omega)
          · apply P_X2_kindOf (inR_mk (by omega) (by omega))
            exact rf _ (fun e' _ he' => by rw [uq e' he']; exact ⟨fun _ => rfl, fun e => by omega, fun b => by omega, fun b => by omega⟩) (fun hn => by omega)
        · have et : es.take j.toNat = es := List.take_of_length_le (by omega)
          rw [et]
          refine ⟨fun q3 => by omega, fun _ => rf _ (fun e j0 he => ?_) (fun _ => rfl)⟩
          have := (List.getElem?_eq_some_iff.mp he).1
          omega
    · intro hno; exact absurd ⟨hd, v0, v1⟩ hno
  · unfold T_X9_entry
    apply P_X9_isOrder hC hO
    · intro a b c; exact absurd ⟨a, b, c⟩ hb
    · intro _
      refine ⟨fun _ => ?_, fun q => absurd rfl q⟩
      unfold T_X10_entry
      intro M9 hM9
      apply P_X10_isPlace (RT_576 hR hM9) hO
      · intro a b c; exact absurd ⟨a, b, c⟩ hb
      · intro _; exact ⟨fun q => absurd rfl q, fun _ => G_576 hC hR hO hM9 rfl⟩
