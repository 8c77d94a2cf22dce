theorem sg_lo {a p : Int} (h : p < 661) (e : a = p) : a = sg p := by unfold sg; rw [if_pos h]; exact e
theorem sg_hi {a p : Int} (h : 661 ≤ p) (e : a = p + 5) : a = sg p := by unfold sg; rw [if_neg (by omega)]; exact e
theorem P_X10_throughJournal {F b : Int → Int} {ps : List Int} {Q : zMem → Prop} {M0 M : zMem} (h14 : WR M0 M []) (hF : agr (M0.2 583) F) (hu : 1 ≤ F 640 ∧ F 640 ≤ 10) (hb : ∀ p, 0 ≤ p → p < 10 → bt (M0.1 606) p = b p ∧ (b p = 0 ∨ b p = 1)) (hps : ps = pgsTo b 10) (hQ : ∀ M', WR M0 M' (tj F ps) → Q M') : T_X10_throughJournal Q M := by
  have a583 : alen 583 = 665 := alen_583
  have hpl := pgsTo_len b
  have hD : ((dirN F : Nat) : Int) = 1 + 2 * F 640 := by unfold dirN; omega
  have o583 : ∀ {M1 us}, WR M0 M1 us → M1.2 583 = M0.2 583 := fun h => h.1.2 583 (by unfold fWr; omega)
  have o606 : ∀ {M1 us}, WR M0 M1 us → M1.1 606 = M0.1 606 := fun h => h.1.1 606 (by unfold fWr; omega)
  have e640 := hF 640 (by omega) (by omega)
  have hdm : ∀ {M1 us} {Q' : Int → Prop}, WR M0 M1 us → Q' (dirN F) → T_X10_directoryMany 583 Q' M1 := by
    intro M1 us Q' hw hq
    unfold T_X10_directoryMany
    apply P_X10_pagesOf (by omega)
    rw [o583 hw, e640, ← hD]
    exact ⟨inR_mk (by omega) (by omega), inR_mk (by omega) (by omega), hq⟩
  unfold T_X10_throughJournal T_X10_throughJournal_4
  apply zp2_rule (fun v1 v2 => (0 ≤ v2 ∧ v2 ≤ 10) ∧ v1 = (pgsTo b v2.toNat).length) (fun v1 v2 => (10 - v2).toNat)
  · intro X v1 v2 ⟨h1, h2⟩ hX
    have hn := hpl v2.toNat
    refine ⟨fun q => ?_, fun q => ?_⟩
    · have e5 : v2.toNat = 10 := by omega
      rw [e5, ← hps] at h2
      rw [e5, ← hps] at hn
      rw [h2]
      apply P_X10_writes (p := 662) h14 (by omega) (sg_hi (by omega) (by omega)) (by simp)
      intro M19 h19
      rw [List.nil_append] at h19
      refine ⟨inR_mk (by omega) (by omega), ?_⟩
      unfold T_X10_throughJournal_42
      apply zl2_rule (fun v2 v3 M1 => (0 ≤ v3 ∧ v3 ≤ 10) ∧ v2 = 668 + 65 * (pgsTo b v3.toNat).length ∧ WR M0 M1 ((662, (ps.length : Int)) :: jbL F (pgsTo b v3.toNat) 663)) (fun _ v3 _ => (10 - v3).toNat)
      · intro X v2 v3 M1 ⟨k1, k2, k3⟩ hX
        have hn6 := hpl v3.toNat
        refine ⟨fun q2 => ?_, fun q2 => ?_⟩
        · have e6 : v3.toNat = 10 := by omega
          rw [e6, ← hps] at k2 k3
          have hA : (662, (ps.length : Int)) :: jbL F ps 663 ++ cpL (663 + 65 * ps.length) (fun k => F (640 + k)) (dirN F) = tjA F ps := rfl
          have hAl : (tjA F ps).length ≤ 1000 := by
            rw [← hA, List.length_append, List.length_cons, jbL_len, cpL_len]; omega
          unfold T_X10_throughJournal_117
          apply zl1_rule (fun v3 M1 => (0 ≤ v3 ∧ v3 ≤ dirN F) ∧ WR M0 M1 ((662, (ps.length : Int)) :: jbL F ps 663 ++ cpL (663 + 65 * ps.length) (fun k => F (640 + k)) v3.toNat)) (fun v3 _ => ((dirN F : Int) - v3).toNat)
          · intro X v3 M1 ⟨l1, l2⟩ hX
            apply hdm l2
            refine ⟨fun q3 => ?_, fun q3 => ⟨inR_mk (by omega) (by omega), inR_mk (by omega) (by omega), ⟨by omega, by omega⟩, ?_⟩⟩
            · have e3 : v3.toNat = dirN F := by omega
              rw [e3, hA] at l2
              apply P_X10_writes (p := 661) l2 (by omega) (sg_hi (by omega) (by omega)) (by omega)
              intro M8 h8
              unfold T_X10_throughJournal_162
              apply zl1_rule (fun v6 M1 => (0 ≤ v6 ∧ v6 ≤ 10) ∧ WR M0 M1 (tjA F ps ++ [(661, 1)] ++ blL F (pgsTo b v6.toNat))) (fun v6 _ => (10 - v6).toNat)
              · intro X v6 M1 ⟨j1, j2⟩ hX
                have hnj := hpl v6.toNat
                have hul : (tjA F ps ++ [(661, 1)] ++ blL F (pgsTo b v6.toNat)).length ≤ 2000 := by
                  rw [List.length_append, List.length_append, blL_len, List.length_cons, List.length_nil]; omega
                refine ⟨fun q4 => ?_, fun q4 => ?_⟩
                · have e6 : v6.toNat = 10 := by omega
                  rw [e6, ← hps] at j2 hul
                  unfold T_X10_throughJournal_227
                  apply zl1_rule (fun v3 M1 => (0 ≤ v3 ∧ v3 ≤ dirN F) ∧ WR M0 M1 (tjA F ps ++ [(661, 1)] ++ blL F ps ++ cpL 640 (fun k => F (640 + k)) v3.toNat)) (fun v3 _ => ((dirN F : Int) - v3).toNat)
                  · intro X v3 M1 ⟨l1, l2⟩ hX
                    apply hdm l2
                    refine ⟨fun q3 => ?_, fun q3 => ⟨inR_mk (by omega) (by omega), inR_mk (by omega) (by omega), ⟨by omega, by omega⟩, ?_⟩⟩
                    · have e3 : v3.toNat = dirN F := by omega
                      rw [e3] at l2
                      apply P_X10_writes (p := 661) l2 (by omega) (sg_hi (by omega) (by omega)) (by rw [List.length_append, cpL_len]; omega)
                      intro M3 h3
                      apply hQ
                      unfold tj tjB
                      rw [← List.append_assoc]
                      exact h3
                    · rw [o583 l2, hF _ (by omega) (by omega)]
                      obtain ⟨k, hk⟩ : ∃ k : Nat, v3 = k := ⟨v3.toNat, by omega⟩
                      subst hk
                      rw [Int.toNat_natCast] at l2
                      apply P_X10_writes (p := 640 + k) l2 (by omega) (sg_lo (by omega) rfl) (by rw [List.length_append, cpL_len]; omega)
                      intro M4 h4
                      refine ⟨inR_mk (by omega) (by omega), hX _ _ ⟨by omega, ?_⟩ (by omega)⟩
                      have en : ((k : Int) + 1).toNat = k + 1 := by omega
                      rw [en, cpL, ← List.append_assoc]
                      exact h4
                  · refine ⟨by omega, ?_⟩
                    show WR M0 M1 (tjA F ps ++ [(661, 1)] ++ blL F ps ++ [])
                    rw [List.append_nil]; exact j2
                · obtain ⟨n, hn⟩ : ∃ n : Nat, v6 = n := ⟨v6.toNat, by omega⟩
                  subst hn
                  rw [Int.toNat_natCast] at j2 hul
                  have hbn := hb n (by omega) (by omega)
                  have en : ((n : Int) + 1).toNat = n + 1 := by omega
                  unfold T_X10_throughJournal_171
                  apply zl1_rule (fun v4 M1 => (0 ≤ v4 ∧ v4 ≤ 64) ∧ WR M0 M1 (tjA F ps ++ [(661, 1)] ++ blL F (pgsTo b n) ++ (if b n = 1 then cpL (64 * n) (fun k => F (64 * n + k)) v4.toNat else []))) (fun v4 _ => (64 - v4).toNat)
                  · intro X4 v4 M1 ⟨l1, l2⟩ hX4
                    refine ⟨fun q3 => ⟨inR_mk (by omega) (by omega), hX _ _ ⟨by omega, ?_⟩ (by omega)⟩, fun q3 => ?_⟩
                    · have e4 : v4.toNat = 64 := by omega
                      rw [e4] at l2
                      rw [en, pgsTo]
                      by_cases hb1 : b n = 1
                      · rw [if_pos hb1] at l2
                        rw [if_pos hb1, blL_snoc, ← List.append_assoc]; exact l2
                      · rw [if_neg hb1, List.append_nil] at l2
                        rw [if_neg hb1]; exact l2
                    · have ebt : zand (zshr (M1.1 606) n) 1 = b n := by rw [o606 l2]; exact hbn.1
                      rw [ebt]
                      refine ⟨fun hb1 => ?_, fun hb1 => ⟨inR_mk (by omega) (by omega), inR_mk (by omega) (by omega), inR_mk (by omega) (by omega), inR_mk (by omega) (by omega), ⟨by omega, by omega⟩, ?_⟩⟩
                      · unfold T_X10_throughJournal_213
                        rw [if_neg hb1] at l2
                        refine ⟨inR_mk (by omega) (by omega), hX4 _ _ ⟨by omega, ?_⟩ (by omega)⟩
                        rw [if_neg hb1]; exact l2
                      · rw [o583 l2, hF _ (by omega) (by omega)]
                        rw [if_pos hb1] at l2
                        obtain ⟨k, hk⟩ : ∃ k : Nat, v4 = k := ⟨v4.toNat, by omega⟩
                        subst hk
                        rw [Int.toNat_natCast] at l2
                        apply P_X10_writes (p := 64 * n + k) l2 (by omega) (sg_lo (by omega) rfl) (by rw [List.length_append, cpL_len]; omega)
                        intro M7 h7
                        unfold T_X10_throughJournal_213
                        refine ⟨inR_mk (by omega) (by omega), hX4 _ _ ⟨by omega, ?_⟩ (by omega)⟩
                        have ek : ((k : Int) + 1).toNat = k + 1 := by omega
                        rw [if_pos hb1, ek, cpL, ← List.append_assoc]
                        exact h7
                  · refine ⟨by omega, ?_⟩
                    have e0 : (if b n = 1 then cpL (64 * n) (fun k => F (64 * n + k)) (0 : Int).toNat else []) = [] := by split <;> rfl
                    rw [e0, List.append_nil]; exact j2
              · refine ⟨by omega, ?_⟩
                show WR M0 M8 (tjA F ps ++ [(661, 1)] ++ [])
                rw [List.append_nil]; exact h8
            · rw [o583 l2, hF _ (by omega) (by omega)]
              obtain ⟨k, hk⟩ : ∃ k : Nat, v3 = k := ⟨v3.toNat, by omega⟩
              subst hk
              rw [Int.toNat_natCast] at l2
              apply P_X10_writes (p := 663 + 65 * ps.length + k) l2 (by omega) (sg_hi (by omega) (by omega)) (by rw [List.length_append, List.length_cons, jbL_len, cpL_len]; omega)
              intro M4 h4
              refine ⟨inR_mk (by omega) (by omega), hX _ _ ⟨by omega, ?_⟩ (by omega)⟩
              have en : ((k : Int) + 1).toNat = k + 1 := by omega
              rw [en, cpL, ← List.append_assoc]
              exact h4
          · refine ⟨by omega, ?_⟩
            show WR M0 M1 ((662, (ps.length : Int)) :: jbL F ps 663 ++ [])
            rw [List.append_nil]; exact k3
        · obtain ⟨n, hn⟩ : ∃ n : Nat, v3 = n := ⟨v3.toNat, by omega⟩
          subst hn
          rw [Int.toNat_natCast] at k2 k3 hn6
          have hbn := hb n (by omega) (by omega)
          have ebt : zand (zshr (M1.1 606) n) 1 = b n := by rw [o606 k3]; exact hbn.1
          rw [ebt]
          have en : ((n : Int) + 1).toNat = n + 1 := by omega
          refine ⟨fun hb1 => ?_, fun hb1 => ?_⟩
          · have hb2 : b n = 1 := by have := hbn.2; omega
            apply P_X10_writes (p := 663 + 65 * (pgsTo b n).length) k3 (by omega) (sg_hi (by omega) (by omega)) (by rw [List.length_cons, jbL_len]; omega)
            intro M17 h17
            unfold T_X10_throughJournal_71
            apply zl1_rule (fun v4 M1 => (0 ≤ v4 ∧ v4 ≤ 64) ∧ WR M0 M1 ((662, (ps.length : Int)) :: jbL F (pgsTo b n) 663 ++ [(663 + 65 * ((pgsTo b n).length : Int), (n : Int))] ++ cpL (663 + 65 * (pgsTo b n).length + 1) (fun k => F (64 * n + k)) v4.toNat)) (fun v4 _ => (64 - v4).toNat)
            · intro X4 v4 M1 ⟨l1, l2⟩ hX4
              refine ⟨fun q3 => ⟨inR_mk (by omega) (by omega), ?_⟩, fun q3 => ⟨inR_mk (by omega) (by omega), inR_mk (by omega) (by omega), inR_mk (by omega) (by omega), inR_mk (by omega) (by omega), ⟨by omega, by omega⟩, ?_⟩⟩
              · have e4 : v4.toNat = 64 := by omega
                rw [e4] at l2
                unfold T_X10_throughJournal_109
                refine ⟨inR_mk (by omega) (by omega), hX _ _ _ ⟨by omega, ?_, ?_⟩ (by omega)⟩
                · rw [en, pgsTo, if_pos hb2, len_snoc]; omega
                · rw [en, pgsTo, if_pos hb2, jbL_snoc]
                  simp only [List.cons_append, List.append_assoc, List.nil_append] at l2 ⊢
                  exact l2
              · rw [o583 l2, hF _ (by omega) (by omega)]
                obtain ⟨k, hk⟩ : ∃ k : Nat, v4 = k := ⟨v4.toNat, by omega⟩
                subst hk
                rw [Int.toNat_natCast] at l2
                apply P_X10_writes (p := 663 + 65 * (pgsTo b n).length + 1 + k) l2 (by omega) (sg_hi (by omega) (by omega)) (by rw [List.length_append, List.length_append, List.length_cons, jbL_len, cpL_len, List.length_cons, List.length_nil]; omega)
                intro M4 h4
                refine ⟨inR_mk (by omega) (by omega), hX4 _ _ ⟨by omega, ?_⟩ (by omega)⟩
                have ek : ((k : Int) + 1).toNat = k + 1 := by omega
                rw [ek, cpL, ← List.append_assoc]
                exact h4
            · refine ⟨by omega, ?_⟩
              show WR M0 M17 ((662, (ps.length : Int)) :: jbL F (pgsTo b n) 663 ++ [(663 + 65 * ((pgsTo b n).length : Int), (n : Int))] ++ [])
              rw [List.append_nil]; exact h17
          · unfold T_X10_throughJournal_109
            refine ⟨inR_mk (by omega) (by omega), hX _ _ _ ⟨by omega, ?_, ?_⟩ (by omega)⟩
            · rw [en, pgsTo, if_neg (by omega)]; exact k2
            · rw [en, pgsTo, if_neg (by omega)]; exact k3
      · exact ⟨by omega, rfl, h19⟩
    · obtain ⟨n, hn5⟩ : ∃ n : Nat, v2 = n := ⟨v2.toNat, by omega⟩
      subst hn5
      have ebt : zand (zshr (M.1 606) n) 1 = b n := by rw [o606 h14]; exact (hb n (by omega) (by omega)).1
      rw [ebt]
      have hbn := (hb n (by omega) (by omega)).2
      rw [Int.toNat_natCast] at h2 hn
      refine ⟨inR_mk (by omega) (by omega), inR_mk (by omega) (by omega), hX _ _ ⟨by omega, ?_⟩ (by omega)⟩
      have en : ((n : Int) + 1).toNat = n + 1 := by omega
      rw [en, pgsTo]
      rcases hbn with hbn | hbn
      · rw [if_neg (by omega), hbn]; omega
      · rw [if_pos hbn, len_snoc, hbn]; omega
  · exact ⟨by omega, rfl⟩
