def fTr : Nat → Prop := fun k => k = 596 ∨ k = 597
theorem take_snoc {v : List Int} {j : Int} (h0 : 0 ≤ j) (h : j < v.length) : v.take (j + 1).toNat = v.take j.toNat ++ [gi v j] := by
  have e1 : (j + 1).toNat = j.toNat + 1 := by omega
  rw [e1, List.take_add_one]
  congr 1
  unfold gi
  rw [List.getD_eq_getElem?_getD, List.getElem?_eq_getElem (by omega)]
  rfl
theorem P_X10_does_81 {src : Nat} {a key from_ n : Int} {v0 w : List Int} {r : Rec} {Q : zMem → Prop} {M : zMem} (hT : tabR M r) (hR : RecOK r) (hk : 0 ≤ key ∧ key < 256) (hf : from_ = v0.length) (hv : AL (M.2 597) (8 * key) v0) (hA : AL (M.2 src) (a + 2) w) (hn : n = w.length) (hn8 : v0.length + w.length ≤ 8) (ha : 0 ≤ a ∧ a + 2 + w.length ≤ alen src ∧ alen src ≤ 30000) (hs : ¬ fTr src) (hQ : ∀ M', Fr fTr M M' → tabR M' (updR r key (some (v0 ++ w))) → Q M') : T_X10_does_81 src a n key from_ Q 0 M := by
  unfold T_X10_does_81
  refine zl1_rule (fun i M1 => (0 ≤ i ∧ i ≤ n) ∧ Fr (fun k => k = 597) M M1 ∧ AL (M1.2 597) (8 * key) (v0 ++ w.take i.toNat) ∧ (∀ j, (j < 8 * key ∨ 8 * key + 8 ≤ j) → M1.2 597 j = M.2 597 j)) (fun i M1 => (n - i).toNat) ?_ 0 M ⟨⟨by omega, by omega⟩, Fr_refl M, by simpa using hv, fun j _ => rfl⟩
  intro X i M1 hI ih
  obtain ⟨h1, h2, h3, h4⟩ := hI
  have e6 : M1.2 596 = M.2 596 := h2.2 596 (by decide)
  have es : M1.2 src = M.2 src := h2.2 src (fun h => hs (Or.inr h))
  refine ⟨fun hi => ⟨inR_mk (by omega) (by omega), ⟨by omega, by omega⟩, fun M2 hM2 => hQ M2 (Fr_trans (Fr_mono h2 (fun k h => Or.inr h)) (by rw [hM2]; exact Fr_setA (Or.inl rfl))) ?_⟩, fun hi => ⟨inR_mk (by omega) (by omega), inR_mk (by omega) (by omega), inR_mk (by omega) (by omega), inR_mk (by omega) (by omega), inR_mk (by omega) (by omega), ⟨by omega, by omega⟩, ⟨by omega, by omega⟩, fun M3 hM3 => ⟨inR_mk (by omega) (by omega), ih _ _ ⟨⟨by omega, by omega⟩, Fr_trans h2 (by rw [hM3]; exact Fr_setA rfl), ?_, fun j j0 => ?_⟩ (by omega)⟩⟩⟩
  · have e : w.take i.toNat = w := List.take_of_length_le (by omega)
    rw [e] at h3
    refine Tab_upd hT hR hk (fun j j0 j1 => ?_) ?_ (fun j j0 j1 j2 => ?_)
    · rw [hM2, setA_2, if_pos rfl, e6]
      by_cases q3 : j = key
      · rw [q3, upI_same, if_pos rfl, List.length_append]; omega
      · rw [upI_ne q3, if_neg q3]
    · rw [hM2, setA_2, if_neg (by decide)]; exact h3
    · rw [hM2, setA_2, if_neg (by decide)]; exact h4 j j2
  · rw [hM3, setA_2, if_pos rfl, es, hA i (by omega) (by omega), take_snoc (by omega) (by omega), ← List.append_assoc]
    refine AL_snoc h3 ?_
    rw [List.length_append, List.length_take]
    omega
  · rw [hM3, setA_2, if_pos rfl, upI_ne (by omega)]
    exact h4 j j0
theorem P_X10_does {src : Nat} {a : Int} {e : List Int} {r : Rec} {Q : zMem → Prop} {M : zMem} (hT : tabR M r) (hR : RecOK r) (hA : AL (M.2 src) a e) (ha : 0 ≤ a ∧ a + e.length ≤ alen src ∧ alen src ≤ 30000) (he : eOK e) (hc : can r e) (hs : ¬ fTr src) (hQ : ∀ M', Fr fTr M M' → tabR M' (ap r e) → Q M') : T_X10_does src a Q M := by
  have hcs := eOK_cases he
  have hk := allB_gi he.2.2 1
  have hh := allB_gi he.2.2 0
  have he2 := he.2.1
  have h0 : M.2 src a = gi e 0 := by have := hA 0 (by omega) (by omega); rwa [Int.add_zero] at this
  have h1 : M.2 src (a + 1) = gi e 1 := hA 1 (by omega) (by omega)
  have hd : AL (M.2 src) (a + 2) (e.drop 2) := AL_drop hA 2 (by omega)
  unfold T_X10_does
  rw [h0, h1, tmod_pos hh.1]
  refine ⟨⟨by omega, by omega⟩, ?_⟩
  apply P_X10_kindOf hh.1
  refine ⟨⟨by omega, by omega⟩, inR_mk (by omega) (by omega), ⟨by omega, by omega⟩, fun n2 => ⟨fun n3 => ⟨fun n1 => ⟨⟨by omega, by omega⟩, ?_⟩, fun n1 => ?_⟩, fun n3 => ?_⟩, fun n2 => ⟨⟨by omega, by omega⟩, fun M1 hM1 => ?_⟩⟩
  · have hc := (hc.resolve_left n1).resolve_left (fun h => n2 h.1)
    obtain ⟨v, hv, hc⟩ := hc
    have hc := hc.resolve_left (fun h => n3 h.1)
    have hv2 := (hT _ hk.1 hk.2).2 v hv
    have hv8 := (hR _ v hv).2.1
    unfold T_X10_does_76
    rw [hv2.1]
    apply P_X10_does_81 (v0 := v) (w := e.drop 2) hT hR hk rfl hv2.2 hd (by rw [List.length_drop]; omega) (by rw [List.length_drop]; omega) ⟨by omega, by rw [List.length_drop]; omega, by omega⟩ hs
    intro M' hF hT'
    exact hQ M' hF (by rw [ap_4 hc.1 hv]; exact hT')
  · unfold T_X10_does_76
    apply P_X10_does_81 (v0 := []) (w := e.drop 2) hT hR hk rfl (AL_nil _ _) hd (by rw [List.length_drop]; omega) (by rw [List.length_drop]; simp only [List.length_nil]; omega) ⟨by omega, by rw [List.length_drop]; omega, by omega⟩ hs
    intro M' hF hT'
    exact hQ M' hF (by rw [ap_1 n1]; exact hT')
  · have hc := (hc.resolve_left (by omega)).resolve_left (fun h => n2 h.1)
    obtain ⟨v, hv, hc⟩ := hc
    have hc := hc.resolve_right (fun h => by omega)
    have hv2 := (hT _ hk.1 hk.2).2 v hv
    have hv8 := (hR _ v hv).2.1
    have h2 : M.2 src (a + 2) = gi e 2 := hA 2 (by omega) (by omega)
    rw [h2]
    refine ⟨inR_mk (by omega) (by omega), inR_mk (by omega) (by omega), inR_mk (by omega) (by omega), ⟨by omega, by omega⟩, ⟨by omega, by omega⟩, fun M1 hM1 => hQ M1 (by rw [hM1]; exact Fr_setA (Or.inr rfl)) ?_⟩
    rw [ap_3 n3 hv]
    refine Tab_upd hT hR hk (fun j j0 j1 => ?_) (fun j j0 j1 => ?_) (fun j j0 j1 j2 => ?_)
    · rw [hM1, setA_2, if_neg (by decide)]
      by_cases q3 : j = gi e 1
      · rw [if_pos q3, q3, hv2.1, List.length_set]
      · rw [if_neg q3]
    · rw [List.length_set] at j1
      rw [hM1, setA_2, if_pos rfl, set_gi (by omega) j0]
      by_cases q3 : j = gi e 0 % 16
      · rw [if_pos (by omega), q3, upI_same]
      · rw [if_neg (by omega), upI_ne (by omega)]
        exact hv2.2 j j0 j1
    · rw [hM1, setA_2, if_pos rfl, upI_ne (by omega)]
  · refine hQ M1 (by rw [hM1]; exact Fr_setA (Or.inl rfl)) ?_
    rw [ap_2 n2]
    have e3 : M1.2 597 = M.2 597 := by rw [hM1, setA_2, if_neg (by decide)]
    unfold tabR
    rw [e3]
    refine Tab_del hT (fun j j0 j1 => ?_)
    rw [hM1, setA_2, if_pos rfl]
    by_cases q3 : j = gi e 1
    · rw [q3, upI_same, if_pos rfl]
    · rw [upI_ne q3, if_neg q3]
theorem P_X10_cant {src : Nat} {a : Int} {e : List Int} {r : Rec} {Q : Int → Prop} {M : zMem} (hT : tabR M r) (hR : RecOK r) (hA : AL (M.2 src) a e) (ha : 0 ≤ a ∧ a + e.length ≤ alen src ∧ alen src ≤ 30000) (he : eOK e) (hQ : Q (rf r e)) : T_X10_cant src a Q M := by
  have hcs := eOK_cases he
  have hk := allB_gi he.2.2 1
  have hh := allB_gi he.2.2 0
  have he2 := he.2.1
  have h0 : M.2 src a = gi e 0 := by have := hA 0 (by omega) (by omega); rwa [Int.add_zero] at this
  have h1 : M.2 src (a + 1) = gi e 1 := hA 1 (by omega) (by omega)
  have hd : AL (M.2 src) (a + 2) (e.drop 2) := AL_drop hA 2 (by omega)
  unfold T_X10_cant
  rw [h0, h1, tmod_pos hh.1]
  refine ⟨⟨by omega, by omega⟩, ?_⟩
  apply P_X10_kindOf hh.1
  have h105 : ¬ gi e 0 / 16 = 1 → Q 0 → T_X10_cant_105 src a (gi e 0 / 16) (gi e 0 % 16) (gi e 1) Q M := by
    intro n1 hq
    unfold T_X10_cant_105
    exact ⟨fun _ => hq, fun h => absurd h n1⟩
  have hsome : ∀ v, r (gi e 1) = some v → ¬ gi e 0 / 16 = 1 → T_X10_cant_41 src a (gi e 0 / 16) (gi e 0 % 16) (gi e 1) Q M := by
    intro v hv n1
    have hv2 := (hT _ hk.1 hk.2).2 v hv
    have hv8 := (hR _ v hv).2.1
    unfold rf at hQ
    rw [if_neg n1, hv] at hQ
    dsimp only at hQ
    unfold T_X10_cant_41 T_X10_cant_82
    rw [hv2.1]
    refine ⟨fun n3 => ⟨fun n4 => h105 n1 ?_, fun n4 => ⟨⟨by omega, by omega⟩, inR_mk (by omega) (by omega), fun n5 => h105 n1 ?_, fun n5 => ?_⟩⟩, fun n3 => ⟨⟨by omega, by omega⟩, fun n4 => ?_, fun n4 => ⟨inR_mk (by omega) (by omega), inR_mk (by omega) (by omega), ⟨by omega, by omega⟩, inR_mk (by omega) (by omega), ⟨by omega, by omega⟩, ?_⟩⟩⟩
    · rw [if_neg n3, if_neg n4] at hQ; exact hQ
    · rw [if_neg n3, if_pos n4, if_neg (by omega)] at hQ; exact hQ
    · rw [if_neg n3, if_pos n4, if_pos (by omega)] at hQ; exact hQ
    · rw [if_pos n3, if_pos (Or.inl (by omega))] at hQ; exact hQ
    · rw [hv2.2 (gi e 0 % 16) (by omega) (by omega), hA 2 (by omega) (by omega)]
      refine ⟨fun q => ⟨fun _ => h105 n1 ?_, fun n4 => by omega⟩, fun q => ?_⟩
      · rw [if_pos n3, if_neg (fun h => by rcases h with h | h; omega; exact q h)] at hQ; exact hQ
      · rw [if_pos n3, if_pos (Or.inr q)] at hQ; exact hQ
  refine ⟨⟨by omega, by omega⟩, inR_mk (by omega) (by omega), ⟨by omega, by omega⟩, fun n1 => ?_, fun n1 => ⟨⟨by omega, by omega⟩, fun n2 => ?_, fun n2 => ?_⟩⟩
  · unfold T_X10_cant_41 T_X10_cant_82 T_X10_cant_105
    refine ⟨fun _ => ⟨fun _ => ⟨fun h => absurd n1 h, fun _ => ⟨⟨by omega, by omega⟩, fun n2 => ?_, fun n2 => ?_⟩⟩, fun h => by omega⟩, fun h => by omega⟩
    · obtain ⟨v, hv, hs2, hA2⟩ := Tab_some hT hk.1 hk.2 (by omega)
      unfold rf at hQ
      rw [if_pos n1, hv] at hQ
      unfold T_X10_cant_127
      have hlen : v.length = (e.drop 2).length := by rw [List.length_drop]; omega
      refine zp1_rule (fun i => (0 ≤ i ∧ i ≤ gi e 0 % 16) ∧ ∀ j, 0 ≤ j → j < i → gi v j = gi (e.drop 2) j) (fun i => (gi e 0 % 16 - i).toNat) ?_ _ ⟨⟨by omega, by omega⟩, fun j h0 h1 => by omega⟩
      intro X i hI ih
      obtain ⟨g1, g2⟩ := hI
      refine ⟨fun hi => ?_, fun hi => ⟨inR_mk (by omega) (by omega), inR_mk (by omega) (by omega), ⟨by omega, by omega⟩, inR_mk (by omega) (by omega), inR_mk (by omega) (by omega), ⟨by omega, by omega⟩, ?_⟩⟩
      · have : v = e.drop 2 := gi_ext hlen (fun j j0 j1 => g2 j j0 (by omega))
        rw [if_pos (by rw [this])] at hQ
        exact hQ
      · rw [hA2 i (by omega) (by omega), hd i (by omega) (by omega)]
        refine ⟨fun q => ⟨inR_mk (by omega) (by omega), ih _ ⟨⟨by omega, by omega⟩, fun j j0 j1 => ?_⟩ (by omega)⟩, fun q => ?_⟩
        · by_cases q3 : j = i
          · rw [q3]; exact q
          · exact g2 j j0 (by omega)
        · rw [if_neg (fun h => q (by rw [Option.some.inj h]))] at hQ
          exact hQ
    · unfold rf at hQ
      rw [if_pos n1, if_neg (fun h => n2 (by rw [((hT _ hk.1 hk.2).2 _ h).1, List.length_drop]; omega))] at hQ
      exact hQ
  · obtain ⟨v, hv, -, -⟩ := Tab_some hT hk.1 hk.2 n2
    exact hsome v hv n1
  · unfold rf at hQ
    rw [if_neg n1, (Tab_iff hT hk.1 hk.2).mp n2] at hQ
    exact hQ
def fLr : Nat → Prop := fun k => fTr k ∨ fUr k
theorem P_X10_laysPacked {src : Nat} {p : Int} {r0 : Rec} {pkd out : List Int} {es : List (List Int)} {rs : List (Int × List Int)} {Q : zMem → Prop} {M : zMem} (hl : 661 ≤ alen src ∧ alen src ≤ 30000) (hsrc : ¬ fLr src) (hT : tabR M r0) (hR : RecOK r0) (hB : Blk (M.2 src) p pkd es) (hfl : 0 ≤ M.2 src (64 * p) ∧ M.2 src (64 * p) ≤ 3) (hb : allB pkd) (hu : unp pkd 0 [] = .inr out) (ht : tbL (M.2 src (64 * p)) out 0 0 = plain rs) (hrs : rsOK rs) (hQ : ∀ M', Fr fLr M M' → tabR M' (adds r0 rs) → Q M') : T_X10_laysPacked src p Q M := by
  have hp := hB.1
  have h4 := hB.2.2.2.1
  unfold T_X10_laysPacked
  rw [hB.2.1]
  refine ⟨inR_mk (by omega) (by omega), inR_mk (by omega) (by omega), inR_mk (by omega) (by omega), ⟨by omega, by omega⟩, ⟨by omega, by omega⟩, ?_⟩
  have hAp : AL (M.2 src) (64 * p + 2) pkd := (AL_app.mp hB.2.2.1).1
  apply P_X10_unpacks hAp rfl (by omega) ⟨by omega, by omega, by omega⟩ (fun h => hsrc (Or.inr (Or.inl h))) hb
  · intro out2 hu2 hb2 hl2 M1 hF1 hA1 hn1 _
    rw [hu] at hu2
    have e : out = out2 := Sum.inr.inj hu2
    subst e
    rw [ht] at hA1
    have hln : (out.length : Int) = (plain rs).length := by rw [← ht, tbL_len]
    have hT1 : tabR M1 r0 := by
      unfold tabR
      rw [hF1.2 596 (by unfold fUr; decide), hF1.2 597 (by unfold fUr; decide)]
      exact hT
    unfold T_X10_laysPacked_26
    refine zl1_rule (fun a M2 => Fr fTr M1 M2 ∧ ∃ (r : Rec) (t : List (Int × List Int)), tabR M2 r ∧ RecOK r ∧ rsOK t ∧ adds r t = adds r0 rs ∧ AL (M1.2 590) a (plain t) ∧ a + (plain t).length = (plain rs).length ∧ 0 ≤ a) (fun a M2 => ((plain rs).length - a).toNat) ?_ _ M1 ⟨Fr_refl M1, r0, rs, hT1, hR, hrs, rfl, hA1, by omega, by omega⟩
    intro X a M2 hI ih
    obtain ⟨hF2, r, t, g1, g2, g3, g4, g5, g6, g7⟩ := hI
    have en : M2.1 591 = (plain rs).length := by rw [hF2.1 591 (by unfold fTr; decide), hn1, hln]
    have e590 : M2.2 590 = M1.2 590 := hF2.2 590 (by unfold fTr; decide)
    rw [en]
    refine ⟨fun h => ?_, fun h => ?_⟩
    · cases t with
      | nil => exact hQ M2 (Fr_trans (Fr_mono hF1 (fun k h => Or.inr h)) (Fr_mono hF2 (fun k h => Or.inl h))) (by rw [← g4]; exact g1)
      | cons p t => rw [plain_cons, List.length_append, pl1_len] at g6; omega
    · cases t with
      | nil => rw [plain_nil] at g6; simp only [List.length_nil] at g6; omega
      | cons q t =>
        have hq := g3 q List.mem_cons_self
        rw [plain_cons, List.length_append, pl1_len] at g6
        rw [plain_cons, AL_app, pl1_len] at g5
        have g5a := g5.1
        unfold pl1 at g5a
        rw [AL_cons, AL_cons] at g5a
        obtain ⟨k0, k1, k2⟩ := g5a
        rw [e590, k0, k1]
        refine ⟨⟨by omega, by omega⟩, inR_mk (by omega) (by omega), ⟨by omega, by omega⟩, ⟨by omega, by omega⟩, fun M4 hM4 => ?_⟩
        have hM4s : ∀ j, M4.2 596 j = if j = q.1 then (q.2.length : Int) else M2.2 596 j := fun j => by rw [hM4, setA_2, if_pos rfl]; rfl
        have e47 : M4.2 597 = M2.2 597 := by rw [hM4, setA_2, if_neg (by decide)]
        unfold T_X10_laysPacked_63
        refine zl1_rule (fun i M5 => (0 ≤ i ∧ i ≤ q.2.length) ∧ Fr (fun k => k = 597) M4 M5 ∧ AL (M5.2 597) (8 * q.1) (q.2.take i.toNat) ∧ (∀ j, (j < 8 * q.1 ∨ 8 * q.1 + 8 ≤ j) → M5.2 597 j = M2.2 597 j)) (fun i M5 => (q.2.length - i).toNat) ?_ 0 M4 ⟨⟨by omega, by omega⟩, Fr_refl M4, AL_nil _ _, fun j _ => by rw [e47]⟩
        intro Y i M5 hI5 ih5
        obtain ⟨i1, i2, i3, i4⟩ := hI5
        have e56 : M5.2 596 = M4.2 596 := i2.2 596 (by decide)
        have e5q : M5.2 596 q.1 = q.2.length := by rw [e56, hM4s, if_pos rfl]
        have e590' : M5.2 590 = M1.2 590 := by rw [i2.2 590 (by decide), hM4, setA_2, if_neg (by decide)]; exact e590
        rw [e5q, e590']
        refine ⟨⟨by omega, by omega⟩, fun hi => ⟨⟨by omega, by omega⟩, inR_mk (by omega) (by omega), inR_mk (by omega) (by omega), ih _ _ ⟨Fr_trans hF2 (Fr_trans (M' := M4) (by rw [hM4]; exact Fr_setA (Or.inl rfl)) (Fr_mono i2 (fun k h => Or.inr h))), updR r q.1 (some q.2), t, ?_, RecOK_upd g2 hq.1 hq.2.1 hq.2.2, fun x hx => g3 x (List.mem_cons_of_mem _ hx), g4, ?_, by omega, by omega⟩ (by omega)⟩, fun hi => ⟨inR_mk (by omega) (by omega), inR_mk (by omega) (by omega), inR_mk (by omega) (by omega), inR_mk (by omega) (by omega), ⟨by omega, by omega⟩, ⟨by omega, by omega⟩, fun M6 hM6 => ⟨inR_mk (by omega) (by omega), ih5 _ _ ⟨⟨by omega, by omega⟩, Fr_trans i2 (by rw [hM6]; exact Fr_setA rfl), ?_, fun j j0 => ?_⟩ (by omega)⟩⟩⟩
        · have e : q.2.take i.toNat = q.2 := List.take_of_length_le (by omega)
          rw [e] at i3
          refine Tab_upd g1 g2 hq.1 (fun j j0 j1 => ?_) i3 (fun j j0 j1 j2 => i4 j j2)
          rw [e56]; exact hM4s j
        · have := g5.2
          have e9 : a + (2 + (q.2.length : Int)) = a + ((2 + q.2.length : Nat) : Int) := by omega
          rw [e9]; exact this
        · have hv : M1.2 590 (a + 2 + i) = gi q.2 i := by
            have e9 : a + 2 + i = a + 1 + 1 + i := by omega
            rw [e9]; exact k2 i (by omega) (by omega)
          rw [hM6, setA_2, if_pos rfl, hv, take_snoc (by omega) (by omega)]
          refine AL_snoc i3 ?_
          rw [List.length_take]
          omega
        · rw [hM6, setA_2, if_pos rfl, upI_ne (by omega)]
          exact i4 j j0
  · intro fp hfp
    rw [hu] at hfp
    cases hfp
theorem P_X10_lays {src : Nat} {p n : Int} {r0 : Rec} {pkd out : List Int} {es : List (List Int)} {rs : List (Int × List Int)} {Q : zMem → Prop} {M : zMem} (hl : 661 ≤ alen src ∧ alen src ≤ 30000) (hsrc : ¬ fLr src) (hT : tabR M r0) (hR : RecOK r0) (hB : Blk (M.2 src) p pkd es) (hfl : 0 ≤ M.2 src (64 * p) ∧ M.2 src (64 * p) ≤ 3) (hb : allB pkd) (hu : unp pkd 0 [] = .inr out) (ht : tbL (M.2 src (64 * p)) out 0 0 = plain rs) (hrs : rsOK rs) (hc : canAll (adds r0 rs) (es.take n.toNat)) (hQ : ∀ M', Fr fLr M M' → tabR M' ((es.take n.toNat).foldl ap (adds r0 rs)) → Q M') : T_X10_lays src p n Q M := by
  have hp := hB.1
  have h4 := hB.2.2.2.1
  unfold T_X10_lays
  apply P_X10_laysPacked hl hsrc hT hR hB hfl hb hu ht hrs
  intro M1 hF1 hT1
  have e1 : M1.2 src = M.2 src := hF1.2 src hsrc
  apply P_X10_entryAt hl.1 (by rw [e1]; exact hB)
  rw [e1, hB.2.1]
  refine ⟨inR_mk (by omega) (by omega), inR_mk (by omega) (by omega), ⟨by omega, by omega⟩, inR_mk (by omega) (by omega), ?_⟩
  unfold T_X10_lays_26
  have hA := (AL_app.mp hB.2.2.1).2
  have hAt : AL (M.2 src) (64 * p + (2 + pkd.length)) (es.take n.toNat).flatten := by
    have e := List.take_append_drop n.toNat es
    rw [← e, List.flatten_append, AL_app] at hA
    rw [← Int.add_assoc]
    exact hA.1
  have hin : ∀ e ∈ es.take n.toNat, eOK e := fun e he => hB.2.2.2.2.1 e (List.mem_of_mem_take he)
  have hle : (es.take n.toNat).flatten.length ≤ es.flatten.length := by
    have e := List.take_append_drop n.toNat es
    have : es.flatten = (es.take n.toNat).flatten ++ (es.drop n.toNat).flatten := by rw [← List.flatten_append, e]
    rw [this, List.length_append]; omega
  refine zl1_rule (fun a M3 => Fr fLr M M3 ∧ ∃ (r : Rec) (t : List (List Int)), tabR M3 r ∧ RecOK r ∧ (∀ e ∈ t, eOK e) ∧ AL (M.2 src) (64 * p + a) t.flatten ∧ a + t.flatten.length = 2 + pkd.length + ((es.take n.toNat).flatten.length : Int) ∧ 0 ≤ a ∧ canAll r t ∧ t.foldl ap r = (es.take n.toNat).foldl ap (adds r0 rs)) (fun a M3 => (64 - a).toNat) ?_ _ M1 ⟨hF1, adds r0 rs, es.take n.toNat, hT1, RecOK_adds rs hR hrs, hin, hAt, by omega, by omega, hc, rfl⟩
  intro X a M3 hI ih
  obtain ⟨hF3, r, t, g1, g2, g4, g5, g6, g7, g8, g9⟩ := hI
  have es3 : M3.2 src = M.2 src := hF3.2 src hsrc
  cases t with
  | nil =>
    simp only [List.flatten_nil, List.length_nil] at g6
    exact ⟨fun h => hQ M3 hF3 (by rw [← g9]; exact g1), fun h => by omega⟩
  | cons e t =>
    have he := g4 e List.mem_cons_self
    have hel := eOK_len he
    simp only [List.flatten_cons, List.length_append] at g6
    rw [List.flatten_cons, AL_app] at g5
    refine ⟨fun h => by omega, fun h => ⟨inR_mk (by omega) (by omega), inR_mk (by omega) (by omega), ?_⟩⟩
    apply P_X10_does g1 g2 (by rw [es3]; exact g5.1) ⟨by omega, by omega, by omega⟩ he g8.1 (fun h => hsrc (Or.inl h))
    intro M4 hF4 hT4
    have es4 : M4.2 src = M.2 src := by rw [hF4.2 src (fun h => hsrc (Or.inl h))]; exact es3
    have hh := allB_gi he.2.2 0
    have h0 : M4.2 src (64 * p + a) = gi e 0 := by
      have := g5.1 0 (by omega) (by omega)
      rw [Int.add_zero] at this
      rw [es4]; exact this
    rw [h0]
    refine ⟨inR_mk (by omega) (by omega), inR_mk (by omega) (by omega), ⟨by omega, by omega⟩, ?_⟩
    apply P_X10_lengthOf hh
    rw [lnR_szB (by rw [he.1]; omega), he.1]
    exact ⟨inR_mk (by omega) (by omega), ih _ _ ⟨Fr_trans hF3 (Fr_mono hF4 (fun k h => Or.inl h)), ap r e, t, hT4, RecOK_ap g2 he g8.1, fun x hx => g4 x (List.mem_cons_of_mem _ hx), by rw [← Int.add_assoc]; exact g5.2, by omega, by omega, g8.2, g9⟩ (by omega)⟩
theorem P_X10_laysAlone {src : Nat} {p : Int} {pkd : List Int} {es : List (List Int)} {rs : List (Int × List Int)} {Q : zMem → Prop} {M : zMem} (hl : 661 ≤ alen src ∧ alen src ≤ 30000) (hsrc : ¬ fLr src) (hP : Pg (M.2 src) p pkd es rs) (hQ : ∀ M', Fr fLr M M' → tabR M' (pR es rs) → Q M') : T_X10_laysAlone src p Q M := by
  obtain ⟨hB, hfl, hb, ⟨out, hu, ht⟩, hrs, hc⟩ := hP
  unfold T_X10_laysAlone
  apply P_X10_clears
  intro M1 hF1 hT1
  have e1 : M1.2 src = M.2 src := hF1.2 src (fun h => hsrc (Or.inl (Or.inl h)))
  have hfe := flat_len hB.2.2.2.2.1
  have h4 := hB.2.2.2.1
  have et : es.take (64 : Int).toNat = es := List.take_of_length_le (by show es.length ≤ 64; omega)
  apply P_X10_lays hl hsrc hT1 RecOK_0 (by rw [e1]; exact hB) (by rw [e1]; exact hfl) hb hu (by rw [e1]; exact ht) hrs (by rw [et]; exact hc)
  rw [et]
  intro M2 hF2 hT2
  exact hQ M2 (Fr_trans (Fr_mono hF1 (fun k h => Or.inl (Or.inl h))) hF2) hT2
