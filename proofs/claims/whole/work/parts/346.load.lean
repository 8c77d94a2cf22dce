theorem plain_ge (rs : List (Int × List Int)) : 2 * rs.length ≤ (plain rs).length := by
  induction rs with
  | nil => simp [plain_nil]
  | cons p t ih => rw [plain_cons, List.length_append, pl1_len, List.length_cons]; omega
theorem P_X8_takePlain {o : Nat} {size : Int} {r0 : Rec} {rs : List (Int × List Int)} {Q : zMem → Prop} {M : zMem} (hT : tabC o M r0) (hR : RecOK r0) (hA : AL (M.2 (64 * (o + 1) + 1)) 0 (plain rs)) (hs : size = (plain rs).length) (hs4 : size ≤ 400) (hrs : rsOK rs) (hQ : ∀ M', Fr (fTb o) M M' → tabC o M' (adds r0 rs) → Q M') : T_X8_takePlain o size Q M := by
  unfold T_X8_takePlain T_X8_takePlain_13
  have hge := plain_ge rs
  refine zl2_rule (fun a i M1 => Fr (fTb o) M M1 ∧ ∃ (r : Rec) (t : List (Int × List Int)), tabC o M1 r ∧ RecOK r ∧ rsOK t ∧ adds r t = adds r0 rs ∧ AL (M.2 (64 * (o + 1) + 1)) a (plain t) ∧ a + (plain t).length = size ∧ 0 ≤ a ∧ (0 ≤ i ∧ i + t.length ≤ 200)) (fun a i M1 => (256 - i).toNat) ?_ _ _ M ⟨Fr_refl M, r0, rs, hT, hR, hrs, rfl, hA, by omega, by omega, by omega, by omega⟩
  intro X a i M1 hI ih
  obtain ⟨h1, r, t, g1, g2, g3, g4, g5, g6, g7, g8⟩ := hI
  have e1 : M1.2 (64 * (o + 1) + 1) = M.2 (64 * (o + 1) + 1) := h1.2 _ (by unfold fTb; omega)
  refine ⟨fun h => by omega, fun h => ⟨inR_mk (by omega) (by omega), fun h2 => ?_, fun h2 => ?_⟩⟩
  · cases t with
    | nil => exact hQ M1 h1 (by rw [← g4]; exact g1)
    | cons p t => rw [plain_cons, List.length_append, pl1_len] at g6; omega
  · cases t with
    | nil => rw [plain_nil] at g6; simp only [List.length_nil] at g6; omega
    | cons p t =>
      have hp := g3 p List.mem_cons_self
      rw [plain_cons, List.length_append, pl1_len] at g6
      rw [plain_cons, AL_app, pl1_len] at g5
      have g5a := g5.1
      unfold pl1 at g5a
      rw [AL_cons, AL_cons] at g5a
      obtain ⟨k0, k1, k2⟩ := g5a
      rw [List.length_cons] at g8
      rw [e1, k0, k1]
      refine ⟨⟨by omega, by omega⟩, inR_mk (by omega) (by omega), ⟨by omega, by omega⟩, ?_⟩
      apply P_X9_isByte
      · intro _
        refine ⟨fun q => by omega, fun _ => ⟨fun q => by omega, fun _ => ⟨fun q => by omega, fun _ => ⟨inR_mk (by omega) (by omega), inR_mk (by omega) (by omega), fun _ => ⟨⟨by omega, by omega⟩, fun M8 hM8 => ⟨inR_mk (by omega) (by omega), inR_mk (by omega) (by omega), ⟨⟨by omega, by omega, by omega⟩, by omega, by omega, by omega, by omega⟩, fun M9 hM9 => ⟨inR_mk (by omega) (by omega), inR_mk (by omega) (by omega), fun a2 ha2 => ⟨inR_mk (by omega) (by omega), ih _ _ _ ⟨?_, updR r p.1 (some p.2), t, ?_, RecOK_upd g2 hp.1 hp.2.1 hp.2.2, fun q hq => g3 q (List.mem_cons_of_mem _ hq), g4, ?_, by omega, by omega, by omega⟩ (by omega)⟩⟩⟩⟩, fun q => by omega⟩⟩⟩⟩
        · exact Fr_trans h1 (Fr_trans (M' := M8) (by rw [hM8]; exact Fr_setA (Or.inl rfl)) (by rw [hM9]; exact Fr_putA (Or.inr rfl)))
        · have e8 : M8.2 (64 * (o + 1) + 1) = M.2 (64 * (o + 1) + 1) := by rw [hM8, setA_2, if_neg (by omega)]; exact e1
          have e83 : M8.2 (64 * o + 3) = M1.2 (64 * o + 3) := by rw [hM8, setA_2, if_neg (by omega)]
          refine Tab_upd g1 g2 hp.1 (fun j j0 j1 => ?_) (fun j j0 j1 => ?_) (fun j j0 j1 j2 => ?_)
          · rw [hM9, putA_2, if_neg (by omega), hM8, setA_2, if_pos rfl]
            by_cases q : j = p.1
            · rw [q, upI_same, if_pos rfl]
            · rw [upI_ne q, if_neg q]
          · rw [hM9, putA_2, if_pos rfl, e8]
            unfold cpA
            rw [if_pos (by omega)]
            exact (congrArg (M.2 (64 * (o + 1) + 1)) (by omega)).trans (k2 j j0 j1)
          · rw [hM9, putA_2, if_pos rfl, e83]
            unfold cpA
            rw [if_neg (by omega)]
        · have := g5.2
          have e9 : a2 = a + ((2 + p.2.length : Nat) : Int) := by omega
          rw [e9]; exact this
      · intro hb; omega
def fLd (o : Nat) : Nat → Prop := fun k => fTb o k ∨ fUn (o + 1) k
theorem P_X8_addPage {o src : Nat} {p n : Int} {r0 : Rec} {pkd out : List Int} {es : List (List Int)} {rs : List (Int × List Int)} {Q : zMem → Prop} {M : zMem} (hl : 661 ≤ alen src ∧ alen src ≤ 30000) (hsrc : ¬ fLd o src) (hT : tabC o M r0) (hR : RecOK r0) (hB : Blk (M.2 src) p pkd es) (hb : allB pkd) (hu : unp pkd 0 [] = .inr out) (ht : tbL (M.2 src (64 * p)) out 0 0 = plain rs) (hrs : rsOK rs) (hc : canAll (adds r0 rs) (es.take n.toNat)) (hby : ∀ j, 0 ≤ j → j < 640 → inR (M.2 src j)) (hQ : ∀ M', Fr (fLd o) M M' → tabC o M' ((es.take n.toNat).foldl ap (adds r0 rs)) → Q M') : T_X8_addPage o src p n Q M := by
  have hp := hB.1
  have h4 := hB.2.2.2.1
  have hfl := flat_len hB.2.2.2.2.1
  unfold T_X8_addPage
  refine ⟨inR_mk (by omega) (by omega), inR_mk (by omega) (by omega), ?_⟩
  apply P_X4_packedSize hl.1 hB
  refine ⟨inR_mk (by omega) (by omega), ⟨by omega, by omega⟩, ?_⟩
  have e64 : p * 64 = 64 * p := by omega
  rw [e64]
  have hAp : AL (M.2 src) (64 * p + 2) pkd := (AL_app.mp hB.2.2.1).1
  have hs1 : src ≠ 64 * (o + 1) + 1 := fun h => hsrc (Or.inr (Or.inl h))
  apply P_X6_unpackRow hAp rfl (by omega) ⟨by omega, by omega, by omega, by omega⟩ hs1 hb
  · intro out2 hu2 hb2 hl2 M1 hF1 hA1 _
    rw [hu] at hu2
    have e : out = out2 := Sum.inr.inj hu2
    subst e
    rw [ht] at hA1
    have hln : (out.length : Int) = (plain rs).length := by rw [← ht, tbL_len]
    have hFt : ∀ k, fTb o k → ¬ fUn (o + 1) k := fun k h => by unfold fTb at h; unfold fUn; omega
    have hT1 : tabC o M1 r0 := by
      unfold tabC
      rw [hF1.2 _ (hFt _ (Or.inl rfl)), hF1.2 _ (hFt _ (Or.inr rfl))]
      exact hT
    apply P_X8_takePlain hT1 hR hA1 hln (by omega) hrs
    intro M2 hF2 hT2
    have hFr2 : Fr (fLd o) M M2 := Fr_trans (Fr_mono hF1 (fun k h => Or.inr h)) (Fr_mono hF2 (fun k h => Or.inl h))
    have es2 : M2.2 src = M.2 src := hFr2.2 src hsrc
    apply P_X4_logStart hl.1 (by rw [es2]; exact hB)
    refine ⟨inR_mk (by omega) (by omega), inR_mk (by omega) (by omega), ?_⟩
    unfold T_X8_addPage_51
    have hA := (AL_app.mp hB.2.2.1).2
    refine zl2_rule (fun a i M3 => Fr (fLd o) M M3 ∧ ∃ (r : Rec) (t : List (List Int)), tabC o M3 r ∧ RecOK r ∧ (0 ≤ i ∧ i + t.length ≤ 31) ∧ (∀ e ∈ t, eOK e) ∧ AL (M.2 src) a t.flatten ∧ a + t.flatten.length = 64 * p + (2 + pkd.length + es.flatten.length) ∧ 64 * p ≤ a ∧ canAll r (t.take (n - i).toNat) ∧ (t.take (n - i).toNat).foldl ap r = (es.take n.toNat).foldl ap (adds r0 rs)) (fun a i M3 => (64 - i).toNat) ?_ _ _ M2 ⟨hFr2, adds r0 rs, es, hT2, RecOK_adds rs hR hrs, ⟨by omega, by omega⟩, hB.2.2.2.2.1, hA, by omega, by omega, by rw [Int.sub_zero]; exact hc, by rw [Int.sub_zero]⟩
    intro X a i M3 hI ih
    obtain ⟨hF3, r, t, g1, g2, g3, g4, g5, g6, g7, g8, g9⟩ := hI
    have es3 : M3.2 src = M.2 src := hF3.2 src hsrc
    refine ⟨fun h => by omega, fun h => ⟨fun hn => ?_, fun hn => ?_⟩⟩
    · have e : (n - i).toNat = 0 := by omega
      rw [e] at g9
      exact hQ M3 hF3 (by rw [← g9]; exact g1)
    · apply P_X2_sizeAt (by omega) (by omega) (by omega) (fun h9 => by rw [es3]; exact hby _ (by omega) (by omega))
      rw [es3]
      cases t with
      | nil =>
        simp only [List.take_nil, List.flatten_nil, List.length_nil] at g6 g9
        have e9 : a = 64 * p + (2 + pkd.length + es.flatten.length) := by omega
        rw [sA_end (fun h9 => by rw [e9]; exact hB.2.2.2.2.2 (by omega))]
        exact ⟨fun h9 => absurd rfl h9, fun _ => hQ M3 hF3 (by rw [← g9]; exact g1)⟩
      | cons e t =>
        have he := g4 e List.mem_cons_self
        have hel := eOK_len he
        rw [sA_hit he g5 (by omega)]
        have hn1 : (n - i).toNat = (n - (i + 1)).toNat + 1 := by omega
        rw [hn1, List.take_succ_cons] at g8 g9
        simp only [List.flatten_cons, List.length_append, List.length_cons] at g6 g3
        rw [List.flatten_cons, AL_app] at g5
        refine ⟨fun _ => ?_, fun h9 => by omega⟩
        apply P_X8_apply g1 g2 (by rw [es3]; exact g5.1) ⟨by omega, by omega, by omega⟩ he g8.1 (fun h => hsrc (Or.inl h))
        intro M4 hF4 hT4
        exact ⟨inR_mk (by omega) (by omega), inR_mk (by omega) (by omega), ih _ _ _ ⟨Fr_trans hF3 (Fr_mono hF4 (fun k h => Or.inl h)), ap r e, t, hT4, RecOK_ap g2 he g8.1, ⟨by omega, by omega⟩, fun x hx => g4 x (List.mem_cons_of_mem _ hx), g5.2, by omega, by omega, g8.2, g9⟩ (by omega)⟩
  · intro fp hfp
    rw [hu] at hfp
    cases hfp
-- a page: its block, what is packed, its records
def Pg (f : Int → Int) (p : Int) (pkd : List Int) (es : List (List Int)) (rs : List (Int × List Int)) : Prop := Blk f p pkd es ∧ (0 ≤ f (64 * p) ∧ f (64 * p) ≤ 3) ∧ allB pkd ∧ (∃ out, unp pkd 0 [] = .inr out ∧ tbL (f (64 * p)) out 0 0 = plain rs) ∧ rsOK rs ∧ canAll (adds (fun _ => none) rs) es
theorem canAll_take : ∀ (es : List (List Int)) (r : Rec) (n : Nat), canAll r es → canAll r (es.take n)
  | [], _, n, _ => by rw [List.take_nil]; trivial
  | e :: t, r, 0, _ => trivial
  | e :: t, r, n + 1, h => ⟨h.1, canAll_take t _ n h.2⟩
def pR (es : List (List Int)) (rs : List (Int × List Int)) : Rec := es.foldl ap (adds (fun _ => none) rs)
theorem P_X8_loadOnly {o src : Nat} (ho : o = 3 ∨ o = 5) {p n : Int} {pkd : List Int} {es : List (List Int)} {rs : List (Int × List Int)} {Q : zMem → Prop} {M : zMem} (hl : 661 ≤ alen src ∧ alen src ≤ 30000) (hsrc : ¬ fLd o src) (hP : Pg (M.2 src) p pkd es rs) (hby : ∀ j, 0 ≤ j → j < 640 → inR (M.2 src j)) (hQ : ∀ M', Fr (fLd o) M M' → tabC o M' (pR (es.take n.toNat) rs) → Q M') : T_X8_loadOnly o src p n Q M := by
  obtain ⟨hB, hfl, hb, ⟨out, hu, ht⟩, hrs, hc⟩ := hP
  unfold T_X8_loadOnly
  have hl2 : alen (64 * o + 2) = 256 := alenv_X8_2 ho
  apply P_J7_fill (by omega) (by omega)
  intro M1 hF1 hs1
  have e1 : M1.2 src = M.2 src := hF1.2 src (fun h => hsrc (Or.inl (Or.inl h)))
  have hT1 : tabC o M1 (fun _ => none) := fun k h0 h1 => ⟨fun _ => hs1 k h0 (by omega), fun v hv => by cases hv⟩
  apply P_X8_addPage hl hsrc hT1 RecOK_0 (by rw [e1]; exact hB) hb hu (by rw [e1]; exact ht) hrs (canAll_take _ _ _ hc) (by rw [e1]; exact hby)
  intro M2 hF2 hT2
  exact hQ M2 (Fr_trans (Fr_mono hF1 (fun k h => Or.inl (Or.inl h))) hF2) hT2
