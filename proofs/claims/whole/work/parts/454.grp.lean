-- the tape as entries
def badE (x : List Int) : Prop := x ≠ [] ∧ (szB (gi x 0) = 0 ∨ (x.length : Int) < szB (gi x 0))
theorem tape_cases : ∀ (n : Nat) (t : List Int), t.length ≤ n → allB t → (∃ es : List (List Int), t = es.flatten ∧ ∀ e ∈ es, eOK e) ∨ (∃ (es : List (List Int)) (rest : List Int), t = es.flatten ++ rest ∧ badE rest ∧ ∀ e ∈ es, eOK e)
  | n, [], _, _ => Or.inl ⟨[], rfl, fun e h => (by cases h)⟩
  | 0, a :: t, h, _ => by simp at h
  | n + 1, a :: t, h, hb => by
    have hz := szB_b (gi (a :: t) 0)
    by_cases hbad : szB (gi (a :: t) 0) = 0 ∨ ((a :: t).length : Int) < szB (gi (a :: t) 0)
    · exact Or.inr ⟨[], a :: t, rfl, ⟨by simp, hbad⟩, fun e h => (by cases h)⟩
    · have hz2 : 2 ≤ szB (gi (a :: t) 0) := by omega
      obtain ⟨m, hm⟩ : ∃ m : Nat, szB (gi (a :: t) 0) = m := ⟨(szB (gi (a :: t) 0)).toNat, by omega⟩
      have hml : m ≤ (a :: t).length := by omega
      have e1 : (a :: t) = (a :: t).take m ++ (a :: t).drop m := (List.take_append_drop m _).symm
      have hE : eOK ((a :: t).take m) := by
        have hl : ((a :: t).take m).length = m := by rw [List.length_take]; omega
        refine ⟨?_, by omega, fun v hv => hb v (List.mem_of_mem_take hv)⟩
        have : gi ((a :: t).take m) 0 = gi (a :: t) 0 := by
          conv => rhs; rw [e1]
          rw [gi_app_l (by omega) (by omega)]
        rw [this, hm, hl]
      have hdl : ((a :: t).drop m).length ≤ n := by rw [List.length_drop]; simp at h ⊢; omega
      rcases tape_cases n ((a :: t).drop m) hdl (allB_drop hb m) with ⟨es, h1, h2⟩ | ⟨es, rest, h1, h2, h3⟩
      · refine Or.inl ⟨(a :: t).take m :: es, ?_, ?_⟩
        · rw [List.flatten_cons, ← h1]; exact e1
        · intro e he
          rw [List.mem_cons] at he
          rcases he with he | he
          · rw [he]; exact hE
          · exact h2 e he
      · refine Or.inr ⟨(a :: t).take m :: es, rest, ?_, h2, ?_⟩
        · rw [List.flatten_cons, List.append_assoc, ← h1]; exact e1
        · intro e he
          rw [List.mem_cons] at he
          rcases he with he | he
          · rw [he]; exact hE
          · exact h3 e he
theorem flat_snoc (dn : List (List Int)) (e : List Int) : ((dn ++ [e]).flatten.length : Int) = dn.flatten.length + e.length := by
  rw [List.flatten_append, List.length_append, List.flatten_cons, List.flatten_nil, List.append_nil]; omega
theorem len_snoc {α : Type} (dn : List α) (e : α) : ((dn ++ [e]).length : Int) = dn.length + 1 := by
  rw [List.length_append, List.length_cons, List.length_nil]; omega
-- the entries, one behind the other
noncomputable def gr (g : Int → Int) : List (List Int) → (Int → Int) → Lrn → Int → Int → Int × Int × (Int → Int) × Lrn
  | [], f, L, n, _ => (n, -1, f, L)
  | e :: t, f, L, n, a => if (ed g f L e).1 < 0 then ((ed g f L e).1, a, f, L) else gr g t (ed g f L e).2.1 (ed g f L e).2.2.1 (n + 1) (a + e.length)
theorem gr_no {g f : Int → Int} {L : Lrn} {e : List Int} {t : List (List Int)} {n a : Int} (h : (ed g f L e).1 < 0) : gr g (e :: t) f L n a = ((ed g f L e).1, a, f, L) := by rw [gr, if_pos h]
theorem gr_go {g f : Int → Int} {L : Lrn} {e : List Int} {t : List (List Int)} {n a : Int} (h : ¬ (ed g f L e).1 < 0) : gr g (e :: t) f L n a = gr g t (ed g f L e).2.1 (ed g f L e).2.2.1 (n + 1) (a + e.length) := by rw [gr, if_neg h]
theorem gr_agT {g g' : Int → Int} (h : agT g g') : ∀ (es : List (List Int)) (f : Int → Int) (L : Lrn) (n a : Int), gr g es f L n a = gr g' es f L n a
  | [], _, _, _, _ => rfl
  | e :: t, f, L, n, a => by rw [gr, gr, ed_agT h, gr_agT h t]
theorem ed_codes {g f : Int → Int} {L : Lrn} {e : List Int} : (ed g f L e).1 < 0 → (ed g f L e).1 = -2 ∨ (ed g f L e).1 = -4 ∨ (ed g f L e).1 = -5 := by
  obtain ⟨i, hi⟩ : ∃ i, i = od f (gi e 1) := ⟨_, rfl⟩
  unfold ed
  rw [← hi]
  obtain ⟨w, hw⟩ : ∃ w, w = wt f i := ⟨_, rfl⟩
  rw [← hw]
  unfold edW
  have hr := rf_neg (pR w.2.1 w.2.2) e
  split
  · intro _; dsimp only; omega
  · split
    · intro h; dsimp only at h; omega
    · split
      · intro h; dsimp only at h; omega
      · split
        · intro _; exact Or.inr (Or.inr rfl)
        · intro h
          dsimp only at h
          have : 0 ≤ spCode (spRes g (ap (pR w.2.1 w.2.2) e) L).1.length := by unfold spCode; split <;> omega
          omega
theorem gr_res {g : Int → Int} (hg : trmOK g) : ∀ (es : List (List Int)) (f : Int → Int) (L : Lrn) (n a : Int), (∀ e ∈ es, eOK e) → WFz f → lrnOK L → 0 ≤ n → 0 ≤ a →
    ((gr g es f L n a).1 < 0 → ((gr g es f L n a).1 = -2 ∨ (gr g es f L n a).1 = -4 ∨ (gr g es f L n a).1 = -5) ∧ 0 ≤ (gr g es f L n a).2.1 ∧ (gr g es f L n a).2.1 ≤ a + es.flatten.length) ∧ (0 ≤ (gr g es f L n a).1 → (gr g es f L n a).1 = n + es.length ∧ (gr g es f L n a).2.1 = -1 ∧ WFz (gr g es f L n a).2.2.1 ∧ lrnOK (gr g es f L n a).2.2.2)
  | [], f, L, n, a, _, hW, hL, hn, ha => by
    rw [gr]
    exact ⟨fun h => by dsimp only at h; omega, fun _ => ⟨by simp, rfl, hW, hL⟩⟩
  | e :: t, f, L, n, a, he, hW, hL, hn, ha => by
    by_cases h : (ed g f L e).1 < 0
    · rw [gr_no h]
      refine ⟨fun _ => ⟨ed_codes h, by dsimp only; omega, by dsimp only; omega⟩, fun q => ?_⟩
      dsimp only at q; omega
    · rw [gr_go h]
      obtain ⟨k1, k2, k3⟩ := ed_keeps hW hg hL (he e List.mem_cons_self) (by omega)
      obtain ⟨r1, r2⟩ := gr_res hg t (ed g f L e).2.1 (ed g f L e).2.2.1 (n + 1) (a + e.length) (fun x hx => he x (List.mem_cons_of_mem _ hx)) k1 k2 (by omega) (by omega)
      refine ⟨fun q => ?_, fun q => ?_⟩
      · obtain ⟨s1, s2, s3⟩ := r1 q
        refine ⟨s1, s2, ?_⟩
        rw [List.flatten_cons, List.length_append]
        omega
      · obtain ⟨s1, s2⟩ := r2 q
        refine ⟨?_, s2⟩
        rw [s1, List.length_cons]
        omega
theorem sA_bad {f : Int → Int} {a lim : Int} {x : List Int} (hA : AL f a x) (hl : a + x.length = lim) (hb : badE x) : sA f a lim = 0 := by
  obtain ⟨h1, h2⟩ := hb
  have hx : 0 < x.length := by
    cases x with
    | nil => exact absurd rfl h1
    | cons a b => simp
  have h3 : f a = gi x 0 := by
    have := hA 0 (by omega) (by omega)
    rw [Int.add_zero] at this
    exact this
  unfold sA
  rw [h3, if_neg (by omega)]
  rcases h2 with h2 | h2
  · rw [h2]; split <;> rfl
  · rw [if_pos (by omega)]
theorem P_X9_firstUnreadable_ok {es : List (List Int)} {Q : Int → Prop} {M : zMem} (hA : AL (M.2 2) 0 es.flatten) (hn : M.1 3 = es.flatten.length) (h4 : es.flatten.length ≤ 400) (hne : es.flatten ≠ []) (he : ∀ e ∈ es, eOK e) (hb : allB es.flatten) (hQ : Q (-1)) : T_X9_firstUnreadable Q M := by
  have h0 : 0 < es.flatten.length := by
    cases hq : es.flatten with
    | nil => exact absurd hq hne
    | cons a b => simp
  have a2 : alen 2 = 400 := alen_2
  unfold T_X9_firstUnreadable
  refine ⟨fun _ => ?_, fun q => by omega⟩
  unfold T_X9_firstUnreadable_13
  apply zp2_rule (fun v1 v2 => ∃ dn td : List (List Int), es = dn ++ td ∧ v1 = dn.flatten.length ∧ v2 = dn.length) (fun v1 v2 => (400 - v2).toNat)
  · intro X v1 v2 ⟨dn, td, h1, h2, h3⟩ hX
    have hl : dn.flatten.length + td.flatten.length = es.flatten.length := by rw [h1, List.flatten_append, List.length_append]
    have hfl := flat_len (es := dn) (fun e h => he e (by rw [h1]; exact List.mem_append_left _ h))
    refine ⟨fun _ => hQ, fun _ => ⟨fun _ => hQ, fun q => ?_⟩⟩
    rw [hn] at q ⊢
    have hA2 : AL (M.2 2) v1 td.flatten := by
      rw [h1, List.flatten_append, AL_app] at hA
      rw [h2]
      have := hA.2
      rw [Int.zero_add] at this
      exact this
    apply P_X2_sizeAt (by omega) (by omega) (by omega) (fun h9 => ?_)
    · cases td with
      | nil => rw [List.flatten_nil, List.length_nil] at hl; omega
      | cons e t =>
        have hE := he e (by rw [h1]; exact List.mem_append_right _ List.mem_cons_self)
        have hel := eOK_len hE
        rw [sA_hit hE hA2 (by omega)]
        refine ⟨fun _ => ⟨inR_mk (by omega) (by omega), inR_mk (by omega) (by omega), hX _ _ ⟨dn ++ [e], t, by rw [h1, List.append_assoc]; rfl, ?_, ?_⟩ ?_⟩, fun q2 => by omega⟩
        · rw [flat_snoc]; omega
        · rw [len_snoc]; omega
        · omega
    · have := hA v1 (by omega) (by omega)
      rw [Int.zero_add] at this
      rw [this]
      have := allB_gi hb v1
      exact inR_mk (by omega) (by omega)
  · exact ⟨[], es, rfl, rfl, rfl⟩
theorem P_X9_firstUnreadable_no {es : List (List Int)} {rest : List Int} {Q : Int → Prop} {M : zMem} (hA : AL (M.2 2) 0 (es.flatten ++ rest)) (hn : M.1 3 = (es.flatten ++ rest).length) (h4 : (es.flatten ++ rest).length ≤ 400) (hr : badE rest) (he : ∀ e ∈ es, eOK e) (hb : allB (es.flatten ++ rest)) (hQ : Q es.flatten.length) : T_X9_firstUnreadable Q M := by
  have h0 : 0 < rest.length := by
    cases hq : rest with
    | nil => exact absurd hq hr.1
    | cons a b => simp
  have a2 : alen 2 = 400 := alen_2
  rw [List.length_append] at hn h4
  unfold T_X9_firstUnreadable
  refine ⟨fun _ => ?_, fun q => by omega⟩
  unfold T_X9_firstUnreadable_13
  apply zp2_rule (fun v1 v2 => ∃ dn td : List (List Int), es = dn ++ td ∧ v1 = dn.flatten.length ∧ v2 = dn.length) (fun v1 v2 => (400 - v2).toNat)
  · intro X v1 v2 ⟨dn, td, h1, h2, h3⟩ hX
    have hl : dn.flatten.length + td.flatten.length = es.flatten.length := by rw [h1, List.flatten_append, List.length_append]
    have hfl := flat_len (es := dn) (fun e h => he e (by rw [h1]; exact List.mem_append_left _ h))
    refine ⟨fun q => by omega, fun _ => ⟨fun q => by omega, fun q => ?_⟩⟩
    rw [hn] at q ⊢
    have hA2 : AL (M.2 2) v1 (td.flatten ++ rest) := by
      rw [h1, List.flatten_append, List.append_assoc, AL_app] at hA
      rw [h2]
      have := hA.2
      rw [Int.zero_add] at this
      exact this
    apply P_X2_sizeAt (by omega) (by omega) (by omega) (fun h9 => ?_)
    · cases td with
      | nil =>
        rw [List.flatten_nil, List.nil_append] at hA2
        rw [List.flatten_nil, List.length_nil] at hl
        rw [sA_bad hA2 (by omega) hr]
        refine ⟨fun q2 => absurd rfl q2, fun _ => ?_⟩
        have : v1 = es.flatten.length := by omega
        rw [this]; exact hQ
      | cons e t =>
        have hE := he e (by rw [h1]; exact List.mem_append_right _ List.mem_cons_self)
        have hel := eOK_len hE
        rw [sA_hit hE (AL_app.mp hA2).1 (by omega)]
        refine ⟨fun _ => ⟨inR_mk (by omega) (by omega), inR_mk (by omega) (by omega), hX _ _ ⟨dn ++ [e], t, by rw [h1, List.append_assoc]; rfl, ?_, ?_⟩ ?_⟩, fun q2 => by omega⟩
        · rw [flat_snoc]; omega
        · rw [len_snoc]; omega
        · omega
    · have := hA v1 (by omega) (by rw [List.length_append]; omega)
      rw [Int.zero_add] at this
      rw [this]
      have := allB_gi hb v1
      exact inR_mk (by omega) (by omega)
  · exact ⟨[], es, rfl, rfl, rfl⟩
def fRh : Nat → Prop := fun k => fBg k ∨ fEd k ∨ k = 8
theorem P_X9_rehearse_ok {es : List (List Int)} {f : Int → Int} {L : Lrn} {Q : Int → zMem → Prop} {M : zMem} (hA : AL (M.2 2) 0 es.flatten) (hn : M.1 3 = es.flatten.length) (h4 : es.flatten.length ≤ 400) (hne : es.flatten ≠ []) (he : ∀ e ∈ es, eOK e) (hb : allB es.flatten) (hf : agr (M.2 64) f) (hW : WFz f) (hg : trmOK (M.2 0)) (hL : lrnOK L) (hLat : Lat (M.2 1) 0 L)
    (hQ0 : (gr (M.2 0) es f L 0 0).1 < 0 → ∀ M', Fr fRh M M' → M'.1 8 = (gr (M.2 0) es f L 0 0).2.1 → Q (gr (M.2 0) es f L 0 0).1 M')
    (hQ1 : 0 ≤ (gr (M.2 0) es f L 0 0).1 → ∀ M', Fr fRh M M' → M'.1 8 = -1 → agr (M'.2 128) (gr (M.2 0) es f L 0 0).2.2.1 → Lat (M'.2 129) 0 (gr (M.2 0) es f L 0 0).2.2.2 → (∀ p, 0 ≤ p → p < 10 → (dfB (gr (M.2 0) es f L 0 0).2.2.1 f p → M'.2 130 p = 1) ∧ (¬ dfB (gr (M.2 0) es f L 0 0).2.2.1 f p → M'.2 130 p = 0)) → Q (gr (M.2 0) es f L 0 0).1 M') : T_X9_rehearse Q M := by
  obtain ⟨g, hg0⟩ : ∃ g, g = M.2 0 := ⟨_, rfl⟩
  rw [← hg0] at hg hQ0 hQ1
  obtain ⟨res, hres⟩ : ∃ res, res = gr g es f L 0 0 := ⟨_, rfl⟩
  rw [← hres] at hQ0 hQ1
  unfold T_X9_rehearse
  apply P_X9_firstUnreadable_ok hA hn h4 hne he hb
  intro M11 hM11
  have F11 : Fr fRh M M11 := by rw [hM11]; exact Fr_setS (Or.inr (Or.inr rfl))
  have s11 : M11.2 = M.2 := by rw [hM11]; rfl
  have e8 : M11.1 8 = -1 := by rw [hM11]; rfl
  have e3 : M11.1 3 = M.1 3 := by rw [hM11]; rfl
  rw [e8]
  refine ⟨fun _ => ?_, fun q => absurd rfl q⟩
  apply P_X1_begin
  intro M13 hF13 b1 b2 b3 b4
  rw [s11] at b1 b2 b3
  have F13 : Fr fRh M M13 := Fr_trans F11 (Fr_mono hF13 (fun k h => Or.inl h))
  have hgT : agT (M13.2 133) g := by rw [hg0]; exact b3
  have a2 : alen 2 = 400 := alen_2
  unfold T_X9_rehearse_45
  apply zl2_rule (fun v1 v2 M1 => ∃ (dn td : List (List Int)) (f1 : Int → Int) (L1 : Lrn), es = dn ++ td ∧ v1 = dn.flatten.length ∧ v2 = dn.length ∧ gr g td f1 L1 v2 v1 = res ∧ WFz f1 ∧ lrnOK L1 ∧ agr (M1.2 128) f1 ∧ Lat (M1.2 129) 0 L1 ∧ Fr fRh M M1 ∧ M1.2 133 = M13.2 133 ∧ M1.1 8 = -1) (fun v1 v2 _ => (400 - v2).toNat)
  · intro X v1 v2 M1 ⟨dn, td, f1, L1, h1, h2, h3, h5, h6, h7, h8, h9, h10, h11, h12⟩ hX
    have hl : dn.flatten.length + td.flatten.length = es.flatten.length := by rw [h1, List.flatten_append, List.length_append]
    have hfl := flat_len (es := dn) (fun e h => he e (by rw [h1]; exact List.mem_append_left _ h))
    have e31 : M1.1 3 = es.flatten.length := by rw [h10.1 3 (by unfold fRh fBg fEd fLd fTb fUn fSp fTy fPb fPk; decide)]; exact hn
    have e21 : M1.2 2 = M.2 2 := h10.2 2 (by unfold fRh fBg fEd fLd fTb fUn fSp fTy fPb fPk; decide)
    have e641 : M1.2 64 = M.2 64 := h10.2 64 (by unfold fRh fBg fEd fLd fTb fUn fSp fTy fPb fPk; decide)
    refine ⟨fun q => by omega, fun _ => ⟨fun q => ?_, fun q => ?_⟩⟩
    · rw [e31] at q
      have htd : td = [] := by
        cases td with
        | nil => rfl
        | cons e t =>
          have hel := eOK_len (he e (by rw [h1]; exact List.mem_append_right _ List.mem_cons_self))
          rw [List.flatten_cons, List.length_append] at hl
          omega
      rw [htd, gr] at h5
      apply P_X1_markDifferent
      intro M4 hF4 hd4
      rw [← h5] at hQ1
      dsimp only at hQ1
      refine hQ1 (by omega) M4 (Fr_trans h10 (Fr_mono hF4 (fun k h => Or.inl (Or.inr (Or.inr (Or.inl h)))))) ?_ ?_ ?_ ?_
      · rw [hF4.1 8 (by decide)]; exact h12
      · rw [hF4.2 128 (by decide)]; exact h8
      · rw [hF4.2 129 (by decide)]; exact h9
      · intro p p0 p1
        have hx := hd4 p p0 p1
        have hiff : dfB f1 f p ↔ dfB (M1.2 128) (M1.2 64) p := by
          rw [e641]
          constructor
          · rintro ⟨j, j0, j1, j2⟩
            exact ⟨j, j0, j1, by rw [h8 j (by omega) (by omega), hf j (by omega) (by omega)]; exact j2⟩
          · rintro ⟨j, j0, j1, j2⟩
            exact ⟨j, j0, j1, by rw [← h8 j (by omega) (by omega), ← hf j (by omega) (by omega)]; exact j2⟩
        rw [hiff]
        exact hx
    · rw [e31] at q
      cases td with
      | nil => rw [List.flatten_nil, List.length_nil] at hl; omega
      | cons e t =>
        have hE := he e (by rw [h1]; exact List.mem_append_right _ List.mem_cons_self)
        have hel := eOK_len hE
        rw [List.flatten_cons, List.length_append] at hl
        have hAe : AL (M1.2 2) v1 e := by
          rw [h1, List.flatten_append, List.flatten_cons, AL_app, AL_app] at hA
          rw [e21, h2]
          have := hA.2.1
          rw [Int.zero_add] at this
          exact this
        have hO := od_ok h6.1 (gi e 1)
        have hw := wt_ok h6 hO.1
        have hed : edW (M1.2 133) f1 L1 e (od f1 (gi e 1)) (wt f1 (od f1 (gi e 1))).1 (wt f1 (od f1 (gi e 1))).2.1 (wt f1 (od f1 (gi e 1))).2.2 = ed g f1 L1 e := by
          unfold ed
          rw [h11]; exact edW_agT hgT
        apply P_X1_edit (Or.inl rfl) hAe hE ⟨by omega, by omega⟩ h8 h6 hO hw.1 (by rw [h11]; exact trmOK_agT (agT_symm hgT) hg) h7 h9
        · rw [hed]
          intro hneg M6 hF6
          refine ⟨fun q2 => by omega, fun _ M9 hM9 => ?_⟩
          rw [gr_no hneg] at h5
          rw [← h5] at hQ0
          dsimp only at hQ0
          refine hQ0 hneg M9 ?_ (by rw [hM9]; rfl)
          rw [hM9]
          exact Fr_trans (Fr_trans h10 (Fr_mono hF6 (fun k h => Or.inr (Or.inl h)))) (Fr_setS (Or.inr (Or.inr rfl)))
        · rw [hed]
          intro hpos M6 hF6 w1 w2 w3 w4
          obtain ⟨k1, k2, k3⟩ := ed_keeps h6 hg h7 hE hpos
          rw [gr_go (by omega)] at h5
          have e26 : M6.2 2 = M1.2 2 := hF6.2 2 (by unfold fEd fLd fTb fUn fSp fTy fPb fPk; decide)
          have e20 : M6.2 2 v1 = gi e 0 := by
            rw [e26]
            have := hAe 0 (by omega) (by omega)
            rw [Int.add_zero] at this
            exact this
          refine ⟨fun _ => ⟨⟨by omega, by omega⟩, ?_⟩, fun q2 => by omega⟩
          rw [e20]
          apply P_X2_sizeBy (by have := allB_gi hE.2.2 0; exact inR_mk (by omega) (by omega))
          rw [hE.1]
          refine ⟨inR_mk (by omega) (by omega), inR_mk (by omega) (by omega), hX _ _ _ ⟨dn ++ [e], t, _, _, by rw [h1, List.append_assoc]; rfl, ?_, ?_, h5, k1, k2, w1, w2, ?_, ?_, ?_⟩ (by omega)⟩
          · rw [flat_snoc]; omega
          · rw [len_snoc]; omega
          · exact Fr_trans h10 (Fr_mono hF6 (fun k h => Or.inr (Or.inl h)))
          · rw [hF6.2 133 (by unfold fEd fLd fTb fUn fSp fTy fPb fPk; decide)]; exact h11
          · rw [hF6.1 8 (by unfold fEd fLd fTb fUn fSp fTy fPb fPk; decide)]; exact h12
  · refine ⟨[], es, f, L, rfl, rfl, rfl, hres.symm, hW, hL, agr_trans b1 hf, ?_, F13, rfl, ?_⟩
    · unfold Lat at hLat ⊢
      rw [b2 0 (by omega) (by omega), b2 (0 + 1) (by omega) (by omega), b2 (0 + 2) (by omega) (by omega), b2 (0 + 3) (by omega) (by omega)]
      exact hLat
    · rw [hF13.1 8 (by unfold fBg; decide)]; exact e8
theorem P_X9_rehearse_no {es : List (List Int)} {rest : List Int} {Q : Int → zMem → Prop} {M : zMem} (hA : AL (M.2 2) 0 (es.flatten ++ rest)) (hn : M.1 3 = (es.flatten ++ rest).length) (h4 : (es.flatten ++ rest).length ≤ 400) (hr : badE rest) (he : ∀ e ∈ es, eOK e) (hb : allB (es.flatten ++ rest)) (hQ : ∀ M', Fr fRh M M' → M'.1 8 = es.flatten.length → Q (-6) M') : T_X9_rehearse Q M := by
  unfold T_X9_rehearse
  apply P_X9_firstUnreadable_no hA hn h4 hr he hb
  intro M11 hM11
  have e8 : M11.1 8 = es.flatten.length := by rw [hM11]; rfl
  rw [e8]
  refine ⟨fun q => by omega, fun _ => hQ M11 (by rw [hM11]; exact Fr_setS (Or.inr (Or.inr rfl))) e8⟩
theorem P_X9_rehearse_nil {Q : Int → zMem → Prop} {M : zMem} (hn : M.1 3 = 0) (hQ : ∀ M', Fr fRh M M' → M'.1 8 = 0 → Q (-6) M') : T_X9_rehearse Q M := by
  unfold T_X9_rehearse T_X9_firstUnreadable
  refine ⟨fun q => absurd hn q, fun _ M11 hM11 => ?_⟩
  have e8 : M11.1 8 = 0 := by rw [hM11]; rfl
  rw [e8]
  refine ⟨fun q => by omega, fun _ => hQ M11 (by rw [hM11]; exact Fr_setS (Or.inr (Or.inr rfl))) e8⟩
