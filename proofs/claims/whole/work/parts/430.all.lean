-- witnesses, chosen once for an image
noncomputable def wt (f : Int → Int) (i : Int) : List Int × List (List Int) × RS := Classical.epsilon (fun w => PgX f i w.1 w.2.1 w.2.2 ∧ zB f (f (641 + 2 * i)) w.1 w.2.1)
theorem wt_ok {f : Int → Int} (h : WFz f) {i : Int} (hi : 0 ≤ i ∧ i < f 640) : PgX f i (wt f i).1 (wt f i).2.1 (wt f i).2.2 ∧ zB f (f (641 + 2 * i)) (wt f i).1 (wt f i).2.1 := by
  obtain ⟨pkd, es, rs, h1, h2⟩ := h.2.2 i hi.1 hi.2
  exact Classical.epsilon_spec (p := fun w : List Int × List (List Int) × RS => PgX f i w.1 w.2.1 w.2.2 ∧ zB f (f (641 + 2 * i)) w.1 w.2.1) ⟨(pkd, es, rs), h1, h2⟩
noncomputable def od (f : Int → Int) (key : Int) : Int := Classical.epsilon (IsOrd f key)
theorem od_ok {f : Int → Int} (hD : DirOK f) (key : Int) : IsOrd f key (od f key) := Classical.epsilon_spec (ord_ex hD key)
noncomputable def ed (g f : Int → Int) (L : Lrn) (e : List Int) : ED := edW g f L e (od f (gi e 1)) (wt f (od f (gi e 1))).1 (wt f (od f (gi e 1))).2.1 (wt f (od f (gi e 1))).2.2
theorem ed_keeps {f g : Int → Int} {L : Lrn} {e : List Int} (hW : WFz f) (hg : trmOK g) (hL : lrnOK L) (he : eOK e) (hc : 0 ≤ (ed g f L e).1) : WFz (ed g f L e).2.1 ∧ lrnOK (ed g f L e).2.2.1 ∧ (∀ p ∈ (ed g f L e).2.2.2.1, 0 ≤ p ∧ p < 10) := by
  have hO := od_ok hW.1 (gi e 1)
  have hw := wt_ok hW hO.1
  exact edW_keeps hW hg hL he hO hw.1 hw.2 hc
-- what is done to some keys leaves the others
def agO (lo hi : Int) (r r' : Rec) : Prop := ∀ k, lo ≤ k → k < hi → r k = r' k
theorem upd_loc {lo hi : Int} {r r' : Rec} (h : agO lo hi r r') (k : Int) (v : Option (List Int)) : agO lo hi (updR r k v) (updR r' k v) := by
  intro j a b
  unfold updR
  rw [h j a b]
theorem ap_loc {lo hi : Int} {r r' : Rec} {e : List Int} (h : agO lo hi r r') (he : lo ≤ gi e 1 ∧ gi e 1 < hi) : agO lo hi (ap r e) (ap r' e) := by
  have hk := h (gi e 1) he.1 he.2
  unfold ap
  by_cases h1 : gi e 0 / 16 = 1
  · rw [if_pos h1, if_pos h1]; exact upd_loc h _ _
  · rw [if_neg h1, if_neg h1]
    by_cases h2 : gi e 0 / 16 = 2
    · rw [if_pos h2, if_pos h2]; exact upd_loc h _ _
    · rw [if_neg h2, if_neg h2, ← hk]
      by_cases h3 : gi e 0 / 16 = 3
      · rw [if_pos h3, if_pos h3]
        cases r (gi e 1) with
        | none => exact h
        | some v => exact upd_loc h _ _
      · rw [if_neg h3, if_neg h3]
        cases r (gi e 1) with
        | none => exact h
        | some v => exact upd_loc h _ _
theorem can_loc {lo hi : Int} {r r' : Rec} {e : List Int} (h : agO lo hi r r') (he : lo ≤ gi e 1 ∧ gi e 1 < hi) (hc : can r e) : can r' e := by
  have hk := h (gi e 1) he.1 he.2
  unfold can at hc ⊢
  rw [← hk]; exact hc
theorem ap_out {lo hi : Int} {r : Rec} {e : List Int} (he : lo ≤ gi e 1 ∧ gi e 1 < hi) {k : Int} (hk : ¬ (lo ≤ k ∧ k < hi)) : ap r e k = r k := by
  obtain ⟨v, hv | hv⟩ := ap_upd r e
  · rw [hv]
    unfold updR
    rw [if_neg (fun e => hk (by rw [e]; exact he))]
  · rw [hv]
theorem aps_loc {lo hi : Int} : ∀ (es : List (List Int)) {r r' : Rec}, agO lo hi r r' → keyB lo hi es → agO lo hi (es.foldl ap r) (es.foldl ap r')
  | [], _, _, h, _ => h
  | e :: t, r, r', h, hk => by
    rw [List.foldl_cons, List.foldl_cons]
    exact aps_loc t (ap_loc h (hk e List.mem_cons_self)) (fun q hq => hk q (List.mem_cons_of_mem _ hq))
theorem aps_out {lo hi : Int} : ∀ (es : List (List Int)) {r : Rec}, keyB lo hi es → ∀ {k : Int}, ¬ (lo ≤ k ∧ k < hi) → es.foldl ap r k = r k
  | [], _, _, _, _ => rfl
  | e :: t, r, hk, k, h => by
    rw [List.foldl_cons, aps_out t (fun q hq => hk q (List.mem_cons_of_mem _ hq)) h]
    exact ap_out (hk e List.mem_cons_self) h
theorem canAll_loc {lo hi : Int} : ∀ (es : List (List Int)) {r r' : Rec}, agO lo hi r r' → keyB lo hi es → canAll r es → canAll r' es
  | [], _, _, _, _, _ => trivial
  | e :: t, r, r', h, hk, hc => ⟨can_loc h (hk e List.mem_cons_self) hc.1, canAll_loc t (ap_loc h (hk e List.mem_cons_self)) (fun q hq => hk q (List.mem_cons_of_mem _ hq)) hc.2⟩
theorem adds_loc {lo hi : Int} : ∀ (rs : RS) {r r' : Rec}, agO lo hi r r' → agO lo hi (adds r rs) (adds r' rs)
  | [], _, _, h => h
  | p :: t, r, r', h => by
    show agO lo hi (adds (updR r p.1 (some p.2)) t) (adds (updR r' p.1 (some p.2)) t)
    exact adds_loc t (upd_loc h _ _)
theorem adds_out {lo hi : Int} {rs : RS} {r : Rec} (h : keysIn lo hi rs) {k : Int} (hk : ¬ (lo ≤ k ∧ k < hi)) : adds r rs k = r k := adds_other rs r k (fun p hp e => hk (by rw [← e]; exact h p hp))
-- all pages, one after another
noncomputable def allF (W : Int → List Int × List (List Int) × RS) : Nat → Rec
  | 0 => fun _ => none
  | n + 1 => (W n).2.1.foldl ap (adds (allF W n) (W n).2.2)
theorem allF_ok {f : Int → Int} {W : Int → List Int × List (List Int) × RS} (hD : DirOK f) (hW : ∀ i, 0 ≤ i → i < f 640 → PgX f i (W i).1 (W i).2.1 (W i).2.2) : ∀ n : Nat, (n : Int) ≤ f 640 → RecOK (allF W n) ∧ rIn 0 (if (n : Int) < f 640 then f (642 + 2 * n) else 256) (allF W n) ∧ (∀ i : Nat, i < n → agO (f (642 + 2 * i)) (hiF f i) (allF W n) (pR (W i).2.1 (W i).2.2))
  | 0, h => ⟨fun k v h => (by cases h), rIn_none, fun i hi => by omega⟩
  | n + 1, h => by
    obtain ⟨a1, a2, a3⟩ := allF_ok hD hW n (by omega)
    have hP := hW n (by omega) (by omega)
    have hn : (n : Int) < f 640 := by omega
    rw [if_pos hn] at a2
    have hag : agO (f (642 + 2 * n)) (hiF f n) (fun _ => none) (allF W n) := by
      intro k k0 k1
      cases hk : allF W n k with
      | none => rfl
      | some v =>
        have := a2 k (by rw [hk]; intro e; cases e)
        omega
    have hca : canAll (adds (allF W n) (W n).2.2) (W n).2.1 := canAll_loc _ (adds_loc _ hag) hP.2.2.1 hP.1.2.2.2.2.2
    have hhi : hiF f n = if ((n + 1 : Nat) : Int) < f 640 then f (642 + 2 * ((n + 1 : Nat) : Int)) else 256 := by
      unfold hiF
      have : ((n + 1 : Nat) : Int) = (n : Int) + 1 := by omega
      rw [this]
    have hfn := fen_b hD (i := n) ⟨by omega, hn⟩
    have hout : ∀ k, ¬ (f (642 + 2 * n) ≤ k ∧ k < hiF f n) → allF W (n + 1) k = allF W n k := by
      intro k hk
      show (W n).2.1.foldl ap (adds (allF W n) (W n).2.2) k = _
      rw [aps_out _ hP.2.2.1 hk, adds_out hP.2.1 hk]
    refine ⟨?_, ?_, ?_⟩
    · exact RecOK_aps _ (RecOK_adds _ a1 hP.1.2.2.2.2.1) hP.1.1.2.2.2.2.1 hca
    · rw [← hhi]
      have hlt : f (642 + 2 * n) ≤ hiF f n := by
        rw [hhi]
        by_cases q : ((n + 1 : Nat) : Int) < f 640
        · rw [if_pos q]
          exact Int.le_of_lt (hD.2.2.2.2.1 n (n + 1 : Nat) (by omega) (by omega) q)
        · rw [if_neg q]
          have := hD.2.2.2.2.2 n (by omega) hn
          omega
      intro k hk
      by_cases q : f (642 + 2 * n) ≤ k ∧ k < hiF f n
      · omega
      · rw [hout k q] at hk
        have := a2 k hk
        omega
    · intro i hi
      by_cases q : i = n
      · subst q
        have h1 := adds_loc (W i).2.2 hag
        have h2 := aps_loc (W i).2.1 h1 hP.2.2.1
        intro k k0 k1
        exact (h2 k k0 k1).symm
      · have := a3 i (by omega)
        intro k k0 k1
        rw [hout k (fun hh => ?_)]
        · exact this k k0 k1
        · have h3 : hiF f i ≤ f (642 + 2 * n) := by
            unfold hiF
            rw [if_pos (by omega)]
            by_cases q2 : (i : Int) + 1 = n
            · rw [q2]; omega
            · exact Int.le_of_lt (hD.2.2.2.2.1 (i + 1) n (by omega) (by omega) hn)
          omega
theorem allF_can {f : Int → Int} {W : Int → List Int × List (List Int) × RS} (hD : DirOK f) (hW : ∀ i, 0 ≤ i → i < f 640 → PgX f i (W i).1 (W i).2.1 (W i).2.2) (n : Nat) (hn : (n : Int) < f 640) : canAll (adds (allF W n) (W n).2.2) (W n).2.1 := by
  obtain ⟨a1, a2, a3⟩ := allF_ok hD hW n (by omega)
  have hP := hW n (by omega) (by omega)
  rw [if_pos hn] at a2
  have hag : agO (f (642 + 2 * n)) (hiF f n) (fun _ => none) (allF W n) := by
    intro k k0 k1
    cases hk : allF W n k with
    | none => rfl
    | some v =>
      have := a2 k (by rw [hk]; intro e; cases e)
      omega
  exact canAll_loc _ (adds_loc _ hag) hP.2.2.1 hP.1.2.2.2.2.2
theorem take64 {f : Int → Int} {p : Int} {pkd : List Int} {es : List (List Int)} (hB : Blk f p pkd es) : es.take (64 : Int).toNat = es := by
  apply List.take_of_length_le
  have h1 := flat_len hB.2.2.2.2.1
  have h2 := hB.2.2.2.1
  omega
theorem P_X8_loadAll {o src : Nat} (ho : o = 3 ∨ o = 5) {f : Int → Int} {W : Int → List Int × List (List Int) × RS} {Q : zMem → Prop} {M : zMem} (hl : 661 ≤ alen src ∧ alen src ≤ 30000) (hsrc : ¬ fLd o src) (hf : agr (M.2 src) f) (hF : WFi f) (hW : ∀ i, 0 ≤ i → i < f 640 → PgX f i (W i).1 (W i).2.1 (W i).2.2) (hQ : ∀ M', Fr (fLd o) M M' → tabC o M' (allF W (f 640).toNat) → Q M') : T_X8_loadAll o src Q M := by
  have hD := hF.1
  have hu := hD.1
  have fa := agr_symm hf
  have e640 := hf 640 (by omega) (by omega)
  have hs2 : src ≠ 64 * o + 2 := fun h => hsrc (Or.inl (Or.inl h))
  have hal : alen (64 * o + 2) = 256 := by rcases ho with h | h <;> rw [h]; exact alen_194; exact alen_322
  unfold T_X8_loadAll
  apply P_J7_fill (by omega) (by omega)
  intro M4 hF4 hv4
  have s4 : M4.2 src = M.2 src := hF4.2 src hs2
  apply P_X4_inUse hl.1 (by rw [s4, e640]; omega)
  rw [s4, e640]
  unfold T_X8_loadAll_15
  apply zl1_rule (fun v3 M1 => (0 ≤ v3 ∧ v3 ≤ f 640) ∧ Fr (fLd o) M M1 ∧ tabC o M1 (allF W v3.toNat)) (fun v3 _ => (f 640 - v3).toNat)
  · intro X v3 M1 ⟨h1, h2, h3⟩ hX
    refine ⟨fun h => ?_, fun h => ?_⟩
    · have : v3 = f 640 := by omega
      rw [this] at h3
      exact hQ M1 h2 h3
    · have s1 : M1.2 src = M.2 src := h2.2 src hsrc
      have f1 : agr f (M1.2 src) := by rw [s1]; exact fa
      have hP := hW v3 h1.1 (by omega)
      have hPm := PgX_agr f1 hu.2 ⟨h1.1, by omega⟩ hP
      have hp := hD.2.1 v3 h1.1 (by omega)
      have epg : M1.2 src (641 + 2 * v3) = f (641 + 2 * v3) := (f1 _ (by omega) (by omega)).symm
      apply P_X4_pageAt hl.1 ⟨h1.1, by omega⟩ (by rw [epg]; exact hp)
      obtain ⟨⟨c1, c2, c3, ⟨out, c4, c4b⟩, c5, c6⟩, d2, d3, d4⟩ := hPm
      obtain ⟨n, hn⟩ : ∃ n : Nat, v3 = n := ⟨v3.toNat, by omega⟩
      have ht := take64 c1
      have hca := allF_can hD hW n (by omega)
      have hok := (allF_ok hD hW n (by omega)).1
      rw [hn, Int.toNat_natCast] at h3
      subst hn
      apply P_X8_addPage (r0 := allF W n) hl hsrc h3 hok c1 c3 c4 c4b c5 (by rw [ht]; exact hca) (fun j j0 j1 => by
        rw [s1, hf j j0 (by omega)]
        have := hF.2.1 j j0 (by omega)
        exact inR_mk (by omega) (by omega))
      intro M3 hF3 hT3
      rw [ht] at hT3
      refine ⟨inR_mk (by omega) (by omega), hX _ _ ⟨by omega, Fr_trans h2 hF3, ?_⟩ (by omega)⟩
      have : ((n : Int) + 1).toNat = n + 1 := by omega
      rw [this]
      exact hT3
  · refine ⟨by omega, Fr_mono hF4 (fun k h => Or.inl (Or.inl h)), fun k k0 k1 => ⟨fun _ => ?_, fun v hv => (by cases hv)⟩⟩
    exact hv4 k k0 (by rw [hal]; exact k1)
theorem P_X10_laysAll {src : Nat} {f : Int → Int} {W : Int → List Int × List (List Int) × RS} {Q : zMem → Prop} {M : zMem} (hl : 661 ≤ alen src ∧ alen src ≤ 30000) (hsrc : ¬ fLr src) (hf : agr (M.2 src) f) (hF : WFi f) (hW : ∀ i, 0 ≤ i → i < f 640 → PgX f i (W i).1 (W i).2.1 (W i).2.2) (hQ : ∀ M', Fr fLr M M' → tabR M' (allF W (f 640).toNat) → Q M') : T_X10_laysAll src Q M := by
  have hD := hF.1
  have hu := hD.1
  have fa := agr_symm hf
  have e640 := hf 640 (by omega) (by omega)
  unfold T_X10_laysAll
  apply P_X10_clears
  intro M4 hF4 hv4
  unfold T_X10_laysAll_6
  apply zl1_rule (fun v3 M1 => (0 ≤ v3 ∧ v3 ≤ f 640) ∧ Fr fLr M M1 ∧ tabR M1 (allF W v3.toNat)) (fun v3 _ => (f 640 - v3).toNat)
  · intro X v3 M1 ⟨h1, h2, h3⟩ hX
    have s1 : M1.2 src = M.2 src := h2.2 src hsrc
    apply P_X10_pagesOf hl.1
    rw [s1, e640]
    refine ⟨fun h => ?_, fun h => ?_⟩
    · have : v3 = f 640 := by omega
      rw [this] at h3
      exact hQ M1 h2 h3
    · have f1 : agr f (M1.2 src) := by rw [s1]; exact fa
      have hP := hW v3 h1.1 (by omega)
      have hPm := PgX_agr f1 hu.2 ⟨h1.1, by omega⟩ hP
      have epg : M1.2 src (641 + 2 * v3) = f (641 + 2 * v3) := (f1 _ (by omega) (by omega)).symm
      apply P_X10_numberOf hl.1 ⟨h1.1, by omega⟩
      obtain ⟨⟨c1, c2, c3, ⟨out, c4, c4b⟩, c5, c6⟩, d2, d3, d4⟩ := hPm
      obtain ⟨n, hn⟩ : ∃ n : Nat, v3 = n := ⟨v3.toNat, by omega⟩
      have ht := take64 c1
      have hca := allF_can hD hW n (by omega)
      have hok := (allF_ok hD hW n (by omega)).1
      rw [hn, Int.toNat_natCast] at h3
      subst hn
      apply P_X10_lays (r0 := allF W n) hl hsrc h3 hok c1 c2 c3 c4 c4b c5 (by rw [ht]; exact hca)
      intro M3 hF3 hT3
      rw [ht] at hT3
      refine ⟨inR_mk (by omega) (by omega), hX _ _ ⟨by omega, Fr_trans h2 hF3, ?_⟩ (by omega)⟩
      have : ((n : Int) + 1).toNat = n + 1 := by omega
      rw [this]
      exact hT3
  · exact ⟨by omega, Fr_mono hF4 (fun k h => Or.inl (Or.inl h)), hv4⟩
