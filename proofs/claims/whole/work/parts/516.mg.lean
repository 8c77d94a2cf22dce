-- what lies behind the directory stays as it was
def mg (f F : Int → Int) : Int → Int := fun j => if 641 + 2 * F 640 ≤ j then f j else F j
theorem WFz_mg {f F : Int → Int} (hF : WFz F) (hb : bytesOK f) : WFz (mg f F) := by
  have hu := hF.1.1
  have lo : ∀ j, j < 641 + 2 * F 640 → mg f F j = F j := fun j hj => by unfold mg; rw [if_neg (by omega)]
  have e640 := lo 640 (by omega)
  have blk : ∀ p, 0 ≤ p → p < 10 → ∀ j, 64 * p ≤ j → j < 64 * p + 64 → mg f F j = F j := fun p h0 h1 j a b => lo j (by omega)
  rw [WFz_E] at hF ⊢
  obtain ⟨hD, hB, hP⟩ := hF
  refine ⟨⟨by rw [e640]; exact hD.1, fun i h0 h1 => ?_, fun i j h0 h1 h2 => ?_, ?_, fun i j h0 h1 h2 => ?_, fun i h0 h1 => ?_⟩, fun j h0 h1 => ?_, fun i h0 h1 => ?_⟩
  · rw [e640] at h1; rw [lo _ (by omega)]; exact hD.2.1 i h0 h1
  · rw [e640] at h2; rw [lo _ (by omega), lo _ (by omega)]; exact hD.2.2.1 i j h0 h1 h2
  · rw [lo _ (by omega)]; exact hD.2.2.2.1
  · rw [e640] at h2; rw [lo _ (by omega), lo _ (by omega)]; exact hD.2.2.2.2.1 i j h0 h1 h2
  · rw [e640] at h1; rw [lo _ (by omega)]; exact hD.2.2.2.2.2 i h0 h1
  · unfold mg
    split
    · exact hb j h0 h1
    · exact hB j h0 h1
  · rw [e640] at h1
    obtain ⟨pkd, es, rs, h⟩ := hP i h0 h1
    have hh : hiF (mg f F) i = hiF F i := by
      unfold hiF
      rw [e640]
      by_cases q : i + 1 < F 640
      · rw [if_pos q, if_pos q, lo _ (by omega)]
      · rw [if_neg q, if_neg q]
    have hp := hD.2.1 i h0 h1
    unfold PgE
    rw [lo (641 + 2 * i) (by omega), lo (642 + 2 * i) (by omega), hh]
    exact ⟨pkd, es, rs, PgB_congr (fun j a b => blk _ hp.1 hp.2 j a b) h⟩
theorem jbL_congr {F F' : Int → Int} : ∀ (ps : List Int) (a : Int), (∀ p ∈ ps, ∀ k : Nat, k < 64 → F (64 * p + k) = F' (64 * p + k)) → jbL F ps a = jbL F' ps a
  | [], _, _ => rfl
  | p :: t, a, h => by
    show (a, p) :: (cpL (a + 1) (fun k => F (64 * p + k)) 64 ++ jbL F t (a + 65)) = (a, p) :: (cpL (a + 1) (fun k => F' (64 * p + k)) 64 ++ jbL F' t (a + 65))
    rw [jbL_congr t (a + 65) (fun q hq => h q (List.mem_cons_of_mem _ hq)), cpL_congr (s := fun k => F (64 * p + k)) (s' := fun k => F' (64 * p + k)) (fun k hk => h p List.mem_cons_self k hk)]
theorem blL_congr {F F' : Int → Int} (ps : List Int) (h : ∀ p ∈ ps, ∀ k : Nat, k < 64 → F (64 * p + k) = F' (64 * p + k)) : blL F ps = blL F' ps := by
  unfold blL
  induction ps with
  | nil => rw [List.flatMap_nil, List.flatMap_nil]
  | cons p t ih =>
    rw [List.flatMap_cons, List.flatMap_cons, ih (fun q hq => h q (List.mem_cons_of_mem _ hq)), cpL_congr (s := fun k => F (64 * p + k)) (s' := fun k => F' (64 * p + k)) (fun k hk => h p List.mem_cons_self k hk)]
theorem tj_mg {f F : Int → Int} {ps : List Int} (hu : 1 ≤ F 640 ∧ F 640 ≤ 10) (hps : ∀ p ∈ ps, 0 ≤ p ∧ p < 10) : tj (mg f F) ps = tj F ps := by
  have lo : ∀ j, j < 641 + 2 * F 640 → mg f F j = F j := fun j hj => by unfold mg; rw [if_neg (by omega)]
  have e640 := lo 640 (by omega)
  have ed : dirN (mg f F) = dirN F := by unfold dirN; rw [e640]
  have hb : ∀ p ∈ ps, ∀ k : Nat, k < 64 → mg f F (64 * p + k) = F (64 * p + k) := fun p hp k hk => by
    have := hps p hp
    exact lo _ (by omega)
  have hc : ∀ a, cpL a (fun k => mg f F (640 + k)) (dirN F) = cpL a (fun k => F (640 + k)) (dirN F) := fun a => cpL_congr (fun k hk => lo _ (by unfold dirN at hk; omega))
  unfold tj tjA tjB
  rw [ed, jbL_congr ps 663 hb, blL_congr ps hb, hc, hc]
theorem DOK_tj2 {f F : Int → Int} {ps : List Int} {n : Nat} (hW : WFz f) (h0 : f 661 = 0) (hF : WFz F) (hps : ∀ p ∈ ps, 0 ≤ p ∧ p < 10) (hl : ps.length ≤ 10) (h5 : ∀ j, 0 ≤ j → j < 640 → (∀ p ∈ ps, ¬ (64 * p ≤ j ∧ j < 64 * p + 64)) → f j = F j) :
    (n < (tj F ps).length → DOK (apw f ((tj F ps).take n)) 1) ∧ DOK (apw f (tj F ps)) 0 := by
  have hu := hF.1.1
  have e640 : mg f F 640 = F 640 := by unfold mg; rw [if_neg (by omega)]
  have hD : ((dirN (mg f F) : Nat) : Int) = 1 + 2 * F 640 := by unfold dirN; rw [e640]; omega
  have := DOK_tj (n := n) hW h0 (WFz_mg hF hW.2.1) hps hl (fun j j0 j1 j2 j3 => by
    unfold mg
    by_cases q : 641 + 2 * F 640 ≤ j
    · rw [if_pos q]
    · rw [if_neg q]
      exact h5 j j0 (by omega) j2)
  rw [tj_mg hu hps] at this
  exact ⟨this.1, this.2.1⟩
theorem tj_len {F : Int → Int} {ps : List Int} (hu : 1 ≤ F 640 ∧ F 640 ≤ 10) : ((tj F ps).length : Int) = 5 + 129 * ps.length + 4 * F 640 := by
  unfold tj tjA tjB
  have hD : ((dirN F : Nat) : Int) = 1 + 2 * F 640 := by unfold dirN; omega
  rw [List.length_append, List.length_append, List.length_append, List.length_append, List.length_append, List.length_cons, jbL_len, blL_len, cpL_len, cpL_len, List.length_cons, List.length_nil, List.length_cons, List.length_nil]
  omega
-- what an edit leaves as it was
theorem wr1_out {f : Int → Int} {i : Int} {k : Nat} {rs : RS} {j : Int} (hi : 0 ≤ i) (hj : j < 640) (h : ¬ (64 * pgN f i k ≤ j ∧ j < 64 * pgN f i k + 64)) : wr1 f i k rs j = f j := by
  unfold wr1
  unfold pgN at h
  by_cases q : k = 0
  · rw [if_pos q] at h ⊢
    exact wB_other (by omega)
  · rw [if_neg q] at h ⊢
    rw [wB_other (by omega)]
    exact inD_blk (by omega) hj
theorem spW_out {i : Int} (hi : 0 ≤ i) {j : Int} (hj : j < 640) : ∀ (R : List RS) (k : Nat) (f : Int → Int), (∀ p ∈ spP f i k R, ¬ (64 * p ≤ j ∧ j < 64 * p + 64)) → spW f i k R j = f j
  | [], _, _, _ => rfl
  | rs :: t, k, f, h => by
    show spW (wr1 f i k rs) i (k + 1) t j = f j
    have h' : ∀ p ∈ pgN f i k :: spP (wr1 f i k rs) i (k + 1) t, ¬ (64 * p ≤ j ∧ j < 64 * p + 64) := h
    rw [spW_out hi hj t (k + 1) (wr1 f i k rs) (fun p hp => h' p (List.mem_cons_of_mem _ hp))]
    exact wr1_out hi hj (h' _ List.mem_cons_self)
theorem ed_out {g f : Int → Int} {L : Lrn} {e : List Int} (hW : WFz f) (h1 : (ed g f L e).1 ≠ 0) (h0 : 0 ≤ (ed g f L e).1) {j : Int} (hj : j < 640) (h : ∀ p ∈ (ed g f L e).2.2.2.1, ¬ (64 * p ≤ j ∧ j < 64 * p + 64)) : (ed g f L e).2.1 j = f j := by
  have hO := od_ok hW.1 (gi e 1)
  unfold ed at h1 h0 h ⊢
  obtain ⟨i, hi⟩ : ∃ i, i = od f (gi e 1) := ⟨_, rfl⟩
  rw [← hi] at h1 h0 h hO ⊢
  obtain ⟨w, hw⟩ : ∃ w, w = wt f i := ⟨_, rfl⟩
  rw [← hw] at h1 h0 h ⊢
  by_cases q1 : rf (pR w.2.1 w.2.2) e = 0
  · by_cases q2 : goneP f e i w.2.1 w.2.2
    · rw [edW_gone q1 q2]
      exact rmD_blk hO.1.1 hj
    · by_cases q3 : roomP g L e w.1 w.2.1 w.2.2
      · rw [edW_log q1 q2 q3] at h1
        exact absurd rfl h1
      · by_cases q4 : 10 < f 640 + (spRes g (ap (pR w.2.1 w.2.2) e) L).1.length - 1
        · rw [edW_no q1 q2 q3 q4]
        · rw [edW_sp q1 q2 q3 q4] at h ⊢
          exact spW_out hO.1.1 hj _ 0 f h
  · rw [edW_rf q1] at h0
    have := rf_neg (pR w.2.1 w.2.2) e
    dsimp only at h0
    omega
theorem ed_log {g f : Int → Int} {L : Lrn} {e : List Int} (hg : trmOK g) (hW : WFz f) (h0 : (ed g f L e).1 = 0) : ∃ i pkd es rs, (0 ≤ i ∧ i < f 640) ∧ PgX f i pkd es rs ∧ 2 + (pkd.length : Int) + es.flatten.length + e.length ≤ 64 ∧ (ed g f L e).2.2.2.2 = 64 * f (641 + 2 * i) + (2 + pkd.length + es.flatten.length) ∧ (ed g f L e).2.1 = lgF f (64 * f (641 + 2 * i) + (2 + pkd.length + es.flatten.length)) e ∧ (ed g f L e).2.2.1 = L := by
  have hO := od_ok hW.1 (gi e 1)
  have hwk := wt_ok hW hO.1
  unfold ed at h0 ⊢
  obtain ⟨i, hi⟩ : ∃ i, i = od f (gi e 1) := ⟨_, rfl⟩
  rw [← hi] at h0 hO hwk ⊢
  obtain ⟨w, hw⟩ : ∃ w, w = wt f i := ⟨_, rfl⟩
  rw [← hw] at h0 hwk ⊢
  by_cases q1 : rf (pR w.2.1 w.2.2) e = 0
  · by_cases q2 : goneP f e i w.2.1 w.2.2
    · rw [edW_gone q1 q2] at h0
      dsimp only at h0; omega
    · by_cases q3 : roomP g L e w.1 w.2.1 w.2.2
      · rw [edW_log q1 q2 q3]
        refine ⟨i, w.1, w.2.1, w.2.2, hO.1, hwk.1, ?_, rfl, rfl, rfl⟩
        have h3 := q3.1
        have h4 := hg.1
        split at h3 <;> omega
      · by_cases q4 : 10 < f 640 + (spRes g (ap (pR w.2.1 w.2.2) e) L).1.length - 1
        · rw [edW_no q1 q2 q3 q4] at h0
          dsimp only at h0; omega
        · rw [edW_sp q1 q2 q3 q4] at h0
          dsimp only at h0
          unfold spCode at h0
          split at h0 <;> omega
  · rw [edW_rf q1] at h0
    dsimp only at h0
    exact absurd h0 q1
