-- the reference's reading of blocks and directory
theorem P_X10_isIn {v a b : Int} {Q : Int → Prop} {M : zMem} (hQ1 : a ≤ v → v ≤ b → Q 1) (hQ0 : v < a ∨ b < v → Q 0) : T_X10_isIn v a b Q M := by
  unfold T_X10_isIn
  refine ⟨fun h => hQ0 (Or.inl h), fun h => ⟨fun h2 => hQ0 (Or.inr h2), fun h2 => hQ1 (by omega) (by omega)⟩⟩
theorem P_X10_kindOf {v : Int} {Q : Int → Prop} {M : zMem} (hv : 0 ≤ v) (hQ : Q (v / 16)) : T_X10_kindOf v Q M := by
  unfold T_X10_kindOf
  rw [tdiv_pos hv]
  exact hQ
def lnR (h : Int) : Int := if h / 16 = 2 then 2 else if h / 16 = 3 then 3 else 2 + h % 16
theorem lnR_szB {h : Int} (hs : szB h ≠ 0) : lnR h = szB h := by
  unfold szB at hs ⊢
  unfold lnR
  repeat' split at hs
  all_goals (repeat' split)
  all_goals omega
theorem lnR_b {h : Int} : 2 ≤ lnR h ∧ lnR h ≤ 17 := by
  unfold lnR
  repeat' split
  all_goals omega
theorem P_X10_lengthOf {v : Int} {Q : Int → Prop} {M : zMem} (hv : 0 ≤ v ∧ v < 256) (hQ : Q (lnR v)) : T_X10_lengthOf v Q M := by
  unfold T_X10_lengthOf
  apply P_X10_kindOf hv.1
  rw [tmod_pos hv.1]
  repeat' (first | (with_reducible apply inR_mk) | (with_reducible apply And.intro) | (intro (M9 : zMem) h9; subst h9) | (with_reducible intro _))
  all_goals first | omega | (refine Eq.mp (congrArg Q (?_ : lnR v = _)) hQ; unfold lnR; repeat' split; all_goals omega)
theorem P_X10_isEntry {v : Int} {Q : Int → Prop} {M : zMem} (hv : 0 ≤ v ∧ v < 256) (hQ1 : szB v ≠ 0 → Q 1) (hQ0 : szB v = 0 → Q 0) : T_X10_isEntry v Q M := by
  unfold T_X10_isEntry
  apply P_X10_kindOf hv.1
  rw [tmod_pos hv.1]
  unfold szB at hQ1 hQ0
  repeat' (first | (with_reducible apply inR_mk) | (with_reducible apply And.intro) | (intro (M9 : zMem) h9; subst h9) | (with_reducible intro _))
  all_goals first | (apply hQ1; repeat' split; all_goals omega) | (apply hQ0; repeat' split; all_goals omega)
theorem P_X10_pagesOf {r : Nat} {Q : Int → Prop} {M : zMem} (hl : 661 ≤ alen r) (hQ : Q (M.2 r 640)) : T_X10_pagesOf r Q M := by
  unfold T_X10_pagesOf
  exact ⟨⟨by omega, by omega⟩, hQ⟩
theorem P_X10_numberOf {r : Nat} {i : Int} {Q : Int → Prop} {M : zMem} (hl : 661 ≤ alen r) (hi : 0 ≤ i ∧ i < 10) (hQ : Q (M.2 r (641 + 2 * i))) : T_X10_numberOf r i Q M := by
  unfold T_X10_numberOf
  repeat' (first | (with_reducible apply inR_mk) | (with_reducible apply And.intro) | (intro (M9 : zMem) h9; subst h9) | (with_reducible intro _))
  all_goals first | omega | exact hQ
theorem P_X10_fenceOf {r : Nat} {i : Int} {Q : Int → Prop} {M : zMem} (hl : 661 ≤ alen r) (hi : 0 ≤ i ∧ i < 10) (hQ : Q (M.2 r (642 + 2 * i))) : T_X10_fenceOf r i Q M := by
  unfold T_X10_fenceOf
  repeat' (first | (with_reducible apply inR_mk) | (with_reducible apply And.intro) | (intro (M9 : zMem) h9; subst h9) | (with_reducible intro _))
  all_goals first | omega | exact hQ
theorem P_X10_placeFor {r : Nat} {key i : Int} {Q : Int → Prop} {M : zMem} (hl : 661 ≤ alen r) (hD : DirOK (M.2 r)) (hi : IsOrd (M.2 r) key i) (hQ : Q i) : T_X10_placeFor r key Q M := by
  unfold T_X10_placeFor T_X10_placeFor_2
  obtain ⟨hu, -, -, -, hf, -⟩ := hD
  obtain ⟨hi1, hi2, hi3⟩ := hi
  refine zp1_rule (fun k => 0 ≤ k ∧ k ≤ i) (fun k => (M.2 r 640 - k).toNat) ?_ 0 ⟨by omega, by omega⟩
  intro X k hI ih
  refine ⟨inR_mk (by omega) (by omega), ?_⟩
  apply P_X10_pagesOf hl
  refine ⟨fun h => ?_, fun h => ⟨inR_mk (by omega) (by omega), ?_⟩⟩
  · have : k = i := by omega
    rw [this]; exact hQ
  · apply P_X10_fenceOf hl ⟨by omega, by omega⟩
    refine ⟨fun h2 => ?_, fun h2 => ⟨inR_mk (by omega) (by omega), ih _ ⟨by omega, ?_⟩ (by omega)⟩⟩
    · have : k = i := by
        by_cases q : k < i
        · rcases hi2 with q2 | q2
          · omega
          · by_cases q3 : k + 1 = i
            · rw [q3] at h2; omega
            · have := hf (k + 1) i (by omega) (by omega) (by omega); omega
        · omega
      rw [this]; exact hQ
    · by_cases q : k = i
      · have := hi3 (k + 1) (by omega) (by omega); omega
      · omega
theorem P_X10_entryAt {r : Nat} {p n : Int} {pkd : List Int} {es : List (List Int)} {Q : Int → Prop} {M : zMem} (hl : 661 ≤ alen r) (hB : Blk (M.2 r) p pkd es) (hQ : Q (2 + pkd.length + ((es.take n.toNat).flatten.length : Int))) : T_X10_entryAt r p n Q M := by
  obtain ⟨h1, h2, h3, h4, h5, h6⟩ := hB
  unfold T_X10_entryAt
  rw [h2]
  refine ⟨inR_mk (by omega) (by omega), inR_mk (by omega) (by omega), ⟨by omega, by omega⟩, inR_mk (by omega) (by omega), ?_⟩
  unfold T_X10_entryAt_17
  have hA := (AL_app.mp h3).2
  have hfl := flat_len h5
  refine zp2_rule (fun a i => ∃ t : List (List Int), (0 ≤ i ∧ i + t.length ≤ 31) ∧ (∀ e ∈ t, eOK e) ∧ AL (M.2 r) (64 * p + a) t.flatten ∧ a + t.flatten.length = (2 + pkd.length + es.flatten.length) ∧ 0 ≤ a ∧ a + ((t.take (n - i).toNat).flatten.length : Int) = 2 + pkd.length + ((es.take n.toNat).flatten.length : Int)) (fun a i => (64 - i).toNat) ?_ _ 0 ⟨es, ⟨by omega, by omega⟩, h5, by rw [← Int.add_assoc]; exact hA, by omega, by omega, by rw [Int.sub_zero]⟩
  intro X a i hI ih
  obtain ⟨t, q1, q2, q3, q4, q5, q6⟩ := hI
  refine ⟨fun hn => ?_, fun hn => ⟨fun hx => ?_, fun hx => ⟨inR_mk (by omega) (by omega), ⟨by omega, by omega⟩, fun hz => ?_, fun hz => ⟨inR_mk (by omega) (by omega), ⟨by omega, by omega⟩, ?_⟩⟩⟩⟩
  · have : (n - i).toNat = 0 := by omega
    rw [this] at q6
    simp only [List.take_zero, List.flatten_nil, List.length_nil] at q6
    (refine Eq.mp (congrArg _ ?_) hQ; omega)
  · cases t with
    | nil =>
      simp only [List.take_nil, List.flatten_nil, List.length_nil] at q4 q6
      (refine Eq.mp (congrArg _ ?_) hQ; omega)
    | cons e t =>
      have he := eOK_len (q2 e List.mem_cons_self)
      simp only [List.flatten_cons, List.length_append] at q4
      omega
  · cases t with
    | nil =>
      simp only [List.take_nil, List.flatten_nil, List.length_nil] at q4 q6
      (refine Eq.mp (congrArg _ ?_) hQ; omega)
    | cons e t =>
      have he := eOK_len (q2 e List.mem_cons_self)
      have ha0 : M.2 r (64 * p + a) = gi e 0 := by
        have := q3 0 (by omega) (by simp only [List.flatten_cons, List.length_append]; omega)
        rw [Int.add_zero, List.flatten_cons, gi_app_l (by omega) (by omega)] at this
        exact this
      have h9 := (q2 e List.mem_cons_self).1
      rw [← ha0, hz, szB_0] at h9
      omega
  · cases t with
    | nil =>
      simp only [List.take_nil, List.flatten_nil, List.length_nil] at q4 q6
      have e9 : a = (2 + pkd.length + es.flatten.length) := by omega
      exact absurd (by rw [e9]; exact h6 (by omega)) hz
    | cons e t =>
      have he := eOK_len (q2 e List.mem_cons_self)
      have ha0 : M.2 r (64 * p + a) = gi e 0 := by
        have := q3 0 (by omega) (by simp only [List.flatten_cons, List.length_append]; omega)
        rw [Int.add_zero, List.flatten_cons, gi_app_l (by omega) (by omega)] at this
        exact this
      have hb := allB_gi (q2 e List.mem_cons_self).2.2 0
      have h9 := (q2 e List.mem_cons_self).1
      rw [ha0]
      apply P_X10_lengthOf hb
      rw [lnR_szB (by rw [h9]; omega), h9]
      have hn1 : (n - i).toNat = (n - (i + 1)).toNat + 1 := by omega
      rw [hn1] at q6
      simp only [List.take_succ_cons, List.flatten_cons, List.length_append, List.length_cons] at q4 q6 q1
      rw [List.flatten_cons, AL_app] at q3
      exact ⟨inR_mk (by omega) (by omega), inR_mk (by omega) (by omega), ih _ _ ⟨t, ⟨by omega, by omega⟩, fun x hx => q2 x (List.mem_cons_of_mem _ hx), by rw [← Int.add_assoc]; exact q3.2, by omega, by omega, by omega⟩ (by omega)⟩
theorem P_X10_endOf {r : Nat} {p : Int} {pkd : List Int} {es : List (List Int)} {Q : Int → Prop} {M : zMem} (hl : 661 ≤ alen r) (hB : Blk (M.2 r) p pkd es) (hQ : Q (2 + pkd.length + (es.flatten.length : Int))) : T_X10_endOf r p Q M := by
  unfold T_X10_endOf
  apply P_X10_entryAt hl hB
  have := flat_len hB.2.2.2.2.1
  have := hB.2.2.2.1
  rw [List.take_of_length_le (by show es.length ≤ 64; omega)]
  exact hQ
theorem take_flat_lt {es : List (List Int)} (h : ∀ e ∈ es, eOK e) : ∀ n : Nat, n < es.length → (es.take n).flatten.length < es.flatten.length := by
  induction es with
  | nil => intro n hn; simp at hn
  | cons e t ih =>
    intro n hn
    have h1 := eOK_len (h e List.mem_cons_self)
    cases n with
    | zero => simp only [List.take_zero, List.flatten_nil, List.length_nil, List.flatten_cons, List.length_append]; omega
    | succ n =>
      have := ih (fun x hx => h x (List.mem_cons_of_mem _ hx)) n (by simpa using hn)
      simp only [List.take_succ_cons, List.flatten_cons, List.length_append]
      omega
theorem P_X10_entriesOf {r : Nat} {p : Int} {pkd : List Int} {es : List (List Int)} {Q : Int → Prop} {M : zMem} (hl : 661 ≤ alen r) (hB : Blk (M.2 r) p pkd es) (hQ : Q es.length) : T_X10_entriesOf r p Q M := by
  unfold T_X10_entriesOf
  apply P_X10_endOf hl hB
  have hfl := flat_len hB.2.2.2.2.1
  have h4 := hB.2.2.2.1
  unfold T_X10_entriesOf_8
  refine zp1_rule (fun k => 0 ≤ k ∧ k ≤ es.length) (fun k => ((es.length : Int) - k).toNat) ?_ 0 ⟨by omega, by omega⟩
  intro X k hI ih
  apply P_X10_entryAt hl hB
  by_cases q : k = es.length
  · refine ⟨fun _ => by rw [q]; exact hQ, fun h => ?_⟩
    rw [List.take_of_length_le (by omega)] at h
    omega
  · have := take_flat_lt hB.2.2.2.2.1 k.toNat (by omega)
    exact ⟨fun h => by omega, fun h => ⟨inR_mk (by omega) (by omega), ih _ ⟨by omega, by omega⟩ (by omega)⟩⟩
theorem P_X10_lowestFree {Q : Int → Prop} {M : zMem} (hD : DirOK (M.2 583)) (hQ : ∀ p, IsLF (M.2 583) p → Q p) : T_X10_lowestFree Q M := by
  have hl : 661 ≤ alen 583 := by rw [alen_583]; decide
  have hu := hD.1
  unfold T_X10_lowestFree T_X10_lowestFree_2
  refine zp1_rule (fun k => 0 ≤ k ∧ k ≤ 10 ∧ (∀ j, 0 ≤ j → j < k → IsUsed (M.2 583) j)) (fun k => (10 - k).toNat) ?_ 0 ⟨by omega, by omega, fun j h1 h2 => by omega⟩
  intro X k hI ih
  obtain ⟨h1, h2, h3⟩ := hI
  refine ⟨fun hk => hQ _ (Or.inl ⟨rfl, fun q q1 q2 => h3 q q1 (by omega)⟩), fun hk => ?_⟩
  unfold T_X10_lowestFree_12
  refine zp2_rule (fun b i => (0 ≤ i ∧ i ≤ M.2 583 640) ∧ ((b = 0 ∧ IsUsed (M.2 583) k) ∨ (b = 1 ∧ ∀ j, 0 ≤ j → j < i → M.2 583 (641 + 2 * j) ≠ k))) (fun b i => (M.2 583 640 - i).toNat) ?_ 1 0 ⟨⟨by omega, by omega⟩, Or.inr ⟨rfl, fun j q1 q2 => by omega⟩⟩
  intro Y b i hI2 ih2
  obtain ⟨g1, g2⟩ := hI2
  apply P_X10_pagesOf hl
  refine ⟨fun hi => ⟨fun hb => ?_, fun hb => ?_⟩, fun hi => ⟨fun hb => ?_, fun hb => ?_⟩⟩
  · have hus : IsUsed (M.2 583) k := by
      rcases g2 with ⟨q, q2⟩ | ⟨q, q2⟩
      · exact q2
      · omega
    refine ⟨inR_mk (by omega) (by omega), ih _ ⟨by omega, by omega, fun j q1 q2 => ?_⟩ (by omega)⟩
    by_cases q : j = k
    · rw [q]; exact hus
    · exact h3 j q1 (by omega)
  · rcases g2 with ⟨q, q2⟩ | ⟨q, q2⟩
    · omega
    · refine hQ _ (Or.inr ⟨⟨by omega, by omega⟩, ?_, fun j q1 q3 => h3 j q1 (by omega)⟩)
      rintro ⟨j, j1, j2, j3⟩
      exact q2 j j1 (by omega) j3
  · unfold T_X10_lowestFree_43 T_X10_lowestFree_44
    refine ⟨inR_mk (by omega) (by omega), ih2 _ _ ⟨⟨by omega, by omega⟩, ?_⟩ (by omega)⟩
    rcases g2 with ⟨q, q2⟩ | ⟨q, q2⟩
    · exact Or.inl ⟨rfl, q2⟩
    · omega
  · rcases g2 with ⟨q, q2⟩ | ⟨q, q2⟩
    · omega
    · apply P_X10_numberOf hl ⟨by omega, by omega⟩
      refine ⟨fun he => ?_, fun he => ?_⟩
      · unfold T_X10_lowestFree_43 T_X10_lowestFree_44
        exact ⟨inR_mk (by omega) (by omega), ih2 _ _ ⟨⟨by omega, by omega⟩, Or.inl ⟨rfl, ⟨i, by omega, by omega, he⟩⟩⟩ (by omega)⟩
      · unfold T_X10_lowestFree_44
        refine ⟨inR_mk (by omega) (by omega), ih2 _ _ ⟨⟨by omega, by omega⟩, Or.inr ⟨rfl, fun j q3 q4 => ?_⟩⟩ (by omega)⟩
        by_cases q5 : j = i
        · rw [q5]; exact he
        · exact q2 j q3 (by omega)
theorem P_X10_isInUse {p : Int} {Q : Int → Prop} {M : zMem} (hD : DirOK (M.2 582)) (hQ1 : IsUsed (M.2 582) p → Q 1) (hQ0 : ¬ IsUsed (M.2 582) p → Q 0) : T_X10_isInUse p Q M := by
  have hl : 661 ≤ alen 582 := by rw [alen_582]; decide
  have hu := hD.1
  unfold T_X10_isInUse T_X10_isInUse_2
  refine zp1_rule (fun k => 0 ≤ k ∧ k ≤ M.2 582 640 ∧ (∀ j, 0 ≤ j → j < k → M.2 582 (641 + 2 * j) ≠ p)) (fun k => (M.2 582 640 - k).toNat) ?_ 0 ⟨by omega, by omega, fun j h1 h2 => by omega⟩
  intro X k hI ih
  obtain ⟨h1, h2, h3⟩ := hI
  apply P_X10_pagesOf hl
  refine ⟨fun hk => hQ0 ?_, fun hk => ?_⟩
  · rintro ⟨i, q1, q2, q3⟩
    exact h3 i q1 (by omega) q3
  · apply P_X10_numberOf hl ⟨by omega, by omega⟩
    refine ⟨fun hf => ⟨inR_mk (by omega) (by omega), ih _ ⟨by omega, by omega, fun j q1 q2 => ?_⟩ (by omega)⟩, fun hf => hQ1 ⟨k, by omega, by omega, hf⟩⟩
    by_cases q : j = k
    · rw [q]; exact hf
    · exact h3 j q1 (by omega)
