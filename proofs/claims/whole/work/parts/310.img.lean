theorem P_X2_kindOf {v : Int} {Q : Int → Prop} {M : zMem} (hv : inR v) (hQ : Q (v / 16)) : T_X2_kindOf v Q M := by
  unfold T_X2_kindOf
  rw [zshr_4 hv]
  exact hQ
theorem P_X2_numberOf {v : Int} {Q : Int → Prop} {M : zMem} (hQ : Q (v % 16)) : T_X2_numberOf v Q M := by
  unfold T_X2_numberOf
  rw [zand_15]
  exact hQ
def szB (h : Int) : Int := if h / 16 = 1 then (if h % 16 ≤ 8 then 2 + h % 16 else 0) else if h / 16 = 2 then (if h % 16 = 0 then 2 else 0) else if h / 16 = 3 then (if h % 16 < 8 then 3 else 0) else if h / 16 = 4 then (if 1 ≤ h % 16 ∧ h % 16 ≤ 8 then 2 + h % 16 else 0) else 0
theorem szB_b (h : Int) : szB h = 0 ∨ (2 ≤ szB h ∧ szB h ≤ 10) := by
  unfold szB
  repeat' split
  all_goals omega
theorem szB_0 : szB 0 = 0 := by decide
theorem P_X2_sizeBy {v : Int} {Q : Int → Prop} {M : zMem} (hv : inR v) (hQ : Q (szB v)) : T_X2_sizeBy v Q M := by
  unfold T_X2_sizeBy
  apply P_X2_numberOf
  apply P_X2_kindOf hv
  have hm : 0 ≤ v % 16 ∧ v % 16 < 16 := by omega
  repeat' (first | (with_reducible apply inR_mk) | (with_reducible apply And.intro) | (intro (M9 : zMem) h9; subst h9) | (with_reducible intro _))
  all_goals first | omega | (refine Eq.mp (congrArg Q (?_ : szB v = _)) hQ; unfold szB; repeat' split; all_goals omega)
def sA (f : Int → Int) (a lim : Int) : Int := if lim ≤ a then 0 else if lim < a + szB (f a) then 0 else szB (f a)
theorem P_X2_sizeAt {r : Nat} {a lim : Int} {Q : Int → Prop} {M : zMem} (h0 : 0 ≤ a) (hl : lim ≤ alen r) (hl2 : lim ≤ 2000) (hb : a < lim → inR (M.2 r a)) (hQ : Q (sA (M.2 r) a lim)) : T_X2_sizeAt r a lim Q M := by
  unfold T_X2_sizeAt
  have hz := szB_b (M.2 r a)
  repeat' (first | (with_reducible apply inR_mk) | (with_reducible apply And.intro) | (intro (M9 : zMem) h9; subst h9) | (with_reducible intro _))
  all_goals first | omega | skip
  · refine Eq.mp (congrArg Q (?_ : sA (M.2 r) a lim = _)) hQ
    unfold sA
    rw [if_pos (by omega)]
  · apply P_X2_sizeBy (hb (by omega))
    repeat' (first | (with_reducible apply inR_mk) | (with_reducible apply And.intro) | (intro (M9 : zMem) h9; subst h9) | (with_reducible intro _))
    all_goals first | omega | (refine Eq.mp (congrArg Q (?_ : sA (M.2 r) a lim = _)) hQ; unfold sA; repeat' split; all_goals omega)
theorem P_X4_inUse {r : Nat} {Q : Int → Prop} {M : zMem} (hl : 661 ≤ alen r) (h : 0 ≤ M.2 r 640 ∧ M.2 r 640 ≤ 10) (hQ : Q (M.2 r 640)) : T_X4_inUse r Q M := by
  unfold T_X4_inUse
  repeat' (first | (with_reducible apply inR_mk) | (with_reducible apply And.intro) | (intro (M9 : zMem) h9; subst h9) | (with_reducible intro _))
  all_goals first | omega | exact hQ
theorem P_X4_pageAt {r : Nat} {i : Int} {Q : Int → Prop} {M : zMem} (hl : 661 ≤ alen r) (hi : 0 ≤ i ∧ i < 10) (h : 0 ≤ M.2 r (641 + 2 * i) ∧ M.2 r (641 + 2 * i) < 10) (hQ : Q (M.2 r (641 + 2 * i))) : T_X4_pageAt r i Q M := by
  unfold T_X4_pageAt
  repeat' (first | (with_reducible apply inR_mk) | (with_reducible apply And.intro) | (intro (M9 : zMem) h9; subst h9) | (with_reducible intro _))
  all_goals first | omega | skip
  unfold T_X4_pageAt_23
  repeat' (first | (with_reducible apply inR_mk) | (with_reducible apply And.intro) | (intro (M9 : zMem) h9; subst h9) | (with_reducible intro _))
  all_goals first | omega | exact hQ
theorem P_X4_fenceAt {r : Nat} {i : Int} {Q : Int → Prop} {M : zMem} (hl : 661 ≤ alen r) (hi : 0 ≤ i ∧ i < 10) (hQ : Q (M.2 r (642 + 2 * i))) : T_X4_fenceAt r i Q M := by
  unfold T_X4_fenceAt
  repeat' (first | (with_reducible apply inR_mk) | (with_reducible apply And.intro) | (intro (M9 : zMem) h9; subst h9) | (with_reducible intro _))
  all_goals first | omega | exact hQ
-- the place in the order of a key
def IsOrd (f : Int → Int) (key i : Int) : Prop := (0 ≤ i ∧ i < f 640) ∧ (i = 0 ∨ f (642 + 2 * i) ≤ key) ∧ ∀ j, i < j → j < f 640 → key < f (642 + 2 * j)
theorem P_X4_orderFor {r : Nat} {key i : Int} {Q : Int → Prop} {M : zMem} (hl : 661 ≤ alen r) (hu : 1 ≤ M.2 r 640 ∧ M.2 r 640 ≤ 10) (hi : IsOrd (M.2 r) key i) (hQ : Q i) : T_X4_orderFor r key Q M := by
  unfold T_X4_orderFor
  apply P_X4_inUse hl ⟨by omega, hu.2⟩
  unfold T_X4_orderFor_10
  obtain ⟨hi1, hi2, hi3⟩ := hi
  refine zp2_rule (fun o k => 1 ≤ k ∧ k ≤ M.2 r 640 ∧ (0 ≤ o ∧ o < k) ∧ (o = 0 ∨ M.2 r (642 + 2 * o) ≤ key) ∧ (∀ j, o < j → j < k → key < M.2 r (642 + 2 * j))) (fun o k => (M.2 r 640 - k).toNat) ?_ 0 1 ⟨by omega, by omega, ⟨by omega, by omega⟩, Or.inl rfl, fun j h1 h2 => by omega⟩
  intro X o k hI ih
  obtain ⟨h1, h2, h3, h4, h5⟩ := hI
  refine ⟨fun hk => ?_, fun hk => ?_⟩
  · have : o = i := by
      by_cases q : o < i
      · rcases hi2 with q2 | q2
        · omega
        · have := h5 i q (by omega); omega
      · by_cases q2 : i < o
        · rcases h4 with q3 | q3
          · omega
          · have := hi3 o q2 (by omega); omega
        · omega
    rw [this]
    exact hQ
  · apply P_X4_fenceAt hl ⟨by omega, by omega⟩
    refine ⟨fun hf => ?_, fun hf => ?_⟩
    · unfold T_X4_orderFor_29
      refine ⟨inR_mk (by omega) (by omega), ih _ _ ⟨by omega, by omega, ⟨by omega, by omega⟩, h4, fun j q1 q2 => ?_⟩ (by omega)⟩
      by_cases q : j = k
      · rw [q]; exact hf
      · exact h5 j q1 (by omega)
    · unfold T_X4_orderFor_29
      refine ⟨inR_mk (by omega) (by omega), ih _ _ ⟨by omega, by omega, ⟨by omega, by omega⟩, Or.inr (by omega), fun j q1 q2 => by omega⟩ (by omega)⟩
def IsUsed (f : Int → Int) (p : Int) : Prop := ∃ i, 0 ≤ i ∧ i < f 640 ∧ f (641 + 2 * i) = p
def DirOK (f : Int → Int) : Prop := (1 ≤ f 640 ∧ f 640 ≤ 10) ∧ (∀ i, 0 ≤ i → i < f 640 → 0 ≤ f (641 + 2 * i) ∧ f (641 + 2 * i) < 10) ∧ (∀ i j, 0 ≤ i → i < j → j < f 640 → f (641 + 2 * i) ≠ f (641 + 2 * j)) ∧ f 642 = 0 ∧ (∀ i j, 0 ≤ i → i < j → j < f 640 → f (642 + 2 * i) < f (642 + 2 * j)) ∧ (∀ i, 0 ≤ i → i < f 640 → f (642 + 2 * i) ≤ 255)
theorem P_X4_isUsed {r : Nat} {p : Int} {Q : Int → Prop} {M : zMem} (hl : 661 ≤ alen r) (hD : DirOK (M.2 r)) (hQ1 : IsUsed (M.2 r) p → Q 1) (hQ0 : ¬ IsUsed (M.2 r) p → Q 0) : T_X4_isUsed r p Q M := by
  have hu := hD.1
  unfold T_X4_isUsed
  apply P_X4_inUse hl ⟨by omega, hu.2⟩
  unfold T_X4_isUsed_7
  refine zp1_rule (fun k => 0 ≤ k ∧ k ≤ M.2 r 640 ∧ (∀ j, 0 ≤ j → j < k → M.2 r (641 + 2 * j) ≠ p)) (fun k => (M.2 r 640 - k).toNat) ?_ 0 ⟨by omega, by omega, fun j h1 h2 => by omega⟩
  intro X k hI ih
  obtain ⟨h1, h2, h3⟩ := hI
  refine ⟨fun hk => hQ0 ?_, fun hk => ?_⟩
  · rintro ⟨i, q1, q2, q3⟩
    exact h3 i q1 (by omega) q3
  · apply P_X4_pageAt hl ⟨by omega, by omega⟩ (hD.2.1 k (by omega) (by omega))
    refine ⟨fun hf => ⟨inR_mk (by omega) (by omega), ih _ ⟨by omega, by omega, fun j q1 q2 => ?_⟩ (by omega)⟩, fun hf => hQ1 ⟨k, by omega, by omega, hf⟩⟩
    by_cases q : j = k
    · rw [q]; exact hf
    · exact h3 j q1 (by omega)
def IsLF (f : Int → Int) (p : Int) : Prop := (p = -1 ∧ ∀ q, 0 ≤ q → q < 10 → IsUsed f q) ∨ ((0 ≤ p ∧ p < 10) ∧ ¬ IsUsed f p ∧ ∀ q, 0 ≤ q → q < p → IsUsed f q)
theorem P_X4_lowestFree {r : Nat} {Q : Int → Prop} {M : zMem} (hl : 661 ≤ alen r) (hD : DirOK (M.2 r)) (hQ : ∀ p, IsLF (M.2 r) p → Q p) : T_X4_lowestFree r Q M := by
  unfold T_X4_lowestFree T_X4_lowestFree_2
  refine zp1_rule (fun k => 0 ≤ k ∧ k ≤ 10 ∧ (∀ j, 0 ≤ j → j < k → IsUsed (M.2 r) j)) (fun k => (10 - k).toNat) ?_ 0 ⟨by omega, by omega, fun j h1 h2 => by omega⟩
  intro X k hI ih
  obtain ⟨h1, h2, h3⟩ := hI
  refine ⟨fun hk => hQ _ (Or.inl ⟨rfl, fun q q1 q2 => h3 q q1 (by omega)⟩), fun hk => ?_⟩
  apply P_X4_isUsed hl hD
  · intro hus
    refine ⟨fun _ => ⟨inR_mk (by omega) (by omega), ih _ ⟨by omega, by omega, fun j q1 q2 => ?_⟩ (by omega)⟩, fun h => by omega⟩
    by_cases q : j = k
    · rw [q]; exact hus
    · exact h3 j q1 (by omega)
  · intro hus
    exact ⟨fun h => by omega, fun _ => hQ _ (Or.inr ⟨⟨by omega, by omega⟩, hus, fun q q1 q2 => h3 q q1 (by omega)⟩)⟩
theorem isLF_uniq {f g : Int → Int} (h : ∀ q, 0 ≤ q → q < 10 → (IsUsed f q ↔ IsUsed g q)) {p p' : Int} (h1 : IsLF f p) (h2 : IsLF g p') : p = p' := by
  rcases h1 with ⟨a1, a2⟩ | ⟨a1, a2, a3⟩
  · rcases h2 with ⟨b1, b2⟩ | ⟨b1, b2, b3⟩
    · omega
    · exact absurd ((h p' b1.1 b1.2).mp (a2 p' b1.1 b1.2)) b2
  · rcases h2 with ⟨b1, b2⟩ | ⟨b1, b2, b3⟩
    · exact absurd ((h p a1.1 a1.2).mpr (b2 p a1.1 a1.2)) a2
    · by_cases q : p < p'
      · exact absurd ((h p a1.1 a1.2).mpr (b3 p a1.1 q)) a2
      · by_cases q2 : p' < p
        · exact absurd ((h p' b1.1 b1.2).mp (a3 p' b1.1 q2)) b2
        · omega
-- a block: what is packed, the entries behind it
def eOK (e : List Int) : Prop := szB (gi e 0) = e.length ∧ 2 ≤ e.length ∧ allB e
def Blk (f : Int → Int) (p : Int) (pkd : List Int) (es : List (List Int)) : Prop := (0 ≤ p ∧ p < 10) ∧ f (64 * p + 1) = pkd.length ∧ AL f (64 * p + 2) (pkd ++ es.flatten) ∧ 2 + (pkd.length : Int) + es.flatten.length ≤ 64 ∧ (∀ e ∈ es, eOK e) ∧ (2 + (pkd.length : Int) + es.flatten.length < 64 → f (64 * p + (2 + pkd.length + es.flatten.length)) = 0)
theorem eOK_len {e : List Int} (h : eOK e) : 2 ≤ e.length ∧ e.length ≤ 10 := by
  have := szB_b (gi e 0)
  have := h.1
  have := h.2.1
  omega
theorem flat_len {es : List (List Int)} (h : ∀ e ∈ es, eOK e) : 2 * es.length ≤ es.flatten.length := by
  induction es with
  | nil => simp
  | cons e t ih =>
    have h1 := eOK_len (h e List.mem_cons_self)
    have h2 := ih (fun x hx => h x (List.mem_cons_of_mem _ hx))
    simp only [List.flatten_cons, List.length_append, List.length_cons]
    omega
theorem P_X4_packedSize {r : Nat} {p : Int} {pkd : List Int} {es : List (List Int)} {Q : Int → Prop} {M : zMem} (hl : 661 ≤ alen r) (hB : Blk (M.2 r) p pkd es) (hQ : Q pkd.length) : T_X4_packedSize r p Q M := by
  obtain ⟨h1, h2, h3, h4, h5, h6⟩ := hB
  unfold T_X4_packedSize
  have e : p * 64 + 1 = 64 * p + 1 := by omega
  rw [e, h2]
  repeat' (first | (with_reducible apply inR_mk) | (with_reducible apply And.intro) | (intro (M9 : zMem) h9; subst h9) | (with_reducible intro _))
  all_goals first | omega | (refine Eq.mp (congrArg _ ?_) hQ; omega)
theorem P_X4_logStart {r : Nat} {p : Int} {pkd : List Int} {es : List (List Int)} {Q : Int → Prop} {M : zMem} (hl : 661 ≤ alen r) (hB : Blk (M.2 r) p pkd es) (hQ : Q (64 * p + 2 + pkd.length)) : T_X4_logStart r p Q M := by
  have hp := hB.1
  have h4 := hB.2.2.2.1
  unfold T_X4_logStart
  refine ⟨inR_mk (by omega) (by omega), inR_mk (by omega) (by omega), ?_⟩
  apply P_X4_packedSize hl hB
  repeat' (first | (with_reducible apply inR_mk) | (with_reducible apply And.intro) | (intro (M9 : zMem) h9; subst h9) | (with_reducible intro _))
  all_goals first | omega | (refine Eq.mp (congrArg _ ?_) hQ; omega)
-- one entry read in a log
theorem sA_hit {f : Int → Int} {a lim : Int} {e : List Int} {t : List (List Int)} (he : eOK e) (hA : AL f a (e :: t).flatten) (hl : a + (e :: t).flatten.length ≤ lim) : sA f a lim = e.length := by
  have h1 := eOK_len he
  have h2 : f a = gi e 0 := by
    have := hA 0 (by omega) (by simp only [List.flatten_cons, List.length_append]; omega)
    rw [Int.add_zero, List.flatten_cons, gi_app_l (by omega) (by omega)] at this
    exact this
  simp only [List.flatten_cons, List.length_append] at hl
  unfold sA
  rw [h2, he.1, if_neg (by omega), if_neg (by omega)]
theorem sA_end {f : Int → Int} {a lim : Int} (h : a < lim → f a = 0) : sA f a lim = 0 := by
  unfold sA
  by_cases q : lim ≤ a
  · rw [if_pos q]
  · rw [if_neg q, h (by omega), szB_0]
    split <;> rfl
theorem P_X4_placeBehind {r : Nat} {p n : Int} {pkd : List Int} {es : List (List Int)} {Q : Int → Prop} {M : zMem} (hl : 661 ≤ alen r) (hB : Blk (M.2 r) p pkd es) (hby : ∀ j, 0 ≤ j → j < 640 → inR (M.2 r j)) (hQ : Q (64 * p + 2 + pkd.length + ((es.take n.toNat).flatten.length : Int))) : T_X4_placeBehind r p n Q M := by
  unfold T_X4_placeBehind
  apply P_X4_logStart hl hB
  obtain ⟨h1, h2, h3, h4, h5, h6⟩ := hB
  refine ⟨inR_mk (by omega) (by omega), inR_mk (by omega) (by omega), ?_⟩
  unfold T_X4_placeBehind_17
  have hA := (AL_app.mp h3).2
  have hfl := flat_len h5
  refine zp2_rule (fun a i => ∃ t : List (List Int), (0 ≤ i ∧ i + t.length ≤ 31) ∧ (∀ e ∈ t, eOK e) ∧ AL (M.2 r) a t.flatten ∧ a + t.flatten.length = 64 * p + (2 + pkd.length + es.flatten.length) ∧ 64 * p ≤ a ∧ a + ((t.take (n - i).toNat).flatten.length : Int) = 64 * p + 2 + pkd.length + ((es.take n.toNat).flatten.length : Int)) (fun a i => (64 - i).toNat) ?_ _ 0 ⟨es, ⟨by omega, by omega⟩, h5, hA, by omega, by omega, by rw [Int.sub_zero]⟩
  intro X a i hI ih
  obtain ⟨t, q1, q2, q3, q4, q5, q6⟩ := hI
  refine ⟨fun h => by omega, fun h => ⟨fun hn => ?_, fun hn => ?_⟩⟩
  · have : (n - i).toNat = 0 := by omega
    rw [this] at q6
    simp only [List.take_zero, List.flatten_nil, List.length_nil] at q6
    (refine Eq.mp (congrArg _ ?_) hQ; omega)
  · apply P_X2_sizeAt (by omega) (by omega) (by omega) (fun h9 => hby _ (by omega) (by omega))
    cases t with
    | nil =>
      simp only [List.take_nil, List.flatten_nil, List.length_nil] at q4 q6
      have e9 : a = 64 * p + (2 + pkd.length + es.flatten.length) := by omega
      rw [sA_end (fun h9 => by rw [e9]; exact h6 (by omega))]
      refine ⟨fun h9 => absurd rfl h9, fun _ => ?_⟩
      (refine Eq.mp (congrArg _ ?_) hQ; omega)
    | cons e t =>
      have he := eOK_len (q2 e List.mem_cons_self)
      rw [sA_hit (q2 e List.mem_cons_self) q3 (by omega)]
      have hn1 : (n - i).toNat = (n - (i + 1)).toNat + 1 := by omega
      rw [hn1] at q6
      simp only [List.take_succ_cons, List.flatten_cons, List.length_append, List.length_cons] at q4 q6 q1
      rw [List.flatten_cons, AL_app] at q3
      refine ⟨fun _ => ⟨inR_mk (by omega) (by omega), inR_mk (by omega) (by omega), ih _ _ ⟨t, ⟨by omega, by omega⟩, fun x hx => q2 x (List.mem_cons_of_mem _ hx), q3.2, by omega, by omega, by omega⟩ (by omega)⟩, fun h9 => by omega⟩
theorem P_X4_logEnd {r : Nat} {p : Int} {pkd : List Int} {es : List (List Int)} {Q : Int → Prop} {M : zMem} (hl : 661 ≤ alen r) (hB : Blk (M.2 r) p pkd es) (hby : ∀ j, 0 ≤ j → j < 640 → inR (M.2 r j)) (hQ : Q (64 * p + 2 + pkd.length + (es.flatten.length : Int))) : T_X4_logEnd r p Q M := by
  unfold T_X4_logEnd
  apply P_X4_placeBehind hl hB hby
  have := flat_len hB.2.2.2.2.1
  have := hB.2.2.2.1
  rw [List.take_of_length_le (by show es.length ≤ 64; omega)]
  exact hQ
theorem P_X4_entryCount {r : Nat} {p : Int} {pkd : List Int} {es : List (List Int)} {Q : Int → Prop} {M : zMem} (hl : 661 ≤ alen r) (hB : Blk (M.2 r) p pkd es) (hby : ∀ j, 0 ≤ j → j < 640 → inR (M.2 r j)) (hQ : Q es.length) : T_X4_entryCount r p Q M := by
  unfold T_X4_entryCount
  apply P_X4_logStart hl hB
  obtain ⟨h1, h2, h3, h4, h5, h6⟩ := hB
  refine ⟨inR_mk (by omega) (by omega), inR_mk (by omega) (by omega), ?_⟩
  unfold T_X4_entryCount_16
  have hA := (AL_app.mp h3).2
  have hfl := flat_len h5
  refine zp2_rule (fun a i => ∃ t : List (List Int), (0 ≤ i ∧ i + t.length = es.length) ∧ (∀ e ∈ t, eOK e) ∧ AL (M.2 r) a t.flatten ∧ a + t.flatten.length = 64 * p + (2 + pkd.length + es.flatten.length) ∧ 64 * p ≤ a) (fun a i => (64 - i).toNat) ?_ _ 0 ⟨es, ⟨by omega, by omega⟩, h5, hA, by omega, by omega⟩
  intro X a i hI ih
  obtain ⟨t, q1, q2, q3, q4, q5⟩ := hI
  refine ⟨fun h => by omega, fun h => ?_⟩
  apply P_X2_sizeAt (by omega) (by omega) (by omega) (fun h9 => hby _ (by omega) (by omega))
  cases t with
  | nil =>
    simp only [List.flatten_nil, List.length_nil] at q4 q1
    have e9 : a = 64 * p + (2 + pkd.length + es.flatten.length) := by omega
    rw [sA_end (fun h9 => by rw [e9]; exact h6 (by omega))]
    refine ⟨fun _ => ?_, fun h9 => by omega⟩
    (refine Eq.mp (congrArg _ ?_) hQ; omega)
  | cons e t =>
    have he := eOK_len (q2 e List.mem_cons_self)
    have ha0 : M.2 r a = gi e 0 := by
      have := q3 0 (by omega) (by simp only [List.flatten_cons, List.length_append]; omega)
      rw [Int.add_zero, List.flatten_cons, gi_app_l (by omega) (by omega)] at this
      exact this
    rw [sA_hit (q2 e List.mem_cons_self) q3 (by omega)]
    simp only [List.flatten_cons, List.length_append, List.length_cons] at q4 q1
    rw [List.flatten_cons, AL_app] at q3
    refine ⟨fun h9 => by omega, fun _ => ⟨⟨by omega, by omega⟩, ?_⟩⟩
    apply P_X2_sizeBy (hby _ (by omega) (by omega))
    rw [ha0, (q2 e List.mem_cons_self).1]
    exact ⟨inR_mk (by omega) (by omega), inR_mk (by omega) (by omega), ih _ _ ⟨t, ⟨by omega, by omega⟩, fun x hx => q2 x (List.mem_cons_of_mem _ hx), q3.2, by omega, by omega⟩ (by omega)⟩
