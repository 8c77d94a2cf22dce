theorem jbL_mem {F : Int → Int} {w : Int × Int} : ∀ {ps : List Int} {a : Int}, w ∈ jbL F ps a ↔ ∃ (i : Nat) (p : Int), ps[i]? = some p ∧ (w = (a + 65 * i, p) ∨ ∃ k : Nat, k < 64 ∧ w = (a + 65 * i + 1 + k, F (64 * p + k)))
  | [], a => ⟨fun h => (by cases h), fun ⟨i, p, h, _⟩ => (by simp at h)⟩
  | q :: t, a => by
    show w ∈ (a, q) :: (cpL (a + 1) _ 64 ++ jbL F t (a + 65)) ↔ _
    rw [List.mem_cons, List.mem_append, jbL_mem (ps := t), cpL_mem]
    constructor
    · rintro (h | ⟨k, hk, h⟩ | ⟨i, p, h1, h2⟩)
      · exact ⟨0, q, rfl, Or.inl (by rw [h]; simp)⟩
      · exact ⟨0, q, rfl, Or.inr ⟨k, hk, by rw [h]; simp⟩⟩
      · refine ⟨i + 1, p, by simpa using h1, ?_⟩
        have e : a + 65 + 65 * (i : Int) = a + 65 * ((i + 1 : Nat) : Int) := by omega
        rw [e] at h2
        exact h2
    · rintro ⟨i, p, h1, h2⟩
      cases i with
      | zero =>
        have : q = p := by simpa using h1
        subst this
        rcases h2 with h2 | ⟨k, hk, h2⟩
        · exact Or.inl (by rw [h2]; simp)
        · exact Or.inr (Or.inl ⟨k, hk, by rw [h2]; simp⟩)
      | succ i =>
        refine Or.inr (Or.inr ⟨i, p, by simpa using h1, ?_⟩)
        have e : a + 65 + 65 * (i : Int) = a + 65 * ((i + 1 : Nat) : Int) := by omega
        rw [e]
        exact h2
theorem tjA_mem {F : Int → Int} {ps : List Int} {w : Int × Int} (h : w ∈ tjA F ps) : w = (662, (ps.length : Int)) ∨ (∃ (i : Nat) (p : Int), (i < ps.length ∧ ps[i]? = some p) ∧ (w = (663 + 65 * (i : Int), p) ∨ ∃ k : Nat, k < 64 ∧ w = (663 + 65 * (i : Int) + 1 + k, F (64 * p + k)))) ∨ ∃ k : Nat, k < dirN F ∧ w = (663 + 65 * (ps.length : Int) + k, F (640 + k)) := by
  unfold tjA at h
  rw [List.mem_append, List.mem_cons] at h
  rcases h with (h | h) | h
  · exact Or.inl h
  · obtain ⟨i, p, h1, h2⟩ := jbL_mem.mp h
    exact Or.inr (Or.inl ⟨i, p, ⟨(List.getElem?_eq_some_iff.mp h1).1, h1⟩, h2⟩)
  · exact Or.inr (Or.inr (cpL_mem.mp h))
theorem tjA_lo {F : Int → Int} {ps : List Int} {w : Int × Int} (h : w ∈ tjA F ps) : 662 ≤ w.1 := by
  rcases tjA_mem h with h | ⟨i, p, _, h | ⟨k, hk, h⟩⟩ | ⟨k, hk, h⟩ <;> rw [h] <;> dsimp only <;> omega
theorem JW_start {f F : Int → Int} {ps : List Int} (hF : WFz F) (hps : ∀ p ∈ ps, 0 ≤ p ∧ p < 10) (hl : ps.length ≤ 10) (h5 : ∀ j, 0 ≤ j → j < 661 → (∀ p ∈ ps, ¬ (64 * p ≤ j ∧ j < 64 * p + 64)) → ¬ (640 ≤ j ∧ j < 640 + dirN F) → f j = F j) : JW (apw f (tjA F ps ++ [(661, 1)])) F ps := by
  have hup : ∀ x, x ≠ 661 → apw f (tjA F ps ++ [(661, 1)]) x = apw f (tjA F ps) x := fun x hx => by rw [apw_snoc, upI_ne hx]
  have inA : ∀ w, (w = (662, (ps.length : Int)) ∨ w ∈ jbL F ps 663 ∨ w ∈ cpL (663 + 65 * ps.length) (fun k => F (640 + k)) (dirN F)) → w ∈ tjA F ps := by
    intro w h
    unfold tjA
    rw [List.mem_append, List.mem_cons]
    rcases h with h | h | h
    · exact Or.inl (Or.inl h)
    · exact Or.inl (Or.inr h)
    · exact Or.inr h
  refine ⟨by rw [apw_snoc, upI_same], ?_, fun i p hip => ⟨?_, fun k k0 k1 => ?_⟩, fun k k0 k1 => ?_, fun j j0 j1 j2 j3 => ?_, hF, hps, hl⟩
  · rw [hup _ (by omega)]
    refine apw_in (fun w hw e => ?_) ⟨_, inA _ (Or.inl rfl), rfl⟩
    rcases tjA_mem hw with h | ⟨i, p, hi, h | ⟨k, hk, h⟩⟩ | ⟨k, hk, h⟩
    · rw [h]
    all_goals (rw [h] at e; dsimp only at e; omega)
  · have hil := (List.getElem?_eq_some_iff.mp hip).1
    rw [hup _ (by omega)]
    refine apw_in (fun w hw e => ?_) ⟨_, inA _ (Or.inr (Or.inl (jbL_mem.mpr ⟨i, p, hip, Or.inl rfl⟩))), rfl⟩
    rcases tjA_mem hw with h | ⟨i', p', hi', h | ⟨k, hk, h⟩⟩ | ⟨k, hk, h⟩
    · rw [h] at e; dsimp only at e; omega
    · rw [h] at e ⊢
      dsimp only at e ⊢
      have : i' = i := by omega
      rw [this, hip] at hi'
      exact (Option.some.inj hi'.2).symm
    · rw [h] at e; dsimp only at e; omega
    · rw [h] at e; dsimp only at e; omega
  · have hil := (List.getElem?_eq_some_iff.mp hip).1
    obtain ⟨n, hn⟩ : ∃ n : Nat, k = n := ⟨k.toNat, by omega⟩
    subst hn
    rw [hup _ (by omega)]
    refine apw_in (fun w hw e => ?_) ⟨_, inA _ (Or.inr (Or.inl (jbL_mem.mpr ⟨i, p, hip, Or.inr ⟨n, by omega, rfl⟩⟩))), rfl⟩
    rcases tjA_mem hw with h | ⟨i', p', hi', h | ⟨k, hk, h⟩⟩ | ⟨k, hk, h⟩
    · rw [h] at e; dsimp only at e; omega
    · rw [h] at e; dsimp only at e; omega
    · rw [h] at e ⊢
      dsimp only at e ⊢
      have e1 : i' = i := by omega
      have e2 : k = n := by omega
      rw [e1, hip] at hi'
      rw [Option.some.inj hi'.2, e2]
    · rw [h] at e; dsimp only at e; omega
  · obtain ⟨n, hn⟩ : ∃ n : Nat, k = n := ⟨k.toNat, by omega⟩
    subst hn
    rw [hup _ (by omega)]
    refine apw_in (fun w hw e => ?_) ⟨_, inA _ (Or.inr (Or.inr (cpL_mem.mpr ⟨n, by omega, rfl⟩))), rfl⟩
    rcases tjA_mem hw with h | ⟨i', p', hi', h | ⟨k, hk, h⟩⟩ | ⟨k, hk, h⟩
    · rw [h] at e; dsimp only at e; omega
    · rw [h] at e; dsimp only at e; omega
    · rw [h] at e; dsimp only at e; omega
    · rw [h] at e ⊢
      dsimp only at e ⊢
      have e2 : k = n := by omega
      rw [e2]
  · rw [hup _ (by omega), apw_out]
    · exact h5 j j0 j1 j2 j3
    · intro w hw e
      have := tjA_lo hw
      omega
theorem take_mem {α : Type} {l : List α} {n : Nat} {x : α} (h : x ∈ l.take n) : x ∈ l := List.mem_of_mem_take h
theorem take_app3 {α : Type} (a b : List α) (n : Nat) : ((a ++ b).take n = a.take n ∧ n ≤ a.length) ∨ ∃ m, (a ++ b).take n = a ++ b.take m ∧ n = a.length + m := by
  by_cases h : n ≤ a.length
  · exact Or.inl ⟨List.take_append_of_le_length h, h⟩
  · refine Or.inr ⟨n - a.length, ?_, by omega⟩
    rw [List.take_append, List.take_of_length_le (by omega)]
-- through the journal, wholly or in part
theorem DOK_tj {f F : Int → Int} {ps : List Int} {n : Nat} (hW : WFz f) (h0 : f 661 = 0) (hF : WFz F) (hps : ∀ p ∈ ps, 0 ≤ p ∧ p < 10) (hl : ps.length ≤ 10) (h5 : ∀ j, 0 ≤ j → j < 661 → (∀ p ∈ ps, ¬ (64 * p ≤ j ∧ j < 64 * p + 64)) → ¬ (640 ≤ j ∧ j < 640 + dirN F) → f j = F j) :
    (n < (tj F ps).length → DOK (apw f ((tj F ps).take n)) 1) ∧ (DOK (apw f (tj F ps)) 0 ∧ agr (apw f (tj F ps)) F) := by
  have hlo : ∀ us : List (Int × Int), (∀ w ∈ us, 661 < w.1) → agr f (apw f us) ∧ apw f us 661 = 0 := by
    intro us hus
    refine ⟨fun j j0 j1 => ?_, ?_⟩
    · rw [apw_out (fun w hw e => by have := hus w hw; omega)]
    · rw [apw_out (fun w hw e => by have := hus w hw; omega)]; exact h0
  have hS := JW_start hF hps hl h5
  constructor
  · intro hn
    refine Or.inr ⟨rfl, ?_⟩
    unfold tj at hn ⊢
    have e1 : ((tjA F ps ++ [(661, 1)] ++ tjB F ps ++ [(661, 0)]).take n) = (tjA F ps ++ ([(661, 1)] ++ tjB F ps)).take n := by
      rw [List.take_append_of_le_length]
      · rw [List.append_assoc]
      · rw [List.length_append, List.length_cons, List.length_nil] at hn; omega
    rw [e1]
    rcases take_app3 (tjA F ps) ([(661, 1)] ++ tjB F ps) n with ⟨e, _⟩ | ⟨m, e, hm⟩
    · rw [e]
      have := hlo ((tjA F ps).take n) (fun w hw => by have := tjA_lo (take_mem hw); omega)
      exact Or.inl ⟨this.2, WFz_i (WFz_agr this.1 hW)⟩
    · rw [e]
      cases m with
      | zero =>
        rw [List.take_zero, List.append_nil]
        have := hlo (tjA F ps) (fun w hw => by have := tjA_lo hw; omega)
        exact Or.inl ⟨this.2, WFz_i (WFz_agr this.1 hW)⟩
      | succ m =>
        refine Or.inr ⟨F, ps, ?_⟩
        have : tjA F ps ++ ([(661, 1)] ++ tjB F ps).take (m + 1) = (tjA F ps ++ [(661, 1)]) ++ (tjB F ps).take m := by
          rw [List.append_assoc]; rfl
        rw [this, apw_app]
        exact JW_part hS (fun w hw => take_mem hw)
  · have hagr : agr (apw f (tj F ps)) F := by
      have h := JW_all (row := apw f (tjA F ps ++ [(661, 1)])) (F := F) (ps := ps) hS.2.2.2.2.1
      unfold tj
      rw [apw_snoc, apw_app]
      intro j j0 j1
      rw [upI_ne (by omega)]
      exact h j j0 j1
    refine ⟨Or.inl ⟨rfl, ?_, WFz_agr (agr_symm hagr) hF⟩, hagr⟩
    unfold tj
    rw [apw_snoc, upI_same]
theorem Pg_cong2 {f g : Int → Int} {p : Int} {pkd : List Int} {es : List (List Int)} {rs : RS} (h : ∀ j, 64 * p ≤ j → j ≤ 64 * p + (2 + pkd.length + es.flatten.length) → j < 64 * p + 64 → g j = f j) (hP : Pg f p pkd es rs) : Pg g p pkd es rs := by
  obtain ⟨⟨h1, h2, h3, h4, h5, h6⟩, b2, b3, b4, b5, b6⟩ := hP
  have e : g (64 * p) = f (64 * p) := h _ (by omega) (by omega) (by omega)
  refine ⟨⟨h1, ?_, fun j h0 hj => ?_, h4, h5, fun q => ?_⟩, by rw [e]; exact b2, b3, by rw [e]; exact b4, b5, b6⟩
  · rw [h _ (by omega) (by omega) (by omega)]; exact h2
  · rw [List.length_append] at hj
    rw [h _ (by omega) (by omega) (by omega)]; exact h3 j h0 (by rw [List.length_append]; omega)
  · rw [h _ (by omega) (by omega) (by omega)]; exact h6 q
theorem WFi_back {f row : Int → Int} (hD : DirOK f) (hdir : ∀ j, 640 ≤ j → j < 661 → row j = f j) (hb : bytesOK row) (hpg : ∀ i, 0 ≤ i → i < f 640 → ∃ pkd es rs, PgX f i pkd es rs ∧ ∀ j, 64 * f (641 + 2 * i) ≤ j → j ≤ 64 * f (641 + 2 * i) + (2 + pkd.length + es.flatten.length) → j < 64 * f (641 + 2 * i) + 64 → row j = f j) : WFi row := by
  have hu := hD.1
  have e640 := hdir 640 (by omega) (by omega)
  refine ⟨DirOK_congr hD hdir, hb, fun i h0 h1 => ?_⟩
  rw [e640] at h1
  obtain ⟨pkd, es, rs, hP, hj⟩ := hpg i h0 h1
  refine ⟨pkd, es, rs, ?_⟩
  have hh : hiF row i = hiF f i := by
    unfold hiF
    rw [e640]
    by_cases q : i + 1 < f 640
    · rw [if_pos q, if_pos q, hdir _ (by omega) (by omega)]
    · rw [if_neg q, if_neg q]
  unfold PgX at hP ⊢
  rw [hdir (641 + 2 * i) (by omega) (by omega), hdir (642 + 2 * i) (by omega) (by omega), hh]
  exact ⟨Pg_cong2 hj hP.1, hP.2⟩
theorem weL_mem {pl : Int} {e : List Int} {w : Int × Int} (he : 2 ≤ e.length) (h : w ∈ weL pl e) : (pl ≤ w.1 ∧ w.1 < pl + e.length) ∧ w.2 = gi e (w.1 - pl) := by
  unfold weL at h
  rw [List.mem_append] at h
  rcases h with h | h
  · obtain ⟨k, hk, q⟩ := cpL_mem.mp h
    rw [q]
    refine ⟨⟨by dsimp only; omega, by dsimp only; omega⟩, ?_⟩
    dsimp only
    congr 1; omega
  · rw [mem_single h]
    refine ⟨⟨by dsimp only; omega, by dsimp only; omega⟩, ?_⟩
    dsimp only
    congr 1; omega
theorem weL_hit {pl j : Int} {e : List Int} (he : 2 ≤ e.length) (h : pl ≤ j ∧ j < pl + e.length) : ∃ w ∈ weL pl e, w.1 = j := by
  unfold weL
  by_cases q : j = pl
  · exact ⟨(pl, gi e 0), List.mem_append_right _ (List.mem_singleton.mpr rfl), q.symm⟩
  · refine ⟨(pl + 1 + ((j - pl - 1).toNat : Int), gi e (1 + ((j - pl - 1).toNat : Int))), List.mem_append_left _ (cpL_mem.mpr ⟨(j - pl - 1).toNat, by omega, rfl⟩), ?_⟩
    dsimp only; omega
theorem apw_we {f : Int → Int} {pl : Int} {e : List Int} (he : 2 ≤ e.length) (j : Int) : apw f (weL pl e) j = lgF f pl e j := by
  unfold lgF
  by_cases q : pl ≤ j ∧ j < pl + e.length
  · rw [if_pos q]
    exact apw_in (fun w hw hx => by rw [(weL_mem he hw).2, hx]) (weL_hit he q)
  · rw [if_neg q]
    exact apw_out (fun w hw hx => q (by rw [← hx]; exact (weL_mem he hw).1))
-- an entry wholly or in part
theorem DOK_we {f : Int → Int} {i : Int} {pkd : List Int} {es : List (List Int)} {rs : RS} {e : List Int} {n : Nat} (hW : WFz f) (h0 : f 661 = 0) (hi : 0 ≤ i ∧ i < f 640) (hP : PgX f i pkd es rs) (he : eOK e) (hl : 2 + (pkd.length : Int) + es.flatten.length + e.length ≤ 64) (hZ : WFz (lgF f (64 * f (641 + 2 * i) + (2 + pkd.length + es.flatten.length)) e)) :
    (n < (weL (64 * f (641 + 2 * i) + (2 + pkd.length + es.flatten.length)) e).length → DOK (apw f ((weL (64 * f (641 + 2 * i) + (2 + pkd.length + es.flatten.length)) e).take n)) 1) ∧ DOK (apw f (weL (64 * f (641 + 2 * i) + (2 + pkd.length + es.flatten.length)) e)) 0 := by
  have hel := eOK_len he
  have hp := hP.1.1.1
  have hu := hW.1.1
  obtain ⟨p, hpp⟩ : ∃ p, p = f (641 + 2 * i) := ⟨_, rfl⟩
  rw [← hpp] at hp hZ ⊢
  obtain ⟨pl, hpl⟩ : ∃ pl, pl = 64 * p + (2 + (pkd.length : Int) + es.flatten.length) := ⟨_, rfl⟩
  rw [← hpl] at hZ ⊢
  constructor
  · intro hn
    refine Or.inr ⟨rfl, Or.inl ?_⟩
    have hsub : ∀ w ∈ (weL pl e).take n, (pl + 1 ≤ w.1 ∧ w.1 < pl + e.length) ∧ w.2 = gi e (w.1 - pl) := by
      intro w hw
      have h1 := weL_mem hel.1 (take_mem hw)
      refine ⟨⟨?_, h1.1.2⟩, h1.2⟩
      unfold weL at hn hw
      rw [List.length_append, cpL_len, List.length_cons, List.length_nil] at hn
      rw [List.take_append_of_le_length (by rw [cpL_len]; omega)] at hw
      obtain ⟨k, hk, q⟩ := cpL_mem.mp (take_mem hw)
      rw [q]; dsimp only; omega
    have hout : ∀ j, (j < pl + 1 ∨ pl + e.length ≤ j) → apw f ((weL pl e).take n) j = f j := fun j hj => apw_out (fun w hw q => by have := (hsub w hw).1; omega)
    refine ⟨by rw [hout _ (by omega)]; exact h0, WFi_back (f := f) hW.1 (fun j a b => hout j (by omega)) (fun j a b => ?_) (fun k k0 k1 => ?_)⟩
    · rcases apw_or (f := f) (g := fun j => gi e (j - pl)) (x := j) (ws := (weL pl e).take n) (fun w hw q => by rw [(hsub w hw).2, q]) with h | h
      · rw [h]; exact hW.2.1 j a b
      · rw [h]; exact allB_gi he.2.2 _
    · by_cases q : k = i
      · subst q
        refine ⟨pkd, es, rs, hP, fun j j0 j1 j2 => ?_⟩
        rw [← hpp] at j0 j1 j2
        exact hout j (by omega)
      · obtain ⟨pkd', es', rs', hP'⟩ := (WFz_i hW).2.2 k k0 k1
        refine ⟨pkd', es', rs', hP', fun j j0 j1 j2 => ?_⟩
        have hne : f (641 + 2 * k) ≠ p := by
          rw [hpp]
          rcases Int.lt_or_gt_of_ne q with q | q
          · exact hW.1.2.2.1 k i k0 q hi.2
          · exact fun h => hW.1.2.2.1 i k hi.1 q k1 h.symm
        exact hout j (by omega)
  · refine Or.inl ⟨rfl, ?_, ?_⟩
    · rw [apw_we hel.1]
      unfold lgF
      rw [if_neg (by omega)]; exact h0
    · rw [funext (apw_we hel.1)]; exact hZ
