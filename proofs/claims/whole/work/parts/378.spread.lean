abbrev RS : Type := List (Int × List Int)
def halfT (rs : RS) : RS := rs.take (rs.length / 2)
def halfD (rs : RS) : RS := rs.drop (rs.length / 2)
def spG (g : Int → Int) : Nat → List RS → Lrn → List RS → List RS × Lrn
  | 0, _, L, acc => (acc, L)
  | _ + 1, [], L, acc => (acc, L)
  | n + 1, rs :: st, L, acc =>
    if 1 < rs.length ∧ 120 - L.1 < ((plain rs).length : Int) then spG g n (halfT rs :: halfD rs :: st) L acc
    else if fitS rs (g 0) = 1 then spG g n st (lrnG g 1 L) (acc ++ [rs])
    else spG g n (halfT rs :: halfD rs :: st) (lrnG g 0 L) acc
def smu : List RS → Nat
  | [] => 0
  | rs :: t => (2 * max rs.length 1 - 1) + smu t
theorem half_len (rs : RS) : (halfT rs).length = rs.length / 2 ∧ (halfD rs).length = rs.length - rs.length / 2 := by
  unfold halfT halfD
  rw [List.length_take, List.length_drop]
  omega
theorem half_app (rs : RS) : halfT rs ++ halfD rs = rs := List.take_append_drop _ _
theorem smu_split (rs : RS) (st : List RS) (h : 1 < rs.length) : smu (halfT rs :: halfD rs :: st) + 1 ≤ smu (rs :: st) := by
  have := half_len rs
  have e1 : smu (halfT rs :: halfD rs :: st) = (2 * max (halfT rs).length 1 - 1) + ((2 * max (halfD rs).length 1 - 1) + smu st) := rfl
  have e2 : smu (rs :: st) = (2 * max rs.length 1 - 1) + smu st := rfl
  omega
theorem smu_pop (rs : RS) (st : List RS) : smu st + 1 ≤ smu (rs :: st) := by
  have : smu (rs :: st) = (2 * max rs.length 1 - 1) + smu st := rfl
  omega
theorem spG_nil (g : Int → Int) (n : Nat) (L : Lrn) (acc : List RS) : spG g n [] L acc = (acc, L) := by cases n <;> rfl
theorem spG_big {g : Int → Int} {n : Nat} {rs : RS} {st : List RS} {L : Lrn} {acc : List RS} (h : bigS rs L) : spG g (n + 1) (rs :: st) L acc = spG g n (halfT rs :: halfD rs :: st) L acc := by
  unfold bigS at h
  rw [spG, if_pos h]
theorem spG_fit {g : Int → Int} {n : Nat} {rs : RS} {st : List RS} {L : Lrn} {acc : List RS} (h : ¬ bigS rs L) (hf : fitS rs (g 0) = 1) : spG g (n + 1) (rs :: st) L acc = spG g n st (lrnG g 1 L) (acc ++ [rs]) := by
  unfold bigS at h
  rw [spG, if_neg h, if_pos hf]
theorem spG_not {g : Int → Int} {n : Nat} {rs : RS} {st : List RS} {L : Lrn} {acc : List RS} (h : ¬ bigS rs L) (hf : fitS rs (g 0) = 0) : spG g (n + 1) (rs :: st) L acc = spG g n (halfT rs :: halfD rs :: st) (lrnG g 0 L) acc := by
  unfold bigS at h
  rw [spG, if_neg h, if_neg (by omega)]
theorem fit0_len {rs : RS} {res : Int} (h : fitS rs res = 0) : 1 < rs.length := by
  unfold fitS at h
  by_cases q : rs.length ≤ 1
  · rw [if_pos q] at h; omega
  · omega
def partOK (g : Int → Int) (rs : RS) : Prop := rs.length ≤ 1 ∨ (2 + ((shape (plain rs)).length : Int) + g 0 ≤ 64 ∧ (plain rs).length ≤ 120)
theorem partOK_of {g : Int → Int} {rs : RS} {L : Lrn} (hL : lrnOK L) (h : ¬ bigS rs L) (hf : fitS rs (g 0) = 1) : partOK g rs := by
  unfold partOK
  by_cases q : rs.length ≤ 1
  · exact Or.inl q
  · refine Or.inr ?_
    unfold bigS at h
    unfold fitS at hf
    rw [if_neg q] at hf
    have := hL.1
    by_cases q2 : 2 + ((shape (plain rs)).length : Int) + g 0 ≤ 64
    · exact ⟨q2, by omega⟩
    · rw [if_neg q2] at hf; omega
theorem spG_all {g : Int → Int} (hg : trmOK g) : ∀ (n : Nat) (st : List RS) (L : Lrn) (acc : List RS), smu st ≤ n → lrnOK L → ∃ rest, (spG g n st L acc).1 = acc ++ rest ∧ rest.flatten = st.flatten ∧ ((∀ rs ∈ st, rs ≠ []) → ∀ rs ∈ rest, rs ≠ []) ∧ (∀ rs ∈ rest, partOK g rs) ∧ lrnOK (spG g n st L acc).2
  | n, [], L, acc, h, hL => by
    rw [spG_nil]
    exact ⟨[], by simp, rfl, fun _ rs h => (by cases h), fun rs h => (by cases h), hL⟩
  | 0, rs :: st, L, acc, h, hL => by have := smu_pop rs st; omega
  | n + 1, rs :: st, L, acc, h, hL => by
    have split : ∀ L2, lrnOK L2 → 1 < rs.length → ∃ rest, (spG g n (halfT rs :: halfD rs :: st) L2 acc).1 = acc ++ rest ∧ rest.flatten = (rs :: st).flatten ∧ ((∀ x ∈ rs :: st, x ≠ []) → ∀ x ∈ rest, x ≠ []) ∧ (∀ x ∈ rest, partOK g x) ∧ lrnOK (spG g n (halfT rs :: halfD rs :: st) L2 acc).2 := by
      intro L2 hL2 hlen
      have hsp := smu_split rs st hlen
      have hh := half_len rs
      obtain ⟨rest, e1, e2, e3, e4, e5⟩ := spG_all hg n (halfT rs :: halfD rs :: st) L2 acc (by omega) hL2
      refine ⟨rest, e1, ?_, fun hne => e3 (fun x hx => ?_), e4, e5⟩
      · rw [e2, List.flatten_cons, List.flatten_cons, List.flatten_cons, ← List.append_assoc, half_app]
      · rw [List.mem_cons, List.mem_cons] at hx
        rcases hx with hx | hx | hx
        · rw [hx]; intro e; rw [e] at hh; simp at hh; omega
        · rw [hx]; intro e; rw [e] at hh; simp at hh; omega
        · exact hne x (List.mem_cons_of_mem _ hx)
    by_cases hb : bigS rs L
    · rw [spG_big hb]
      exact split L hL hb.1
    · rcases fitS_01 rs (g 0) with hf | hf
      · rw [spG_not hb hf]
        exact split _ (lrnOK_S hg hL) (fit0_len hf)
      · rw [spG_fit hb hf]
        have hp := smu_pop rs st
        obtain ⟨rest, e1, e2, e3, e4, e5⟩ := spG_all hg n st (lrnG g 1 L) (acc ++ [rs]) (by omega) (lrnOK_S hg hL)
        refine ⟨rs :: rest, by rw [e1, List.append_assoc]; rfl, by rw [List.flatten_cons, List.flatten_cons, e2], fun hne x hx => ?_, fun x hx => ?_, e5⟩
        · rw [List.mem_cons] at hx
          rcases hx with hx | hx
          · rw [hx]; exact hne rs List.mem_cons_self
          · exact e3 (fun y hy => hne y (List.mem_cons_of_mem _ hy)) x hx
        · rw [List.mem_cons] at hx
          rcases hx with hx | hx
          · rw [hx]; exact partOK_of hL hb hf
          · exact e4 x hx
-- pages written
noncomputable def pgN (f : Int → Int) (i : Int) (k : Nat) : Int := if k = 0 then f (641 + 2 * i) else lfN f
noncomputable def wr1 (f : Int → Int) (i : Int) (k : Nat) (rs : RS) : Int → Int := if k = 0 then wB f (f (641 + 2 * i)) (plain rs) else wB (inD f (i + k) (lfN f) (lowK rs)) (lfN f) (plain rs)
noncomputable def spW (f : Int → Int) (i : Int) : Nat → List RS → (Int → Int)
  | _, [] => f
  | k, rs :: t => spW (wr1 f i k rs) i (k + 1) t
noncomputable def spP (f : Int → Int) (i : Int) : Nat → List RS → List Int
  | _, [] => []
  | k, rs :: t => pgN f i k :: spP (wr1 f i k rs) i (k + 1) t
theorem spW_snoc (i : Int) : ∀ (a : List RS) (k : Nat) (f : Int → Int) (rs : RS), spW f i k (a ++ [rs]) = wr1 (spW f i k a) i (k + a.length) rs
  | [], k, f, rs => rfl
  | x :: t, k, f, rs => by
    rw [List.cons_append, spW, spW_snoc i t (k + 1) _ rs, spW]
    congr 1
    rw [List.length_cons]; omega
theorem spP_snoc (i : Int) : ∀ (a : List RS) (k : Nat) (f : Int → Int) (rs : RS), spP f i k (a ++ [rs]) = spP f i k a ++ [pgN (spW f i k a) i (k + a.length)]
  | [], k, f, rs => rfl
  | x :: t, k, f, rs => by
    rw [List.cons_append, spP, spP_snoc i t (k + 1) _ rs, spP, spW, List.cons_append]
    congr 4
    rw [List.length_cons]; omega
-- keys rise
def keysIn (lo hi : Int) (rs : RS) : Prop := ∀ p ∈ rs, lo ≤ p.1 ∧ p.1 < hi
def sorted : RS → Prop
  | [] => True
  | p :: t => (∀ q ∈ t, p.1 < q.1) ∧ sorted t
theorem sorted_app {a b : RS} (h : sorted (a ++ b)) : sorted a ∧ sorted b ∧ ∀ p ∈ a, ∀ q ∈ b, p.1 < q.1 := by
  induction a with
  | nil => exact ⟨trivial, h, fun p hp => by cases hp⟩
  | cons x t ih =>
    obtain ⟨h1, h2⟩ := h
    obtain ⟨i1, i2, i3⟩ := ih h2
    refine ⟨⟨fun q hq => h1 q (List.mem_append_left _ hq), i1⟩, i2, fun p hp q hq => ?_⟩
    rw [List.mem_cons] at hp
    rcases hp with hp | hp
    · rw [hp]; exact h1 q (List.mem_append_right _ hq)
    · exact i3 p hp q hq
theorem rl_keys (r : Rec) : ∀ (n : Nat) (low : Int), keysIn low (low + n) (rl r low n) ∧ sorted (rl r low n)
  | 0, _ => ⟨fun p hp => (by cases hp), trivial⟩
  | n + 1, low => by
    obtain ⟨h1, h2⟩ := rl_keys r n (low + 1)
    cases hr : r low with
    | none =>
      rw [rl, one_none hr]
      exact ⟨fun p hp => (by have := h1 p hp; omega), h2⟩
    | some v =>
      rw [rl, one_some hr]
      refine ⟨fun p hp => ?_, fun q hq => ?_, h2⟩
      · rw [List.singleton_append, List.mem_cons] at hp
        rcases hp with hp | hp
        · rw [hp]; dsimp only; omega
        · have := h1 p hp; omega
      · have := h1 q hq; dsimp only; omega
theorem lowK_mem {rs : RS} (h : rs ≠ []) : ∃ p ∈ rs, lowK rs = p.1 := by
  cases rs with
  | nil => exact absurd rfl h
  | cons p t => exact ⟨p, List.mem_cons_self, rfl⟩
-- the directory behind k pages
theorem snocI {α : Type} {P : List α → Prop} (h0 : P []) (h1 : ∀ a x, P a → P (a ++ [x])) (l : List α) : P l := by
  have h : ∀ m : List α, P m.reverse := by
    intro m
    induction m with
    | nil => exact h0
    | cons x t ih => rw [List.reverse_cons]; exact h1 _ _ ih
  have := h l.reverse
  rw [List.reverse_reverse] at this
  exact this
theorem spW_dir {f0 : Int → Int} {i lo hi : Int} (hD : DirOK f0) (hi0 : 0 ≤ i ∧ i < f0 640) (hlo : f0 (642 + 2 * i) = lo) (hhi : (i + 1 < f0 640 → f0 (642 + 2 * (i + 1)) = hi) ∧ hi ≤ 256) : ∀ (acc : List RS), acc ≠ [] → (∀ rs ∈ acc, rs ≠ []) ∨ acc.length = 1 → sorted acc.flatten → keysIn lo hi acc.flatten → f0 640 + acc.length - 1 ≤ 10 → DirOK (spW f0 i 0 acc) ∧ spW f0 i 0 acc 640 = f0 640 + acc.length - 1 ∧ (i + 1 < f0 640 → spW f0 i 0 acc (642 + 2 * (i + acc.length)) = hi) ∧ (∀ rs ∈ acc.getLast?, (acc.length = 1 ∧ spW f0 i 0 acc (642 + 2 * i) = lo) ∨ (rs ≠ [] ∧ spW f0 i 0 acc (642 + 2 * (i + acc.length - 1)) = lowK rs)) := by
  intro acc
  induction acc using snocI with
  | h0 => intro h; exact absurd rfl h
  | h1 a rs ih =>
    intro _ hne hs hk hu
    have hp0 := hD.2.1 i hi0.1 hi0.2
    by_cases ha : a = []
    · subst ha
      have e : spW f0 i 0 ([] ++ [rs]) = wB f0 (f0 (641 + 2 * i)) (plain rs) := by
        show wr1 f0 i 0 rs = _
        unfold wr1; rw [if_pos rfl]
      have hl : ([] ++ [rs] : List RS).length = 1 := rfl
      rw [e, hl]
      refine ⟨DirOK_wB hp0 hD, ?_, fun h => ?_, fun x _ => Or.inl ⟨rfl, ?_⟩⟩
      · rw [wB_dir hp0 (by omega)]; omega
      · rw [wB_dir hp0 (by omega)]; exact hhi.1 h
      · rw [wB_dir hp0 (by omega)]; exact hlo
    · have hal : 1 ≤ a.length := by cases a with
        | nil => exact absurd rfl ha
        | cons x t => simp
      rw [List.length_append] at hu hne
      simp only [List.length_cons, List.length_nil] at hu hne
      have hne1 := hne.resolve_right (by omega)
      rw [List.flatten_append, List.flatten_cons, List.flatten_nil, List.append_nil] at hs hk
      obtain ⟨s1, s2, s3⟩ := sorted_app hs
      obtain ⟨j1, j2, j3, j4⟩ := ih ha (Or.inl (fun x hx => hne1 x (List.mem_append_left _ hx))) s1 (fun p hp => hk p (List.mem_append_left _ hp)) (by omega)
      have hrs : rs ≠ [] := hne1 rs (List.mem_append_right _ List.mem_cons_self)
      obtain ⟨p, hp, hpk⟩ := lowK_mem hrs
      have hkp := hk p (List.mem_append_right _ hp)
      rw [spW_snoc, Nat.zero_add]
      obtain ⟨F, hF⟩ : ∃ F, F = spW f0 i 0 a := ⟨_, rfl⟩
      rw [← hF] at j1 j2 j3 j4 ⊢
      have hlf := lfN_ok j1 (by omega)
      have ew : wr1 F i a.length rs = wB (inD F (i + a.length) (lfN F) (lowK rs)) (lfN F) (plain rs) := by
        unfold wr1; rw [if_neg (by omega)]
      have hlast : F (642 + 2 * (i + a.length - 1)) < lowK rs := by
        obtain ⟨x, hx⟩ : ∃ x, a.getLast? = some x := by
          cases hgl : a.getLast? with
          | none => rw [List.getLast?_eq_none_iff] at hgl; exact absurd hgl ha
          | some x => exact ⟨x, rfl⟩
        have hxm : x ∈ a := List.mem_of_getLast? hx
        obtain ⟨q, hq, hqk⟩ := lowK_mem (hne1 x (List.mem_append_left _ hxm))
        have hqf : q ∈ a.flatten := List.mem_flatten.mpr ⟨x, hxm, hq⟩
        have hlt := s3 q hqf p hp
        have hqlo := hk q (List.mem_append_left _ hqf)
        rcases j4 x hx with ⟨w1, w2⟩ | ⟨w1, w2⟩
        · have e : 642 + 2 * (i + (a.length : Int) - 1) = 642 + 2 * i := by omega
          rw [e, w2, hpk]; omega
        · rw [w2, hqk, hpk]; exact hlt
      have hDi : DirOK (inD F (i + a.length) (lfN F) (lowK rs)) := DirOK_in j1 (by omega) (by omega) hlf.1 hlf.2.2 hlast (fun h => by rw [j3 (by omega), hpk]; exact hkp.2) (by rw [hpk]; have := hhi.2; omega)
      have hn := inD_new (f := F) (m := i + a.length) (num := lfN F) (fen := lowK rs) (by omega)
      rw [ew, List.length_append]
      simp only [List.length_cons, List.length_nil]
      refine ⟨DirOK_wB hlf.1 hDi, ?_, fun h => ?_, fun x hx => Or.inr ?_⟩
      · rw [wB_dir hlf.1 (by omega), hn.2.2]; omega
      · rw [wB_dir hlf.1 (by omega)]
        have e : 642 + 2 * (i + ((a.length + (0 + 1) : Nat) : Int)) = 642 + 2 * (i + a.length + 1) := by omega
        rw [e, (inD_past (by omega) (by omega)).2]
        have e2 : i + (a.length : Int) + 1 - 1 = i + a.length := by omega
        rw [e2]; exact j3 h
      · have hx2 : x = rs := by simpa using hx.symm
        rw [hx2]
        refine ⟨hrs, ?_⟩
        rw [wB_dir hlf.1 (by omega)]
        have e : 642 + 2 * (i + ((a.length + (0 + 1) : Nat) : Int) - 1) = 642 + 2 * (i + a.length) := by omega
        rw [e]; exact hn.2.1
