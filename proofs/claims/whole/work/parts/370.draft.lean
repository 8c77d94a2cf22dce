-- what is learned: padding, tries, failed, calm
def lrnS (rnd lim str ok p t f c : Int) : Int × Int × Int × Int :=
  if t + 1 < rnd then (p, t + 1, (if ok = 0 then f + 1 else f), c)
  else if (if ok = 0 then f + 1 else f) * 100 ≤ lim * (t + 1) then (if c + 1 < 3 then (p, 0, 0, c + 1) else (max 0 (p - str), 0, 0, 0))
  else (min 64 (p + str), 0, 0, 0)
def trmOK (g : Int → Int) : Prop := (0 ≤ g 0 ∧ g 0 ≤ 16) ∧ (1 ≤ g 1 ∧ g 1 ≤ 16) ∧ (0 ≤ g 2 ∧ g 2 ≤ 100) ∧ (1 ≤ g 3 ∧ g 3 ≤ 32) ∧ (1 ≤ g 4 ∧ g 4 ≤ 4)
def lrnOK (L : Int × Int × Int × Int) : Prop := (0 ≤ L.1 ∧ L.1 ≤ 64) ∧ (0 ≤ L.2.1 ∧ L.2.1 ≤ 15) ∧ (0 ≤ L.2.2.1 ∧ L.2.2.1 ≤ L.2.1) ∧ (0 ≤ L.2.2.2 ∧ L.2.2.2 ≤ 2)
def Lat (a : Int → Int) (off : Int) (L : Int × Int × Int × Int) : Prop := a off = L.1 ∧ a (off + 1) = L.2.1 ∧ a (off + 2) = L.2.2.1 ∧ a (off + 3) = L.2.2.2
theorem mul_b {a b : Int} (ha : 0 ≤ a ∧ a ≤ 100) (hb : 0 ≤ b ∧ b ≤ 16) : 0 ≤ a * b ∧ a * b ≤ 1600 := by
  refine ⟨Int.mul_nonneg ha.1 hb.1, ?_⟩
  have h1 : a * b ≤ 100 * b := Int.mul_le_mul_of_nonneg_right ha.2 hb.1
  omega
theorem lrnOK_S {g : Int → Int} {L : Int × Int × Int × Int} {ok : Int} (hg : trmOK g) (h : lrnOK L) : lrnOK (lrnS (g 1) (g 2) (g 3) ok L.1 L.2.1 L.2.2.1 L.2.2.2) := by
  obtain ⟨p, t, f, c⟩ := L
  obtain ⟨h1, h2, h3, h4⟩ := h
  obtain ⟨g0, g1, g2, g3, g4⟩ := hg
  dsimp only at h1 h2 h3 h4
  unfold lrnS
  dsimp only
  by_cases q : t + 1 < g 1
  · rw [if_pos q]
    refine ⟨h1, ⟨by dsimp only; omega, by dsimp only; omega⟩, ?_, h4⟩
    dsimp only
    split <;> omega
  · rw [if_neg q]
    by_cases q2 : (if ok = 0 then f + 1 else f) * 100 ≤ g 2 * (t + 1)
    · rw [if_pos q2]
      by_cases q3 : c + 1 < 3
      · rw [if_pos q3]
        exact ⟨h1, ⟨by dsimp only; omega, by dsimp only; omega⟩, ⟨by dsimp only; omega, by dsimp only; omega⟩, ⟨by dsimp only; omega, by dsimp only; omega⟩⟩
      · rw [if_neg q3]
        exact ⟨⟨by dsimp only; omega, by dsimp only; omega⟩, ⟨by dsimp only; omega, by dsimp only; omega⟩, ⟨by dsimp only; omega, by dsimp only; omega⟩, ⟨by dsimp only; omega, by dsimp only; omega⟩⟩
    · rw [if_neg q2]
      exact ⟨⟨by dsimp only; omega, by dsimp only; omega⟩, ⟨by dsimp only; omega, by dsimp only; omega⟩, ⟨by dsimp only; omega, by dsimp only; omega⟩, ⟨by dsimp only; omega, by dsimp only; omega⟩⟩
theorem up_ne4 {f : Int → Int} {i v j : Int} (h : j ≠ i) : upI f i v j = f j := if_neg h
theorem P_X1_learnFromTry {ok : Int} {L : Int × Int × Int × Int} {Q : zMem → Prop} {M : zMem} (hg : trmOK (M.2 133)) (hL : lrnOK L) (hA : Lat (M.2 129) 0 L) (hQ : ∀ M', Fr (fun k => k = 129) M M' → Lat (M'.2 129) 0 (lrnS (M.2 133 1) (M.2 133 2) (M.2 133 3) ok L.1 L.2.1 L.2.2.1 L.2.2.2) → Q M') : T_X1_learnFromTry ok Q M := by
  obtain ⟨p, t, f, c⟩ := L
  obtain ⟨h1, h2, h3, h4⟩ := hL
  obtain ⟨a0, a1, a2, a3⟩ := hA
  obtain ⟨g0, g1, g2, g3, g4⟩ := hg
  dsimp only at h1 h2 h3 h4 a0 a1 a2 a3 hQ
  have a1 : M.2 129 1 = t := a1
  have a2 : M.2 129 2 = f := a2
  have a3 : M.2 129 3 = c := a3
  have a0 : M.2 129 0 = p := a0
  have h109 : ∀ (p1 t1 f1 c1 : Int) (M1 : zMem), Fr (fun k => k = 129) M M1 → M1.2 129 0 = p1 → M1.2 129 3 = c1 → (-100 ≤ p1 ∧ p1 ≤ 100) → (∀ M', Fr (fun k => k = 129) M M' → Lat (M'.2 129) 0 (if c1 < 3 then (p1, 0, 0, c1) else (max 0 (p1 - M.2 133 3), 0, 0, 0)) → Q M') → T_X1_learnFromTry_109 Q M1 := by
    intro p1 t1 f1 c1 M1 hF e0 e3 hp hq
    have e133 : M1.2 133 = M.2 133 := hF.2 133 (by decide)
    unfold T_X1_learnFromTry_109
    rw [e3, e0, e133]
    refine ⟨⟨by omega, by omega⟩, fun hc => ⟨⟨by omega, by omega⟩, fun M2 hM2 => ⟨⟨by omega, by omega⟩, fun M3 hM3 => hq M3 (Fr_trans hF (Fr_trans (M' := M2) (by rw [hM2]; exact Fr_setA rfl) (by rw [hM3]; exact Fr_setA rfl))) ?_⟩⟩, fun hc => ⟨⟨by omega, by omega⟩, ⟨by omega, by omega⟩, inR_mk (by omega) (by omega), ⟨by omega, by omega⟩, fun M4 hM4 => ⟨⟨by omega, by omega⟩, fun M5 hM5 => ⟨⟨by omega, by omega⟩, fun M6 hM6 => ⟨⟨by omega, by omega⟩, fun M7 hM7 => hq M7 (Fr_trans hF (Fr_trans (M' := M4) (by rw [hM4]; exact Fr_setA rfl) (Fr_trans (M' := M5) (by rw [hM5]; exact Fr_setA rfl) (Fr_trans (M' := M6) (by rw [hM6]; exact Fr_setA rfl) (by rw [hM7]; exact Fr_setA rfl))))) ?_⟩⟩⟩⟩⟩
    · rw [if_pos hc]
      have e : M3.2 129 = upI (upI (M1.2 129) 1 0) 2 0 := by rw [hM3, setA_2, if_pos rfl, hM2, setA_2, if_pos rfl]
      rw [e]
      exact ⟨e0, rfl, rfl, e3⟩
    · rw [if_neg hc]
      have e : M7.2 129 = upI (upI (upI (upI (M1.2 129) 0 (max 0 (p1 - M.2 133 3))) 3 0) 1 0) 2 0 := by rw [hM7, setA_2, if_pos rfl, hM6, setA_2, if_pos rfl, hM5, setA_2, if_pos rfl, hM4, setA_2, if_pos rfl]
      rw [e]
      exact ⟨rfl, rfl, rfl, rfl⟩
  have h24 : ∀ (f1 : Int) (M1 : zMem), f1 = (if ok = 0 then f + 1 else f) → Fr (fun k => k = 129) M M1 → M1.2 129 0 = p → M1.2 129 1 = t + 1 → M1.2 129 2 = f1 → M1.2 129 3 = c → T_X1_learnFromTry_24 Q M1 := by
    intro f1 M1 hf1 hF e0 e1 e2 e3
    have e133 : M1.2 133 = M.2 133 := hF.2 133 (by decide)
    have hf1b : 0 ≤ f1 ∧ f1 ≤ 16 := by rw [hf1]; split <;> omega
    have hmul := mul_b g2 (b := t + 1) ⟨by omega, by omega⟩
    unfold lrnS at hQ
    rw [← hf1] at hQ
    unfold T_X1_learnFromTry_24
    rw [e133, e0, e1, e2, e3]
    refine ⟨⟨by omega, by omega⟩, ⟨by omega, by omega⟩, fun hr => ?_, fun hr => ?_⟩
    · rw [if_neg (by omega)] at hQ
      refine ⟨⟨by omega, by omega⟩, inR_mk (by omega) (by omega), ⟨by omega, by omega⟩, ⟨by omega, by omega⟩, inR_mk (by omega) (by omega), fun hm => ?_, fun hm => ?_⟩
      · rw [if_pos hm] at hQ
        refine ⟨⟨by omega, by omega⟩, inR_mk (by omega) (by omega), ⟨by omega, by omega⟩, fun M2 hM2 => ?_⟩
        refine h109 p 0 0 (c + 1) M2 (Fr_trans hF (by rw [hM2]; exact Fr_setA rfl)) ?_ ?_ (by omega) hQ
        · rw [hM2, setA_2, if_pos rfl, upI_ne (by decide)]; exact e0
        · rw [hM2, setA_2, if_pos rfl, upI_same]
      · rw [if_neg hm] at hQ
        refine ⟨⟨by omega, by omega⟩, ⟨by omega, by omega⟩, inR_mk (by omega) (by omega), ⟨by omega, by omega⟩, fun M2 hM2 => ⟨⟨by omega, by omega⟩, fun M3 hM3 => ?_⟩⟩
        refine h109 (min 64 (p + M.2 133 3)) 0 0 0 M3 (Fr_trans hF (Fr_trans (M' := M2) (by rw [hM2]; exact Fr_setA rfl) (by rw [hM3]; exact Fr_setA rfl))) ?_ ?_ (by omega) ?_
        · rw [hM3, setA_2, if_pos rfl, upI_ne (by decide), hM2, setA_2, if_pos rfl, upI_same]
        · rw [hM3, setA_2, if_pos rfl, upI_same]
        · rw [if_pos (by decide)]; exact hQ
    · rw [if_pos (by omega)] at hQ
      refine hQ M1 hF ?_
      exact ⟨e0, e1, e2, e3⟩
  unfold T_X1_learnFromTry
  rw [a1]
  refine ⟨⟨by omega, by omega⟩, inR_mk (by omega) (by omega), ⟨by omega, by omega⟩, fun M1 hM1 => ?_⟩
  have e12 : M1.2 129 2 = f := by rw [hM1, setA_2, if_pos rfl, upI_ne (by decide)]; exact a2
  have hF1 : Fr (fun k => k = 129) M M1 := by rw [hM1]; exact Fr_setA rfl
  rw [e12]
  refine ⟨fun hok => ?_, fun hok => ⟨⟨by omega, by omega⟩, inR_mk (by omega) (by omega), ⟨by omega, by omega⟩, fun M2 hM2 => ?_⟩⟩
  · refine h24 f M1 (by rw [if_neg hok]) hF1 ?_ ?_ e12 ?_
    · rw [hM1, setA_2, if_pos rfl, upI_ne (by decide)]; exact a0
    · rw [hM1, setA_2, if_pos rfl, upI_same]
    · rw [hM1, setA_2, if_pos rfl, upI_ne (by decide)]; exact a3
  · refine h24 (f + 1) M2 (by rw [if_pos hok]) (Fr_trans hF1 (by rw [hM2]; exact Fr_setA rfl)) ?_ ?_ ?_ ?_
    · rw [hM2, setA_2, if_pos rfl, upI_ne (by decide), hM1, setA_2, if_pos rfl, upI_ne (by decide)]; exact a0
    · rw [hM2, setA_2, if_pos rfl, upI_ne (by decide), hM1, setA_2, if_pos rfl, upI_same]
    · rw [hM2, setA_2, if_pos rfl, upI_same]
    · rw [hM2, setA_2, if_pos rfl, upI_ne (by decide), hM1, setA_2, if_pos rfl, upI_ne (by decide)]; exact a3
-- the block of a shape
def wB (f : Int → Int) (p : Int) (x : List Int) : Int → Int := fun j => if 64 * p ≤ j ∧ j < 64 * p + 64 then (if j = 64 * p then bf x else if j = 64 * p + 1 then ((shape x).length : Int) else gi (shape x) (j - (64 * p + 2))) else f j
theorem P_J7_fill4 {r : Nat} {a b v : Int} {Q : zMem → Prop} {M : zMem} (hl : 0 ≤ a ∧ a ≤ b ∧ b ≤ alen r ∧ 0 < alen r ∧ alen r ≤ 30000) (hQ : ∀ M', Fr (fun k => k = r) M M' → (∀ j, M'.2 r j = if a ≤ j ∧ j < b then v else M.2 r j) → Q M') : T_J7_fill_fda19 r a b v Q M := by
  unfold T_J7_fill_fda19 T_J7_rangeCheck_23922
  refine ⟨hl.2.2.2.1, fun _ => ⟨fun _ => ⟨fun _ => ?_, fun h => by omega⟩, fun h => by omega⟩, fun h => by omega⟩
  unfold T_J7_fill_fda19_10
  refine zl1_rule (fun i M1 => (a ≤ i ∧ i ≤ b) ∧ Fr (fun k => k = r) M M1 ∧ ∀ j, M1.2 r j = if a ≤ j ∧ j < i then v else M.2 r j) (fun i M1 => (b - i).toNat) ?_ _ M ⟨⟨by omega, by omega⟩, Fr_refl M, fun j => by rw [if_neg (by omega)]⟩
  intro X i M1 hI ih
  obtain ⟨h1, h2, h3⟩ := hI
  refine ⟨fun hi => hQ M1 h2 (fun j => ?_), fun hi => ⟨⟨by omega, by omega⟩, fun M2 hM2 => ⟨inR_mk (by omega) (by omega), ih _ _ ⟨⟨by omega, by omega⟩, Fr_trans h2 (by rw [hM2]; exact Fr_setA rfl), fun j => ?_⟩ (by omega)⟩⟩⟩
  · have e : i = b := by omega
    rw [h3 j, e]
  · rw [hM2, setA_2, if_pos rfl]
    by_cases q : j = i
    · rw [q, upI_same, if_pos (by omega)]
    · rw [upI_ne q, h3 j]
      by_cases q2 : a ≤ j ∧ j < i
      · rw [if_pos q2, if_pos (by omega)]
      · rw [if_neg q2, if_neg (by omega)]
theorem P_X1_writeBlock {p : Int} {x : List Int} {Q : zMem → Prop} {M : zMem} (hp : 0 ≤ p ∧ p < 10) (hs : M.1 135 = (shape x).length) (hs62 : (shape x).length ≤ 62) (hbf : M.1 259 = bf x) (hA : AL (M.2 256) 0 (shape x)) (hQ : ∀ M', Fr (fun k => k = 128 ∨ k = 130) M M' → (∀ j, M'.2 128 j = wB (M.2 128) p x j) → (∀ j, M'.2 130 j = if j = p then 1 else M.2 130 j) → Q M') : T_X1_writeBlock p Q M := by
  unfold T_X1_writeBlock
  have e64 : p * 64 = 64 * p := by omega
  have emin : min (M.1 135) 62 = (shape x).length := by omega
  rw [e64, emin]
  refine ⟨inR_mk (by omega) (by omega), inR_mk (by omega) (by omega), ?_⟩
  have hl : alen 128 = 661 := alen_128
  apply P_J7_fill4 (by omega)
  intro M1 hF1 h1
  refine ⟨⟨by omega, by omega⟩, fun M2 hM2 => ⟨inR_mk (by omega) (by omega), ⟨by omega, by omega⟩, fun M3 hM3 => ⟨inR_mk (by omega) (by omega), ⟨⟨by omega, by omega, by omega⟩, by omega, by omega, by omega, by omega⟩, fun M4 hM4 => ⟨⟨by omega, by omega⟩, fun M5 hM5 => hQ M5 ?_ (fun j => ?_) (fun j => ?_)⟩⟩⟩⟩
  · exact Fr_trans (Fr_mono hF1 (fun k h => Or.inl h)) (Fr_trans (M' := M2) (by rw [hM2]; exact Fr_setA (Or.inl rfl)) (Fr_trans (M' := M3) (by rw [hM3]; exact Fr_setA (Or.inl rfl)) (Fr_trans (M' := M4) (by rw [hM4]; exact Fr_putA (Or.inl rfl)) (by rw [hM5]; exact Fr_setA (Or.inr rfl)))))
  · have e259 : M1.1 259 = bf x := by rw [hF1.1 259 (by decide)]; exact hbf
    have e256 : M3.2 256 = M.2 256 := by rw [hM3, setA_2, if_neg (by decide), hM2, setA_2, if_neg (by decide)]; exact hF1.2 256 (by decide)
    rw [hM5, setA_2, if_neg (by decide), hM4, putA_2, if_pos rfl, e256]
    unfold cpA
    by_cases q : 64 * p + 2 ≤ j ∧ j < 64 * p + 2 + (shape x).length
    · rw [if_pos q]
      have := hA (j - (64 * p + 2)) (by omega) (by omega)
      rw [this]
      unfold wB
      rw [if_pos (by omega), if_neg (by omega), if_neg (by omega)]
    · rw [if_neg q, hM3, setA_2, if_pos rfl, hM2, setA_2, if_pos rfl, e259]
      unfold wB
      by_cases q1 : j = 64 * p + 1
      · rw [q1, upI_same, if_pos (by omega), if_neg (by omega), if_pos rfl]
      · rw [upI_ne q1]
        by_cases q2 : j = 64 * p
        · rw [q2, upI_same, if_pos (by omega), if_pos rfl]
        · rw [upI_ne q2, h1 j]
          by_cases q3 : 64 * p ≤ j ∧ j < 64 * p + 64
          · rw [if_pos q3, if_pos q3, if_neg q2, if_neg q1, gi_big (by omega)]
          · rw [if_neg q3, if_neg q3]
  · have e130 : M4.2 130 = M.2 130 := by rw [hM4, putA_2, if_neg (by decide), hM3, setA_2, if_neg (by decide), hM2, setA_2, if_neg (by decide)]; exact hF1.2 130 (by decide)
    rw [hM5, setA_2, if_pos rfl, e130]
    rfl
-- the directory
def rmD (f : Int → Int) (i : Int) : Int → Int := fun j => if j = 640 then f 640 - 1 else if 641 + 2 * i ≤ j ∧ j < 641 + 2 * (f 640 - 1) then f (j + 2) else f j
def inD (f : Int → Int) (i num fen : Int) : Int → Int := fun j => if j = 640 then f 640 + 1 else if j = 641 + 2 * i then num else if j = 642 + 2 * i then fen else if 643 + 2 * i ≤ j ∧ j < 643 + 2 * f 640 then f (j - 2) else f j
theorem P_X1_removeFromDirectory {i : Int} {Q : zMem → Prop} {M : zMem} (hu : 1 ≤ M.2 128 640 ∧ M.2 128 640 ≤ 10) (hi : 0 ≤ i ∧ i < M.2 128 640) (hQ : ∀ M', Fr (fun k => k = 128) M M' → (∀ j, M'.2 128 j = rmD (M.2 128) i j) → Q M') : T_X1_removeFromDirectory i Q M := by
  have hl : alen 128 = 661 := alen_128
  unfold T_X1_removeFromDirectory
  apply P_X4_inUse (by omega) (by omega)
  refine ⟨fun h => by omega, fun h => ⟨fun h2 => ⟨inR_mk (by omega) (by omega), inR_mk (by omega) (by omega), inR_mk (by omega) (by omega), inR_mk (by omega) (by omega), inR_mk (by omega) (by omega), inR_mk (by omega) (by omega), ⟨⟨by omega, by omega, by omega⟩, by omega, by omega, by omega, by omega⟩, fun M4 hM4 => ⟨inR_mk (by omega) (by omega), ⟨by omega, by omega⟩, fun M5 hM5 => hQ M5 ?_ (fun j => ?_)⟩⟩, fun h2 => absurd hi.2 h2⟩⟩
  · exact Fr_trans (M' := M4) (by rw [hM4]; exact Fr_putA rfl) (by rw [hM5]; exact Fr_setA rfl)
  · rw [hM5, setA_2, if_pos rfl, hM4, putA_2, if_pos rfl]
    unfold rmD
    by_cases q : j = 640
    · rw [q, upI_same, if_pos rfl]
    · rw [upI_ne q, if_neg q]
      unfold cpA
      by_cases q2 : 641 + 2 * i ≤ j ∧ j < 641 + 2 * (M.2 128 640 - 1)
      · rw [if_pos (by omega), if_pos q2]
        exact congrArg (M.2 128) (by omega)
      · rw [if_neg (by omega), if_neg q2]
theorem P_X1_insertIntoDirectory {i fen : Int} {Q : Int → zMem → Prop} {M : zMem} (hD : DirOK (M.2 128)) (hi : 1 ≤ i ∧ i ≤ M.2 128 640) (hQ0 : (M.2 128 640 = 10 ∨ IsLF (M.2 128) (-1)) → Q 0 M) (hQ1 : ∀ num, M.2 128 640 < 10 → 0 ≤ num → IsLF (M.2 128) num → ∀ M', Fr (fun k => k = 128) M M' → (∀ j, M'.2 128 j = inD (M.2 128) i num fen j) → Q 1 M') : T_X1_insertIntoDirectory i fen Q M := by
  have hl : alen 128 = 661 := alen_128
  have hu := hD.1
  unfold T_X1_insertIntoDirectory
  apply P_X4_inUse (by omega) (by omega)
  apply P_X4_lowestFree (by omega) hD
  intro num hnum
  refine ⟨fun h => hQ0 (Or.inr (by rw [← h]; exact hnum)), fun h => ⟨fun h2 => hQ0 (Or.inl (by omega)), fun h2 => ⟨fun h3 => by omega, fun h3 => ⟨fun h4 => ⟨inR_mk (by omega) (by omega), inR_mk (by omega) (by omega), inR_mk (by omega) (by omega), inR_mk (by omega) (by omega), inR_mk (by omega) (by omega), ⟨⟨by omega, by omega, by omega⟩, by omega, by omega, by omega, by omega⟩, fun M7 hM7 => ⟨⟨by omega, by omega⟩, fun M8 hM8 => ⟨inR_mk (by omega) (by omega), ⟨by omega, by omega⟩, fun M9 hM9 => ⟨inR_mk (by omega) (by omega), ⟨by omega, by omega⟩, fun M10 hM10 => hQ1 num (by omega) ?_ hnum M10 ?_ (fun j => ?_)⟩⟩⟩⟩, fun h4 => absurd hi.2 h4⟩⟩⟩⟩
  · rcases hnum with hn | hn
    · exact absurd hn.1 h
    · exact hn.1.1
  · exact Fr_trans (M' := M7) (by rw [hM7]; exact Fr_putA rfl) (Fr_trans (M' := M8) (by rw [hM8]; exact Fr_setA rfl) (Fr_trans (M' := M9) (by rw [hM9]; exact Fr_setA rfl) (by rw [hM10]; exact Fr_setA rfl)))
  · rw [hM10, setA_2, if_pos rfl, hM9, setA_2, if_pos rfl, hM8, setA_2, if_pos rfl, hM7, putA_2, if_pos rfl]
    unfold inD
    by_cases q : j = 640
    · rw [q, upI_same, if_pos rfl]
    · rw [upI_ne q, if_neg q]
      by_cases q1 : j = 642 + 2 * i
      · have e : 641 + 2 * i + 1 = j := by omega
        rw [e, upI_same, if_neg (by omega), if_pos q1]
      · rw [upI_ne (by omega)]
        by_cases q2 : j = 641 + 2 * i
        · rw [q2, upI_same, if_pos rfl]
        · rw [upI_ne q2, if_neg q2, if_neg q1]
          unfold cpA
          by_cases q3 : 643 + 2 * i ≤ j ∧ j < 643 + 2 * M.2 128 640
          · rw [if_pos (by omega), if_pos q3]
            exact congrArg (M.2 128) (by omega)
          · rw [if_neg (by omega), if_neg q3]
