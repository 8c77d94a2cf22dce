theorem plain_b {rs : List (Int × List Int)} (h : rsOK rs) : allB (plain rs) := by
  induction rs with
  | nil => exact allB_nil
  | cons p t ih =>
    have hp := h p List.mem_cons_self
    rw [plain_cons, allB_app]
    refine ⟨?_, ih (fun q hq => h q (List.mem_cons_of_mem _ hq))⟩
    unfold pl1
    rw [allB_cons, allB_cons]
    exact ⟨by omega, by omega, hp.2.2⟩
theorem rl_ok {r : Rec} (hR : RecOK r) : ∀ (n : Nat) (low : Int), rsOK (rl r low n)
  | 0, _ => fun p hp => by cases hp
  | n + 1, low => by
    intro p hp
    rw [rl, List.mem_append] at hp
    rcases hp with hp | hp
    · cases hr : r low with
      | none => rw [one_none hr] at hp; cases hp
      | some v =>
        rw [one_some hr, List.mem_singleton] at hp
        rw [hp]
        exact hR low v hr
    · exact rl_ok hR n (low + 1) p hp
theorem rI_ok {r : Rec} (hR : RecOK r) (low high : Int) : rsOK (rI r low high) := rl_ok hR _ _
theorem plain_small {rs : List (Int × List Int)} (h : rsOK rs) (hl : rs.length ≤ 1) : (plain rs).length ≤ 10 := by
  cases rs with
  | nil => simp [plain_nil]
  | cons p t =>
    cases t with
    | nil =>
      have := (h p List.mem_cons_self).2.1
      rw [plain_one, pl1_len]; omega
    | cons q t => simp only [List.length_cons] at hl; omega
theorem shape_len (x : List Int) : ((shape x).length : Int) ≤ x.length + x.length / 128 + 1 := pk_len x (bf x)
abbrev Lrn : Type := Int × Int × Int × Int
abbrev lrnG (g : Int → Int) (ok : Int) (L : Lrn) : Lrn := lrnS (g 1) (g 2) (g 3) ok L.1 L.2.1 L.2.2.1 L.2.2.2
def bigS (rs : List (Int × List Int)) (L : Lrn) : Prop := 1 < rs.length ∧ 120 - L.1 < (plain rs).length
def fitS (rs : List (Int × List Int)) (res : Int) : Int := if rs.length ≤ 1 then 1 else if 2 + (shape (plain rs)).length + res ≤ 64 then 1 else 0
def fTy : Nat → Prop := fun k => k = 193 ∨ fPb 4 k ∨ k = 135 ∨ k = 129
theorem P_X1_full {L : Lrn} {Q : Int → Prop} {M : zMem} (hL : lrnOK L) (hA : Lat (M.2 129) 0 L) (hQ : Q (120 - L.1)) : T_X1_full Q M := by
  unfold T_X1_full
  have e : M.2 129 0 = L.1 := hA.1
  have := hL.1
  rw [e]
  exact ⟨⟨by omega, by omega⟩, inR_mk (by omega) (by omega), hQ⟩
theorem P_X1_fitsWith {n : Int} {Q : Int → Prop} {M : zMem} (hg : trmOK (M.2 133)) (hn : 0 ≤ n ∧ n ≤ 1000) (hQ1 : 2 + n + M.2 133 0 ≤ 64 → Q 1) (hQ0 : ¬ 2 + n + M.2 133 0 ≤ 64 → Q 0) : T_X1_fitsWith n Q M := by
  unfold T_X1_fitsWith
  have := hg.1
  exact ⟨inR_mk (by omega) (by omega), ⟨by omega, by omega⟩, inR_mk (by omega) (by omega), fun h => hQ0 (by omega), fun h => hQ1 (by omega)⟩
theorem P_X1_tryShape {low high : Int} {r : Rec} {L : Lrn} {Q : Int → zMem → Prop} {M : zMem} (hT : tabC 3 M r) (hR : RecOK r) (h : 0 ≤ low ∧ low ≤ high ∧ high ≤ 256) (h4 : (plain (rI r low high)).length ≤ 400) (hg : trmOK (M.2 133)) (hL : lrnOK L) (hA : Lat (M.2 129) 0 L) (hQb : bigS (rI r low high) L → Q 0 M) (hQt : ¬ bigS (rI r low high) L → ∀ M', Fr fTy M M' → Lat (M'.2 129) 0 (lrnG (M.2 133) (fitS (rI r low high) (M.2 133 0)) L) → AL (M'.2 256) 0 (shape (plain (rI r low high))) → M'.1 135 = (shape (plain (rI r low high))).length → M'.1 259 = bf (plain (rI r low high)) → Q (fitS (rI r low high) (M.2 133 0)) M') : T_X1_tryShape low high Q M := by
  obtain ⟨rs, hrs⟩ : ∃ rs, rs = rI r low high := ⟨_, rfl⟩
  have hok := rI_ok hR low high
  have hb : allB (plain rs) := by rw [hrs]; exact plain_b hok
  have hsl := shape_len (plain rs)
  rw [← hrs] at h4 hQb hQt hok
  have h41 : ∀ c : Int, (c = 1 ∧ rs.length ≤ 1) ∨ (c = 0 ∧ 1 < rs.length) → ¬ bigS rs L → T_X1_tryShape_41 low high c Q M := by
    intro c hc hnb
    have hQt := hQt hnb
    unfold T_X1_tryShape_41
    apply P_X8_layOut hT hR h (by rw [← hrs]; exact h4)
    rw [← hrs]
    intro M1 hF1 hA1
    have h193 : alen 193 = 400 := alen_193
    apply P_X6_packBest (r := 193) (Or.inl rfl) hA1 rfl (by omega) (by omega) (by unfold fPk; decide) hb
    intro M2 hF2 hA2 hb2 M5 hM5
    have hF5 : Fr fTy M M5 := Fr_trans (Fr_mono hF1 (fun k h => Or.inl h)) (Fr_trans (Fr_mono hF2 (fun k h => Or.inr (Or.inl h))) (by rw [hM5]; exact Fr_setS (Or.inr (Or.inr (Or.inl rfl)))))
    have n129 : ¬ (fun k => k = 64 * 3 + 1) 129 := by decide
    have n133 : ¬ fTy 133 := by unfold fTy fPb fPk; decide
    have e129 : M5.2 129 = M.2 129 := by rw [hM5, setS_2, hF2.2 129 (by unfold fPb fPk; decide)]; exact hF1.2 129 (by decide)
    have e133 : M5.2 133 = M.2 133 := hF5.2 133 n133
    have e135 : M5.1 135 = (shape (plain rs)).length := by rw [hM5, setS_1, if_pos rfl]
    have e259 : M5.1 259 = bf (plain rs) := by rw [hM5, setS_1, if_neg (by decide)]; exact hb2
    have e256 : AL (M5.2 256) 0 (shape (plain rs)) := by rw [hM5, setS_2]; exact hA2
    have fin : ∀ ok, ok = fitS rs (M.2 133 0) → T_X1_learnFromTry ok (fun M7 => Q ok M7) M5 := by
      intro ok hok2
      apply P_X1_learnFromTry (L := L) (by rw [e133]; exact hg) hL (by rw [e129]; exact hA)
      intro M7 hF7 hL7
      rw [e133] at hL7
      rw [hok2] at hL7 ⊢
      refine hQt M7 (Fr_trans hF5 (Fr_mono hF7 (fun k h => Or.inr (Or.inr (Or.inr h))))) hL7 ?_ ?_ ?_
      · rw [hF7.2 256 (by decide)]; exact e256
      · rw [hF7.1 135 (by decide)]; exact e135
      · rw [hF7.1 259 (by decide)]; exact e259
    refine ⟨fun hc1 => fin 1 ?_, fun hc0 => ?_⟩
    · unfold fitS
      rw [if_pos (by omega)]
    · rw [e135]
      apply P_X1_fitsWith (by rw [e133]; exact hg) (by omega)
      · intro hf
        rw [e133] at hf
        refine ⟨fun q => by omega, fun _ => fin 1 ?_⟩
        unfold fitS
        rw [if_neg (by omega), if_pos hf]
      · intro hf
        rw [e133] at hf
        refine ⟨fun _ => fin 0 ?_, fun q => absurd rfl q⟩
        unfold fitS
        rw [if_neg (by omega), if_neg hf]
  unfold T_X1_tryShape
  apply P_X8_countIn hT h
  rw [← hrs]
  unfold T_X1_tryShape_18
  refine ⟨fun hc => ⟨fun q => absurd rfl q, fun _ => ?_⟩, fun hc => ⟨fun _ => h41 1 (Or.inl ⟨rfl, by omega⟩) (fun hb2 => by unfold bigS at hb2; omega), fun q => by omega⟩⟩
  apply P_X8_plainSize hT hR h
  rw [← hrs]
  apply P_X1_full hL hA
  refine ⟨fun q => h41 0 (Or.inr ⟨rfl, by omega⟩) (fun hb2 => by unfold bigS at hb2; omega), fun q => hQb ⟨by omega, by omega⟩⟩
def fTyr : Nat → Prop := fun k => k = 583 ∨ k = 590 ∨ k = 591 ∨ fRp k
theorem P_X10_full {L : Lrn} {Q : Int → Prop} {M : zMem} (hL : lrnOK L) (hA : Lat (M.2 583) 661 L) (hQ : Q (120 - L.1)) : T_X10_full Q M := by
  unfold T_X10_full
  have e : M.2 583 661 = L.1 := hA.1
  have := hL.1
  rw [e]
  exact ⟨⟨by omega, by omega⟩, inR_mk (by omega) (by omega), hQ⟩
theorem P_X10_fits {low high : Int} {r : Rec} {Q : Int → zMem → Prop} {M : zMem} (hT : tabR M r) (hR : RecOK r) (h : 0 ≤ low ∧ low ≤ high + 1 ∧ high ≤ 255) (h4 : 1 < (rI r low (high + 1)).length → (plain (rI r low (high + 1))).length ≤ 400) (hg : trmOK (M.2 579)) (hQ : ∀ M', Fr (fun k => k = 590 ∨ k = 591 ∨ fRp k) M M' → Q (fitS (rI r low (high + 1)) (M.2 579 0)) M') : T_X10_fits low high Q M := by
  obtain ⟨rs, hrs⟩ : ∃ rs, rs = rI r low (high + 1) := ⟨_, rfl⟩
  have hok := rI_ok hR low (high + 1)
  have hb : allB (plain rs) := by rw [hrs]; exact plain_b hok
  have hsl := shape_len (plain rs)
  rw [← hrs] at h4 hQ hok
  unfold T_X10_fits
  apply P_X10_keysFrom hT h
  rw [← hrs]
  refine ⟨fun hc => ?_, fun hc => ?_⟩
  · have h4 := h4 (by omega)
    apply P_X10_laysPlain hT hR h
    rw [← hrs]
    intro M1 hF1 hA1 hl1
    apply P_X10_shapeOf hA1 hl1 h4 hb
    intro M2 hF2 hA2 hl2
    have hF : Fr (fun k => k = 590 ∨ k = 591 ∨ fRp k) M M2 := Fr_trans (Fr_mono hF1 (fun k h => by rcases h with h | h; exact Or.inl h; exact Or.inr (Or.inl h))) (Fr_mono hF2 (fun k h => Or.inr (Or.inr h)))
    have e579 : M2.2 579 = M.2 579 := hF.2 579 (by unfold fRp; decide)
    have := hg.1
    have hq := hQ M2 hF
    unfold fitS at hq
    rw [if_neg (by omega)] at hq
    rw [hl2, e579]
    refine ⟨inR_mk (by omega) (by omega), ⟨by omega, by omega⟩, inR_mk (by omega) (by omega), fun q => ?_, fun q => ?_⟩
    · rw [if_neg (by omega)] at hq; exact hq
    · rw [if_pos (by omega)] at hq; exact hq
  · have hq := hQ M (Fr_refl M)
    unfold fitS at hq
    rw [if_pos (by omega)] at hq
    exact hq
theorem fitS_01 (rs : List (Int × List Int)) (res : Int) : fitS rs res = 0 ∨ fitS rs res = 1 := by
  unfold fitS
  repeat' split
  all_goals omega
theorem P_X10_isPart {low high : Int} {r : Rec} {L : Lrn} {Q : Int → zMem → Prop} {M : zMem} (hT : tabR M r) (hR : RecOK r) (h : 0 ≤ low ∧ low ≤ high + 1 ∧ high ≤ 255) (h4 : (plain (rI r low (high + 1))).length ≤ 400) (hg : trmOK (M.2 579)) (hL : lrnOK L) (hA : Lat (M.2 583) 661 L) (hQb : bigS (rI r low (high + 1)) L → Q 0 M) (hQt : ¬ bigS (rI r low (high + 1)) L → ∀ M', Fr fTyr M M' → (∀ j, j < 661 → M'.2 583 j = M.2 583 j) → Lat (M'.2 583) 661 (lrnG (M.2 579) (fitS (rI r low (high + 1)) (M.2 579 0)) L) → Q (fitS (rI r low (high + 1)) (M.2 579 0)) M') : T_X10_isPart low high Q M := by
  have hfit : ¬ bigS (rI r low (high + 1)) L → T_X10_fits low high (fun y3 M4 => T_X10_learns y3 (fun M5 => (y3 = 0 ∨ y3 = 1) ∧ Q y3 M5) M4) M := by
    intro hnb
    apply P_X10_fits hT hR h (fun _ => h4) hg
    intro M1 hF1
    have e579 : M1.2 579 = M.2 579 := hF1.2 579 (by unfold fRp; decide)
    have e583 : M1.2 583 = M.2 583 := hF1.2 583 (by unfold fRp; decide)
    apply P_X10_learns (L := L) (by rw [e579]; exact hg) hL (by rw [e583]; exact hA)
    intro M2 hF2 hj2 hL2
    rw [e579] at hL2
    rw [e583] at hj2
    exact ⟨fitS_01 _ _, hQt hnb M2 (Fr_trans (Fr_mono hF1 (fun k h => Or.inr h)) (Fr_mono hF2 (fun k h => Or.inl h))) hj2 hL2⟩
  unfold T_X10_isPart
  apply P_X10_keysFrom hT h
  refine ⟨fun hc => hfit (fun hb => by unfold bigS at hb; omega), fun hc => ?_⟩
  apply P_X10_plainOf hT hR h
  apply P_X10_full hL hA
  exact ⟨fun q => hfit (fun hb => by unfold bigS at hb; omega), fun q => hQb ⟨by omega, by omega⟩⟩
