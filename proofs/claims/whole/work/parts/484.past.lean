-- acts that can be undone: the latest first
abbrev Mom : Type := Int × Int × (Int → Int) × Lrn
def agD (f h : Int → Int) : Prop := ∀ j, 0 ≤ j → j < 1334 → f j = h j
def PC (M : zMem) (ps : List Mom) : Prop := M.1 512 = ps.length ∧ ps.length ≤ 16 ∧ (0 ≤ M.1 514 ∧ M.1 514 < 16) ∧ ∀ (i : Nat) (m : Mom), ps[i]? = some m → M.1 (zmo ((M.1 514 - 1 - i) % 16) + 5) = 1 ∧ M.1 (zmo ((M.1 514 - 1 - i) % 16)) = m.1 ∧ M.1 (zmo ((M.1 514 - 1 - i) % 16) + 1) = m.2.1 ∧ agD (M.2 (zmo ((M.1 514 - 1 - i) % 16) + 2)) m.2.2.1 ∧ Lat (M.2 (zmo ((M.1 514 - 1 - i) % 16) + 3)) 0 m.2.2.2
def PR (M : zMem) (ps : List Mom) : Prop := M.1 609 = ps.length ∧ ps.length ≤ 16 ∧ (0 ≤ M.1 610 ∧ M.1 610 < 16) ∧ ∀ (i : Nat) (m : Mom), ps[i]? = some m → M.2 608 ((M.1 610 - i) % 16) = m.1 ∧ M.2 607 (1339 * ((M.1 610 - i) % 16) + 665) = m.2.1 ∧ agD (fun j => M.2 607 (1339 * ((M.1 610 - i) % 16) + sg j)) m.2.2.1 ∧ Lat (fun j => M.2 607 (1339 * ((M.1 610 - i) % 16) + j)) 661 m.2.2.2
def kpF (m : Mom) (ps : List Mom) : List Mom := (m :: ps).take 16
theorem kp_len (m : Mom) (ps : List Mom) (h : ps.length ≤ 16) : ((kpF m ps).length : Int) = min 16 ((ps.length : Int) + 1) ∧ (kpF m ps).length ≤ 16 := by
  unfold kpF
  rw [List.length_take, List.length_cons]
  omega
theorem kp_get {m x : Mom} {ps : List Mom} {i : Nat} (h : (kpF m ps)[i]? = some x) : i < 16 ∧ ((i = 0 ∧ x = m) ∨ ∃ k, i = k + 1 ∧ ps[k]? = some x) := by
  unfold kpF at h
  rw [List.getElem?_take] at h
  by_cases q : i < 16
  · rw [if_pos q] at h
    refine ⟨q, ?_⟩
    cases i with
    | zero => exact Or.inl ⟨rfl, by simpa using h.symm⟩
    | succ k => exact Or.inr ⟨k, rfl, by simpa using h⟩
  · rw [if_neg q] at h; cases h
theorem zmo_ne {a b : Int} {s t : Nat} (ha : 0 ≤ a) (hb : 0 ≤ b) (hne : a ≠ b) (hs : s < 64) (ht : t < 64) : zmo a + s ≠ zmo b + t := by unfold zmo; omega
def fPC : Nat → Prop := fun k => k = 512 ∨ k = 514 ∨ 1024 ≤ k
theorem P_X7_keep {act : Int} {L : Lrn} {f : Int → Int} {ps : List Mom} {Q : zMem → Prop} {M : zMem} (hP : PC M ps) (hf : agD (M.2 64) f) (hL : Lat (M.2 1) 0 L) (hd : M.1 66 = 0 ∨ M.1 66 = 1) (hQ : ∀ M', Fr fPC M M' → PC M' (kpF (act, M.1 66, f, L) ps) → Q M') : T_X7_keep act 1 Q M := by
  obtain ⟨h1, h2, h3, h4⟩ := hP
  unfold T_X7_keep
  refine ⟨h3, by omega, alen_1, hd, fun M1 hM1 => ?_⟩
  obtain ⟨s, hs⟩ : ∃ s, s = M.1 514 := ⟨_, rfl⟩
  have hz : 1024 ≤ zmo s := by unfold zmo; omega
  unfold zkept at hM1
  rw [← hs] at hM1 h3 h4
  have e514 : M1.1 514 = (s + 1) % 16 := by
    rw [hM1, setS_1, if_neg (by decide), setS_1, if_pos rfl, tmod_pos (by omega)]
  have e512 : M1.1 512 = min 16 (M.1 512 + 1) := by rw [hM1, setS_1, if_pos rfl]
  have o1 : ∀ k, k ≠ 512 → k ≠ 514 → k ≠ zmo s → k ≠ zmo s + 1 → k ≠ zmo s + 5 → M1.1 k = M.1 k := by
    intro k a b c d e
    rw [hM1, setS_1, if_neg a, setS_1, if_neg b, putA_1, putA_1, setS_1, if_neg d, setS_1, if_neg c, setS_1, if_neg e]
  have o2 : ∀ k, k ≠ zmo s + 2 → k ≠ zmo s + 3 → M1.2 k = M.2 k := by
    intro k a b
    rw [hM1, setS_2, setS_2, putA_2, if_neg b, putA_2, if_neg a, setS_2, setS_2, setS_2]
  have x5 : M1.1 (zmo s + 5) = 1 := by
    rw [hM1, setS_1, if_neg (by omega), setS_1, if_neg (by omega), putA_1, putA_1, setS_1, if_neg (by omega), setS_1, if_neg (by omega), setS_1, if_pos rfl]
  have x0 : M1.1 (zmo s) = act := by
    rw [hM1, setS_1, if_neg (by omega), setS_1, if_neg (by omega), putA_1, putA_1, setS_1, if_neg (by omega), setS_1, if_pos rfl]
  have x1 : M1.1 (zmo s + 1) = M.1 66 := by
    rw [hM1, setS_1, if_neg (by omega), setS_1, if_neg (by omega), putA_1, putA_1, setS_1, if_pos rfl]
  have x2 : M1.2 (zmo s + 2) = M.2 64 := by
    rw [hM1, setS_2, setS_2, putA_2, if_neg (by omega), putA_2, if_pos rfl]
  have x3 : M1.2 (zmo s + 3) = M.2 1 := by
    rw [hM1, setS_2, setS_2, putA_2, if_pos rfl]
  apply hQ
  · refine ⟨fun k hk => ?_, fun k hk => ?_⟩
    · unfold fPC at hk
      exact o1 k (by omega) (by omega) (by omega) (by omega) (by omega)
    · unfold fPC at hk
      exact o2 k (by omega) (by omega)
  · have hl := kp_len (act, M.1 66, f, L) ps h2
    refine ⟨by rw [e512, hl.1, h1], hl.2, by rw [e514]; omega, fun i m hm => ?_⟩
    obtain ⟨hi, hc | ⟨k, hk, hp⟩⟩ := kp_get hm
    · have es : (M1.1 514 - 1 - (i : Nat)) % 16 = s := by rw [e514, hc.1]; omega
      rw [es, hc.2, x5, x0, x1, x2, x3]
      exact ⟨rfl, rfl, rfl, hf, hL⟩
    · have es : (M1.1 514 - 1 - (i : Nat)) % 16 = (s - 1 - (k : Nat)) % 16 := by rw [e514, hk]; omega
      have hne : (s - 1 - (k : Nat)) % 16 ≠ s := by omega
      have h0 : 0 ≤ (s - 1 - (k : Nat)) % 16 := by omega
      have nn : ∀ a b : Nat, a < 64 → b < 64 → zmo ((s - 1 - (k : Nat)) % 16) + a ≠ zmo s + b := fun a b ha hb => zmo_ne h0 h3.1 hne ha hb
      have hz2 : 1024 ≤ zmo ((s - 1 - (k : Nat)) % 16) := by unfold zmo; omega
      rw [es, o1 (zmo ((s - 1 - (k : Nat)) % 16) + 5) (by omega) (by omega) (nn 5 0 (by omega) (by omega)) (nn 5 1 (by omega) (by omega)) (nn 5 5 (by omega) (by omega)),
        o1 (zmo ((s - 1 - (k : Nat)) % 16)) (by omega) (by omega) (nn 0 0 (by omega) (by omega)) (nn 0 1 (by omega) (by omega)) (nn 0 5 (by omega) (by omega)),
        o1 (zmo ((s - 1 - (k : Nat)) % 16) + 1) (by omega) (by omega) (nn 1 0 (by omega) (by omega)) (nn 1 1 (by omega) (by omega)) (nn 1 5 (by omega) (by omega)),
        o2 (zmo ((s - 1 - (k : Nat)) % 16) + 2) (nn 2 2 (by omega) (by omega)) (nn 2 3 (by omega) (by omega)),
        o2 (zmo ((s - 1 - (k : Nat)) % 16) + 3) (nn 3 2 (by omega) (by omega)) (nn 3 3 (by omega) (by omega))]
      exact h4 k m hp
theorem P_X7_takeBack {m : Mom} {ps : List Mom} {Q : Int → zMem → Prop} {M : zMem} (hP : PC M (m :: ps)) (hd : m.2.1 = 0 ∨ m.2.1 = 1) (hQ : ∀ M', Fr (fun k => k = 1 ∨ k = 64 ∨ k = 66 ∨ k = 512 ∨ k = 514) M M' → PC M' ps → agD (M'.2 64) m.2.2.1 → Lat (M'.2 1) 0 m.2.2.2 → M'.1 66 = m.2.1 → Q m.1 M') : T_X7_takeBack 1 Q M := by
  obtain ⟨h1, h2, h3, h4⟩ := hP
  rw [List.length_cons] at h1 h2
  obtain ⟨g1, g2, g3, g4, g5⟩ := h4 0 m rfl
  obtain ⟨s, hs⟩ : ∃ s, s = M.1 514 := ⟨_, rfl⟩
  have et : Int.tmod (s + 15) 16 = (s - 1) % 16 := by rw [tmod_pos (by omega)]; omega
  have e0 : (M.1 514 - 1 - ((0 : Nat) : Int)) % 16 = (s - 1) % 16 := by rw [hs]; congr 1; omega
  rw [e0] at g1 g2 g3 g4 g5
  unfold T_X7_takeBack
  rw [← hs, et]
  refine ⟨by omega, by omega, alen_1, g1, by rw [g3]; exact hd, fun M1 hM1 => ?_⟩
  rw [g2]
  unfold ztaken at hM1
  rw [← hs, et] at hM1
  have hz : 1024 ≤ zmo ((s - 1) % 16) := by unfold zmo; omega
  have e514 : M1.1 514 = (s - 1) % 16 := by rw [hM1, putA_1, putA_1, setS_1, if_neg (by decide), setS_1, if_neg (by decide), setS_1, if_pos rfl]
  have e512 : M1.1 512 = M.1 512 - 1 := by rw [hM1, putA_1, putA_1, setS_1, if_neg (by decide), setS_1, if_pos rfl]
  have e66 : M1.1 66 = m.2.1 := by rw [hM1, putA_1, putA_1, setS_1, if_pos rfl]; exact g3
  have e64 : M1.2 64 = M.2 (zmo ((s - 1) % 16) + 2) := by rw [hM1, putA_2, if_neg (by decide), putA_2, if_pos rfl]
  have e1 : M1.2 1 = M.2 (zmo ((s - 1) % 16) + 3) := by rw [hM1, putA_2, if_pos rfl]
  have o1 : ∀ k, k ≠ 512 → k ≠ 514 → k ≠ 66 → M1.1 k = M.1 k := by
    intro k a b c
    rw [hM1, putA_1, putA_1, setS_1, if_neg c, setS_1, if_neg a, setS_1, if_neg b]
  have o2 : ∀ k, k ≠ 64 → k ≠ 1 → M1.2 k = M.2 k := by
    intro k a b
    rw [hM1, putA_2, if_neg b, putA_2, if_neg a, setS_2, setS_2, setS_2]
  refine hQ M1 ⟨fun k hk => o1 k (by omega) (by omega) (by omega), fun k hk => o2 k (by omega) (by omega)⟩ ⟨by rw [e512, h1]; omega, by omega, by rw [e514]; omega, fun i x hx => ?_⟩ (by rw [e64]; exact g4) (by rw [e1]; exact g5) e66
  have := h4 (i + 1) x (by simpa using hx)
  have es : (M.1 514 - 1 - ((i + 1 : Nat) : Int)) % 16 = (M1.1 514 - 1 - (i : Nat)) % 16 := by rw [e514, hs]; omega
  rw [es] at this
  obtain ⟨q, hq⟩ : ∃ q, q = (M1.1 514 - 1 - (i : Nat)) % 16 := ⟨_, rfl⟩
  rw [← hq] at this ⊢
  have hz2 : 1024 ≤ zmo q := by unfold zmo; omega
  rw [o1 (zmo q + 5) (by omega) (by omega) (by omega), o1 (zmo q) (by omega) (by omega) (by omega), o1 (zmo q + 1) (by omega) (by omega) (by omega), o2 (zmo q + 2) (by omega) (by omega), o2 (zmo q + 3) (by omega) (by omega)]
  exact this
def fPR : Nat → Prop := fun k => 607 ≤ k ∧ k ≤ 610
theorem P_X10_keeps {act d : Int} {L : Lrn} {f : Int → Int} {ps : List Mom} {Q : zMem → Prop} {M : zMem} (hP : PR M ps) (hf : agD (rv M) f) (hd : M.2 582 665 = d) (hL : Lat (M.2 582) 661 L) (hQ : ∀ M', Fr fPR M M' → PR M' (kpF (act, d, f, L) ps) → Q M') : T_X10_keeps act Q M := by
  obtain ⟨h1, h2, h3, h4⟩ := hP
  unfold T_X10_keeps
  refine ⟨inR_mk (by omega) (by omega), fun M6 hM6 => ?_⟩
  obtain ⟨s, hs⟩ : ∃ s, s = (M.1 610 + 1) % 16 := ⟨_, rfl⟩
  have hs0 : 0 ≤ s ∧ s < 16 := by omega
  rw [tmod_pos (by omega), ← hs] at hM6
  have F6 : Fr fPR M M6 := by rw [hM6]; exact Fr_setS (by unfold fPR; omega)
  have e6 : M6.1 610 = s := by rw [hM6]; rfl
  unfold T_X10_keeps_15
  apply zl1_rule (fun v2 M1 => (0 ≤ v2 ∧ v2 ≤ 1339) ∧ Fr fPR M M1 ∧ M1.1 610 = s ∧ M1.1 609 = ps.length ∧ M1.2 608 = M.2 608 ∧ ∀ x, M1.2 607 x = if 1339 * s ≤ x ∧ x < 1339 * s + v2 then M.2 582 (x - 1339 * s) else M.2 607 x) (fun v2 _ => (1339 - v2).toNat)
  · intro X v2 M1 ⟨k1, k2, k3, k4, k5, k6⟩ hX
    rw [k3]
    refine ⟨fun q => ⟨hs0, fun M2 hM2 => ?_⟩, fun q => ⟨inR_mk (by omega) (by omega), inR_mk (by omega) (by omega), ⟨by omega, by omega⟩, ⟨by omega, by omega⟩, fun M5 hM5 => ⟨inR_mk (by omega) (by omega), hX _ _ ⟨by omega, ?_, ?_, ?_, ?_, ?_⟩ (by omega)⟩⟩⟩
    · have e2 : v2 = 1339 := by omega
      subst e2
      have F2 : Fr fPR M M2 := by rw [hM2]; exact Fr_trans k2 (Fr_setA (by unfold fPR; omega))
      have e609 : M2.1 609 = ps.length := by rw [hM2]; exact k4
      have fin : ∀ M3, Fr fPR M M3 → M3.1 609 = min 16 ((ps.length : Int) + 1) → M3.1 610 = s → M3.2 = M2.2 → Q M3 := by
        intro M3 F3 c1 c2 c3
        apply hQ M3 F3
        have hl := kp_len (act, d, f, L) ps h2
        have e608 : M3.2 608 = upI (M.2 608) s act := by rw [c3, hM2, setA_2, if_pos rfl, k5]
        have e607 : M3.2 607 = M1.2 607 := by rw [c3, hM2, setA_2, if_neg (by decide)]
        refine ⟨by rw [c1, hl.1], hl.2, by omega, fun i m hm => ?_⟩
        obtain ⟨hi, hc | ⟨k, hk, hp⟩⟩ := kp_get hm
        · have es : (M3.1 610 - (i : Nat)) % 16 = s := by rw [c2, hc.1]; omega
          rw [es, hc.2, e608, e607]
          have val : ∀ x, 0 ≤ x → x < 1339 → M1.2 607 (1339 * s + x) = M.2 582 x := by
            intro x x0 x1
            rw [k6, if_pos (by omega)]
            have e9 : 1339 * s + x - 1339 * s = x := by omega
            rw [e9]
          refine ⟨upI_same _ _ _, ?_, fun j j0 j1 => ?_, ?_⟩
          · rw [val 665 (by omega) (by omega)]; exact hd
          · have : 0 ≤ sg j ∧ sg j < 1339 := by unfold sg; split <;> omega
            dsimp only
            rw [val (sg j) this.1 this.2]
            exact hf j j0 j1
          · unfold Lat at hL ⊢
            dsimp only
            rw [val 661 (by omega) (by omega), val (661 + 1) (by omega) (by omega), val (661 + 2) (by omega) (by omega), val (661 + 3) (by omega) (by omega)]
            exact hL
        · have es : (M3.1 610 - (i : Nat)) % 16 = (M.1 610 - (k : Nat)) % 16 := by rw [c2, hk]; omega
          have hne : (M.1 610 - (k : Nat)) % 16 ≠ s := by omega
          have hx := h4 k m hp
          rw [es, e608, e607, upI_ne hne]
          obtain ⟨q, hq⟩ : ∃ q, q = (M.1 610 - (k : Nat)) % 16 := ⟨_, rfl⟩
          have hq0 : 0 ≤ q ∧ q < 16 := by omega
          rw [← hq] at hx hne ⊢
          have val : ∀ x, 0 ≤ x → x < 1339 → M1.2 607 (1339 * q + x) = M.2 607 (1339 * q + x) := by
            intro x x0 x1
            rw [k6, if_neg (by omega)]
          obtain ⟨y1, y2, y3, y4⟩ := hx
          refine ⟨y1, by rw [val 665 (by omega) (by omega)]; exact y2, fun j j0 j1 => ?_, ?_⟩
          · have : 0 ≤ sg j ∧ sg j < 1339 := by unfold sg; split <;> omega
            dsimp only
            rw [val (sg j) this.1 this.2]
            exact y3 j j0 j1
          · unfold Lat at y4 ⊢
            dsimp only at y4 ⊢
            rw [val 661 (by omega) (by omega), val (661 + 1) (by omega) (by omega), val (661 + 2) (by omega) (by omega), val (661 + 3) (by omega) (by omega)]
            exact y4
      have e610 : M2.1 610 = s := by rw [hM2]; exact k3
      rw [e609]
      refine ⟨fun q2 => fin M2 F2 (by rw [e609]; omega) e610 rfl, fun q2 => ⟨inR_mk (by omega) (by omega), fun M4 hM4 => fin M4 ?_ ?_ ?_ ?_⟩⟩
      · rw [hM4]; exact Fr_trans F2 (Fr_setS (by unfold fPR; omega))
      · rw [hM4]; show (ps.length : Int) + 1 = _; omega
      · rw [hM4]; exact e610
      · rw [hM4]; rfl
    · rw [hM5]; exact Fr_trans k2 (Fr_setA (by unfold fPR; omega))
    · rw [hM5]; exact k3
    · rw [hM5]; exact k4
    · rw [hM5, setA_2, if_neg (by decide)]; exact k5
    · intro x
      have e5 : M5.2 607 = upI (M1.2 607) (1339 * s + v2) (M.2 582 v2) := by
        rw [hM5, setA_2, if_pos rfl, k2.2 582 (by unfold fPR; omega)]
      rw [e5]
      unfold upI
      by_cases q2 : x = 1339 * s + v2
      · rw [if_pos q2, if_pos (by omega), q2]
        have e9 : 1339 * s + v2 - 1339 * s = v2 := by omega
        rw [e9]
      · rw [if_neg q2, k6]
        by_cases q3 : 1339 * s ≤ x ∧ x < 1339 * s + v2
        · rw [if_pos q3, if_pos (by omega)]
        · rw [if_neg q3, if_neg (by omega)]
  · refine ⟨by omega, F6, e6, by rw [hM6]; exact h1, by rw [hM6]; rfl, fun x => ?_⟩
    rw [if_neg (by omega), hM6]; rfl
theorem P_X10_undo_21 {m : Mom} {ps : List Mom} {Q : Int → zMem → Prop} {M : zMem} (hP : PR M (m :: ps)) (hQ : ∀ M', Fr (fun k => k = 582 ∨ k = 609 ∨ k = 610 ∨ k = 612) M M' → PR M' ps → agD (rv M') m.2.2.1 → Lat (M'.2 582) 661 m.2.2.2 → M'.2 582 665 = m.2.1 → M'.1 612 = 0 → T_X10_tells m.1 (fun y5 M6 => Q y5 M6) M') : T_X10_undo_21 Q 0 M := by
  obtain ⟨h1, h2, h3, h4⟩ := hP
  rw [List.length_cons] at h1 h2
  obtain ⟨g1, g2, g3, g4⟩ := h4 0 m rfl
  obtain ⟨s, hs⟩ : ∃ s, s = M.1 610 := ⟨_, rfl⟩
  have e0 : (M.1 610 - ((0 : Nat) : Int)) % 16 = s := by rw [hs]; omega
  rw [e0] at g1 g2 g3 g4
  rw [← hs] at h3
  unfold T_X10_undo_21
  apply zl1_rule (fun v1 M1 => (0 ≤ v1 ∧ v1 ≤ 1339) ∧ Fr (fun k => k = 582) M M1 ∧ ∀ x, 0 ≤ x → x < v1 → M1.2 582 x = M.2 607 (1339 * s + x)) (fun v1 _ => (1339 - v1).toNat)
  · intro X v1 M1 ⟨k1, k2, k3⟩ hX
    have e610 : M1.1 610 = s := by rw [k2.1 610 (by decide), hs]
    have e607 : M1.2 607 = M.2 607 := k2.2 607 (by decide)
    rw [e610, e607]
    refine ⟨fun q => ⟨h3, inR_mk (by omega) (by omega), inR_mk (by omega) (by omega), fun M2 hM2 => ⟨?_, fun M3 hM3 M4 hM4 => ?_⟩⟩, fun q => ⟨inR_mk (by omega) (by omega), inR_mk (by omega) (by omega), ⟨by omega, by omega⟩, ⟨by omega, by omega⟩, fun M7 hM7 => ⟨inR_mk (by omega) (by omega), hX _ _ ⟨by omega, ?_, ?_⟩ (by omega)⟩⟩⟩
    · have : M2.1 609 = M.1 609 := by rw [hM2, setS_1, if_neg (by decide), k2.1 609 (by decide)]
      rw [this, h1]
      exact inR_mk (by omega) (by omega)
    · have e1 : v1 = 1339 := by omega
      subst e1
      have e608 : M1.2 608 s = m.1 := by rw [k2.2 608 (by decide)]; exact g1
      rw [e608]
      have s4 : M4.2 = M1.2 := by rw [hM4, hM3, hM2]; rfl
      have x610 : M4.1 610 = (s + 15) % 16 := by
        rw [hM4, setS_1, if_neg (by decide), hM3, setS_1, if_neg (by decide), hM2, setS_1, if_pos rfl, tmod_pos (by omega)]
        omega
      have x609 : M4.1 609 = ps.length := by
        rw [hM4, setS_1, if_neg (by decide), hM3, setS_1, if_pos rfl, hM2, setS_1, if_neg (by decide), k2.1 609 (by decide), h1]
        omega
      apply hQ M4
      · rw [hM4, hM3, hM2]
        exact Fr_trans (Fr_trans (Fr_trans (Fr_mono k2 (fun k h => Or.inl h)) (Fr_setS (Or.inr (Or.inr (Or.inl rfl))))) (Fr_setS (Or.inr (Or.inl rfl)))) (Fr_setS (Or.inr (Or.inr (Or.inr rfl))))
      · refine ⟨x609, by omega, by rw [x610]; omega, fun i x hx => ?_⟩
        have := h4 (i + 1) x (by simpa using hx)
        have es : (M.1 610 - ((i + 1 : Nat) : Int)) % 16 = (M4.1 610 - (i : Nat)) % 16 := by rw [x610, ← hs]; omega
        rw [es] at this
        rw [s4, e607, k2.2 608 (by decide)]
        exact this
      · intro j j0 j1
        have hsj : 0 ≤ sg j ∧ sg j < 1339 := by unfold sg; split <;> omega
        unfold rv
        rw [s4, k3 (sg j) hsj.1 hsj.2]
        exact g3 j j0 j1
      · unfold Lat at g4 ⊢
        rw [s4, k3 661 (by omega) (by omega), k3 (661 + 1) (by omega) (by omega), k3 (661 + 2) (by omega) (by omega), k3 (661 + 3) (by omega) (by omega)]
        exact g4
      · rw [s4, k3 665 (by omega) (by omega)]; exact g2
      · rw [hM4]; rfl
    · rw [hM7]; exact Fr_trans k2 (Fr_setA rfl)
    · intro x x0 x1
      have e7 : M7.2 582 = upI (M1.2 582) v1 (M.2 607 (1339 * s + v1)) := by rw [hM7, setA_2, if_pos rfl]
      rw [e7]
      unfold upI
      by_cases q2 : x = v1
      · rw [if_pos q2, q2]
      · rw [if_neg q2]; exact k3 x x0 (by omega)
  · exact ⟨by omega, Fr_refl M, fun x a b => by omega⟩
