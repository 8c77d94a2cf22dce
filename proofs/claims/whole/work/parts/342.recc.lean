-- the class's tables of records (object o: sizes 64o+2, bytes 64o+3, laid out 64o+1; its packer is o+1)
abbrev tabC (o : Nat) (M : zMem) (r : Rec) : Prop := Tab (M.2 (64 * o + 2)) (M.2 (64 * o + 3)) r
theorem P_X9_isByte {v : Int} {Q : Int → Prop} {M : zMem} (hQ1 : 0 ≤ v ∧ v < 256 → Q 1) (hQ0 : ¬ (0 ≤ v ∧ v < 256) → Q 0) : T_X9_isByte v Q M := by
  unfold T_X9_isByte
  exact ⟨fun h => hQ0 (by omega), fun h => ⟨fun h2 => hQ0 (by omega), fun h2 => hQ1 (by omega)⟩⟩
theorem P_X8_countIn {o : Nat} {low high : Int} {r : Rec} {Q : Int → Prop} {M : zMem} (hT : tabC o M r) (h : 0 ≤ low ∧ low ≤ high ∧ high ≤ 256) (hQ : Q (rI r low high).length) : T_X8_countIn o low high Q M := by
  unfold T_X8_countIn T_X8_countIn_5
  refine zp2_rule (fun c i => (low ≤ i ∧ i ≤ high) ∧ c = (rI r low i).length) (fun c i => (high - i).toNat) ?_ _ _ ⟨⟨by omega, by omega⟩, by rw [rI_nil r (by omega)]; rfl⟩
  intro X c i hI ih
  obtain ⟨h1, h2⟩ := hI
  have hl := rI_len r (low := low) (high := i) (by omega)
  refine ⟨fun hi => ?_, fun hi => ⟨⟨by omega, by omega⟩, fun hn => ?_, fun hn => ?_⟩⟩
  · have e : i = high := by omega
    rw [h2, e]; exact hQ
  · unfold T_X8_countIn_25
    refine ⟨inR_mk (by omega) (by omega), ih _ _ ⟨⟨by omega, by omega⟩, ?_⟩ (by omega)⟩
    rw [rI_snoc r (by omega), one_none ((Tab_iff hT (by omega) (by omega)).mp hn), List.append_nil]; exact h2
  · unfold T_X8_countIn_25
    obtain ⟨v, hv, -, -⟩ := Tab_some hT (by omega) (by omega) hn
    refine ⟨inR_mk (by omega) (by omega), inR_mk (by omega) (by omega), ih _ _ ⟨⟨by omega, by omega⟩, ?_⟩ (by omega)⟩
    rw [rI_snoc r (by omega), one_some hv, List.length_append, h2]; simp
theorem plain_len_le {r : Rec} (hR : RecOK r) (low : Int) : ∀ n : Nat, (plain (rl r low n)).length ≤ 10 * n
  | 0 => by simp [rl, plain_nil]
  | n + 1 => by
    have ih := plain_len_le hR low n
    rw [rl_app r n 1 low, plain_app, List.length_append]
    have e : rl r (low + n) 1 = one r (low + n) := by rw [rl, rl, List.append_nil]
    rw [e]
    cases hr : r (low + n) with
    | none => rw [one_none hr]; simp [plain_nil]; omega
    | some v =>
      have := (hR _ v hr).2.1
      rw [one_some hr, plain_one, pl1_len]
      dsimp only
      omega
theorem P_X8_plainSize {o : Nat} {low high : Int} {r : Rec} {Q : Int → Prop} {M : zMem} (hT : tabC o M r) (hR : RecOK r) (h : 0 ≤ low ∧ low ≤ high ∧ high ≤ 256) (hQ : Q (plain (rI r low high)).length) : T_X8_plainSize o low high Q M := by
  unfold T_X8_plainSize T_X8_plainSize_5
  refine zp2_rule (fun c i => (low ≤ i ∧ i ≤ high) ∧ c = (plain (rI r low i)).length) (fun c i => (high - i).toNat) ?_ _ _ ⟨⟨by omega, by omega⟩, by rw [rI_nil r (by omega)]; rfl⟩
  intro X c i hI ih
  obtain ⟨h1, h2⟩ := hI
  have hl := plain_len_le hR low (i - low).toNat
  have hl2 : (plain (rI r low i)).length ≤ 10 * (i - low).toNat := hl
  refine ⟨fun hi => ?_, fun hi => ⟨⟨by omega, by omega⟩, fun hn => ?_, fun hn => ?_⟩⟩
  · have e : i = high := by omega
    rw [h2, e]; exact hQ
  · unfold T_X8_plainSize_34
    refine ⟨inR_mk (by omega) (by omega), ih _ _ ⟨⟨by omega, by omega⟩, ?_⟩ (by omega)⟩
    rw [rI_snoc r (by omega), one_none ((Tab_iff hT (by omega) (by omega)).mp hn), List.append_nil]; exact h2
  · unfold T_X8_plainSize_34
    obtain ⟨v, hv, hs, -⟩ := Tab_some hT (by omega) (by omega) hn
    have hv8 := (hR _ v hv).2.1
    rw [hs]
    refine ⟨⟨by omega, by omega⟩, inR_mk (by omega) (by omega), inR_mk (by omega) (by omega), inR_mk (by omega) (by omega), ih _ _ ⟨⟨by omega, by omega⟩, ?_⟩ (by omega)⟩
    rw [rI_snoc r (by omega), one_some hv, plain_app, plain_one, List.length_append, pl1_len, h2]
    dsimp only
    omega
def lowK (rs : List (Int × List Int)) : Int := match rs with
  | [] => -1
  | p :: _ => p.1
theorem P_X8_lowestIn {o : Nat} {low high : Int} {r : Rec} {Q : Int → Prop} {M : zMem} (hT : tabC o M r) (h : 0 ≤ low ∧ low ≤ high ∧ high ≤ 256) (hQ : Q (lowK (rI r low high))) : T_X8_lowestIn o low high Q M := by
  unfold T_X8_lowestIn T_X8_lowestIn_2
  refine zp1_rule (fun i => (low ≤ i ∧ i ≤ high) ∧ rI r low i = []) (fun i => (high - i).toNat) ?_ _ ⟨⟨by omega, by omega⟩, rI_nil r (by omega)⟩
  intro X i hI ih
  obtain ⟨h1, h2⟩ := hI
  refine ⟨fun hi => ?_, fun hi => ⟨⟨by omega, by omega⟩, fun hn => ?_, fun hn => ?_⟩⟩
  · have e : i = high := by omega
    rw [e] at h2
    rw [h2] at hQ
    exact hQ
  · refine ⟨inR_mk (by omega) (by omega), ih _ ⟨⟨by omega, by omega⟩, ?_⟩ (by omega)⟩
    rw [rI_snoc r (by omega), one_none ((Tab_iff hT (by omega) (by omega)).mp hn), h2]; rfl
  · obtain ⟨v, hv, -, -⟩ := Tab_some hT (by omega) (by omega) hn
    rw [rI_split r (low := low) (mid := i) (by omega) (by omega), h2, rI_cons r (by omega), one_some hv] at hQ
    exact hQ
theorem P_X8_cutOf {o : Nat} {low high : Int} {r : Rec} {Q : Int → Prop} {M : zMem} (hT : tabC o M r) (h : 0 ≤ low ∧ low ≤ high ∧ high ≤ 256) (h2 : 2 ≤ (rI r low high).length) (hQ : ∀ c, (low ≤ c ∧ c ≤ high) → rI r low c = (rI r low high).take ((rI r low high).length / 2) → rI r c high = (rI r low high).drop ((rI r low high).length / 2) → Q c) : T_X8_cutOf o low high Q M := by
  unfold T_X8_cutOf
  apply P_X8_countIn hT h
  rw [tdiv_pos (by omega)]
  unfold T_X8_cutOf_15
  have hl := rI_len r (low := low) (high := high) (by omega)
  refine zp2_rule (fun c i => (low ≤ i ∧ i ≤ high) ∧ c = (rI r low i).length ∧ c ≤ (rI r low high).length / 2) (fun c i => (high - i).toNat) ?_ _ _ ⟨⟨by omega, by omega⟩, by rw [rI_nil r (by omega)]; rfl, by omega⟩
  intro X c i hI ih
  obtain ⟨g1, g2, g3⟩ := hI
  refine ⟨fun hi => ?_, fun hi => ⟨⟨by omega, by omega⟩, fun hn => ?_, fun hn => ⟨fun hc => ?_, fun hc => ?_⟩⟩⟩
  · have e : i = high := by omega
    rw [e] at g2
    omega
  · unfold T_X8_cutOf_44
    refine ⟨inR_mk (by omega) (by omega), ih _ _ ⟨⟨by omega, by omega⟩, ?_, g3⟩ (by omega)⟩
    rw [rI_snoc r (by omega), one_none ((Tab_iff hT (by omega) (by omega)).mp hn), List.append_nil]; exact g2
  · unfold T_X8_cutOf_44
    obtain ⟨v, hv, -, -⟩ := Tab_some hT (by omega) (by omega) hn
    refine ⟨inR_mk (by omega) (by omega), inR_mk (by omega) (by omega), ih _ _ ⟨⟨by omega, by omega⟩, ?_, by omega⟩ (by omega)⟩
    rw [rI_snoc r (by omega), one_some hv, List.length_append, g2]; simp
  · have hsp := rI_split r (low := low) (mid := i) (high := high) (by omega) (by omega)
    have hlen : (rI r low high).length / 2 = (rI r low i).length := by omega
    refine hQ i ⟨by omega, by omega⟩ ?_ ?_
    · rw [hlen, hsp, List.take_left]
    · rw [hlen, hsp, List.drop_left]
theorem P_X8_layOut {o : Nat} {low high : Int} {r : Rec} {Q : Int → zMem → Prop} {M : zMem} (hT : tabC o M r) (hR : RecOK r) (h : 0 ≤ low ∧ low ≤ high ∧ high ≤ 256) (h4 : (plain (rI r low high)).length ≤ 400) (hQ : ∀ M', Fr (fun k => k = 64 * o + 1) M M' → AL (M'.2 (64 * o + 1)) 0 (plain (rI r low high)) → Q (plain (rI r low high)).length M') : T_X8_layOut o low high Q M := by
  unfold T_X8_layOut T_X8_layOut_5
  refine zl2_rule (fun c i M1 => (low ≤ i ∧ i ≤ high) ∧ Fr (fun k => k = 64 * o + 1) M M1 ∧ c = (plain (rI r low i)).length ∧ AL (M1.2 (64 * o + 1)) 0 (plain (rI r low i))) (fun c i M1 => (high - i).toNat) ?_ _ _ M ⟨⟨by omega, by omega⟩, Fr_refl M, by rw [rI_nil r (by omega)]; rfl, by rw [rI_nil r (by omega)]; exact AL_nil _ _⟩
  intro X c i M1 hI ih
  obtain ⟨h1, h2, h3, h5⟩ := hI
  have e2 : M1.2 (64 * o + 2) = M.2 (64 * o + 2) := h2.2 _ (by omega)
  have e3 : M1.2 (64 * o + 3) = M.2 (64 * o + 3) := h2.2 _ (by omega)
  have hsp := rI_split r (low := low) (mid := i) (high := high) (by omega) (by omega)
  have hln : (plain (rI r low high)).length = (plain (rI r low i)).length + (plain (rI r i high)).length := by rw [hsp, plain_app, List.length_append]
  refine ⟨fun hi => ?_, fun hi => ⟨⟨by omega, by omega⟩, fun hn => ?_, fun hn => ?_⟩⟩
  · have e : i = high := by omega
    rw [e] at h3 h5
    rw [h3]; exact hQ M1 h2 h5
  · unfold T_X8_layOut_86
    rw [e2] at hn
    have e : rI r low (i + 1) = rI r low i := by rw [rI_snoc r (by omega), one_none ((Tab_iff hT (by omega) (by omega)).mp hn), List.append_nil]
    exact ⟨inR_mk (by omega) (by omega), ih _ _ _ ⟨⟨by omega, by omega⟩, h2, by rw [e]; exact h3, by rw [e]; exact h5⟩ (by omega)⟩
  · rw [e2] at hn ⊢
    obtain ⟨v, hv, hs, hA⟩ := Tab_some hT (by omega) (by omega) hn
    have hv8 := (hR _ v hv).2.1
    have e : rI r low (i + 1) = rI r low i ++ [(i, v)] := by rw [rI_snoc r (by omega), one_some hv]
    have hln2 : (plain (rI r i high)).length = 2 + v.length + (plain (rI r (i + 1) high)).length := by rw [rI_cons r (by omega), one_some hv, plain_app, plain_one, List.length_append, pl1_len]
    rw [hs]
    refine ⟨inR_mk (by omega) (by omega), inR_mk (by omega) (by omega), fun q => by omega, fun q => ⟨⟨by omega, by omega⟩, fun M4 hM4 => ⟨inR_mk (by omega) (by omega), ⟨by omega, by omega⟩, fun M5 hM5 => ⟨inR_mk (by omega) (by omega), inR_mk (by omega) (by omega), ⟨⟨by omega, by omega, by omega⟩, by omega, by omega, by omega, by omega⟩, fun M6 hM6 => ⟨inR_mk (by omega) (by omega), inR_mk (by omega) (by omega), ?_⟩⟩⟩⟩⟩
    unfold T_X8_layOut_86
    have hF6 : Fr (fun k => k = 64 * o + 1) M M6 := Fr_trans h2 (Fr_trans (M' := M4) (by rw [hM4]; exact Fr_setA rfl) (Fr_trans (M' := M5) (by rw [hM5]; exact Fr_setA rfl) (by rw [hM6]; exact Fr_putA rfl)))
    refine ⟨inR_mk (by omega) (by omega), ih _ _ _ ⟨⟨by omega, by omega⟩, hF6, ?_, ?_⟩ (by omega)⟩
    · rw [e, plain_app, plain_one, List.length_append, pl1_len, h3]; dsimp only; omega
    · have e53 : M5.2 (64 * o + 3) = M.2 (64 * o + 3) := by rw [hM5, setA_2, if_neg (by omega), hM4, setA_2, if_neg (by omega)]; exact e3
      have h51 : AL (M5.2 (64 * o + 1)) 0 (plain (rI r low i) ++ [i] ++ [(v.length : Int)]) := by
        rw [hM5, setA_2, if_pos rfl, hM4, setA_2, if_pos rfl]
        exact AL_snoc (AL_snoc h5 (by omega)) (by rw [List.length_append]; simp only [List.length_cons, List.length_nil]; omega)
      have e9 : plain (rI r low (i + 1)) = plain (rI r low i) ++ [i] ++ [(v.length : Int)] ++ v := by
        rw [e, plain_app, plain_one]; simp [pl1]
      rw [e9, AL_app, hM6, putA_2, if_pos rfl]
      have hl3 : ((plain (rI r low i) ++ [i] ++ [(v.length : Int)]).length : Int) = c + 2 := by
        rw [List.length_append, List.length_append]; simp only [List.length_cons, List.length_nil]; omega
      refine ⟨AL_congr h51 (fun j j0 j1 => ?_), fun j j0 j1 => ?_⟩
      · unfold cpA; rw [if_neg (by omega)]
      · unfold cpA
        rw [if_pos (by omega), e53]
        exact (congrArg (M.2 (64 * o + 3)) (by omega)).trans (hA j j0 j1)
theorem P_X8_sizeOf {o : Nat} {key : Int} {r : Rec} {Q : Int → Prop} {M : zMem} (hT : tabC o M r) (hR : RecOK r) (hQ1 : ∀ v, r key = some v → Q v.length) (hQ0 : r key = none → Q (-1)) : T_X8_sizeOf o key Q M := by
  unfold T_X8_sizeOf
  apply P_X9_isByte
  · intro hk
    refine ⟨fun h => by omega, fun _ => ⟨⟨by omega, by omega⟩, ?_⟩⟩
    cases hr : r key with
    | none => rw [(hT key hk.1 hk.2).1 hr]; exact hQ0 hr
    | some v => rw [((hT key hk.1 hk.2).2 v hr).1]; exact hQ1 v hr
  · intro hk
    refine ⟨fun _ => hQ0 ?_, fun h => absurd rfl h⟩
    cases hr : r key with
    | none => rfl
    | some v => exact absurd (hR key v hr).1 hk
theorem P_X8_byteOf {o : Nat} {key j : Int} {r : Rec} {Q : Int → Prop} {M : zMem} (hT : tabC o M r) (hR : RecOK r) (hQ1 : ∀ v, r key = some v → 0 ≤ j → j < v.length → Q (gi v j)) (hQ0 : (∀ v, r key = some v → ¬ (0 ≤ j ∧ j < v.length)) → Q (-1)) : T_X8_byteOf o key j Q M := by
  unfold T_X8_byteOf
  refine ⟨fun h => hQ0 (fun v _ => by omega), fun h => ?_⟩
  apply P_X8_sizeOf hT hR
  · intro v hv
    have hk := (hR key v hv).1
    have hv8 := (hR key v hv).2.1
    refine ⟨fun h2 => hQ0 (fun w hw => ?_), fun h2 => ⟨inR_mk (by omega) (by omega), inR_mk (by omega) (by omega), ⟨by omega, by omega⟩, ?_⟩⟩
    · rw [hv] at hw; cases hw; omega
    · have := ((hT key hk.1 hk.2).2 v hv).2 j (by omega) (by omega)
      have e : key * 8 + j = 8 * key + j := by omega
      rw [e, this]
      exact hQ1 v hv (by omega) (by omega)
  · intro hn
    exact ⟨fun _ => hQ0 (fun v hv => by rw [hn] at hv; cases hv), fun h2 => by omega⟩
