theorem L_end {p : Program} {l : Launch} {e : Env} {s : State} {m : MethodId} {below : List Frame} {meth : Method} {c : Code} {Gz : zG} {b : Nat} {L : List (Option zV)} {M : zMem} {cells slots : Nat} (hc : zCx p s m #[Value.ref b] c cL_law 4 RL Gz) (hr : meth.sig.returnType = ret) (hlk : meth.locks = false) (hbs : zbs Gz = s.heap.size) (h1 : cells ≤ 600000) (h2 : slots ≤ 7302250) : zJ p l e room_1 s m #[Value.ref b] below meth c Gz 4 cells slots (lw_Z below #[Value.ref b] s) 944 L [] M := by
  refine zj_iconst (pc := 944) hc dL_law_944 (zin _ rfl) ?_
  intro _ _ ls H locs X hL hW hS
  refine va_forget (fun q hq => by rw [← hbs]; exact hS.2.2 q hq) ?_
  refine W.widen h1 h2 ?_
  exact lw_ret hc.1 hc.2.1 hr hlk dL_law_945
-- the law's loop: call by call
set_option maxRecDepth 100000 in
set_option maxHeartbeats 4000000 in
theorem L_loop {p : Program} {l : Launch} {e : Env} {s : State} {m : MethodId} {below : List Frame} {meth : Method} {c : Code} {Gz : zG} {b n : Nat} {xs : Nat → Int32} (hc : zCx p s m #[Value.ref b] c cL_law 4 RL Gz) (hX : zScr Gz s n xs) (hst : zST Gz s) (hr : meth.sig.returnType = ret) (hlk : meth.locks = false) (hbs : zbs Gz = s.heap.size) :
    ∀ (k9 k : Nat) (M : zMem) (N : Int) (cells slots : Nat), k + k9 = 513 → N ≤ (k : Int) → Inv N M → cells + 3 * k9 ≤ 600000 → slots + 1342 * k9 ≤ 7302250 → zJ p l e room_1 s m #[Value.ref b] below meth c Gz 4 cells slots (lw_Z below #[Value.ref b] s) 18 [some (.inr 700), some (.inr 63), some (.inr 639), some (.inl (6 * (k : Int)))] [] M := by
  intro k9
  induction k9 with
  | zero =>
    intro k M N cells slots hk hN hI h1 h2
    have hn := hX.2.2.2
    refine zj_iload_n (pc := 18) (x := 6 * (k : Int)) hc dL_law_18 rfl ?_
    refine zj_aload_n (pc := 19) (x := 700) hc dL_law_19 rfl ?_
    refine zj_slen (pc := 20) hc hX dL_law_20 ?_
    refine zj_bipush (pc := 21) hc dL_law_21 (by decide) (zin _ rfl) ?_
    refine zj_isub (pc := 23) hc dL_law_23 ⟨by omega, by omega⟩ ?_
    refine zj_icmp_gt (pc := 24) (tgt := 944) hc dL_law_24 (by decide) (fun _ => ?_) (fun hne => absurd (by omega) hne)
    exact L_end hc hr hlk hbs (by omega) (by omega)
  | succ k9 ih =>
    intro k M N cells slots hk hN hI h1 h2
    have hn := hX.2.2.2
    refine zj_iload_n (pc := 18) (x := 6 * (k : Int)) hc dL_law_18 rfl ?_
    refine zj_aload_n (pc := 19) (x := 700) hc dL_law_19 rfl ?_
    refine zj_slen (pc := 20) hc hX dL_law_20 ?_
    refine zj_bipush (pc := 21) hc dL_law_21 (by decide) (zin _ rfl) ?_
    refine zj_isub (pc := 23) hc dL_law_23 ⟨by omega, by omega⟩ ?_
    refine zj_icmp_gt (pc := 24) (tgt := 944) hc dL_law_24 (by decide) (fun _ => L_end hc hr hlk hbs (by omega) (by omega)) (fun hne => ?_)
    have hi : 0 ≤ 6 * (k : Int) ∧ 6 * (k : Int) + 6 ≤ (n : Int) := by omega
    have next : ∀ (M2 : zMem) (N2 : Int), N2 ≤ (k : Int) + 1 → Inv N2 M2 → zJ p l e room_1 s m #[Value.ref b] below meth c Gz 4 (cells + 3) (slots + 1342) (lw_Z below #[Value.ref b] s) 938 [some (.inr 700), some (.inr 63), some (.inr 639), some (.inl (6 * (k : Int)))] [] M2 := by
      intro M2 N2 hN2 hI2
      refine zj_iinc (pc := 938) (x := 6 * (k : Int)) (n := 6) hc dL_law_938 rfl (by decide) ⟨by omega, by omega⟩ ?_
      refine zj_goto (pc := 941) (tgt := 18) hc dL_law_941 (by decide) ?_
      have h9 := ih (k + 1) M2 N2 (cells + 3) (slots + 1342) (by omega) (by omega) hI2 (by omega) (by omega)
      have e9 : 6 * ((k + 1 : Nat) : Int) = 6 * (k : Int) + 6 := by omega
      rw [e9] at h9
      exact h9
    refine zj_aload_n (pc := 27) (x := 700) hc dL_law_27 rfl ?_
    refine zj_iload_n (pc := 28) (x := 6 * (k : Int)) hc dL_law_28 rfl ?_
    refine zj_sld (pc := 29) hc hX dL_law_29 ⟨by omega, by omega⟩ ?_
    refine zj_bipush (pc := 30) hc dL_law_30 (by decide) (zin _ rfl) ?_
    refine zj_iand (pc := 32) hc dL_law_32 ?_
    refine zj_nm (fun v hv => ?_)
    rw [zand_31] at hv
    have hcs : cells + 3 ≤ 600000 ∧ slots + 1342 ≤ 7302250 := by omega
    have hNN : N ≤ 1000 := by omega
    have kk : ∀ M2, Inv (N + 1) M2 → zJ p l e room_1 s m #[Value.ref b] below meth c Gz 4 (cells + 3) (slots + 1342) (lw_Z below #[Value.ref b] s) 938 [some (.inr 700), some (.inr 63), some (.inr 639), some (.inl (6 * (k : Int)))] [] M2 := fun M2 h => next M2 (N + 1) (by omega) h
    have hv0 : 0 ≤ v ∧ v ≤ 31 := by omega
    clear hv
    by_cases q30 : 30 ≤ v
    · exact zj_tableOut (pc := 33) (tgt := 938) hc dL_law_33 (Or.inr (by omega)) (by decide) (zj_widen (by omega) (by omega) (next M N (by omega) hI))
    have hvv : v = 0 ∨ v = 1 ∨ v = 2 ∨ v = 3 ∨ v = 4 ∨ v = 5 ∨ v = 6 ∨ v = 7 ∨ v = 8 ∨ v = 9 ∨ v = 10 ∨ v = 11 ∨ v = 12 ∨ v = 13 ∨ v = 14 ∨ v = 15 ∨ v = 16 ∨ v = 17 ∨ v = 18 ∨ v = 19 ∨ v = 20 ∨ v = 21 ∨ v = 22 ∨ v = 23 ∨ v = 24 ∨ v = 25 ∨ v = 26 ∨ v = 27 ∨ v = 28 ∨ v = 29 := by omega
    rcases hvv with rfl | rfl | rfl | rfl | rfl | rfl | rfl | rfl | rfl | rfl | rfl | rfl | rfl | rfl | rfl | rfl | rfl | rfl | rfl | rfl | rfl | rfl | rfl | rfl | rfl | rfl | rfl | rfl | rfl | rfl
    · exact zj_tableIn (pc := 33) (tgt := 168) hc dL_law_33 ⟨by decide, by decide⟩ rfl (by decide) (L_0 hc hX hst hcs hi hI hNN kk)
    · exact zj_tableIn (pc := 33) (tgt := 201) hc dL_law_33 ⟨by decide, by decide⟩ rfl (by decide) (L_1 hc hX hst hcs hi hI hNN kk)
    · exact zj_tableIn (pc := 33) (tgt := 264) hc dL_law_33 ⟨by decide, by decide⟩ rfl (by decide) (L_2 hc hX hst hcs hi hI hNN kk)
    · exact zj_tableIn (pc := 33) (tgt := 287) hc dL_law_33 ⟨by decide, by decide⟩ rfl (by decide) (L_3 hc hX hst hcs hi hI hNN kk)
    · exact zj_tableIn (pc := 33) (tgt := 310) hc dL_law_33 ⟨by decide, by decide⟩ rfl (by decide) (L_4 hc hX hst hcs hi hI hNN kk)
    · exact zj_tableIn (pc := 33) (tgt := 333) hc dL_law_33 ⟨by decide, by decide⟩ rfl (by decide) (L_5 hc hX hst hcs hi hI hNN kk)
    · exact zj_tableIn (pc := 33) (tgt := 356) hc dL_law_33 ⟨by decide, by decide⟩ rfl (by decide) (L_6 hc hX hst hcs hi hI hNN kk)
    · exact zj_tableIn (pc := 33) (tgt := 369) hc dL_law_33 ⟨by decide, by decide⟩ rfl (by decide) (L_7 hc hX hst hcs hi hI hNN kk)
    · exact zj_tableIn (pc := 33) (tgt := 392) hc dL_law_33 ⟨by decide, by decide⟩ rfl (by decide) (L_8 hc hX hst hcs hi hI hNN kk)
    · exact zj_tableIn (pc := 33) (tgt := 415) hc dL_law_33 ⟨by decide, by decide⟩ rfl (by decide) (L_9 hc hX hst hcs hi hI hNN kk)
    · exact zj_tableIn (pc := 33) (tgt := 458) hc dL_law_33 ⟨by decide, by decide⟩ rfl (by decide) (L_10 hc hX hst hcs hi hI hNN kk)
    · exact zj_tableIn (pc := 33) (tgt := 481) hc dL_law_33 ⟨by decide, by decide⟩ rfl (by decide) (L_11 hc hX hst hcs hi hI hNN kk)
    · exact zj_tableIn (pc := 33) (tgt := 494) hc dL_law_33 ⟨by decide, by decide⟩ rfl (by decide) (L_12 hc hX hst hcs hi hI hNN kk)
    · exact zj_tableIn (pc := 33) (tgt := 507) hc dL_law_33 ⟨by decide, by decide⟩ rfl (by decide) (L_13 hc hX hst hcs hi hI hNN kk)
    · exact zj_tableIn (pc := 33) (tgt := 530) hc dL_law_33 ⟨by decide, by decide⟩ rfl (by decide) (L_14 hc hX hst hcs hi hI hNN kk)
    · exact zj_tableIn (pc := 33) (tgt := 543) hc dL_law_33 ⟨by decide, by decide⟩ rfl (by decide) (L_15 hc hX hst hcs hi hI hNN kk)
    · exact zj_tableIn (pc := 33) (tgt := 556) hc dL_law_33 ⟨by decide, by decide⟩ rfl (by decide) (L_16 hc hX hst hcs hi hI hNN kk)
    · exact zj_tableIn (pc := 33) (tgt := 579) hc dL_law_33 ⟨by decide, by decide⟩ rfl (by decide) (L_17 hc hX hst hcs hi hI hNN kk)
    · exact zj_tableIn (pc := 33) (tgt := 592) hc dL_law_33 ⟨by decide, by decide⟩ rfl (by decide) (L_18 hc hX hst hcs hi hI hNN kk)
    · exact zj_tableIn (pc := 33) (tgt := 625) hc dL_law_33 ⟨by decide, by decide⟩ rfl (by decide) (L_19 hc hX hst hcs hi hI hNN kk)
    · exact zj_tableIn (pc := 33) (tgt := 648) hc dL_law_33 ⟨by decide, by decide⟩ rfl (by decide) (L_20 hc hX hst hcs hi hI hNN kk)
    · exact zj_tableIn (pc := 33) (tgt := 681) hc dL_law_33 ⟨by decide, by decide⟩ rfl (by decide) (L_21 hc hX hst hcs hi hI hNN kk)
    · exact zj_tableIn (pc := 33) (tgt := 714) hc dL_law_33 ⟨by decide, by decide⟩ rfl (by decide) (L_22 hc hX hst hcs hi hI hNN kk)
    · exact zj_tableIn (pc := 33) (tgt := 757) hc dL_law_33 ⟨by decide, by decide⟩ rfl (by decide) (L_23 hc hX hst hcs hi hI hNN kk)
    · exact zj_tableIn (pc := 33) (tgt := 800) hc dL_law_33 ⟨by decide, by decide⟩ rfl (by decide) (L_24 hc hX hst hcs hi hI hNN kk)
    · exact zj_tableIn (pc := 33) (tgt := 823) hc dL_law_33 ⟨by decide, by decide⟩ rfl (by decide) (L_25 hc hX hst hcs hi hI hNN kk)
    · exact zj_tableIn (pc := 33) (tgt := 856) hc dL_law_33 ⟨by decide, by decide⟩ rfl (by decide) (L_26 hc hX hst hcs hi hI hNN kk)
    · exact zj_tableIn (pc := 33) (tgt := 879) hc dL_law_33 ⟨by decide, by decide⟩ rfl (by decide) (L_27 hc hX hst hcs hi hI hNN kk)
    · exact zj_tableIn (pc := 33) (tgt := 902) hc dL_law_33 ⟨by decide, by decide⟩ rfl (by decide) (L_28 hc hX hst hcs hi hI hNN kk)
    · exact zj_tableIn (pc := 33) (tgt := 925) hc dL_law_33 ⟨by decide, by decide⟩ rfl (by decide) (L_29 hc hX hst hcs hi hI hNN kk)
