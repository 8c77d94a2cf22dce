-- the law's own frame: the script is the id 700
section zLaw
variable {p : Program} {l : Launch} {e : Env} {R : Room} {s : State} {m : MethodId} {args : Array Value} {below : List Frame} {meth : Method} {c : Code} {cells slots : Nat} {Q : State → Prop} {cc : ByteArray} {nL : Nat} {own : String} {Gz : zG} {pc : Nat} {L : List (Option zV)} {st : List zV} {M : zMem} {b n : Nat} {xs : Nat → Int32}
def zScr (Gz : zG) (s : State) (n : Nat) (xs : Nat → Int32) : Prop := va_X (zad Gz 700) n xs s s.heap ∧ zad Gz 700 < s.heap.size ∧ ¬ zA Gz (zad Gz 700) ∧ n ≤ 3072
def zXs (xs : Nat → Int32) (i : Int) : Int := (xs i.toNat).toInt
theorem zXs_r (xs : Nat → Int32) (i : Int) : inR (zXs xs i) := zr_of _
theorem zj_sld (hc : zCx p s m args c cc nL own Gz) (hX : zScr Gz s n xs) {i : Int} (hd : decode cc pc = .ok (.iaload, 1)) (hi : 0 ≤ i ∧ i < (n : Int)) (kk : zJ p l e R s m args below meth c Gz nL cells slots Q (pc + 1) L (.inl (zXs xs i) :: st) M) : zJ p l e R s m args below meth c Gz nL cells slots Q pc L (.inl i :: .inr 700 :: st) M := by
  intro h1 h2 ls H locs X hL hW hS
  have hx : inR i := zokH h1
  refine va_sld hc.1 hc.2.1 hX.1 hX.2.1 hX.2.2.1 hS (zr_in hx hi.1 hi.2) hd ?_
  rw [zr_cl hx]
  have h9 := kk (zokC (zokT (zokT h1)) (zXs_r xs i)) h2 ls H locs X hL hW hS
  rw [List.map_cons, zmv, zXs, zr_back] at h9
  exact h9
theorem zj_slen (hc : zCx p s m args c cc nL own Gz) (hX : zScr Gz s n xs) (hd : decode cc pc = .ok (.arraylength, 1)) (kk : zJ p l e R s m args below meth c Gz nL cells slots Q (pc + 1) L (.inl (n : Int) :: st) M) : zJ p l e R s m args below meth c Gz nL cells slots Q pc L (.inr 700 :: st) M := by
  intro h1 h2 ls H locs X hL hW hS
  have hn := hX.2.2.2
  refine va_slen hc.1 hc.2.1 hX.1 hX.2.1 hX.2.2.1 hS hd ?_
  exact kk (zokC (zokT h1) ⟨by omega, by omega⟩) h2 ls H locs X hL hW hS
theorem zj_terms (hc : zCx p s m args c cc nL own Gz) (hst0 : zST Gz s) {f lo index : Nat} {v1 v2 : Int} {Qr : Int → zMem → Prop} (hl : Cond.methodLink own index yX9_terms ∈ lw_ws) (hM : zMetT l f lo Gz [.inr 63, .inl v1, .inl v2] M Qr) (hroom : f + 1 ≤ R.frames ∧ 8 + (4 + 11) + lo ≤ R.locals) (hcap : st.length ≤ 8) (hcs : cells + 0 ≤ R.cells ∧ slots + 0 ≤ R.slots) (hd : decode cc pc = .ok (.invokevirtual index, 3))
    (kk : ∀ (r : Int) (M' : zMem), Qr r M' → zJ p l e R s m args below meth c Gz nL (cells + 0) (slots + 0) Q (pc + 3) L (.inl r :: st) M') : zJ p l e R s m args below meth c Gz nL cells slots Q pc L (.inl v2 :: .inl v1 :: .inr 63 :: st) M := by
  intro h1 h2 ls H locs X hL hW hS
  have hok : ∀ v ∈ (.inr 63 :: [.inl v1, .inl v2] : List zV), zok v := by
    intro v hv
    simp only [List.mem_cons, List.not_mem_nil, or_false] at hv
    rcases hv with rfl | rfl | rfl
    · trivial
    · exact zokH (zokT h1)
    · exact zokH h1
  have hbl : FrameBlind (va_Pc (([.inr 63, .inl v1, .inl v2] : List zV).map (zmv Gz)) (fun U => zPre Gz M [.inr 63, .inl v1, .inl v2] U ∧ zST Gz U)) := by
    intro a U g mk q
    obtain ⟨q0, ⟨q1, q2, q3, q4⟩, a1, a2, q5, q6⟩ := q
    have hvm : U.vm.Alike (U.calling g mk a).vm := Vm.Alike.refl U.vm
    exact ⟨q0, ⟨q1, q2, zKK_same (u := U) (U := U.calling g mk a) rfl q3, q4⟩, zST_keep (locs := []) ⟨a1, a2, q5, q6⟩ va_S.rf rfl hvm⟩
  refine va_calli (va_runV (C := RX9) (b := zad Gz 63) (As := ([.inl v1, .inl v2] : List zV).map (zmv Gz)) (rest := st.map (zmv Gz)) (n := 2) ⟨hc.1, hc.2.1, hc.2.2.1, hc.2.2.2.1, hc.2.2.2.2.1⟩ hM ⟨zcallB hc ks_X9_terms hl hroom, hc.2.2.2.2.1 _ iv_X9_terms.1, hc.2.2.2.2.1 _ iv_X9_terms.2⟩ ⟨hbl, va_recv hc.2.2.2.2.2.1.1 hW.1 (q := (RX9, TX9, 14)) (ci := 7) rfl (q0 := 0) rfl, fun U hU hWm => ⟨rfl, (zpre_of hc hW hS (As := [.inr 63, .inl v1, .inl v2]) hok U hU hWm).2, zST_keep hst0 hS hU hWm.alike⟩⟩ rfl rfl hL.1 rfl (lv_room (by rw [zcats]; exact hcap)) hd hcs) hS (fun q _ h => h) (fun q h => h) (fun r M' t H1 locs1 ht hvm hw hB hz1 hk1 hS1 => ?_)
  obtain ⟨X', hW'⟩ := hB
  rw [ht] at hW'
  have h9 := kk r.toInt M' hw (zokC (zokT (zokT (zokT h1))) (zr_of r)) h2 ls H1 locs1 X' hL hW' hS1
  rw [List.map_cons, zmv, zr_back] at h9
  exact h9
end zLaw
