theorem rl_congr {r r' : Rec} : ∀ (n : Nat) (low : Int), (∀ j, low ≤ j → j < low + n → r j = r' j) → rl r low n = rl r' low n
  | 0, _, _ => rfl
  | n + 1, low, h => by
    have e : one r low = one r' low := by unfold one; rw [h low (by omega) (by omega)]
    rw [rl, rl, e, rl_congr n (low + 1) (fun j a b => h j (by omega) (by omega))]
theorem rI_congr {r r' : Rec} {a b : Int} (h : ∀ j, a ≤ j → j < b → r j = r' j) : rI r a b = rI r' a b := by
  unfold rI
  exact rl_congr _ _ (fun j h0 h1 => h j h0 (by omega))
theorem plain_nil_iff {rs : RS} : (plain rs).length = 0 ↔ rs = [] := by
  constructor
  · intro h
    have := plain_ge rs
    cases rs with
    | nil => rfl
    | cons a b => rw [List.length_cons] at this; omega
  · intro h; rw [h]; rfl
theorem upd_len {r : Rec} {k : Int} {v : Option (List Int)} (hk : 0 ≤ k ∧ k < 256) (hv : ∀ w, v = some w → w.length ≤ 8) : (plain (rI (updR r k v) 0 256)).length ≤ (plain (rI r 0 256)).length + 10 := by
  have h1 : rI (updR r k v) 0 k = rI r 0 k := rI_congr (fun j a b => by unfold updR; rw [if_neg (by omega)])
  have h2 : rI (updR r k v) (k + 1) 256 = rI r (k + 1) 256 := rI_congr (fun j a b => by unfold updR; rw [if_neg (by omega)])
  have h3 : (plain (one (updR r k v) k)).length ≤ 10 := by
    cases hvv : v with
    | none => rw [one_none (r := updR r k none) (k := k) (if_pos rfl)]; simp [plain_nil]
    | some w =>
      rw [one_some (r := updR r k (some w)) (k := k) (v := w) (if_pos rfl), plain_one, pl1_len]
      have := hv w hvv
      show 2 + w.length ≤ 10
      omega
  rw [rI_split (updR r k v) (low := 0) (mid := k) (high := 256) hk.1 (by omega), rI_cons (updR r k v) (i := k) (by omega), h1, h2, rI_split r (low := 0) (mid := k) (high := 256) hk.1 (by omega), rI_cons r (i := k) (by omega)]
  rw [plain_app, plain_app, plain_app, plain_app, List.length_append, List.length_append, List.length_append, List.length_append]
  omega
theorem ap_len {r : Rec} {e : List Int} (hR : RecOK r) (he : eOK e) (hc : can r e) : (plain (rI (ap r e) 0 256)).length ≤ (plain (rI r 0 256)).length + 10 := by
  have hR2 := RecOK_ap hR he hc
  have hk := allB_gi he.2.2 1
  obtain ⟨v, hv | hv⟩ := ap_upd r e
  · rw [hv] at hR2 ⊢
    refine upd_len hk (fun w hw => ?_)
    exact (hR2 (gi e 1) w (by unfold updR; rw [if_pos rfl]; exact hw)).2.1
  · rw [hv]; omega
def lgF (f : Int → Int) (a : Int) (e : List Int) : Int → Int := fun j => if a ≤ j ∧ j < a + e.length then gi e (j - a) else f j
abbrev ED : Type := Int × (Int → Int) × Lrn × List Int × Int
abbrev roomP (g : Int → Int) (L : Lrn) (e : List Int) (pkd : List Int) (es : List (List Int)) (rs : RS) : Prop := 2 + (pkd.length : Int) + es.flatten.length + e.length + (if gi e 0 / 16 = 2 then 0 else g 0) ≤ 64 ∧ (((plain (rI (ap (pR es rs) e) 0 256)).length : Int) ≤ 120 - L.1 ∨ (plain (rI (ap (pR es rs) e) 0 256)).length ≤ (plain (rI (pR es rs) 0 256)).length)
abbrev goneP (f : Int → Int) (e : List Int) (i : Int) (es : List (List Int)) (rs : RS) : Prop := gi e 0 / 16 = 2 ∧ rI (ap (pR es rs) e) 0 256 = [] ∧ f (642 + 2 * i) ≠ 0

noncomputable def edW (g f : Int → Int) (L : Lrn) (e : List Int) (i : Int) (pkd : List Int) (es : List (List Int)) (rs : RS) : ED :=
  if rf (pR es rs) e ≠ 0 then (rf (pR es rs) e, f, L, [], 0)
  else if goneP f e i es rs then (2, rmD f i, L, [], 0)
  else if roomP g L e pkd es rs then (0, lgF f (64 * f (641 + 2 * i) + (2 + pkd.length + es.flatten.length)) e, L, [], 64 * f (641 + 2 * i) + (2 + pkd.length + es.flatten.length))
  else if 10 < f 640 + (spRes g (ap (pR es rs) e) L).1.length - 1 then (-5, f, L, [], 0)
  else (spCode (spRes g (ap (pR es rs) e) L).1.length, spW f i 0 (spRes g (ap (pR es rs) e) L).1, (spRes g (ap (pR es rs) e) L).2, spP f i 0 (spRes g (ap (pR es rs) e) L).1, 0)
section
variable {g f : Int → Int} {L : Lrn} {e : List Int} {i : Int} {pkd : List Int} {es : List (List Int)} {rs : RS}
theorem edW_rf (h : rf (pR es rs) e ≠ 0) : edW g f L e i pkd es rs = (rf (pR es rs) e, f, L, [], 0) := by
  unfold edW; rw [if_pos h]
theorem edW_gone (h : rf (pR es rs) e = 0) (h2 : goneP f e i es rs) : edW g f L e i pkd es rs = (2, rmD f i, L, [], 0) := by
  unfold edW; rw [if_neg (fun q => q h), if_pos h2]
theorem edW_log (h : rf (pR es rs) e = 0) (h2 : ¬ goneP f e i es rs) (h3 : roomP g L e pkd es rs) : edW g f L e i pkd es rs = (0, lgF f (64 * f (641 + 2 * i) + (2 + pkd.length + es.flatten.length)) e, L, [], 64 * f (641 + 2 * i) + (2 + pkd.length + es.flatten.length)) := by
  unfold edW; rw [if_neg (fun q => q h), if_neg h2, if_pos h3]
theorem edW_no (h : rf (pR es rs) e = 0) (h2 : ¬ goneP f e i es rs) (h3 : ¬ roomP g L e pkd es rs) (h4 : 10 < f 640 + (spRes g (ap (pR es rs) e) L).1.length - 1) : edW g f L e i pkd es rs = (-5, f, L, [], 0) := by
  unfold edW; rw [if_neg (fun q => q h), if_neg h2, if_neg h3, if_pos h4]
theorem edW_sp (h : rf (pR es rs) e = 0) (h2 : ¬ goneP f e i es rs) (h3 : ¬ roomP g L e pkd es rs) (h4 : ¬ 10 < f 640 + (spRes g (ap (pR es rs) e) L).1.length - 1) : edW g f L e i pkd es rs = (spCode (spRes g (ap (pR es rs) e) L).1.length, spW f i 0 (spRes g (ap (pR es rs) e) L).1, (spRes g (ap (pR es rs) e) L).2, spP f i 0 (spRes g (ap (pR es rs) e) L).1, 0) := by
  unfold edW; rw [if_neg (fun q => q h), if_neg h2, if_neg h3, if_neg h4]
end
theorem spCode_pos {n : Nat} (h : 1 ≤ n) : 1 ≤ spCode n := by
  unfold spCode
  by_cases q : n = 1
  · rw [if_pos q]; omega
  · rw [if_neg q]; omega
theorem rf_neg (r : Rec) (e : List Int) : rf r e = 0 ∨ rf r e = -2 ∨ rf r e = -4 := by
  unfold rf
  repeat' (first | (exact Or.inl rfl) | (exact Or.inr (Or.inl rfl)) | (exact Or.inr (Or.inr rfl)) | split)
theorem sp_agr {f f' g : Int → Int} {i : Int} {r : Rec} {L : Lrn} (h : agr f f') (hD : DirOK f) (hi : 0 ≤ i ∧ i < f 640) (hk : keysAt f i r) (hg : trmOK g) (hL : lrnOK L) (hcap : f 640 + (spRes g r L).1.length - 1 ≤ 10) : agr (spW f' i 0 (spRes g r L).1) (spW f i 0 (spRes g r L).1) ∧ spP f' i 0 (spRes g r L).1 = spP f i 0 (spRes g r L).1 := by
  obtain ⟨r1, r2, r3, r4, r5⟩ := spRes_ok (r := r) hg hL
  have hu := hD.1
  have := spW_agr (i := i) hi.1 (by omega) (spRes g r L).1 0 f f' h (fun n hn => by
    by_cases h0 : n = 0
    · subst h0; rw [List.take_zero]; exact hu.2
    · have := spW_dirN hD hi hk r1 r2 hcap n (by omega) (by omega)
      rw [this.2]; omega)
  exact ⟨agr_symm this.1, this.2.symm⟩
theorem lgF_agr {f f' : Int → Int} {a : Int} {e : List Int} (h : agr f f') : agr (lgF f a e) (lgF f' a e) := by
  intro j h0 h1
  unfold lgF
  rw [h j h0 h1]
def fEd : Nat → Prop := fun k => fLd 3 k ∨ fSp k ∨ k = 131
