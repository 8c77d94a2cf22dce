-- what the start gives: the two tables, the classes
theorem zTb_of {args : Array Value} {s : State} {n : String} {T : Int → Int} (hl : (Cond.laysStatic "PackedPages" n "[I").before args s = true) (hini : (Cond.initialized "PackedPages").before args s = true) (harr : (Cond.arrayOf (.static "PackedPages" n "[I") .int).before args s = true) (hlen : (Cond.eq (.length (.static "PackedPages" n "[I")) (.int 5)).before args s = true)
    (h0 : (Cond.eq (.elem (.static "PackedPages" n "[I") (.int 0)) (.int (Int32.ofInt (T 0)))).before args s = true) (h1 : (Cond.eq (.elem (.static "PackedPages" n "[I") (.int 1)) (.int (Int32.ofInt (T 1)))).before args s = true) (h2 : (Cond.eq (.elem (.static "PackedPages" n "[I") (.int 2)) (.int (Int32.ofInt (T 2)))).before args s = true) (h3 : (Cond.eq (.elem (.static "PackedPages" n "[I") (.int 3)) (.int (Int32.ofInt (T 3)))).before args s = true) (h4 : (Cond.eq (.elem (.static "PackedPages" n "[I") (.int 4)) (.int (Int32.ofInt (T 4)))).before args s = true)
    {Gz : zG} (hb : zbs Gz = s.heap.size) : ∃ a : Nat, zTb Gz s n T a := by
  have hA : ∀ a : Nat, a < s.heap.size → ¬ zA Gz a := fun a ha hz => by
    have : zbs Gz ≤ a := hz
    omega
  obtain ⟨t, ht, hT⟩ := va_Tof (A := zA Gz) (N := 5) (f := fun j : Nat => .int (Int32.ofInt (T (j : Int)))) (by decide) harr (va_eqt hlen) (fun j hj => by
    match j, hj with
    | 0, _ => exact va_eqt h0
    | 1, _ => exact va_eqt h1
    | 2, _ => exact va_eqt h2
    | 3, _ => exact va_eqt h3
    | 4, _ => exact va_eqt h4) hA
  exact ⟨t, va_Zref hl hini ht hA, hT⟩
set_option maxRecDepth 100000 in
theorem zST_of {b : Nat} {s : State} {Gz : zG} (hts : ∀ w ∈ lw_tbl, w.before #[Value.ref b] s = true) (hgv : (Jvm.Cond.and given_1 narrow_1).before #[Value.ref b] s = true) (hb : zbs Gz = s.heap.size) : zST Gz s := by
  have hs := flat_of_before _ hgv
  obtain ⟨a1, h1⟩ := zTb_of (n := "TERM_LOWEST") (T := zTL) (hts _ (List.mem_of_getElem? (i := 335) rfl)) (hts _ (List.mem_of_getElem? (i := 101) rfl)) (hs _ (by decide +kernel)) (hs _ (by decide +kernel)) (hs _ (by decide +kernel)) (hs _ (by decide +kernel)) (hs _ (by decide +kernel)) (hs _ (by decide +kernel)) (hs _ (by decide +kernel)) (Gz := Gz) hb
  obtain ⟨a2, h2⟩ := zTb_of (n := "TERM_HIGHEST") (T := zTH) (hts _ (List.mem_of_getElem? (i := 337) rfl)) (hts _ (List.mem_of_getElem? (i := 101) rfl)) (hs _ (by decide +kernel)) (hs _ (by decide +kernel)) (hs _ (by decide +kernel)) (hs _ (by decide +kernel)) (hs _ (by decide +kernel)) (hs _ (by decide +kernel)) (hs _ (by decide +kernel)) (Gz := Gz) hb
  exact ⟨a1, a2, h1, h2⟩
theorem zNW_tbl : ∀ w ∈ zNW, w ∈ lw_tbl := by decide +kernel
theorem zNW_on : ∀ w ∈ zNW, w.onTables = true := by decide +kernel
theorem ws_tbl : ∀ w ∈ lw_ws, w ∈ lw_tbl := fun w hw => (List.mem_filter.mp hw).1
set_option maxRecDepth 100000 in
theorem zKK_of {b : Nat} {s : State} (hts : ∀ w ∈ lw_tbl, w.before #[Value.ref b] s = true) : ∃ (D : va_G) (cI cO : ClassId), ∀ (ad : Nat → Nat) (bs : Nat), zKK (D, cI, cO, ad, bs) s := by
  have hws : ∀ w ∈ lw_ws, w.before #[Value.ref b] s = true := fun w hw => hts w (ws_tbl w hw)
  obtain ⟨c0, i0, h0⟩ := u_known (C := RX0) (T := TX0) (N := 5) (n := 5) hws inT0 (hws _ it_X0)
  obtain ⟨c1, i1, h1⟩ := u_known (C := RX1) (T := TX1) (N := 8) (n := 8) hws inT1 (hws _ it_X1)
  obtain ⟨c2, i2, h2⟩ := u_known (C := RX3) (T := TX3) (N := 3) (n := 3) hws inT3 (hws _ it_X3)
  obtain ⟨c3, i3, h3⟩ := u_known (C := RX5) (T := TX5) (N := 4) (n := 4) hws inT5 (hws _ it_X5)
  obtain ⟨c4, i4, h4⟩ := u_known (C := RX6) (T := TX6) (N := 8) (n := 8) hws inT6 (hws _ it_X6)
  obtain ⟨c5, i5, h5⟩ := u_known (C := RX7) (T := TX7) (N := 3) (n := 3) hws inT7 (hws _ it_X7)
  obtain ⟨c6, i6, h6⟩ := u_known (C := RX8) (T := TX8) (N := 4) (n := 4) hws inT8 (hws _ it_X8)
  obtain ⟨c7, i7, h7⟩ := u_known (C := RX9) (T := TX9) (N := 14) (n := 14) hws inT9 (hws _ it_X9)
  obtain ⟨c8, i8, h8⟩ := u_known (C := RX10) (T := TX10) (N := 40) (n := 40) hws inT10 (hws _ it_X10)
  obtain ⟨dC, dI, hKc⟩ : ∃ (dC : Nat → ClassId) (dI : Nat → Nat → Nat), ∀ (k : Nat) (q : vw_C), vwCl[k]? = some q → u_Kn s q.1 q.2.1 q.2.2 (dC k) (dI k) := by
    refine ⟨fun k => if k = 0 then c0 else if k = 1 then c1 else if k = 2 then c2 else if k = 3 then c3 else if k = 4 then c4 else if k = 5 then c5 else if k = 6 then c6 else if k = 7 then c7 else c8, fun k => if k = 0 then i0 else if k = 1 then i1 else if k = 2 then i2 else if k = 3 then i3 else if k = 4 then i4 else if k = 5 then i5 else if k = 6 then i6 else if k = 7 then i7 else i8, ?_⟩
    intro k q hq
    match k, hq with
    | 0, hq => cases hq; exact h0
    | 1, hq => cases hq; exact h1
    | 2, hq => cases hq; exact h2
    | 3, hq => cases hq; exact h3
    | 4, hq => cases hq; exact h4
    | 5, hq => cases hq; exact h5
    | 6, hq => cases hq; exact h6
    | 7, hq => cases hq; exact h7
    | 8, hq => cases hq; exact h8
    | k + 9, hq => simp [vwCl] at hq
  obtain ⟨cI, kI, compI, f1, f2, f3⟩ := Cond.arrayClass_spec (hws _ ac_i)
  have hao : (Cond.arrayOver (.object "PackedPages$Moment")).before #[Value.ref b] s = true := hts _ (List.mem_of_getElem? (i := 275) rfl)
  obtain ⟨compO, cO, kO, g1, g2, g3, g4, g5⟩ := Cond.arrayOver_spec hao
  refine ⟨(dC, dI), cI, cO, fun ad bs => ⟨⟨hKc, fun k q hk => ?_⟩, fun w hw => va_Nw.of (zNW_on w hw) (hts w (zNW_tbl w hw)), va_AO.of hao⟩⟩
  match k, hk with
  | 0, hk => cases hk; exact ⟨fun n z => ⟨fun k h => (by cases h), kI, f2, compI, f3⟩, f1⟩
  | 1, hk => cases hk; exact ⟨fun n z => ⟨fun k h => (by cases h), kO, g3, compO, g4⟩, kO, compO, g3, g4, g1, g5⟩
  | k + 2, hk => simp at hk
