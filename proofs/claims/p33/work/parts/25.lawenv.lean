/-! what the start gives: the classes, the statics -/
theorem le_len {args : Array Value} {s : State} {tm : Term} {v : Value} (hv : (Term.length tm).eval args s none [] s = some v) : ∃ (b : Addr) (cell : Cell), tm.eval args s none [] s = some (.ref b) ∧ s.arrayAt? b = some cell ∧ cell.slots.size < 2 ^ 31 := by
  obtain ⟨b, cell', ht', harr', -⟩ := Term.length_spec hv
  refine ⟨b, cell', ht', harr', ?_⟩
  simp only [Term.eval, ht', harr', Option.bind_eq_bind, Option.bind_some] at hv
  by_cases hlt : cell'.slots.size < 2147483648
  · exact hlt
  · simp [hlt] at hv
theorem le_sa {args : Array Value} {s : State} {n : String} {xs : Nat → Int32} {A : Nat → Prop} (hl : (Cond.laysStatic "LaceRanks" n "[I").before args s = true) (hini : (Cond.initialized "LaceRanks").before args s = true) (harr : (Cond.arrayOf (.static "LaceRanks" n "[I") .int).before args s = true) (hlen : (Cond.eq (.length (.static "LaceRanks" n "[I")) (.int (Int32.ofNat 6))).before args s = true) (hel : ∀ j : Nat, j < 6 → (Cond.eq (.elem (.static "LaceRanks" n "[I") (.int (Int32.ofNat j))) (.int (xs j))).before args s = true) (hA : ∀ a : Nat, a < s.heap.size → ¬ A a) : SA n xs A s s.heap := by
  obtain ⟨t, ht, hT⟩ := va_Tof (f := fun j => .int (xs j)) (A := A) (N := 6) (by decide) harr (va_eqt hlen) (fun j hj => va_eqt (hel j hj)) hA
  obtain ⟨cell, h1, h2, h3, h4, h5, h6, h7⟩ := hT
  have hv := va_eqt hlen
  obtain ⟨b, cell', ht', harr', hsz⟩ := le_len hv
  obtain ⟨hcell, -, -, -⟩ := State.arrayAt?_spec harr'
  rw [ht] at ht'
  cases ht'
  rw [h1] at hcell
  cases hcell
  have e6 : cell.slots.size = 6 := by
    have e := congrArg Int32.toInt h5
    have e1 : (cell.slots.size.toInt32).toInt = (cell.slots.size : Int) := nI_toInt hsz
    have e2 : (Int32.ofNat 6).toInt = (6 : Int) := by decide
    rw [e1, e2] at e
    omega
  exact ⟨t, va_Zref hl hini ht hA, ⟨cell, h1, h2, h3, e6, h6⟩, (Array.getElem?_eq_some_iff.mp h1).1, h7⟩
theorem le_nwon : ∀ w ∈ nws, w.onTables = true := by decide +kernel
set_option maxRecDepth 100000 in
theorem le_nwin : ∀ w ∈ nws, w ∈ lw_tbl := by decide +kernel
set_option maxHeartbeats 4000000 in
set_option maxRecDepth 100000 in
theorem le_env {args : Array Value} {s : State} (hts : ∀ w ∈ lw_tbl, w.before args s = true) : ∃ (D : va_G) (cI cR : ClassId), va_K D vwCl (tysX cI cR) s ∧ NW s ∧ va_AO "LaceRanks$Carnival" s := by
  obtain ⟨eC0, eI0, eK0⟩ := u_known hts inX0 (hts (.instantiable RX0 12) (by decide +kernel))
  obtain ⟨eC1, eI1, eK1⟩ := u_known hts inX1 (hts (.instantiable RX1 9) (by decide +kernel))
  obtain ⟨eC2, eI2, eK2⟩ := u_known hts inX2 (hts (.instantiable RX2 3) (by decide +kernel))
  obtain ⟨eC3, eI3, eK3⟩ := u_known hts inX3 (hts (.instantiable RX3 2) (by decide +kernel))
  obtain ⟨eC4, eI4, eK4⟩ := u_known hts inX4 (hts (.instantiable RX4 2) (by decide +kernel))
  obtain ⟨eC5, eI5, eK5⟩ := u_known hts inX5 (hts (.instantiable RX5 5) (by decide +kernel))
  obtain ⟨cI, kI, pI, i1, i2, i3⟩ := Cond.arrayClass_spec (hts (.arrayClass .int) (by decide +kernel))
  have hAO := hts (.arrayOver (.object "LaceRanks$Carnival")) (by decide +kernel)
  obtain ⟨pR, cR, kR, r1, r2, r3, r4, r5⟩ := Cond.arrayOver_spec hAO
  refine ⟨(fun c => match c with | 0 => eC0 | 1 => eC1 | 2 => eC2 | 3 => eC3 | 4 => eC4 | _ => eC5, fun c => match c with | 0 => eI0 | 1 => eI1 | 2 => eI2 | 3 => eI3 | 4 => eI4 | _ => eI5), cI, cR, ⟨fun c q hq => ?_, fun k q hk => ?_⟩, fun w hw => va_Nw.of (le_nwon w hw) (hts w (le_nwin w hw)), va_AO.of hAO⟩
  · have hlt : c < 6 := (List.getElem?_eq_some_iff.mp hq).1
    rcases (show c = 0 ∨ c = 1 ∨ c = 2 ∨ c = 3 ∨ c = 4 ∨ c = 5 by omega) with rfl | rfl | rfl | rfl | rfl | rfl
    · cases hq; exact eK0
    · cases hq; exact eK1
    · cases hq; exact eK2
    · cases hq; exact eK3
    · cases hq; exact eK4
    · cases hq; exact eK5
  · have hlt : k < 2 := (List.getElem?_eq_some_iff.mp hk).1
    rcases (show k = 0 ∨ k = 1 by omega) with rfl | rfl
    · cases hk; exact ⟨fun n z => ⟨fun k h => (by cases h), kI, i2, pI, i3⟩, i1⟩
    · cases hk; exact ⟨fun n z => ⟨fun k h => (by cases h), kR, r3, pR, r4⟩, kR, pR, r3, r4, r1, r5⟩
set_option maxHeartbeats 4000000 in
set_option maxRecDepth 100000 in
theorem le_out {b : Nat} {s : State} (hts : ∀ w ∈ lw_tbl, w.before #[Value.ref b] s = true) (hgv : (Jvm.Cond.and given_1 narrow_1).before #[Value.ref b] s = true) : OUT (fun q : Nat => s.heap.size ≤ q) s s.heap := by
  have hs := flat_of_before _ hgv
  have hA : ∀ a : Nat, a < s.heap.size → ¬ s.heap.size ≤ a := fun a h => Nat.not_le.mpr h
  obtain ⟨cur, k5, hcur, -⟩ := Cond.instantiable_spec (hts (.instantiable RX5 5) (by decide +kernel))
  have hini : (Cond.initialized "LaceRanks").before #[Value.ref b] s = true := hts _ (by decide +kernel)
  refine ⟨?_, ?_, ?_⟩
  · refine le_sa (hts _ (by decide +kernel)) hini (hs _ (by decide +kernel)) (hs _ (by decide +kernel)) (fun j hj => ?_) hA
    rcases (show j = 0 ∨ j = 1 ∨ j = 2 ∨ j = 3 ∨ j = 4 ∨ j = 5 by omega) with rfl | rfl | rfl | rfl | rfl | rfl <;> exact hs _ (by decide +kernel)
  · refine le_sa (hts _ (by decide +kernel)) hini (hs _ (by decide +kernel)) (hs _ (by decide +kernel)) (fun j hj => ?_) hA
    rcases (show j = 0 ∨ j = 1 ∨ j = 2 ∨ j = 3 ∨ j = 4 ∨ j = 5 by omega) with rfl | rfl | rfl | rfl | rfl | rfl <;> exact hs _ (by decide +kernel)
  · refine le_sa (hts _ (by decide +kernel)) hini (hs _ (by decide +kernel)) (hs _ (by decide +kernel)) (fun j hj => ?_) hA
    rcases (show j = 0 ∨ j = 1 ∨ j = 2 ∨ j = 3 ∨ j = 4 ∨ j = 5 by omega) with rfl | rfl | rfl | rfl | rfl | rfl <;> exact hs _ (by decide +kernel)
