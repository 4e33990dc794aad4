/-! what the law's start gives: the classes, the strings, the statics -/
theorem le_sa {args : Array Value} {s : State} {n : String} {xs : Nat → Int32} {A : Nat → Prop} (hl : (Cond.laysStatic "LaceRanks" n "[I").before args s = true) (hini : (Cond.initialized "LaceRanks").before args s = true) (harr : (Cond.arrayOf (.static "LaceRanks" n "[I") .int).before args s = true) (hlen : (Cond.eq (.length (.static "LaceRanks" n "[I")) (.int (Int32.ofNat 6))).before args s = true) (hel : ∀ j : Nat, j < 6 → (Cond.eq (.elem (.static "LaceRanks" n "[I") (.int (Int32.ofNat j))) (.int (xs j))).before args s = true) (hA : ∀ a : Nat, a < s.heap.size → ¬ A a) : SA n xs A s s.heap := by
  obtain ⟨t, ht, hT⟩ := va_Tof (f := fun j => .int (xs j)) (A := A) (N := 6) (by decide) harr (va_eqt hlen) (fun j hj => va_eqt (hel j hj)) hA
  obtain ⟨cell, h1, h2, h3, h4, h5, h6, h7⟩ := hT
  have hv := va_eqt hlen
  obtain ⟨b, cell', ht', harr', -⟩ := Term.length_spec hv
  have hsz : cell'.slots.size < 2 ^ 31 := by
    simp only [Term.eval, ht', harr', Option.bind_eq_bind, Option.bind_some] at hv
    by_cases hlt : cell'.slots.size < 2147483648
    · exact hlt
    · simp [hlt] at hv
  obtain ⟨hcell, -, -, -⟩ := State.arrayAt?_spec harr'
  rw [ht] at ht'
  cases ht'
  rw [h1] at hcell
  cases hcell
  have e6 : cell.slots.size = 6 := by
    have e := congrArg Int32.toInt h5
    have e1 : (cell.slots.size.toInt32).toInt = (cell.slots.size : Int) := nI_toInt hsz
    have e2 : (Int32.ofNat 6).toInt = (6 : Int) := by decide
    rw [e1, e2] at e
    omega
  exact ⟨t, va_Zref hl hini ht hA, ⟨cell, h1, h2, h3, e6, h6⟩, (Array.getElem?_eq_some_iff.mp h1).1, h7⟩
theorem le_str {args : Array Value} {s : State} {cur : Nat} {k : Nat} {tx : String} (hcur : s.vm.findClass RX5 = some cur) (h : (Cond.stringRef RX5 k tx).before args s = true) : ∃ sa, vk_R RX5 k tx sa s := by
  obtain ⟨-, -, -, a, -, -, -, -, -, hev⟩ := Cond.stringRef_spec hcur h
  exact ⟨a, vk_R.of h hev⟩
