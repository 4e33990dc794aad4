/-! the statics and the strings at the law's start -/
set_option maxHeartbeats 4000000 in
set_option maxRecDepth 100000 in
theorem le_out {b : Nat} {s : State} (hts : ∀ w ∈ lw_tbl, w.before #[Value.ref b] s = true) (hgv : (Jvm.Cond.and given_1 narrow_1).before #[Value.ref b] s = true) (hCD : CD s) : OUT (fun q : Nat => s.heap.size ≤ q) s s.heap ∧ NC s := by
  have hs := flat_of_before _ hgv
  have hA : ∀ a : Nat, a < s.heap.size → ¬ s.heap.size ≤ a := fun a h => Nat.not_le.mpr h
  obtain ⟨cur, k5, hcur, -⟩ := Cond.instantiable_spec (hts (.instantiable RX5 5) (by decide +kernel))
  have hini : (Cond.initialized "LaceRanks").before #[Value.ref b] s = true := hts _ (by decide +kernel)
  refine ⟨⟨vx_Zqof (hts _ (by decide +kernel)) (hts _ (by decide +kernel)) (hs _ (by decide +kernel)) hA, vx_Zqof (hts _ (by decide +kernel)) (hts _ (by decide +kernel)) (hs _ (by decide +kernel)) hA, le_str hcur (hts _ (by decide +kernel)), le_str hcur (hts _ (by decide +kernel)), le_str hcur (hts _ (by decide +kernel)), le_str hcur (hts _ (by decide +kernel)), hCD, ?_, ?_, ?_⟩, ?_⟩
  · refine le_sa (hts _ (by decide +kernel)) hini (hs _ (by decide +kernel)) (hs _ (by decide +kernel)) (fun j hj => ?_) hA
    rcases (show j = 0 ∨ j = 1 ∨ j = 2 ∨ j = 3 ∨ j = 4 ∨ j = 5 by omega) with rfl | rfl | rfl | rfl | rfl | rfl <;> exact hs _ (by decide +kernel)
  · refine le_sa (hts _ (by decide +kernel)) hini (hs _ (by decide +kernel)) (hs _ (by decide +kernel)) (fun j hj => ?_) hA
    rcases (show j = 0 ∨ j = 1 ∨ j = 2 ∨ j = 3 ∨ j = 4 ∨ j = 5 by omega) with rfl | rfl | rfl | rfl | rfl | rfl <;> exact hs _ (by decide +kernel)
  · refine le_sa (hts _ (by decide +kernel)) hini (hs _ (by decide +kernel)) (hs _ (by decide +kernel)) (fun j hj => ?_) hA
    rcases (show j = 0 ∨ j = 1 ∨ j = 2 ∨ j = 3 ∨ j = 4 ∨ j = 5 by omega) with rfl | rfl | rfl | rfl | rfl | rfl <;> exact hs _ (by decide +kernel)
  · intro q hq
    rcases List.mem_cons.mp hq with rfl | hq
    · exact va_Nc.of (hs _ (by decide +kernel))
    rcases List.mem_cons.mp hq with rfl | hq
    · exact va_Nc.of (hs _ (by decide +kernel))
    rcases List.mem_cons.mp hq with rfl | hq
    · exact va_Nc.of (hs _ (by decide +kernel))
    exact absurd hq List.not_mem_nil
