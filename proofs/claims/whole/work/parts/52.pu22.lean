/-! the pure part: all of it -/
theorem z_R0 : Rel 0 0 (fun _ => 0) kK0 ms0 := by
  refine ⟨⟨by omega, rfl, ⟨0, by omega, rfl⟩, ⟨2, by omega, by decide⟩, ⟨4, by omega, by decide⟩, ⟨3, by omega, by decide⟩, ⟨2, by omega, by decide⟩, ⟨2, by omega, by decide⟩, ⟨10, by omega, by decide⟩⟩, fun g hg => absurd hg (by omega), fun g hg => absurd hg (by omega), ⟨fun c hc => rfl, fun c hc k hk => absurd hk (Nat.not_lt_zero _), fun c hc => Nat.zero_le 10, fun c hc k hk => absurd hk (Nat.not_lt_zero _)⟩, ?_, fun g hg => absurd hg (by omega), ?_⟩
  · unfold AgS
    decide
  · intro c hc
    refine ⟨?_, fun k hk => absurd hk (Nat.not_lt_zero _)⟩
    rcases (show c = 0 ∨ c = 1 ∨ c = 2 by omega) with e | e | e <;> subst e <;> decide
theorem z_RR0 : RR 0 O0 kK0 M0 := ⟨⟨0, fun _ => 0, z_R0⟩, ⟨0, 0, by omega, by omega, rfl, rfl, rfl, fun i hi => absurd hi (by omega)⟩, Or.inl ⟨rfl, rfl⟩, ⟨0, by omega, rfl, rfl, fun i hi => absurd hi (by omega)⟩⟩
theorem sim_all : Sim RR := ⟨z_RR0, fun n O K M h => h.mono, z_come, z_leave, z_earn, z_lend, z_giveBack, z_mask, z_pay, z_queue, z_open, z_night, z_set, z_append, z_clearBuffer, z_firstError, z_revel, z_stopped, z_undo, z_keep, z_restore, z_guest, z_law, z_count, z_line, z_noLoan, z_whyNot, z_ifOpened, z_bestGate, z_freeIn, z_decentShare, z_digest⟩
