/-! the law's start -/
section QS
variable {D : va_G} {cI cR : ClassId} {A : Nat → Prop} {s : State} {H : Heap} {locs : List Loc}
theorem WH.swapr {a b c : va_W} (hw : WH D cI cR A ((a ++ b) ++ c) s H locs) : WH D cI cR A ((a ++ c) ++ b) s H locs := by
  obtain ⟨hP, hK, hD, hS, hN⟩ := hw
  obtain ⟨Pab, Pc⟩ := vP_app.mp hP
  obtain ⟨Pa, Pb⟩ := vP_app.mp Pab
  obtain ⟨Dab, Dc, ap⟩ := vD_app hD
  obtain ⟨Da, Db, ap2⟩ := vD_app Dab
  refine ⟨vP_app.mpr ⟨vP_app.mpr ⟨Pa, Pc⟩, Pb⟩, hK, vD_mk (vD_mk Da Dc (fun q hq r hr e => ap q (List.mem_append_left _ hq) r hr e)) Db (fun q hq r hr e => ?_), hS, hN⟩
  rcases List.mem_append.mp hq with h | h
  · exact ap2 q h r hr e
  · exact ap r (List.mem_append_right _ hr) q h e.symm
end QS
theorem lr_flags {l : Launch} (h : l.flags = flags0) : l.stackTraces = false := by
  unfold Launch.stackTraces
  rw [h]
  decide +kernel
