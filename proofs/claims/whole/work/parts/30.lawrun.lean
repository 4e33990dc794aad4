/-! the law's start -/
section QS
variable {D : va_G} {cI cR : ClassId} {A : Nat → Prop} {s : State} {H : Heap} {locs : List Loc}
theorem WH.swapr {a b c : va_W} (hw : WH D cI cR A ((a ++ b) ++ c) s H locs) : WH D cI cR A ((a ++ c) ++ b) s H locs := by
  obtain ⟨hP, hK, hD, hS, hN⟩ := hw
  obtain ⟨Pab, Pc⟩ := vP_app.mp hP
  obtain ⟨Pa, Pb⟩ := vP_app.mp Pab
  obtain ⟨Dab, Dc, ap⟩ := vD_app hD
  obtain ⟨Da, Db, ap2⟩ := vD_app Dab
  refine ⟨vP_app.mpr ⟨vP_app.mpr ⟨Pa, Pc⟩, Pb⟩, hK, vD_mk (vD_mk Da Dc (fun q hq r hr e => ap q (List.mem_append_left _ hq) r hr e)) Db (fun q hq r hr e => ?_), hS, hN⟩
  rcases List.mem_append.mp hq with h | h
  · exact ap2 q h r hr e
  · exact ap r (List.mem_append_right _ hr) q h e.symm
end QS
theorem lr_flags {l : Launch} (h : l.flags = flags0) : l.stackTraces = false := by
  unfold Launch.stackTraces
  rw [h]
  decide +kernel
set_option maxHeartbeats 4000000 in
set_option maxRecDepth 100000 in
theorem whole_run {R : Nat → XO → RK → MS → Prop} (hSim : Sim R) {p : Program} {e : Env} {s : State} {m : MethodId} {below : List Frame} {meth : Method} {c : Code} (l : Launch) (hflags : l.flags = flags0) {b L : Nat} {xs : Nat → Int32} (hL : L ≤ 2048) (C0 : lw_At p s m meth c b L xs) : W p l e room_1 s m #[Value.ref b] below meth c s.heap [] 0 0 (lw_Z below #[Value.ref b] s) (entryFrame m ([Value.ref b] : List Value).toArray 9) := by
  obtain ⟨hx, hb0, hr, hml, hown, hts, hX, hbl, hlocks, hgv⟩ := C0
  have hb : c.code = cL_law_ := hb0
  have htr := lr_flags hflags
  obtain ⟨D, cI, cR, hK, hNW, hCD, hAO⟩ := le_env hts
  obtain ⟨hO, hNC⟩ := le_out hts hgv hCD
  have hA : ∀ q : Nat, s.heap.size ≤ q → s.heap.size ≤ q := fun _ h => h
  have hw : WH D cI cR (fun q : Nat => s.heap.size ≤ q) ([] ++ []) s s.heap [] := ⟨fun k q h => (by cases h), hK, ⟨fun i j p q h => (by cases h), fun k q h => (by cases h)⟩, va_S.rf, hNW⟩
  have hl := lv_entry ([.ref b]) (n := 9) (Nat.le_of_ble_eq_true rfl)
  rw [lg_entry_eq]
  generalize (lg_sl ([.ref b]) ++ List.replicate (9 - (lg_sl ([.ref b])).length) Slot.unset).toArray = ls at hl ⊢
  have hl : lv_has ls 9 [(0, .ref b)] := hl
  refine i_new (ci := 5) (fs := [.null, .null, .null, .null, .int 0]) (C := RX5) (T := TX5) (N := 5) hx hb hts inX5 tyX5 tyX5_ok hown (hts (.classLink RL 8 RX5) (by decide +kernel)) (hts (.instantiable RX5 5) (by decide +kernel)) (hts (.initialized RX5) (by decide +kernel)) hw hA rfl (fun j hj => by rcases (show j = 0 ∨ j = 1 ∨ j = 2 ∨ j = 3 ∨ j = 4 by omega) with rfl | rfl | rfl | rfl | rfl <;> rfl) (Nat.le_of_ble_eq_true rfl) (Nat.le_of_ble_eq_true rfl) dL_law__0 (fun a H hw => ?_)
  refine lv_dup hx hb dL_law__3 rfl ?_
  refine i_run (va_runI (g := F0 m 4 ls [.ref a, .ref a]) (As := []) (rest := [.ref a]) ⟨hx, hb, hml, hown, hts⟩ (c_X5_init (w0 := []) (a := a)) ⟨callB_of 0 hts gT_X5_init rfl rfl rfl (hts (.initialized RX5) (by decide +kernel)) (hts (.methodLink RL 92 yX5_init) (by decide +kernel)) (by decide +kernel) ⟨Nat.le_of_ble_eq_true rfl, Nat.le_of_ble_eq_true rfl⟩, rfl, (hts (.instanceMethod yX5_init) (by decide +kernel))⟩ (i_preS hw hO hA hAO) rfl rfl hl.1 rfl (lv_room (Nat.le_of_ble_eq_true rfl)) dL_law__4 ⟨Nat.le_of_ble_eq_true rfl, Nat.le_of_ble_eq_true rfl⟩) hw (fun w9 h9 H locs hw => ?_)
  obtain ⟨ad, rfl, rfl⟩ := h9
  have hw : WH D cI cR (fun q : Nat => s.heap.size ≤ q) (xws cI cR ad O0 kK0 ++ []) s H locs := hw.to (List.append_nil _).symm
  refine lv_astore_n (lv' := [(1, .ref (ad 0)), (0, .ref b)]) hx hb dL_law__7 rfl hl (by decide) rfl (fun ls hl => ?_)
  refine i_new (ci := 6) (fs := [.int 0, .null, .int 0, .int 0, .null, .int 0, .int 0, .int 0, .int 0, .int 0, .null, .long 0]) (C := RX6) (T := TX6) (N := 12) hx hb hts inX6 tyX6 tyX6_ok hown (hts (.classLink RL 93 RX6) (by decide +kernel)) (hts (.instantiable RX6 12) (by decide +kernel)) (hts (.initialized RX6) (by decide +kernel)) hw hA rfl (fun j hj => by rcases (show j = 0 ∨ j = 1 ∨ j = 2 ∨ j = 3 ∨ j = 4 ∨ j = 5 ∨ j = 6 ∨ j = 7 ∨ j = 8 ∨ j = 9 ∨ j = 10 ∨ j = 11 by omega) with rfl | rfl | rfl | rfl | rfl | rfl | rfl | rfl | rfl | rfl | rfl | rfl <;> rfl) (Nat.le_of_ble_eq_true rfl) (Nat.le_of_ble_eq_true rfl) dL_law__8 (fun a H hw => ?_)
  refine lv_dup hx hb dL_law__11 rfl ?_
  refine i_run (va_runI (g := F0 m 12 ls [.ref a, .ref a]) (As := []) (rest := [.ref a]) ⟨hx, hb, hml, hown, hts⟩ (c_X6_init (w0 := xws cI cR ad O0 kK0) (a := a)) ⟨callB_of 0 hts gT_X6_init rfl rfl rfl (hts (.initialized RX6) (by decide +kernel)) (hts (.methodLink RL 95 yX6_init) (by decide +kernel)) (by decide +kernel) ⟨Nat.le_of_ble_eq_true rfl, Nat.le_of_ble_eq_true rfl⟩, rfl, (hts (.instanceMethod yX6_init) (by decide +kernel))⟩ (i_preS hw hO hA hAO) rfl rfl hl.1 rfl (lv_room (Nat.le_of_ble_eq_true rfl)) dL_law__12 ⟨Nat.le_of_ble_eq_true rfl, Nat.le_of_ble_eq_true rfl⟩) hw (fun w9 h9 H locs hw => ?_)
  obtain ⟨bm, rfl⟩ := h9
  obtain ⟨mad, hmad⟩ : ∃ mad : Nat → Nat, mad = (fun k => match k with | 0 => a | 1 => bm 0 | 2 => bm 1 | _ => bm 2) := ⟨_, rfl⟩
  have e0 : a = mad 0 := by subst hmad; rfl
  have e1 : bm 0 = mad 1 := by subst hmad; rfl
  have e2 : bm 1 = mad 2 := by subst hmad; rfl
  have e3 : bm 2 = mad 3 := by subst hmad; rfl
  rw [e0, e1, e2, e3] at hw
  rw [e0]
  have hw : WH D cI cR (fun q : Nat => s.heap.size ≤ q) (xws cI cR ad O0 kK0 ++ mws cI mad M0) s H locs := hw
  refine lv_astore_n (lv' := [(2, .ref (mad 0)), (1, .ref (ad 0)), (0, .ref b)]) hx hb dL_law__15 rfl hl (by decide) rfl (fun ls hl => ?_)
  refine lv_iconst (v := 1) hx hb dL_law__16 (by decide) ?_
  obtain ⟨hP, hK, hD, hS, hNW⟩ := hw
  refine va_newa (atype := .long) (ty := .long) (a0 := (1, .inr (.inl (fun _ => 0)))) hx hb (hts (.arrayClass .long) (by decide +kernel)) rfl hK hP hD hS hA (fun _ => rfl) (by decide) (N' := 1) (by decide) (by decide) (Nat.le_of_ble_eq_true rfl) (Nat.le_of_ble_eq_true rfl) dL_law__17 (fun oa cL H h1 h2 h3 h4 => ?_)
  have hKL : va_K D vwCl [(cL, .long)] s := h1.sub [2] rfl
  have hw : WH D cI cR (fun q : Nat => s.heap.size ≤ q) ((xws cI cR ad O0 kK0 ++ mws cI mad M0) ++ oc cL oa (fun _ => 0)) s H locs := ⟨h2, hK, h3, h4, hNW⟩
  have hw := hw.swapr
  refine lv_astore_n (lv' := [(3, .ref oa), (2, .ref (mad 0)), (1, .ref (ad 0)), (0, .ref b)]) hx hb dL_law__19 rfl hl (by decide) rfl (fun ls hl => ?_)
  refine lv_iconst (v := 0) hx hb dL_law__20 (by decide) ?_
  refine lv_istore (lv' := [(4, .int 0), (3, .ref oa), (2, .ref (mad 0)), (1, .ref (ad 0)), (0, .ref b)]) hx hb dL_law__21 hl (by decide) rfl (fun ls hl => ?_)
  refine law_loop (R := R) (xs := xs) (L := L) ⟨hx, hb, hml, hown, hts, htr, hO, hKL, hNC, hX, hbl⟩ hSim hL (fun w H locs ls cells slots hw hc1 hc2 => ?_) 513 0 rfl (by omega) O0 kK0 _ M0 H locs ls _ _ hSim.1 hw (lv_sub hl [4, 3, 2, 1, 0] rfl) (by decide) (by decide)
  refine lv_iconst (v := 1) hx hb dL_law__1777 (by decide) ?_
  refine va_forget hw.2.2.2.1.2.2 ?_
  refine W.widen (k := 601024) (n := 7293034) hc1 hc2 ?_
  exact lw_ret (d0 := s.drawn) (Drawn.sameBut.refl s.drawn lw_cs) hx hb0 hr hlocks dL_law__1778
