/-! the walk from the entry, once the pure law is known to answer 1 -/
set_option maxHeartbeats 4000000 in
set_option maxRecDepth 100000 in
theorem whole_run (O1 : XO) (hk : f_X5_keep O0 kK0 = some (0, O1)) (hh : f_L_holds O1 kK0 = some 1) (hp : ∀ (L : Nat) (xs : Nat → Int32), f_L_law_l30 L xs fuelN O1 kK0 1 0 = some 1) {p : Program} {e : Env} {s : State} {m : MethodId} {below : List Frame} {meth : Method} {c : Code} (l : Launch) (hflags : l.flags = flags0) {b L : Nat} {xs : Nat → Int32} (hL : L ≤ 260) (C0 : lw_At p s m meth c b L xs) : W p l e room_1 s m #[Value.ref b] below meth c s.heap [] 0 0 (lw_Z below #[Value.ref b] s) (entryFrame m ([Value.ref b] : List Value).toArray 13) := by
  obtain ⟨hx, hb0, hr, hml, hown, hts0, hX, hbl, hlocks, hgv⟩ := C0
  have hb : c.code = cL_law := hb0
  obtain ⟨D, cI, cR, hK, hNW, hAO⟩ := le_env hts0
  have hO := le_out hts0 hgv
  have hts : ∀ w ∈ wsL_law, w.before #[Value.ref b] s = true := fun w h => hts0 w (wsL_law_in w h)
  have hA : ∀ q : Nat, s.heap.size ≤ q → s.heap.size ≤ q := fun _ h => h
  have hw : WH D cI cR (fun q : Nat => s.heap.size ≤ q) ([] ++ []) s s.heap [] := ⟨fun k q h => (by cases h), hK, ⟨fun i j p q h => (by cases h), fun k q h => (by cases h)⟩, va_S.rf, hNW⟩
  have hl := lv_entry ([.ref b]) (n := 13) (Nat.le_of_ble_eq_true rfl)
  rw [lg_entry_eq]
  generalize (lg_sl ([.ref b]) ++ List.replicate (13 - (lg_sl ([.ref b])).length) Slot.unset).toArray = ls at hl ⊢
  have hl : lv_has ls 13 [(0, .ref b)] := hl
  refine i_new (ci := 5) (fs := [.null, .null, .null, .null, .int 0]) (C := RX5) (T := TX5) (N := 5) hx hb hts inlX5 tyX5 tyX5_ok hown (hts (.classLink RL 14 RX5) (by decide +kernel)) (hts (.instantiable RX5 5) (by decide +kernel)) (hts (.initialized RX5) (by decide +kernel)) hw hA rfl (fun j hj => by rcases (show j = 0 ∨ j = 1 ∨ j = 2 ∨ j = 3 ∨ j = 4 by omega) with rfl | rfl | rfl | rfl | rfl <;> rfl) (Nat.le_of_ble_eq_true rfl) (Nat.le_of_ble_eq_true rfl) dL_law_0 (fun a H hw => ?_)
  refine lv_dup hx hb dL_law_3 rfl ?_
  refine i_run (va_runI (g := F0 m 4 ls [.ref a, .ref a]) (As := []) (rest := [.ref a]) ⟨hx, hb, hml, hown, hts⟩ (c_X5_init (w0 := []) (a := a)) ⟨callB_of 0 hts gL_law_X5_init rfl rfl rfl (hts (.initialized RX5) (by decide +kernel)) (hts (.methodLink RL 99 yX5_init) (by decide +kernel)) (by decide +kernel) ⟨Nat.le_of_ble_eq_true rfl, Nat.le_of_ble_eq_true rfl⟩, rfl, (hts (.instanceMethod yX5_init) (by decide +kernel))⟩ (i_preS hw hO hA hAO) rfl rfl hl.1 rfl (lv_room (Nat.le_of_ble_eq_true rfl)) dL_law_4 ⟨Nat.le_of_ble_eq_true rfl, Nat.le_of_ble_eq_true rfl⟩) hw (fun w9 h9 H locs hw => ?_)
  obtain ⟨ad, rfl, rfl⟩ := h9
  have hw : WH D cI cR (fun q : Nat => s.heap.size ≤ q) (xws cI cR ad O0 kK0) s H locs := hw
  refine lv_astore_n (lv' := [(1, .ref (ad 0)), (0, .ref b)]) hx hb dL_law_7 rfl hl (by decide) rfl (fun ls hl => ?_)
  refine lv_aload_n hx hb dL_law_8 rfl (lv_at hl 0 rfl) ?_
  refine q_callV (rest := []) (st1 := [.int 0]) [] ⟨hx, hb, hml, hown, hts⟩ (c_X5_keep hk) (cwV 0 hts gL_law_X5_keep rfl rfl rfl (by decide +kernel) ⟨Nat.le_of_ble_eq_true rfl, Nat.le_of_ble_eq_true rfl⟩) hw xa_0 rfl rfl hl.1 rfl (Nat.le_of_ble_eq_true rfl) dL_law_9 ⟨Nat.le_of_ble_eq_true rfl, Nat.le_of_ble_eq_true rfl⟩ rfl (fun H locs hw => ?_)
  refine lv_if_ne (tgt := 26) hx hb dL_law_12 (by decide) (fun hc => absurd rfl hc) (fun _ => ?_)
  refine lv_aload_n hx hb dL_law_15 rfl (lv_at hl 0 rfl) ?_
  refine q_runM (mc := 1) (ms := 6) (w' := xws cI cR ad O1 kK0) (st1 := [.int 1]) (va_runS (As := [.ref (ad 0)]) (rest := []) ⟨hx, hb, hml, hown, hts⟩ (c_L_holds hh) (va_cwS 1 hts gL_law_L_holds rfl rfl rfl (by decide +kernel) ⟨Nat.le_of_ble_eq_true rfl, Nat.le_of_ble_eq_true rfl⟩) (x_preS hw hO hA) rfl rfl hl.1 rfl (lv_room (Nat.le_of_ble_eq_true rfl)) dL_law_16 ⟨Nat.le_of_ble_eq_true rfl, Nat.le_of_ble_eq_true rfl⟩) hw rfl (fun H locs hw => ?_)
  refine lv_if_eq (tgt := 26) hx hb dL_law_19 (by decide) (fun hc => absurd hc (by decide)) (fun _ => ?_)
  refine lv_iconst (v := 1) hx hb dL_law_22 (by decide) ?_
  refine lv_goto (tgt := 27) hx hb dL_law_23 (by decide) ?_
  refine lv_istore_n (lv' := [(2, .int 1), (1, .ref (ad 0)), (0, .ref b)]) hx hb dL_law_27 rfl hl (by decide) rfl (fun ls hl => ?_)
  refine lv_iconst (v := 0) hx hb dL_law_28 (by decide) ?_
  refine lv_istore_n (lv' := [(3, .int 0), (2, .int 1), (1, .ref (ad 0)), (0, .ref b)]) hx hb dL_law_29 rfl hl (by decide) rfl (fun ls hl => ?_)
  refine law_loop (xs := xs) (L := L) ⟨hx, hb, hml, hown, hts, hO, ⟨hX, hbl, Nat.not_le.mpr hbl⟩, hL⟩ (fun w H locs ls cells slots hw hc1 hc2 => ?_) fuelN O1 kK0 1 0 H locs ls _ _ (hp L xs) hw (lv_sub hl [3, 2, 1, 0] rfl) (by decide) (by decide)
  refine va_forget hw.2.2.2.1.2.2 ?_
  refine W.widen (k := 600130) (n := 7301080) (Nat.le_trans hc1 (by decide)) (Nat.le_trans hc2 (by decide)) ?_
  exact lw_ret (d0 := s.drawn) (Drawn.sameBut.refl s.drawn lw_cs) hx hb0 hr hlocks dL_law_286
