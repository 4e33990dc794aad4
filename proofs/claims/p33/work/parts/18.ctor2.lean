def kK0 : RK := fun r => if r = 10 then va_cpy saF z32 0 0 6 else if r = 11 then (fun j => if j = 7 then (-1) else if j = 8 then (-1) else 0) else z32
def O0 : XO := fun b => if b = 8 then (fun _ => z32) else kK0
theorem WH.assoc {D : va_G} {cI cR : ClassId} {A : Nat → Prop} {w0 lw x : va_W} {s : State} {H : Heap} {locs : List Loc} (h : WH D cI cR A (w0 ++ (lw ++ x)) s H locs) : WH D cI cR A ((w0 ++ lw) ++ x) s H locs := by
  rw [List.append_assoc]; exact h
section QI2
variable {p : Program} {l : Launch} {e : Env} {R : Room} {s : State} {m : MethodId} {args : Array Value} {below : List Frame} {meth : Method} {c : Code} {H : Heap} {locs : List Loc} {cells slots : Nat} {Q : State → Prop}
variable {cc : ByteArray} {pc mc ms : Nat} {ls : Array Slot} {rest st0 st1 : List Value} {D : va_G} {cI cR : ClassId} {A : Nat → Prop} {a : Nat} {w w0 lw lw' : va_W}
theorem i_newq {own : String} {index : Nat} (hexec : p.tables.exec = Jvm.exec) (hb : c.code = cc) (hown : s.vm.findClass own = some m.cls) (hclink : (Cond.classLink own index "LaceRanks$Carnival").before args s = true) (hC : va_AO "LaceRanks$Carnival" s) (hw : WH D cI cR A (w0 ++ lw) s H locs) (hA : ∀ q : Nat, s.heap.size ≤ q → A q)
    {n : Int32} {N' : Nat} (hn : ¬ n < 0) (hN : n.toNatClampNeg = N') (hbytes : N' * 4 ≤ 536870912) (hcells : cells + 1 ≤ R.cells) (hslots : slots + N' ≤ R.slots) (hdg : decode cc pc = .ok (.anewarray index, 3))
    (kk : ∀ (q : Nat) (H1 : Heap), WH D cI cR A (w0 ++ (lw ++ [(q, .inl (cR, N', .inr (.inr (.inr (.inr (fun _ => none))))))])) s H1 locs → W p l e R s m args below meth c H1 locs (cells + 1) (slots + N') Q (F0 m (pc + 3) ls (.ref q :: rest))) : W p l e R s m args below meth c H locs cells slots Q (F0 m pc ls (.int n :: rest)) := by
  obtain ⟨hP, hK, hD, hS, hN'⟩ := hw
  refine va_newq hexec hb hown hclink hC hK hP hD hS hA hn hN hbytes hcells hslots hdg (fun q cA H1 h1 h2 h3 h4 => ?_)
  obtain ⟨_, _, -, -, -, e1⟩ := (hK.2 1 (cR, .object "LaceRanks$Carnival") rfl).2
  obtain ⟨_, _, -, -, -, e2⟩ := (h1.2 2 (cA, .object "LaceRanks$Carnival") rfl).2
  have e3 : cA = cR := Option.some.inj (e2.symm.trans e1)
  subst e3
  rw [List.append_assoc] at h2 h3
  exact kk q H1 ⟨h2, hK, h3, h4, hN'⟩
theorem i_astq (hexec : p.tables.exec = Jvm.exec) (hb : c.code = cc) (hw : WH D cI cR A (w0 ++ lw) s H locs) (j jv : Nat) {n v : Nat} {vs : List Value} {f : Nat → Option Nat} (ha : lw[j]? = some (a, .inl (cR, n, .inr (.inr (.inr (.inr f)))))) (hv : lw[jv]? = some (v, .inr (0, vs))) {i : Int32} (hin : vp_in i n) (hdg : decode cc pc = .ok (.aastore, 1)) (hset : lw.set j (a, .inl (cR, n, .inr (.inr (.inr (.inr (va_up f i.toNatClampNeg (some v))))))) = lw')
    (kk : ∀ (H1 : Heap) (locs1 : List Loc), WH D cI cR A (w0 ++ lw') s H1 locs1 → W p l e R s m args below meth c H1 locs1 cells slots Q (F0 m (pc + 1) ls rest)) : W p l e R s m args below meth c H locs cells slots Q (F0 m pc ls (.ref v :: .int i :: .ref a :: rest)) :=
  va_astq (r := (RX0, TX0, 12)) hexec hb hw.2.1 hw.1 hw.2.2.1 hw.2.2.2.1 (w0.length + j) 1 (w0.length + jv) 0 (wg.trans ha) rfl (wg.trans hv) rfl hin hdg (fun H1 locs1 h1 h2 h3 => kk H1 locs1 ⟨by rw [wset, hset] at h1; exact h1, hw.2.1, by rw [wset, hset] at h2; exact h2, h3, hw.2.2.2.2⟩)
end QI2
set_option maxHeartbeats 4000000 in
set_option maxRecDepth 100000 in
theorem c_X0_init {l : Launch} {D : va_G} {cI cR : ClassId} {A : Nat → Prop} {w0 : va_W} {a : Nat} : MIN l yX0_init wsX0_init 4 61 13 130 D cI cR A [.ref a] ((w0 ++ [(a, .inr (0, [.null, .null, .null, .int 0, .int 0, .int 0, .int 0, .int 0, .int 0, .int 0, .int 0, .int 0]))])) (fun w' => ∃ b : Nat → Nat, b 0 = a ∧ w' = w0 ++ kws cI b 0 kK0) := by
  refine Met.ofW (cc := cX0_init) (maxL := 1) (ret := none) (by decide) rfl ?_
  intro p e s m args below meth c s₁ B hml hv
  obtain ⟨rfl, hw, hO, hA, hC⟩ := i_start hv
  have hx := B.exec
  have hb := B.bytes
  have hr := B.returns
  have hts := atoms_spec (ws := wsX0_init) B.pre
  have hown : s.vm.findClass RX0 = some m.cls := findClass_of_methodNamed B.named
  have hlocks := B.notSynchronized
  have hin : meth.name = "<init>" := (name_of_methodNamed B.named B.method).1
  have hiX0 : ∀ w ∈ wsX00, w ∈ wsX0_init := by decide +kernel
  have hiX1 : ∀ w ∈ wsX10, w ∈ wsX0_init := by decide +kernel
  have hiX3 : ∀ w ∈ wsX30, w ∈ wsX0_init := by decide +kernel
  have hl := lv_entry ([.ref a]) (n := 1) (Nat.le_of_ble_eq_true rfl)
  rw [lg_entry_eq]
  generalize (lg_sl ([.ref a]) ++ List.replicate (1 - (lg_sl ([.ref a])).length) Slot.unset).toArray = ls at hl ⊢
  have hl : lv_has ls 1 [(0, .ref a)] := hl
  refine lv_aload_n hx hb dX0_init_0 rfl (lv_at hl 0 rfl) ?_
  refine W.objInit hx hb hown (hts (.methodLink RX0 3 objectInit) (by decide +kernel)) (hts (.instanceMethod objectInit) (by decide +kernel)) (hts (.code objectInit ⟨#[0xb1]⟩ 1 none) (by decide +kernel)) rfl (by rw [hml]; exact hl.1) rfl dX0_init_1 (Nat.le_of_ble_eq_true rfl) (Nat.le_of_ble_eq_true rfl) ?_
  refine W.eq (g2 := F0 m 4 ls []) rfl ?_
  obtain ⟨⟨aF, hzF, hxF, hlF, hnF⟩, -⟩ := id hO
  refine lv_aload_n hx hb dX0_init_4 rfl (lv_at hl 0 rfl) ?_
  refine i_new (ci := 1) (fs := [.null, .null, .null, .null, .null, .null, .null, .null, .int 0]) (C := RX1) (T := TX1) (N := 9) hx hb hts hiX1 tyX1 tyX1_ok hown (hts (.classLink RX0 9 RX1) (by decide +kernel)) (hts (.instantiable RX1 9) (by decide +kernel)) (hts (.initialized RX1) (by decide +kernel)) hw hA rfl (fun j hj => by rcases (show j = 0 ∨ j = 1 ∨ j = 2 ∨ j = 3 ∨ j = 4 ∨ j = 5 ∨ j = 6 ∨ j = 7 ∨ j = 8 by omega) with rfl | rfl | rfl | rfl | rfl | rfl | rfl | rfl | rfl <;> rfl) (Nat.le_of_ble_eq_true rfl) (Nat.le_of_ble_eq_true rfl) dX0_init_5 (fun g H hw => ?_)
  refine lv_dup hx hb dX0_init_8 rfl ?_
  have hw : WH D cI cR A ((w0 ++ [(a, .inr (0, [.null, .null, .null, .int 0, .int 0, .int 0, .int 0, .int 0, .int 0, .int 0, .int 0, .int 0]))]) ++ [(g, .inr (1, [.null, .null, .null, .null, .null, .null, .null, .null, .int 0]))]) s H _ := hw.assoc
  refine i_run (va_runIN (g := F0 m 9 ls [.ref g, .ref g, .ref a]) (As := []) (rest := [.ref g, .ref a]) ⟨hx, hb, hml, hown, hts⟩ (c_X1_init (w0 := (w0 ++ [(a, .inr (0, [.null, .null, .null, .int 0, .int 0, .int 0, .int 0, .int 0, .int 0, .int 0, .int 0, .int 0]))])) (a := g)) ⟨va_cnB 0 hts gX0_init_X1_init_n11 rfl rfl rfl (nw_X0_11 hw.2.2.2.2) (hts (.initialized RX1) (by decide +kernel)) (by decide +kernel) ⟨Nat.le_of_ble_eq_true rfl, Nat.le_of_ble_eq_true rfl⟩, rfl, (hts (.instanceMethod yX1_init) (by decide +kernel))⟩ (i_preS hw hO hA hC) rfl rfl hl.1 rfl (lv_room (Nat.le_of_ble_eq_true rfl)) dX0_init_9 ⟨Nat.le_of_ble_eq_true rfl, Nat.le_of_ble_eq_true rfl⟩) hw (fun w9 h9 H locs hw => ?_)
  obtain ⟨bg, rfl⟩ := h9
  have hw : WH D cI cR A (w0 ++ [(a, .inr (0, [.null, .null, .null, .int 0, .int 0, .int 0, .int 0, .int 0, .int 0, .int 0, .int 0, .int 0])), (g, .inr (1, [.ref (bg 0), .ref (bg 1), .ref (bg 2), .ref (bg 3), .ref (bg 4), .ref (bg 5), .ref (bg 6), .ref (bg 7), .int 0])), (bg 0, .inl (cI, 10, .inl z32)), (bg 1, .inl (cI, 10, .inl z32)), (bg 2, .inl (cI, 10, .inl z32)), (bg 3, .inl (cI, 10, .inl z32)), (bg 4, .inl (cI, 10, .inl z32)), (bg 5, .inl (cI, 10, .inl z32)), (bg 6, .inl (cI, 10, .inl z32)), (bg 7, .inl (cI, 10, .inl z32))]) s H locs := by rw [List.append_assoc] at hw; exact hw
  refine i_putF (ty := .object "LaceRanks$Guests") hx hb hts hiX0 tyX0 tyX0_ok nmX0 hown hw 0 rfl rfl 0 (by decide) (hts (.fieldLink RX0 12 "LaceRanks$Carnival" "guests" "LLaceRanks$Guests;") (by decide +kernel)) rfl hin rfl (by decide +kernel) rfl rfl (Nat.le_of_ble_eq_true rfl) dX0_init_12 rfl (fun H locs hw => ?_)
  have hw : WH D cI cR A (w0 ++ [(a, .inr (0, [.ref g, .null, .null, .int 0, .int 0, .int 0, .int 0, .int 0, .int 0, .int 0, .int 0, .int 0])), (g, .inr (1, [.ref (bg 0), .ref (bg 1), .ref (bg 2), .ref (bg 3), .ref (bg 4), .ref (bg 5), .ref (bg 6), .ref (bg 7), .int 0])), (bg 0, .inl (cI, 10, .inl z32)), (bg 1, .inl (cI, 10, .inl z32)), (bg 2, .inl (cI, 10, .inl z32)), (bg 3, .inl (cI, 10, .inl z32)), (bg 4, .inl (cI, 10, .inl z32)), (bg 5, .inl (cI, 10, .inl z32)), (bg 6, .inl (cI, 10, .inl z32)), (bg 7, .inl (cI, 10, .inl z32))]) s H locs := hw
  refine lv_aload_n hx hb dX0_init_15 rfl (lv_at hl 0 rfl) ?_
  refine i_new (ci := 3) (fs := [.null, .null]) (C := RX3) (T := TX3) (N := 2) hx hb hts hiX3 tyX3 tyX3_ok hown (hts (.classLink RX0 18 RX3) (by decide +kernel)) (hts (.instantiable RX3 2) (by decide +kernel)) (hts (.initialized RX3) (by decide +kernel)) hw hA rfl (fun j hj => by rcases (show j = 0 ∨ j = 1 by omega) with rfl | rfl <;> rfl) (Nat.le_of_ble_eq_true rfl) (Nat.le_of_ble_eq_true rfl) dX0_init_16 (fun li H hw => ?_)
  refine lv_dup hx hb dX0_init_19 rfl ?_
  have hw : WH D cI cR A ((w0 ++ [(a, .inr (0, [.ref g, .null, .null, .int 0, .int 0, .int 0, .int 0, .int 0, .int 0, .int 0, .int 0, .int 0])), (g, .inr (1, [.ref (bg 0), .ref (bg 1), .ref (bg 2), .ref (bg 3), .ref (bg 4), .ref (bg 5), .ref (bg 6), .ref (bg 7), .int 0])), (bg 0, .inl (cI, 10, .inl z32)), (bg 1, .inl (cI, 10, .inl z32)), (bg 2, .inl (cI, 10, .inl z32)), (bg 3, .inl (cI, 10, .inl z32)), (bg 4, .inl (cI, 10, .inl z32)), (bg 5, .inl (cI, 10, .inl z32)), (bg 6, .inl (cI, 10, .inl z32)), (bg 7, .inl (cI, 10, .inl z32))]) ++ [(li, .inr (3, [.null, .null]))]) s H _ := hw.assoc
  refine i_run (va_runIN (g := F0 m 20 ls [.ref li, .ref li, .ref a]) (As := []) (rest := [.ref li, .ref a]) ⟨hx, hb, hml, hown, hts⟩ (c_X3_init (w0 := (w0 ++ [(a, .inr (0, [.ref g, .null, .null, .int 0, .int 0, .int 0, .int 0, .int 0, .int 0, .int 0, .int 0, .int 0])), (g, .inr (1, [.ref (bg 0), .ref (bg 1), .ref (bg 2), .ref (bg 3), .ref (bg 4), .ref (bg 5), .ref (bg 6), .ref (bg 7), .int 0])), (bg 0, .inl (cI, 10, .inl z32)), (bg 1, .inl (cI, 10, .inl z32)), (bg 2, .inl (cI, 10, .inl z32)), (bg 3, .inl (cI, 10, .inl z32)), (bg 4, .inl (cI, 10, .inl z32)), (bg 5, .inl (cI, 10, .inl z32)), (bg 6, .inl (cI, 10, .inl z32)), (bg 7, .inl (cI, 10, .inl z32))])) (a := li)) ⟨va_cnB 0 hts gX0_init_X3_init_n20 rfl rfl rfl (nw_X0_20 hw.2.2.2.2) (hts (.initialized RX3) (by decide +kernel)) (by decide +kernel) ⟨Nat.le_of_ble_eq_true rfl, Nat.le_of_ble_eq_true rfl⟩, rfl, (hts (.instanceMethod yX3_init) (by decide +kernel))⟩ (i_preS hw hO hA hC) rfl rfl hl.1 rfl (lv_room (Nat.le_of_ble_eq_true rfl)) dX0_init_20 ⟨Nat.le_of_ble_eq_true rfl, Nat.le_of_ble_eq_true rfl⟩) hw (fun w9 h9 H locs hw => ?_)
  obtain ⟨bl, rfl⟩ := h9
  have hw : WH D cI cR A (w0 ++ [(a, .inr (0, [.ref g, .null, .null, .int 0, .int 0, .int 0, .int 0, .int 0, .int 0, .int 0, .int 0, .int 0])), (g, .inr (1, [.ref (bg 0), .ref (bg 1), .ref (bg 2), .ref (bg 3), .ref (bg 4), .ref (bg 5), .ref (bg 6), .ref (bg 7), .int 0])), (bg 0, .inl (cI, 10, .inl z32)), (bg 1, .inl (cI, 10, .inl z32)), (bg 2, .inl (cI, 10, .inl z32)), (bg 3, .inl (cI, 10, .inl z32)), (bg 4, .inl (cI, 10, .inl z32)), (bg 5, .inl (cI, 10, .inl z32)), (bg 6, .inl (cI, 10, .inl z32)), (bg 7, .inl (cI, 10, .inl z32)), (li, .inr (3, [.ref (bl 0), .ref (bl 1)])), (bl 0, .inl (cI, 30, .inl z32)), (bl 1, .inl (cI, 3, .inl z32))]) s H locs := by rw [List.append_assoc] at hw; exact hw
  refine i_putF (ty := .object "LaceRanks$Lines") hx hb hts hiX0 tyX0 tyX0_ok nmX0 hown hw 0 rfl rfl 1 (by decide) (hts (.fieldLink RX0 21 "LaceRanks$Carnival" "lines" "LLaceRanks$Lines;") (by decide +kernel)) rfl hin rfl (by decide +kernel) rfl rfl (Nat.le_of_ble_eq_true rfl) dX0_init_23 rfl (fun H locs hw => ?_)
  have hw : WH D cI cR A (w0 ++ [(a, .inr (0, [.ref g, .ref li, .null, .int 0, .int 0, .int 0, .int 0, .int 0, .int 0, .int 0, .int 0, .int 0])), (g, .inr (1, [.ref (bg 0), .ref (bg 1), .ref (bg 2), .ref (bg 3), .ref (bg 4), .ref (bg 5), .ref (bg 6), .ref (bg 7), .int 0])), (bg 0, .inl (cI, 10, .inl z32)), (bg 1, .inl (cI, 10, .inl z32)), (bg 2, .inl (cI, 10, .inl z32)), (bg 3, .inl (cI, 10, .inl z32)), (bg 4, .inl (cI, 10, .inl z32)), (bg 5, .inl (cI, 10, .inl z32)), (bg 6, .inl (cI, 10, .inl z32)), (bg 7, .inl (cI, 10, .inl z32)), (li, .inr (3, [.ref (bl 0), .ref (bl 1)])), (bl 0, .inl (cI, 30, .inl z32)), (bl 1, .inl (cI, 3, .inl z32))]) s H locs := hw
  refine lv_aload_n hx hb dX0_init_26 rfl (lv_at hl 0 rfl) ?_
  refine lv_bipush (v := 6) hx hb dX0_init_27 (by decide) ?_
  refine i_newa hx hb (hts (.arrayClass .int) (by decide +kernel)) hw hA (by decide) (N' := 6) (by decide) (by decide) (Nat.le_of_ble_eq_true rfl) (Nat.le_of_ble_eq_true rfl) dX0_init_29 (fun st H hw => ?_)
  have hw : WH D cI cR A (w0 ++ [(a, .inr (0, [.ref g, .ref li, .null, .int 0, .int 0, .int 0, .int 0, .int 0, .int 0, .int 0, .int 0, .int 0])), (g, .inr (1, [.ref (bg 0), .ref (bg 1), .ref (bg 2), .ref (bg 3), .ref (bg 4), .ref (bg 5), .ref (bg 6), .ref (bg 7), .int 0])), (bg 0, .inl (cI, 10, .inl z32)), (bg 1, .inl (cI, 10, .inl z32)), (bg 2, .inl (cI, 10, .inl z32)), (bg 3, .inl (cI, 10, .inl z32)), (bg 4, .inl (cI, 10, .inl z32)), (bg 5, .inl (cI, 10, .inl z32)), (bg 6, .inl (cI, 10, .inl z32)), (bg 7, .inl (cI, 10, .inl z32)), (li, .inr (3, [.ref (bl 0), .ref (bl 1)])), (bl 0, .inl (cI, 30, .inl z32)), (bl 1, .inl (cI, 3, .inl z32)), (st, .inl (cI, 6, .inl z32))]) s H _ := hw
  refine i_putF (ty := .array .int) hx hb hts hiX0 tyX0 tyX0_ok nmX0 hown hw 0 rfl rfl 2 (by decide) (hts (.fieldLink RX0 25 "LaceRanks$Carnival" "settings" "[I") (by decide +kernel)) rfl hin rfl (by decide +kernel) rfl rfl (Nat.le_of_ble_eq_true rfl) dX0_init_31 rfl (fun H locs hw => ?_)
  have hw : WH D cI cR A (w0 ++ [(a, .inr (0, [.ref g, .ref li, .ref st, .int 0, .int 0, .int 0, .int 0, .int 0, .int 0, .int 0, .int 0, .int 0])), (g, .inr (1, [.ref (bg 0), .ref (bg 1), .ref (bg 2), .ref (bg 3), .ref (bg 4), .ref (bg 5), .ref (bg 6), .ref (bg 7), .int 0])), (bg 0, .inl (cI, 10, .inl z32)), (bg 1, .inl (cI, 10, .inl z32)), (bg 2, .inl (cI, 10, .inl z32)), (bg 3, .inl (cI, 10, .inl z32)), (bg 4, .inl (cI, 10, .inl z32)), (bg 5, .inl (cI, 10, .inl z32)), (bg 6, .inl (cI, 10, .inl z32)), (bg 7, .inl (cI, 10, .inl z32)), (li, .inr (3, [.ref (bl 0), .ref (bl 1)])), (bl 0, .inl (cI, 30, .inl z32)), (bl 1, .inl (cI, 3, .inl z32)), (st, .inl (cI, 6, .inl z32))]) s H locs := hw
  refine lv_aload_n hx hb dX0_init_34 rfl (lv_at hl 0 rfl) ?_
  refine lv_iconst (v := (-1)) hx hb dX0_init_35 (by decide) ?_
  refine i_put (ty := .int) hx hb hts hiX0 tyX0 tyX0_ok nmX0 hown hw 0 rfl rfl 10 (by decide) (hts (.fieldLink RX0 29 "LaceRanks$Carnival" "stopPart" "I") (by decide +kernel)) rfl (by decide +kernel) rfl rfl (Nat.le_of_ble_eq_true rfl) dX0_init_36 rfl (fun H locs hw => ?_)
  have hw : WH D cI cR A (w0 ++ [(a, .inr (0, [.ref g, .ref li, .ref st, .int 0, .int 0, .int 0, .int 0, .int 0, .int 0, .int 0, .int (-1), .int 0])), (g, .inr (1, [.ref (bg 0), .ref (bg 1), .ref (bg 2), .ref (bg 3), .ref (bg 4), .ref (bg 5), .ref (bg 6), .ref (bg 7), .int 0])), (bg 0, .inl (cI, 10, .inl z32)), (bg 1, .inl (cI, 10, .inl z32)), (bg 2, .inl (cI, 10, .inl z32)), (bg 3, .inl (cI, 10, .inl z32)), (bg 4, .inl (cI, 10, .inl z32)), (bg 5, .inl (cI, 10, .inl z32)), (bg 6, .inl (cI, 10, .inl z32)), (bg 7, .inl (cI, 10, .inl z32)), (li, .inr (3, [.ref (bl 0), .ref (bl 1)])), (bl 0, .inl (cI, 30, .inl z32)), (bl 1, .inl (cI, 3, .inl z32)), (st, .inl (cI, 6, .inl z32))]) s H locs := hw
  refine lv_aload_n hx hb dX0_init_39 rfl (lv_at hl 0 rfl) ?_
  refine lv_iconst (v := (-1)) hx hb dX0_init_40 (by decide) ?_
  refine i_put (ty := .int) hx hb hts hiX0 tyX0 tyX0_ok nmX0 hown hw 0 rfl rfl 11 (by decide) (hts (.fieldLink RX0 33 "LaceRanks$Carnival" "stopReason" "I") (by decide +kernel)) rfl (by decide +kernel) rfl rfl (Nat.le_of_ble_eq_true rfl) dX0_init_41 rfl (fun H locs hw => ?_)
  have hw : WH D cI cR A (w0 ++ [(a, .inr (0, [.ref g, .ref li, .ref st, .int 0, .int 0, .int 0, .int 0, .int 0, .int 0, .int 0, .int (-1), .int (-1)])), (g, .inr (1, [.ref (bg 0), .ref (bg 1), .ref (bg 2), .ref (bg 3), .ref (bg 4), .ref (bg 5), .ref (bg 6), .ref (bg 7), .int 0])), (bg 0, .inl (cI, 10, .inl z32)), (bg 1, .inl (cI, 10, .inl z32)), (bg 2, .inl (cI, 10, .inl z32)), (bg 3, .inl (cI, 10, .inl z32)), (bg 4, .inl (cI, 10, .inl z32)), (bg 5, .inl (cI, 10, .inl z32)), (bg 6, .inl (cI, 10, .inl z32)), (bg 7, .inl (cI, 10, .inl z32)), (li, .inr (3, [.ref (bl 0), .ref (bl 1)])), (bl 0, .inl (cI, 30, .inl z32)), (bl 1, .inl (cI, 3, .inl z32)), (st, .inl (cI, 6, .inl z32))]) s H locs := hw
  refine va_getsN hx hb hzF hw.2.2.2.1 hown (nw_X0_36 hw.2.2.2.2) (fun _ h => h) dX0_init_44 ?_
  refine lv_aload_n hx hb dX0_init_47 rfl (lv_at hl 0 rfl) ?_
  refine q_get hx hb hts hiX0 hown hw (w0.length + 0) (wg.trans rfl) rfl 2 (by decide) (hts (.fieldLink RX0 25 "LaceRanks$Carnival" "settings" "[I") (by decide +kernel)) rfl dX0_init_48 ?_
  refine q_run (w' := (w0 ++ [(a, .inr (0, [.ref g, .ref li, .ref st, .int 0, .int 0, .int 0, .int 0, .int 0, .int 0, .int 0, .int (-1), .int (-1)])), (g, .inr (1, [.ref (bg 0), .ref (bg 1), .ref (bg 2), .ref (bg 3), .ref (bg 4), .ref (bg 5), .ref (bg 6), .ref (bg 7), .int 0])), (bg 0, .inl (cI, 10, .inl z32)), (bg 1, .inl (cI, 10, .inl z32)), (bg 2, .inl (cI, 10, .inl z32)), (bg 3, .inl (cI, 10, .inl z32)), (bg 4, .inl (cI, 10, .inl z32)), (bg 5, .inl (cI, 10, .inl z32)), (bg 6, .inl (cI, 10, .inl z32)), (bg 7, .inl (cI, 10, .inl z32)), (li, .inr (3, [.ref (bl 0), .ref (bl 1)])), (bl 0, .inl (cI, 30, .inl z32)), (bl 1, .inl (cI, 3, .inl z32)), (st, .inl (cI, 6, .inl (va_cpy saF z32 0 0 6)))])) (st1 := []) (va_runSN (g := F0 m 51 ls [.ref st, .ref aF]) (As := [.ref aF, .ref st]) (rest := []) ⟨hx, hb, hml, hown, hts⟩ (c_X5_copyRowO (q1 := w0.length + 13) (wg.trans rfl) (wset.trans rfl)) ⟨va_cnB 2 hts gX0_init_X5_copyRow_n39 rfl rfl rfl (nw_X0_39 hw.2.2.2.2) (hts (.initialized RX5) (by decide +kernel)) (by decide +kernel) ⟨Nat.le_of_ble_eq_true rfl, Nat.le_of_ble_eq_true rfl⟩, (hts (.static yX5_copyRow) (by decide +kernel)), trivial⟩ (o_preS hw ⟨hxF, hlF, hnF⟩) rfl rfl hl.1 rfl (lv_room (Nat.le_of_ble_eq_true rfl)) dX0_init_51 ⟨Nat.le_of_ble_eq_true rfl, Nat.le_of_ble_eq_true rfl⟩) hw rfl (fun H locs hw => ?_)
  exact i_ret (Nat.le_of_ble_eq_true rfl) (Nat.le_of_ble_eq_true rfl) hx hb hr hlocks hw ⟨fun k => match k with | 0 => a | 1 => g | 2 => bg 0 | 3 => bg 1 | 4 => bg 2 | 5 => bg 3 | 6 => bg 4 | 7 => bg 5 | 8 => bg 6 | 9 => bg 7 | 10 => li | 11 => bl 0 | 12 => bl 1 | _ => st, rfl, rfl⟩ dX0_init_54
def fR (b : Nat → Nat → Nat) : Nat → Option Nat := va_up (va_up (va_up (va_up (va_up (va_up ((fun _ => none)) 0 (some (b 0 0))) 1 (some (b 1 0))) 2 (some (b 2 0))) 3 (some (b 3 0))) 4 (some (b 4 0))) 5 (some (b 5 0))
set_option maxHeartbeats 4000000 in
set_option maxRecDepth 100000 in
theorem c_X2_init {l : Launch} {D : va_G} {cI cR : ClassId} {A : Nat → Prop} {w0 : va_W} {a : Nat} : MIN l yX2_init wsX2_init 5 81 85 858 D cI cR A [.ref a] ((w0 ++ [(a, .inr (2, [.null, .int 0, .int 0]))])) (fun w' => ∃ (r : Nat) (b : Nat → Nat → Nat), w' = w0 ++ [(a, .inr (2, [.ref r, .int 0, .int 0])), (r, .inl (cR, 6, .inr (.inr (.inr (.inr (fR b))))))] ++ kws cI (b 0) 0 kK0 ++ kws cI (b 1) 0 kK0 ++ kws cI (b 2) 0 kK0 ++ kws cI (b 3) 0 kK0 ++ kws cI (b 4) 0 kK0 ++ kws cI (b 5) 0 kK0) := by
  refine Met.ofW (cc := cX2_init) (maxL := 2) (ret := none) (by decide) rfl ?_
  intro p e s m args below meth c s₁ B hml hv
  obtain ⟨rfl, hw, hO, hA, hC⟩ := i_start hv
  have hx := B.exec
  have hb := B.bytes
  have hr := B.returns
  have hts := atoms_spec (ws := wsX2_init) B.pre
  have hown : s.vm.findClass RX2 = some m.cls := findClass_of_methodNamed B.named
  have hlocks := B.notSynchronized
  have hin : meth.name = "<init>" := (name_of_methodNamed B.named B.method).1
  have hiX2 : ∀ w ∈ wsX20, w ∈ wsX2_init := by decide +kernel
  have hiX0 : ∀ w ∈ wsX00, w ∈ wsX2_init := by decide +kernel
  have hl := lv_entry ([.ref a]) (n := 2) (Nat.le_of_ble_eq_true rfl)
  rw [lg_entry_eq]
  generalize (lg_sl ([.ref a]) ++ List.replicate (2 - (lg_sl ([.ref a])).length) Slot.unset).toArray = ls at hl ⊢
  have hl : lv_has ls 2 [(0, .ref a)] := hl
  refine lv_aload_n hx hb dX2_init_0 rfl (lv_at hl 0 rfl) ?_
  refine W.objInit hx hb hown (hts (.methodLink RX2 3 objectInit) (by decide +kernel)) (hts (.instanceMethod objectInit) (by decide +kernel)) (hts (.code objectInit ⟨#[0xb1]⟩ 1 none) (by decide +kernel)) rfl (by rw [hml]; exact hl.1) rfl dX2_init_1 (Nat.le_of_ble_eq_true rfl) (Nat.le_of_ble_eq_true rfl) ?_
  refine W.eq (g2 := F0 m 4 ls []) rfl ?_
  refine lv_aload_n hx hb dX2_init_4 rfl (lv_at hl 0 rfl) ?_
  refine lv_bipush (v := 6) hx hb dX2_init_5 (by decide) ?_
  refine i_newq hx hb hown (hts (.classLink RX2 9 "LaceRanks$Carnival") (by decide +kernel)) hC hw hA (by decide) (N' := 6) (by decide) (by decide) (Nat.le_of_ble_eq_true rfl) (Nat.le_of_ble_eq_true rfl) dX2_init_7 (fun r H hw => ?_)
  have hw : WH D cI cR A (w0 ++ [(a, .inr (2, [.null, .int 0, .int 0])), (r, .inl (cR, 6, .inr (.inr (.inr (.inr (fun _ => none))))))]) s H _ := hw
  refine i_putF (ty := .array (.object "LaceRanks$Carnival")) hx hb hts hiX2 tyX2 tyX2_ok nmX2 hown hw 0 rfl rfl 0 (by decide) (hts (.fieldLink RX2 11 "LaceRanks$History" "ring" "[LLaceRanks$Carnival;") (by decide +kernel)) rfl hin rfl (by decide +kernel) rfl rfl (Nat.le_of_ble_eq_true rfl) dX2_init_10 rfl (fun H locs hw => ?_)
  have hw : WH D cI cR A (w0 ++ [(a, .inr (2, [.ref r, .int 0, .int 0])), (r, .inl (cR, 6, .inr (.inr (.inr (.inr (fun _ => none))))))]) s H locs := hw
  refine lv_iconst (v := 0) hx hb dX2_init_13 (by decide) ?_
  refine lv_istore_n (lv' := [(1, .int 0), (0, .ref a)]) hx hb dX2_init_14 rfl hl (by decide) rfl (fun ls hl => ?_)
  refine lv_iload_n hx hb dX2_init_15 rfl (lv_at hl 0 rfl) ?_
  refine lv_aload_n hx hb dX2_init_16 rfl (lv_at hl 1 rfl) ?_
  refine q_get hx hb hts hiX2 hown hw (w0.length + 0) (wg.trans rfl) rfl 0 (by decide) (hts (.fieldLink RX2 11 "LaceRanks$History" "ring" "[LLaceRanks$Carnival;") (by decide +kernel)) rfl dX2_init_17 ?_
  refine va_alen (v := 6) hx hb hw.2.1 hw.1 (w0.length + 1) 1 (wg.trans rfl) rfl rfl dX2_init_20 ?_
  refine lv_icmp_ge (tgt := 43) hx hb dX2_init_21 (by decide) (fun hc => absurd hc (by decide)) (fun hc => ?_)
  refine lv_aload_n hx hb dX2_init_24 rfl (lv_at hl 1 rfl) ?_
  refine q_get hx hb hts hiX2 hown hw (w0.length + 0) (wg.trans rfl) rfl 0 (by decide) (hts (.fieldLink RX2 11 "LaceRanks$History" "ring" "[LLaceRanks$Carnival;") (by decide +kernel)) rfl dX2_init_25 ?_
  refine lv_iload_n hx hb dX2_init_28 rfl (lv_at hl 0 rfl) ?_
  refine i_new (ci := 0) (fs := [.null, .null, .null, .int 0, .int 0, .int 0, .int 0, .int 0, .int 0, .int 0, .int 0, .int 0]) (C := RX0) (T := TX0) (N := 12) hx hb hts hiX0 tyX0 tyX0_ok hown (hts (.classLink RX2 9 RX0) (by decide +kernel)) (hts (.instantiable RX0 12) (by decide +kernel)) (hts (.initialized RX0) (by decide +kernel)) hw hA rfl (fun j hj => by rcases (show j = 0 ∨ j = 1 ∨ j = 2 ∨ j = 3 ∨ j = 4 ∨ j = 5 ∨ j = 6 ∨ j = 7 ∨ j = 8 ∨ j = 9 ∨ j = 10 ∨ j = 11 by omega) with rfl | rfl | rfl | rfl | rfl | rfl | rfl | rfl | rfl | rfl | rfl | rfl <;> rfl) (Nat.le_of_ble_eq_true rfl) (Nat.le_of_ble_eq_true rfl) dX2_init_29 (fun c0 H hw => ?_)
  refine lv_dup hx hb dX2_init_32 rfl ?_
  have hw : WH D cI cR A ((w0 ++ [(a, .inr (2, [.ref r, .int 0, .int 0])), (r, .inl (cR, 6, .inr (.inr (.inr (.inr ((fun _ => none)))))))]) ++ [(c0, .inr (0, [.null, .null, .null, .int 0, .int 0, .int 0, .int 0, .int 0, .int 0, .int 0, .int 0, .int 0]))]) s H _ := hw.assoc
  refine i_run (va_runIN (g := F0 m 33 ls [.ref c0, .ref c0, .int 0, .ref r]) (As := []) (rest := [.ref c0, .int 0, .ref r]) ⟨hx, hb, hml, hown, hts⟩ (c_X0_init (w0 := (w0 ++ [(a, .inr (2, [.ref r, .int 0, .int 0])), (r, .inl (cR, 6, .inr (.inr (.inr (.inr ((fun _ => none)))))))])) (a := c0)) ⟨va_cnB 0 hts gX2_init_X0_init_n17 rfl rfl rfl (nw_X2_17 hw.2.2.2.2) (hts (.initialized RX0) (by decide +kernel)) (by decide +kernel) ⟨Nat.le_of_ble_eq_true rfl, Nat.le_of_ble_eq_true rfl⟩, rfl, (hts (.instanceMethod yX0_init) (by decide +kernel))⟩ (i_preS hw hO hA hC) rfl rfl hl.1 rfl (lv_room (Nat.le_of_ble_eq_true rfl)) dX2_init_33 ⟨Nat.le_of_ble_eq_true rfl, Nat.le_of_ble_eq_true rfl⟩) hw (fun w9 h9 H locs hw => ?_)
  obtain ⟨b0, hb0, rfl⟩ := h9
  have hw : WH D cI cR A (w0 ++ ([(a, .inr (2, [.ref r, .int 0, .int 0])), (r, .inl (cR, 6, .inr (.inr (.inr (.inr ((fun _ => none)))))))] ++ kws cI b0 0 kK0)) s H locs := by rw [List.append_assoc] at hw; exact hw
  rw [← hb0]
  refine i_astq (v := b0 0) hx hb hw 1 2 rfl rfl (inb_in (by decide)) dX2_init_36 rfl (fun H locs hw => ?_)
  have hw : WH D cI cR A (w0 ++ ([(a, .inr (2, [.ref r, .int 0, .int 0])), (r, .inl (cR, 6, .inr (.inr (.inr (.inr ((va_up (fun _ => none) 0 (some (b0 0)))))))))] ++ kws cI b0 0 kK0)) s H locs := hw
  refine lv_iinc (v := 1) (lv' := [(1, .int 1), (0, .ref a)]) hx hb dX2_init_37 hl (k := 0) rfl (by decide) (by decide) rfl (fun ls hl => ?_)
  refine lv_goto (tgt := 15) hx hb dX2_init_40 (by decide) ?_
  refine lv_iload_n hx hb dX2_init_15 rfl (lv_at hl 0 rfl) ?_
  refine lv_aload_n hx hb dX2_init_16 rfl (lv_at hl 1 rfl) ?_
  refine q_get hx hb hts hiX2 hown hw (w0.length + 0) (wg.trans rfl) rfl 0 (by decide) (hts (.fieldLink RX2 11 "LaceRanks$History" "ring" "[LLaceRanks$Carnival;") (by decide +kernel)) rfl dX2_init_17 ?_
  refine va_alen (v := 6) hx hb hw.2.1 hw.1 (w0.length + 1) 1 (wg.trans rfl) rfl rfl dX2_init_20 ?_
  refine lv_icmp_ge (tgt := 43) hx hb dX2_init_21 (by decide) (fun hc => absurd hc (by decide)) (fun hc => ?_)
  refine lv_aload_n hx hb dX2_init_24 rfl (lv_at hl 1 rfl) ?_
  refine q_get hx hb hts hiX2 hown hw (w0.length + 0) (wg.trans rfl) rfl 0 (by decide) (hts (.fieldLink RX2 11 "LaceRanks$History" "ring" "[LLaceRanks$Carnival;") (by decide +kernel)) rfl dX2_init_25 ?_
  refine lv_iload_n hx hb dX2_init_28 rfl (lv_at hl 0 rfl) ?_
  refine i_new (ci := 0) (fs := [.null, .null, .null, .int 0, .int 0, .int 0, .int 0, .int 0, .int 0, .int 0, .int 0, .int 0]) (C := RX0) (T := TX0) (N := 12) hx hb hts hiX0 tyX0 tyX0_ok hown (hts (.classLink RX2 9 RX0) (by decide +kernel)) (hts (.instantiable RX0 12) (by decide +kernel)) (hts (.initialized RX0) (by decide +kernel)) hw hA rfl (fun j hj => by rcases (show j = 0 ∨ j = 1 ∨ j = 2 ∨ j = 3 ∨ j = 4 ∨ j = 5 ∨ j = 6 ∨ j = 7 ∨ j = 8 ∨ j = 9 ∨ j = 10 ∨ j = 11 by omega) with rfl | rfl | rfl | rfl | rfl | rfl | rfl | rfl | rfl | rfl | rfl | rfl <;> rfl) (Nat.le_of_ble_eq_true rfl) (Nat.le_of_ble_eq_true rfl) dX2_init_29 (fun c1 H hw => ?_)
  refine lv_dup hx hb dX2_init_32 rfl ?_
  have hw : WH D cI cR A ((w0 ++ ([(a, .inr (2, [.ref r, .int 0, .int 0])), (r, .inl (cR, 6, .inr (.inr (.inr (.inr ((va_up (fun _ => none) 0 (some (b0 0)))))))))] ++ kws cI b0 0 kK0)) ++ [(c1, .inr (0, [.null, .null, .null, .int 0, .int 0, .int 0, .int 0, .int 0, .int 0, .int 0, .int 0, .int 0]))]) s H _ := hw.assoc
  refine i_run (va_runIN (g := F0 m 33 ls [.ref c1, .ref c1, .int 1, .ref r]) (As := []) (rest := [.ref c1, .int 1, .ref r]) ⟨hx, hb, hml, hown, hts⟩ (c_X0_init (w0 := (w0 ++ ([(a, .inr (2, [.ref r, .int 0, .int 0])), (r, .inl (cR, 6, .inr (.inr (.inr (.inr ((va_up (fun _ => none) 0 (some (b0 0)))))))))] ++ kws cI b0 0 kK0))) (a := c1)) ⟨va_cnB 0 hts gX2_init_X0_init_n17 rfl rfl rfl (nw_X2_17 hw.2.2.2.2) (hts (.initialized RX0) (by decide +kernel)) (by decide +kernel) ⟨Nat.le_of_ble_eq_true rfl, Nat.le_of_ble_eq_true rfl⟩, rfl, (hts (.instanceMethod yX0_init) (by decide +kernel))⟩ (i_preS hw hO hA hC) rfl rfl hl.1 rfl (lv_room (Nat.le_of_ble_eq_true rfl)) dX2_init_33 ⟨Nat.le_of_ble_eq_true rfl, Nat.le_of_ble_eq_true rfl⟩) hw (fun w9 h9 H locs hw => ?_)
  obtain ⟨b1, hb1, rfl⟩ := h9
  have hw : WH D cI cR A (w0 ++ (([(a, .inr (2, [.ref r, .int 0, .int 0])), (r, .inl (cR, 6, .inr (.inr (.inr (.inr ((va_up (fun _ => none) 0 (some (b0 0)))))))))] ++ kws cI b0 0 kK0) ++ kws cI b1 0 kK0)) s H locs := by rw [List.append_assoc] at hw; exact hw
  rw [← hb1]
  refine i_astq (v := b1 0) hx hb hw 1 16 rfl rfl (inb_in (by decide)) dX2_init_36 rfl (fun H locs hw => ?_)
  have hw : WH D cI cR A (w0 ++ (([(a, .inr (2, [.ref r, .int 0, .int 0])), (r, .inl (cR, 6, .inr (.inr (.inr (.inr ((va_up (va_up (fun _ => none) 0 (some (b0 0))) 1 (some (b1 0)))))))))] ++ kws cI b0 0 kK0) ++ kws cI b1 0 kK0)) s H locs := hw
  refine lv_iinc (v := 2) (lv' := [(1, .int 2), (0, .ref a)]) hx hb dX2_init_37 hl (k := 0) rfl (by decide) (by decide) rfl (fun ls hl => ?_)
  refine lv_goto (tgt := 15) hx hb dX2_init_40 (by decide) ?_
  refine lv_iload_n hx hb dX2_init_15 rfl (lv_at hl 0 rfl) ?_
  refine lv_aload_n hx hb dX2_init_16 rfl (lv_at hl 1 rfl) ?_
  refine q_get hx hb hts hiX2 hown hw (w0.length + 0) (wg.trans rfl) rfl 0 (by decide) (hts (.fieldLink RX2 11 "LaceRanks$History" "ring" "[LLaceRanks$Carnival;") (by decide +kernel)) rfl dX2_init_17 ?_
  refine va_alen (v := 6) hx hb hw.2.1 hw.1 (w0.length + 1) 1 (wg.trans rfl) rfl rfl dX2_init_20 ?_
  refine lv_icmp_ge (tgt := 43) hx hb dX2_init_21 (by decide) (fun hc => absurd hc (by decide)) (fun hc => ?_)
  refine lv_aload_n hx hb dX2_init_24 rfl (lv_at hl 1 rfl) ?_
  refine q_get hx hb hts hiX2 hown hw (w0.length + 0) (wg.trans rfl) rfl 0 (by decide) (hts (.fieldLink RX2 11 "LaceRanks$History" "ring" "[LLaceRanks$Carnival;") (by decide +kernel)) rfl dX2_init_25 ?_
  refine lv_iload_n hx hb dX2_init_28 rfl (lv_at hl 0 rfl) ?_
  refine i_new (ci := 0) (fs := [.null, .null, .null, .int 0, .int 0, .int 0, .int 0, .int 0, .int 0, .int 0, .int 0, .int 0]) (C := RX0) (T := TX0) (N := 12) hx hb hts hiX0 tyX0 tyX0_ok hown (hts (.classLink RX2 9 RX0) (by decide +kernel)) (hts (.instantiable RX0 12) (by decide +kernel)) (hts (.initialized RX0) (by decide +kernel)) hw hA rfl (fun j hj => by rcases (show j = 0 ∨ j = 1 ∨ j = 2 ∨ j = 3 ∨ j = 4 ∨ j = 5 ∨ j = 6 ∨ j = 7 ∨ j = 8 ∨ j = 9 ∨ j = 10 ∨ j = 11 by omega) with rfl | rfl | rfl | rfl | rfl | rfl | rfl | rfl | rfl | rfl | rfl | rfl <;> rfl) (Nat.le_of_ble_eq_true rfl) (Nat.le_of_ble_eq_true rfl) dX2_init_29 (fun c2 H hw => ?_)
  refine lv_dup hx hb dX2_init_32 rfl ?_
  have hw : WH D cI cR A ((w0 ++ (([(a, .inr (2, [.ref r, .int 0, .int 0])), (r, .inl (cR, 6, .inr (.inr (.inr (.inr ((va_up (va_up (fun _ => none) 0 (some (b0 0))) 1 (some (b1 0)))))))))] ++ kws cI b0 0 kK0) ++ kws cI b1 0 kK0)) ++ [(c2, .inr (0, [.null, .null, .null, .int 0, .int 0, .int 0, .int 0, .int 0, .int 0, .int 0, .int 0, .int 0]))]) s H _ := hw.assoc
  refine i_run (va_runIN (g := F0 m 33 ls [.ref c2, .ref c2, .int 2, .ref r]) (As := []) (rest := [.ref c2, .int 2, .ref r]) ⟨hx, hb, hml, hown, hts⟩ (c_X0_init (w0 := (w0 ++ (([(a, .inr (2, [.ref r, .int 0, .int 0])), (r, .inl (cR, 6, .inr (.inr (.inr (.inr ((va_up (va_up (fun _ => none) 0 (some (b0 0))) 1 (some (b1 0)))))))))] ++ kws cI b0 0 kK0) ++ kws cI b1 0 kK0))) (a := c2)) ⟨va_cnB 0 hts gX2_init_X0_init_n17 rfl rfl rfl (nw_X2_17 hw.2.2.2.2) (hts (.initialized RX0) (by decide +kernel)) (by decide +kernel) ⟨Nat.le_of_ble_eq_true rfl, Nat.le_of_ble_eq_true rfl⟩, rfl, (hts (.instanceMethod yX0_init) (by decide +kernel))⟩ (i_preS hw hO hA hC) rfl rfl hl.1 rfl (lv_room (Nat.le_of_ble_eq_true rfl)) dX2_init_33 ⟨Nat.le_of_ble_eq_true rfl, Nat.le_of_ble_eq_true rfl⟩) hw (fun w9 h9 H locs hw => ?_)
  obtain ⟨b2, hb2, rfl⟩ := h9
  have hw : WH D cI cR A (w0 ++ ((([(a, .inr (2, [.ref r, .int 0, .int 0])), (r, .inl (cR, 6, .inr (.inr (.inr (.inr ((va_up (va_up (fun _ => none) 0 (some (b0 0))) 1 (some (b1 0)))))))))] ++ kws cI b0 0 kK0) ++ kws cI b1 0 kK0) ++ kws cI b2 0 kK0)) s H locs := by rw [List.append_assoc] at hw; exact hw
  rw [← hb2]
  refine i_astq (v := b2 0) hx hb hw 1 30 rfl rfl (inb_in (by decide)) dX2_init_36 rfl (fun H locs hw => ?_)
  have hw : WH D cI cR A (w0 ++ ((([(a, .inr (2, [.ref r, .int 0, .int 0])), (r, .inl (cR, 6, .inr (.inr (.inr (.inr ((va_up (va_up (va_up (fun _ => none) 0 (some (b0 0))) 1 (some (b1 0))) 2 (some (b2 0)))))))))] ++ kws cI b0 0 kK0) ++ kws cI b1 0 kK0) ++ kws cI b2 0 kK0)) s H locs := hw
  refine lv_iinc (v := 3) (lv' := [(1, .int 3), (0, .ref a)]) hx hb dX2_init_37 hl (k := 0) rfl (by decide) (by decide) rfl (fun ls hl => ?_)
  refine lv_goto (tgt := 15) hx hb dX2_init_40 (by decide) ?_
  refine lv_iload_n hx hb dX2_init_15 rfl (lv_at hl 0 rfl) ?_
  refine lv_aload_n hx hb dX2_init_16 rfl (lv_at hl 1 rfl) ?_
  refine q_get hx hb hts hiX2 hown hw (w0.length + 0) (wg.trans rfl) rfl 0 (by decide) (hts (.fieldLink RX2 11 "LaceRanks$History" "ring" "[LLaceRanks$Carnival;") (by decide +kernel)) rfl dX2_init_17 ?_
  refine va_alen (v := 6) hx hb hw.2.1 hw.1 (w0.length + 1) 1 (wg.trans rfl) rfl rfl dX2_init_20 ?_
  refine lv_icmp_ge (tgt := 43) hx hb dX2_init_21 (by decide) (fun hc => absurd hc (by decide)) (fun hc => ?_)
  refine lv_aload_n hx hb dX2_init_24 rfl (lv_at hl 1 rfl) ?_
  refine q_get hx hb hts hiX2 hown hw (w0.length + 0) (wg.trans rfl) rfl 0 (by decide) (hts (.fieldLink RX2 11 "LaceRanks$History" "ring" "[LLaceRanks$Carnival;") (by decide +kernel)) rfl dX2_init_25 ?_
  refine lv_iload_n hx hb dX2_init_28 rfl (lv_at hl 0 rfl) ?_
  refine i_new (ci := 0) (fs := [.null, .null, .null, .int 0, .int 0, .int 0, .int 0, .int 0, .int 0, .int 0, .int 0, .int 0]) (C := RX0) (T := TX0) (N := 12) hx hb hts hiX0 tyX0 tyX0_ok hown (hts (.classLink RX2 9 RX0) (by decide +kernel)) (hts (.instantiable RX0 12) (by decide +kernel)) (hts (.initialized RX0) (by decide +kernel)) hw hA rfl (fun j hj => by rcases (show j = 0 ∨ j = 1 ∨ j = 2 ∨ j = 3 ∨ j = 4 ∨ j = 5 ∨ j = 6 ∨ j = 7 ∨ j = 8 ∨ j = 9 ∨ j = 10 ∨ j = 11 by omega) with rfl | rfl | rfl | rfl | rfl | rfl | rfl | rfl | rfl | rfl | rfl | rfl <;> rfl) (Nat.le_of_ble_eq_true rfl) (Nat.le_of_ble_eq_true rfl) dX2_init_29 (fun c3 H hw => ?_)
  refine lv_dup hx hb dX2_init_32 rfl ?_
  have hw : WH D cI cR A ((w0 ++ ((([(a, .inr (2, [.ref r, .int 0, .int 0])), (r, .inl (cR, 6, .inr (.inr (.inr (.inr ((va_up (va_up (va_up (fun _ => none) 0 (some (b0 0))) 1 (some (b1 0))) 2 (some (b2 0)))))))))] ++ kws cI b0 0 kK0) ++ kws cI b1 0 kK0) ++ kws cI b2 0 kK0)) ++ [(c3, .inr (0, [.null, .null, .null, .int 0, .int 0, .int 0, .int 0, .int 0, .int 0, .int 0, .int 0, .int 0]))]) s H _ := hw.assoc
  refine i_run (va_runIN (g := F0 m 33 ls [.ref c3, .ref c3, .int 3, .ref r]) (As := []) (rest := [.ref c3, .int 3, .ref r]) ⟨hx, hb, hml, hown, hts⟩ (c_X0_init (w0 := (w0 ++ ((([(a, .inr (2, [.ref r, .int 0, .int 0])), (r, .inl (cR, 6, .inr (.inr (.inr (.inr ((va_up (va_up (va_up (fun _ => none) 0 (some (b0 0))) 1 (some (b1 0))) 2 (some (b2 0)))))))))] ++ kws cI b0 0 kK0) ++ kws cI b1 0 kK0) ++ kws cI b2 0 kK0))) (a := c3)) ⟨va_cnB 0 hts gX2_init_X0_init_n17 rfl rfl rfl (nw_X2_17 hw.2.2.2.2) (hts (.initialized RX0) (by decide +kernel)) (by decide +kernel) ⟨Nat.le_of_ble_eq_true rfl, Nat.le_of_ble_eq_true rfl⟩, rfl, (hts (.instanceMethod yX0_init) (by decide +kernel))⟩ (i_preS hw hO hA hC) rfl rfl hl.1 rfl (lv_room (Nat.le_of_ble_eq_true rfl)) dX2_init_33 ⟨Nat.le_of_ble_eq_true rfl, Nat.le_of_ble_eq_true rfl⟩) hw (fun w9 h9 H locs hw => ?_)
  obtain ⟨b3, hb3, rfl⟩ := h9
  have hw : WH D cI cR A (w0 ++ (((([(a, .inr (2, [.ref r, .int 0, .int 0])), (r, .inl (cR, 6, .inr (.inr (.inr (.inr ((va_up (va_up (va_up (fun _ => none) 0 (some (b0 0))) 1 (some (b1 0))) 2 (some (b2 0)))))))))] ++ kws cI b0 0 kK0) ++ kws cI b1 0 kK0) ++ kws cI b2 0 kK0) ++ kws cI b3 0 kK0)) s H locs := by rw [List.append_assoc] at hw; exact hw
  rw [← hb3]
  refine i_astq (v := b3 0) hx hb hw 1 44 rfl rfl (inb_in (by decide)) dX2_init_36 rfl (fun H locs hw => ?_)
  have hw : WH D cI cR A (w0 ++ (((([(a, .inr (2, [.ref r, .int 0, .int 0])), (r, .inl (cR, 6, .inr (.inr (.inr (.inr ((va_up (va_up (va_up (va_up (fun _ => none) 0 (some (b0 0))) 1 (some (b1 0))) 2 (some (b2 0))) 3 (some (b3 0)))))))))] ++ kws cI b0 0 kK0) ++ kws cI b1 0 kK0) ++ kws cI b2 0 kK0) ++ kws cI b3 0 kK0)) s H locs := hw
  refine lv_iinc (v := 4) (lv' := [(1, .int 4), (0, .ref a)]) hx hb dX2_init_37 hl (k := 0) rfl (by decide) (by decide) rfl (fun ls hl => ?_)
  refine lv_goto (tgt := 15) hx hb dX2_init_40 (by decide) ?_
  refine lv_iload_n hx hb dX2_init_15 rfl (lv_at hl 0 rfl) ?_
  refine lv_aload_n hx hb dX2_init_16 rfl (lv_at hl 1 rfl) ?_
  refine q_get hx hb hts hiX2 hown hw (w0.length + 0) (wg.trans rfl) rfl 0 (by decide) (hts (.fieldLink RX2 11 "LaceRanks$History" "ring" "[LLaceRanks$Carnival;") (by decide +kernel)) rfl dX2_init_17 ?_
  refine va_alen (v := 6) hx hb hw.2.1 hw.1 (w0.length + 1) 1 (wg.trans rfl) rfl rfl dX2_init_20 ?_
  refine lv_icmp_ge (tgt := 43) hx hb dX2_init_21 (by decide) (fun hc => absurd hc (by decide)) (fun hc => ?_)
  refine lv_aload_n hx hb dX2_init_24 rfl (lv_at hl 1 rfl) ?_
  refine q_get hx hb hts hiX2 hown hw (w0.length + 0) (wg.trans rfl) rfl 0 (by decide) (hts (.fieldLink RX2 11 "LaceRanks$History" "ring" "[LLaceRanks$Carnival;") (by decide +kernel)) rfl dX2_init_25 ?_
  refine lv_iload_n hx hb dX2_init_28 rfl (lv_at hl 0 rfl) ?_
  refine i_new (ci := 0) (fs := [.null, .null, .null, .int 0, .int 0, .int 0, .int 0, .int 0, .int 0, .int 0, .int 0, .int 0]) (C := RX0) (T := TX0) (N := 12) hx hb hts hiX0 tyX0 tyX0_ok hown (hts (.classLink RX2 9 RX0) (by decide +kernel)) (hts (.instantiable RX0 12) (by decide +kernel)) (hts (.initialized RX0) (by decide +kernel)) hw hA rfl (fun j hj => by rcases (show j = 0 ∨ j = 1 ∨ j = 2 ∨ j = 3 ∨ j = 4 ∨ j = 5 ∨ j = 6 ∨ j = 7 ∨ j = 8 ∨ j = 9 ∨ j = 10 ∨ j = 11 by omega) with rfl | rfl | rfl | rfl | rfl | rfl | rfl | rfl | rfl | rfl | rfl | rfl <;> rfl) (Nat.le_of_ble_eq_true rfl) (Nat.le_of_ble_eq_true rfl) dX2_init_29 (fun c4 H hw => ?_)
  refine lv_dup hx hb dX2_init_32 rfl ?_
  have hw : WH D cI cR A ((w0 ++ (((([(a, .inr (2, [.ref r, .int 0, .int 0])), (r, .inl (cR, 6, .inr (.inr (.inr (.inr ((va_up (va_up (va_up (va_up (fun _ => none) 0 (some (b0 0))) 1 (some (b1 0))) 2 (some (b2 0))) 3 (some (b3 0)))))))))] ++ kws cI b0 0 kK0) ++ kws cI b1 0 kK0) ++ kws cI b2 0 kK0) ++ kws cI b3 0 kK0)) ++ [(c4, .inr (0, [.null, .null, .null, .int 0, .int 0, .int 0, .int 0, .int 0, .int 0, .int 0, .int 0, .int 0]))]) s H _ := hw.assoc
  refine i_run (va_runIN (g := F0 m 33 ls [.ref c4, .ref c4, .int 4, .ref r]) (As := []) (rest := [.ref c4, .int 4, .ref r]) ⟨hx, hb, hml, hown, hts⟩ (c_X0_init (w0 := (w0 ++ (((([(a, .inr (2, [.ref r, .int 0, .int 0])), (r, .inl (cR, 6, .inr (.inr (.inr (.inr ((va_up (va_up (va_up (va_up (fun _ => none) 0 (some (b0 0))) 1 (some (b1 0))) 2 (some (b2 0))) 3 (some (b3 0)))))))))] ++ kws cI b0 0 kK0) ++ kws cI b1 0 kK0) ++ kws cI b2 0 kK0) ++ kws cI b3 0 kK0))) (a := c4)) ⟨va_cnB 0 hts gX2_init_X0_init_n17 rfl rfl rfl (nw_X2_17 hw.2.2.2.2) (hts (.initialized RX0) (by decide +kernel)) (by decide +kernel) ⟨Nat.le_of_ble_eq_true rfl, Nat.le_of_ble_eq_true rfl⟩, rfl, (hts (.instanceMethod yX0_init) (by decide +kernel))⟩ (i_preS hw hO hA hC) rfl rfl hl.1 rfl (lv_room (Nat.le_of_ble_eq_true rfl)) dX2_init_33 ⟨Nat.le_of_ble_eq_true rfl, Nat.le_of_ble_eq_true rfl⟩) hw (fun w9 h9 H locs hw => ?_)
  obtain ⟨b4, hb4, rfl⟩ := h9
  have hw : WH D cI cR A (w0 ++ ((((([(a, .inr (2, [.ref r, .int 0, .int 0])), (r, .inl (cR, 6, .inr (.inr (.inr (.inr ((va_up (va_up (va_up (va_up (fun _ => none) 0 (some (b0 0))) 1 (some (b1 0))) 2 (some (b2 0))) 3 (some (b3 0)))))))))] ++ kws cI b0 0 kK0) ++ kws cI b1 0 kK0) ++ kws cI b2 0 kK0) ++ kws cI b3 0 kK0) ++ kws cI b4 0 kK0)) s H locs := by rw [List.append_assoc] at hw; exact hw
  rw [← hb4]
  refine i_astq (v := b4 0) hx hb hw 1 58 rfl rfl (inb_in (by decide)) dX2_init_36 rfl (fun H locs hw => ?_)
  have hw : WH D cI cR A (w0 ++ ((((([(a, .inr (2, [.ref r, .int 0, .int 0])), (r, .inl (cR, 6, .inr (.inr (.inr (.inr ((va_up (va_up (va_up (va_up (va_up (fun _ => none) 0 (some (b0 0))) 1 (some (b1 0))) 2 (some (b2 0))) 3 (some (b3 0))) 4 (some (b4 0)))))))))] ++ kws cI b0 0 kK0) ++ kws cI b1 0 kK0) ++ kws cI b2 0 kK0) ++ kws cI b3 0 kK0) ++ kws cI b4 0 kK0)) s H locs := hw
  refine lv_iinc (v := 5) (lv' := [(1, .int 5), (0, .ref a)]) hx hb dX2_init_37 hl (k := 0) rfl (by decide) (by decide) rfl (fun ls hl => ?_)
  refine lv_goto (tgt := 15) hx hb dX2_init_40 (by decide) ?_
  refine lv_iload_n hx hb dX2_init_15 rfl (lv_at hl 0 rfl) ?_
  refine lv_aload_n hx hb dX2_init_16 rfl (lv_at hl 1 rfl) ?_
  refine q_get hx hb hts hiX2 hown hw (w0.length + 0) (wg.trans rfl) rfl 0 (by decide) (hts (.fieldLink RX2 11 "LaceRanks$History" "ring" "[LLaceRanks$Carnival;") (by decide +kernel)) rfl dX2_init_17 ?_
  refine va_alen (v := 6) hx hb hw.2.1 hw.1 (w0.length + 1) 1 (wg.trans rfl) rfl rfl dX2_init_20 ?_
  refine lv_icmp_ge (tgt := 43) hx hb dX2_init_21 (by decide) (fun hc => absurd hc (by decide)) (fun hc => ?_)
  refine lv_aload_n hx hb dX2_init_24 rfl (lv_at hl 1 rfl) ?_
  refine q_get hx hb hts hiX2 hown hw (w0.length + 0) (wg.trans rfl) rfl 0 (by decide) (hts (.fieldLink RX2 11 "LaceRanks$History" "ring" "[LLaceRanks$Carnival;") (by decide +kernel)) rfl dX2_init_25 ?_
  refine lv_iload_n hx hb dX2_init_28 rfl (lv_at hl 0 rfl) ?_
  refine i_new (ci := 0) (fs := [.null, .null, .null, .int 0, .int 0, .int 0, .int 0, .int 0, .int 0, .int 0, .int 0, .int 0]) (C := RX0) (T := TX0) (N := 12) hx hb hts hiX0 tyX0 tyX0_ok hown (hts (.classLink RX2 9 RX0) (by decide +kernel)) (hts (.instantiable RX0 12) (by decide +kernel)) (hts (.initialized RX0) (by decide +kernel)) hw hA rfl (fun j hj => by rcases (show j = 0 ∨ j = 1 ∨ j = 2 ∨ j = 3 ∨ j = 4 ∨ j = 5 ∨ j = 6 ∨ j = 7 ∨ j = 8 ∨ j = 9 ∨ j = 10 ∨ j = 11 by omega) with rfl | rfl | rfl | rfl | rfl | rfl | rfl | rfl | rfl | rfl | rfl | rfl <;> rfl) (Nat.le_of_ble_eq_true rfl) (Nat.le_of_ble_eq_true rfl) dX2_init_29 (fun c5 H hw => ?_)
  refine lv_dup hx hb dX2_init_32 rfl ?_
  have hw : WH D cI cR A ((w0 ++ ((((([(a, .inr (2, [.ref r, .int 0, .int 0])), (r, .inl (cR, 6, .inr (.inr (.inr (.inr ((va_up (va_up (va_up (va_up (va_up (fun _ => none) 0 (some (b0 0))) 1 (some (b1 0))) 2 (some (b2 0))) 3 (some (b3 0))) 4 (some (b4 0)))))))))] ++ kws cI b0 0 kK0) ++ kws cI b1 0 kK0) ++ kws cI b2 0 kK0) ++ kws cI b3 0 kK0) ++ kws cI b4 0 kK0)) ++ [(c5, .inr (0, [.null, .null, .null, .int 0, .int 0, .int 0, .int 0, .int 0, .int 0, .int 0, .int 0, .int 0]))]) s H _ := hw.assoc
  refine i_run (va_runIN (g := F0 m 33 ls [.ref c5, .ref c5, .int 5, .ref r]) (As := []) (rest := [.ref c5, .int 5, .ref r]) ⟨hx, hb, hml, hown, hts⟩ (c_X0_init (w0 := (w0 ++ ((((([(a, .inr (2, [.ref r, .int 0, .int 0])), (r, .inl (cR, 6, .inr (.inr (.inr (.inr ((va_up (va_up (va_up (va_up (va_up (fun _ => none) 0 (some (b0 0))) 1 (some (b1 0))) 2 (some (b2 0))) 3 (some (b3 0))) 4 (some (b4 0)))))))))] ++ kws cI b0 0 kK0) ++ kws cI b1 0 kK0) ++ kws cI b2 0 kK0) ++ kws cI b3 0 kK0) ++ kws cI b4 0 kK0))) (a := c5)) ⟨va_cnB 0 hts gX2_init_X0_init_n17 rfl rfl rfl (nw_X2_17 hw.2.2.2.2) (hts (.initialized RX0) (by decide +kernel)) (by decide +kernel) ⟨Nat.le_of_ble_eq_true rfl, Nat.le_of_ble_eq_true rfl⟩, rfl, (hts (.instanceMethod yX0_init) (by decide +kernel))⟩ (i_preS hw hO hA hC) rfl rfl hl.1 rfl (lv_room (Nat.le_of_ble_eq_true rfl)) dX2_init_33 ⟨Nat.le_of_ble_eq_true rfl, Nat.le_of_ble_eq_true rfl⟩) hw (fun w9 h9 H locs hw => ?_)
  obtain ⟨b5, hb5, rfl⟩ := h9
  have hw : WH D cI cR A (w0 ++ (((((([(a, .inr (2, [.ref r, .int 0, .int 0])), (r, .inl (cR, 6, .inr (.inr (.inr (.inr ((va_up (va_up (va_up (va_up (va_up (fun _ => none) 0 (some (b0 0))) 1 (some (b1 0))) 2 (some (b2 0))) 3 (some (b3 0))) 4 (some (b4 0)))))))))] ++ kws cI b0 0 kK0) ++ kws cI b1 0 kK0) ++ kws cI b2 0 kK0) ++ kws cI b3 0 kK0) ++ kws cI b4 0 kK0) ++ kws cI b5 0 kK0)) s H locs := by rw [List.append_assoc] at hw; exact hw
  rw [← hb5]
  refine i_astq (v := b5 0) hx hb hw 1 72 rfl rfl (inb_in (by decide)) dX2_init_36 rfl (fun H locs hw => ?_)
  have hw : WH D cI cR A (w0 ++ (((((([(a, .inr (2, [.ref r, .int 0, .int 0])), (r, .inl (cR, 6, .inr (.inr (.inr (.inr ((va_up (va_up (va_up (va_up (va_up (va_up (fun _ => none) 0 (some (b0 0))) 1 (some (b1 0))) 2 (some (b2 0))) 3 (some (b3 0))) 4 (some (b4 0))) 5 (some (b5 0)))))))))] ++ kws cI b0 0 kK0) ++ kws cI b1 0 kK0) ++ kws cI b2 0 kK0) ++ kws cI b3 0 kK0) ++ kws cI b4 0 kK0) ++ kws cI b5 0 kK0)) s H locs := hw
  refine lv_iinc (v := 6) (lv' := [(1, .int 6), (0, .ref a)]) hx hb dX2_init_37 hl (k := 0) rfl (by decide) (by decide) rfl (fun ls hl => ?_)
  refine lv_goto (tgt := 15) hx hb dX2_init_40 (by decide) ?_
  refine lv_iload_n hx hb dX2_init_15 rfl (lv_at hl 0 rfl) ?_
  refine lv_aload_n hx hb dX2_init_16 rfl (lv_at hl 1 rfl) ?_
  refine q_get hx hb hts hiX2 hown hw (w0.length + 0) (wg.trans rfl) rfl 0 (by decide) (hts (.fieldLink RX2 11 "LaceRanks$History" "ring" "[LLaceRanks$Carnival;") (by decide +kernel)) rfl dX2_init_17 ?_
  refine va_alen (v := 6) hx hb hw.2.1 hw.1 (w0.length + 1) 1 (wg.trans rfl) rfl rfl dX2_init_20 ?_
  refine lv_icmp_ge (tgt := 43) hx hb dX2_init_21 (by decide) (fun hc => ?_) (fun hc => absurd (by decide) hc)
  exact i_ret (Nat.le_of_ble_eq_true rfl) (Nat.le_of_ble_eq_true rfl) hx hb hr hlocks hw ⟨r, fun k => match k with | 0 => b0 | 1 => b1 | 2 => b2 | 3 => b3 | 4 => b4 | _ => b5, by simp only [List.append_assoc]; rfl⟩ dX2_init_43
def ad5 (a : Nat) (b1 b2 : Nat → Nat) (h r : Nat) (br : Nat → Nat → Nat) (t u : Nat) : Nat → Nat := fun k => if k = 0 then a else if k < 15 then b1 (k - 1) else if k < 29 then b2 (k - 15) else if k = 29 then h else if k = 30 then r else if k < 115 then br ((k - 31) / 14) ((k - 31) % 14) else if k = 115 then t else u
theorem fR_ring (b : Nat → Nat → Nat) (ad : Nat → Nat) (h : ∀ j, j < 6 → ad (31 + 14 * j) = b j 0) (cR : ClassId) : vp_cell cR (6, .inr (.inr (.inr (.inr (fR b))))) = vp_cell cR (6, .inr (.inr (.inr (.inr (ringf ad))))) := by
  rw [vp_cell_q, vp_cell_q]
  unfold arrV
  congr 1
  congr 1
  funext j
  have hj := j.isLt
  refine congrArg va_rf ?_
  show fR b j.val = ringf ad j.val
  unfold ringf
  rw [h j.val hj]
  rcases (show j.val = 0 ∨ j.val = 1 ∨ j.val = 2 ∨ j.val = 3 ∨ j.val = 4 ∨ j.val = 5 by omega) with e | e | e | e | e | e <;> rw [e] <;> rfl
set_option maxHeartbeats 4000000 in
set_option maxRecDepth 100000 in
theorem c_X5_init {l : Launch} {D : va_G} {cI cR : ClassId} {A : Nat → Prop} {w0 : va_W} {a : Nat} : MIN l yX5_init wsX5_init 6 102 116 1207 D cI cR A [.ref a] ((w0 ++ [(a, .inr (5, [.null, .null, .null, .null, .int 0]))])) (fun w' => ∃ ad : Nat → Nat, ad 0 = a ∧ w' = w0 ++ xws cI cR ad O0 kK0) := by
  refine Met.ofW (cc := cX5_init) (maxL := 1) (ret := none) (by decide) rfl ?_
  intro p e s m args below meth c s₁ B hml hv
  obtain ⟨rfl, hw, hO, hA, hC⟩ := i_start hv
  have hx := B.exec
  have hb := B.bytes
  have hr := B.returns
  have hts := atoms_spec (ws := wsX5_init) B.pre
  have hown : s.vm.findClass RX5 = some m.cls := findClass_of_methodNamed B.named
  have hlocks := B.notSynchronized
  have hin : meth.name = "<init>" := (name_of_methodNamed B.named B.method).1
  have hiX5 : ∀ w ∈ wsX50, w ∈ wsX5_init := by decide +kernel
  have hiX0 : ∀ w ∈ wsX00, w ∈ wsX5_init := by decide +kernel
  have hiX2 : ∀ w ∈ wsX20, w ∈ wsX5_init := by decide +kernel
  have hiX4 : ∀ w ∈ wsX40, w ∈ wsX5_init := by decide +kernel
  have hl := lv_entry ([.ref a]) (n := 1) (Nat.le_of_ble_eq_true rfl)
  rw [lg_entry_eq]
  generalize (lg_sl ([.ref a]) ++ List.replicate (1 - (lg_sl ([.ref a])).length) Slot.unset).toArray = ls at hl ⊢
  have hl : lv_has ls 1 [(0, .ref a)] := hl
  refine lv_aload_n hx hb dX5_init_0 rfl (lv_at hl 0 rfl) ?_
  refine W.objInit hx hb hown (hts (.methodLink RX5 1 objectInit) (by decide +kernel)) (hts (.instanceMethod objectInit) (by decide +kernel)) (hts (.code objectInit ⟨#[0xb1]⟩ 1 none) (by decide +kernel)) rfl (by rw [hml]; exact hl.1) rfl dX5_init_1 (Nat.le_of_ble_eq_true rfl) (Nat.le_of_ble_eq_true rfl) ?_
  refine W.eq (g2 := F0 m 4 ls []) rfl ?_
  refine lv_aload_n hx hb dX5_init_4 rfl (lv_at hl 0 rfl) ?_
  refine i_new (ci := 0) (fs := [.null, .null, .null, .int 0, .int 0, .int 0, .int 0, .int 0, .int 0, .int 0, .int 0, .int 0]) (C := RX0) (T := TX0) (N := 12) hx hb hts hiX0 tyX0 tyX0_ok hown (hts (.classLink RX5 7 RX0) (by decide +kernel)) (hts (.instantiable RX0 12) (by decide +kernel)) (hts (.initialized RX0) (by decide +kernel)) hw hA rfl (fun j hj => by rcases (show j = 0 ∨ j = 1 ∨ j = 2 ∨ j = 3 ∨ j = 4 ∨ j = 5 ∨ j = 6 ∨ j = 7 ∨ j = 8 ∨ j = 9 ∨ j = 10 ∨ j = 11 by omega) with rfl | rfl | rfl | rfl | rfl | rfl | rfl | rfl | rfl | rfl | rfl | rfl <;> rfl) (Nat.le_of_ble_eq_true rfl) (Nat.le_of_ble_eq_true rfl) dX5_init_5 (fun n0 H hw => ?_)
  refine lv_dup hx hb dX5_init_8 rfl ?_
  have hw : WH D cI cR A ((w0 ++ [(a, .inr (5, [.null, .null, .null, .null, .int 0]))]) ++ [(n0, .inr (0, [.null, .null, .null, .int 0, .int 0, .int 0, .int 0, .int 0, .int 0, .int 0, .int 0, .int 0]))]) s H _ := hw.assoc
  refine i_run (va_runIN (g := F0 m 9 ls [.ref n0, .ref n0, .ref a]) (As := []) (rest := [.ref n0, .ref a]) ⟨hx, hb, hml, hown, hts⟩ (c_X0_init (w0 := (w0 ++ [(a, .inr (5, [.null, .null, .null, .null, .int 0]))])) (a := n0)) ⟨va_cnB 0 hts gX5_init_X0_init_n9 rfl rfl rfl (nw_X5_9 hw.2.2.2.2) (hts (.initialized RX0) (by decide +kernel)) (by decide +kernel) ⟨Nat.le_of_ble_eq_true rfl, Nat.le_of_ble_eq_true rfl⟩, rfl, (hts (.instanceMethod yX0_init) (by decide +kernel))⟩ (i_preS hw hO hA hC) rfl rfl hl.1 rfl (lv_room (Nat.le_of_ble_eq_true rfl)) dX5_init_9 ⟨Nat.le_of_ble_eq_true rfl, Nat.le_of_ble_eq_true rfl⟩) hw (fun w9 h9 H locs hw => ?_)
  obtain ⟨b1, hb1, rfl⟩ := h9
  have hw : WH D cI cR A (w0 ++ ([(a, .inr (5, [.null, .null, .null, .null, .int 0]))] ++ kws cI b1 0 kK0)) s H locs := by simp only [List.append_assoc] at hw ⊢; exact hw
  refine i_putF (ty := .object "LaceRanks$Carnival") hx hb hts hiX5 tyX5 tyX5_ok nmX5 hown hw 0 rfl rfl 0 (by decide) (hts (.fieldLink RX5 10 "LaceRanks" "now" "LLaceRanks$Carnival;") (by decide +kernel)) rfl hin rfl (by decide +kernel) rfl rfl (Nat.le_of_ble_eq_true rfl) dX5_init_12 rfl (fun H locs hw => ?_)
  have hw : WH D cI cR A (w0 ++ ([(a, .inr (5, [.ref n0, .null, .null, .null, .int 0]))] ++ kws cI b1 0 kK0)) s H locs := hw
  refine lv_aload_n hx hb dX5_init_15 rfl (lv_at hl 0 rfl) ?_
  refine i_new (ci := 0) (fs := [.null, .null, .null, .int 0, .int 0, .int 0, .int 0, .int 0, .int 0, .int 0, .int 0, .int 0]) (C := RX0) (T := TX0) (N := 12) hx hb hts hiX0 tyX0 tyX0_ok hown (hts (.classLink RX5 7 RX0) (by decide +kernel)) (hts (.instantiable RX0 12) (by decide +kernel)) (hts (.initialized RX0) (by decide +kernel)) hw hA rfl (fun j hj => by rcases (show j = 0 ∨ j = 1 ∨ j = 2 ∨ j = 3 ∨ j = 4 ∨ j = 5 ∨ j = 6 ∨ j = 7 ∨ j = 8 ∨ j = 9 ∨ j = 10 ∨ j = 11 by omega) with rfl | rfl | rfl | rfl | rfl | rfl | rfl | rfl | rfl | rfl | rfl | rfl <;> rfl) (Nat.le_of_ble_eq_true rfl) (Nat.le_of_ble_eq_true rfl) dX5_init_16 (fun n1 H hw => ?_)
  refine lv_dup hx hb dX5_init_19 rfl ?_
  have hw : WH D cI cR A ((w0 ++ ([(a, .inr (5, [.ref n0, .null, .null, .null, .int 0]))] ++ kws cI b1 0 kK0)) ++ [(n1, .inr (0, [.null, .null, .null, .int 0, .int 0, .int 0, .int 0, .int 0, .int 0, .int 0, .int 0, .int 0]))]) s H _ := hw.assoc
  refine i_run (va_runIN (g := F0 m 20 ls [.ref n1, .ref n1, .ref a]) (As := []) (rest := [.ref n1, .ref a]) ⟨hx, hb, hml, hown, hts⟩ (c_X0_init (w0 := (w0 ++ ([(a, .inr (5, [.ref n0, .null, .null, .null, .int 0]))] ++ kws cI b1 0 kK0))) (a := n1)) ⟨va_cnB 0 hts gX5_init_X0_init_n9 rfl rfl rfl (nw_X5_9 hw.2.2.2.2) (hts (.initialized RX0) (by decide +kernel)) (by decide +kernel) ⟨Nat.le_of_ble_eq_true rfl, Nat.le_of_ble_eq_true rfl⟩, rfl, (hts (.instanceMethod yX0_init) (by decide +kernel))⟩ (i_preS hw hO hA hC) rfl rfl hl.1 rfl (lv_room (Nat.le_of_ble_eq_true rfl)) dX5_init_20 ⟨Nat.le_of_ble_eq_true rfl, Nat.le_of_ble_eq_true rfl⟩) hw (fun w9 h9 H locs hw => ?_)
  obtain ⟨b2, hb2, rfl⟩ := h9
  have hw : WH D cI cR A (w0 ++ (([(a, .inr (5, [.ref n0, .null, .null, .null, .int 0]))] ++ kws cI b1 0 kK0) ++ kws cI b2 0 kK0)) s H locs := by simp only [List.append_assoc] at hw ⊢; exact hw
  refine i_putF (ty := .object "LaceRanks$Carnival") hx hb hts hiX5 tyX5 tyX5_ok nmX5 hown hw 0 rfl rfl 1 (by decide) (hts (.fieldLink RX5 16 "LaceRanks" "snapshot" "LLaceRanks$Carnival;") (by decide +kernel)) rfl hin rfl (by decide +kernel) rfl rfl (Nat.le_of_ble_eq_true rfl) dX5_init_23 rfl (fun H locs hw => ?_)
  have hw : WH D cI cR A (w0 ++ (([(a, .inr (5, [.ref n0, .ref n1, .null, .null, .int 0]))] ++ kws cI b1 0 kK0) ++ kws cI b2 0 kK0)) s H locs := hw
  refine lv_aload_n hx hb dX5_init_26 rfl (lv_at hl 0 rfl) ?_
  refine i_new (ci := 2) (fs := [.null, .int 0, .int 0]) (C := RX2) (T := TX2) (N := 3) hx hb hts hiX2 tyX2 tyX2_ok hown (hts (.classLink RX5 19 RX2) (by decide +kernel)) (hts (.instantiable RX2 3) (by decide +kernel)) (hts (.initialized RX2) (by decide +kernel)) hw hA rfl (fun j hj => by rcases (show j = 0 ∨ j = 1 ∨ j = 2 by omega) with rfl | rfl | rfl <;> rfl) (Nat.le_of_ble_eq_true rfl) (Nat.le_of_ble_eq_true rfl) dX5_init_27 (fun n2 H hw => ?_)
  refine lv_dup hx hb dX5_init_30 rfl ?_
  have hw : WH D cI cR A ((w0 ++ (([(a, .inr (5, [.ref n0, .ref n1, .null, .null, .int 0]))] ++ kws cI b1 0 kK0) ++ kws cI b2 0 kK0)) ++ [(n2, .inr (2, [.null, .int 0, .int 0]))]) s H _ := hw.assoc
  refine i_run (va_runIN (g := F0 m 31 ls [.ref n2, .ref n2, .ref a]) (As := []) (rest := [.ref n2, .ref a]) ⟨hx, hb, hml, hown, hts⟩ (c_X2_init (w0 := (w0 ++ (([(a, .inr (5, [.ref n0, .ref n1, .null, .null, .int 0]))] ++ kws cI b1 0 kK0) ++ kws cI b2 0 kK0))) (a := n2)) ⟨va_cnB 0 hts gX5_init_X2_init_n21 rfl rfl rfl (nw_X5_21 hw.2.2.2.2) (hts (.initialized RX2) (by decide +kernel)) (by decide +kernel) ⟨Nat.le_of_ble_eq_true rfl, Nat.le_of_ble_eq_true rfl⟩, rfl, (hts (.instanceMethod yX2_init) (by decide +kernel))⟩ (i_preS hw hO hA hC) rfl rfl hl.1 rfl (lv_room (Nat.le_of_ble_eq_true rfl)) dX5_init_31 ⟨Nat.le_of_ble_eq_true rfl, Nat.le_of_ble_eq_true rfl⟩) hw (fun w9 h9 H locs hw => ?_)
  obtain ⟨r, br, rfl⟩ := h9
  have hw : WH D cI cR A (w0 ++ ((((((((([(a, .inr (5, [.ref n0, .ref n1, .null, .null, .int 0]))] ++ kws cI b1 0 kK0) ++ kws cI b2 0 kK0) ++ [(n2, .inr (2, [.ref r, .int 0, .int 0])), (r, .inl (cR, 6, .inr (.inr (.inr (.inr (fR br))))))]) ++ kws cI (br 0) 0 kK0) ++ kws cI (br 1) 0 kK0) ++ kws cI (br 2) 0 kK0) ++ kws cI (br 3) 0 kK0) ++ kws cI (br 4) 0 kK0) ++ kws cI (br 5) 0 kK0)) s H locs := by simp only [List.append_assoc] at hw ⊢; exact hw
  refine i_putF (ty := .object "LaceRanks$History") hx hb hts hiX5 tyX5 tyX5_ok nmX5 hown hw 0 rfl rfl 2 (by decide) (hts (.fieldLink RX5 22 "LaceRanks" "history" "LLaceRanks$History;") (by decide +kernel)) rfl hin rfl (by decide +kernel) rfl rfl (Nat.le_of_ble_eq_true rfl) dX5_init_34 rfl (fun H locs hw => ?_)
  have hw : WH D cI cR A (w0 ++ ((((((((([(a, .inr (5, [.ref n0, .ref n1, .ref n2, .null, .int 0]))] ++ kws cI b1 0 kK0) ++ kws cI b2 0 kK0) ++ [(n2, .inr (2, [.ref r, .int 0, .int 0])), (r, .inl (cR, 6, .inr (.inr (.inr (.inr (fR br))))))]) ++ kws cI (br 0) 0 kK0) ++ kws cI (br 1) 0 kK0) ++ kws cI (br 2) 0 kK0) ++ kws cI (br 3) 0 kK0) ++ kws cI (br 4) 0 kK0) ++ kws cI (br 5) 0 kK0)) s H locs := hw
  refine lv_aload_n hx hb dX5_init_37 rfl (lv_at hl 0 rfl) ?_
  refine i_new (ci := 4) (fs := [.null, .int 0]) (C := RX4) (T := TX4) (N := 2) hx hb hts hiX4 tyX4 tyX4_ok hown (hts (.classLink RX5 26 RX4) (by decide +kernel)) (hts (.instantiable RX4 2) (by decide +kernel)) (hts (.initialized RX4) (by decide +kernel)) hw hA rfl (fun j hj => by rcases (show j = 0 ∨ j = 1 by omega) with rfl | rfl <;> rfl) (Nat.le_of_ble_eq_true rfl) (Nat.le_of_ble_eq_true rfl) dX5_init_38 (fun n3 H hw => ?_)
  refine lv_dup hx hb dX5_init_41 rfl ?_
  have hw : WH D cI cR A ((w0 ++ ((((((((([(a, .inr (5, [.ref n0, .ref n1, .ref n2, .null, .int 0]))] ++ kws cI b1 0 kK0) ++ kws cI b2 0 kK0) ++ [(n2, .inr (2, [.ref r, .int 0, .int 0])), (r, .inl (cR, 6, .inr (.inr (.inr (.inr (fR br))))))]) ++ kws cI (br 0) 0 kK0) ++ kws cI (br 1) 0 kK0) ++ kws cI (br 2) 0 kK0) ++ kws cI (br 3) 0 kK0) ++ kws cI (br 4) 0 kK0) ++ kws cI (br 5) 0 kK0)) ++ [(n3, .inr (4, [.null, .int 0]))]) s H _ := hw.assoc
  refine i_run (va_runIN (g := F0 m 42 ls [.ref n3, .ref n3, .ref a]) (As := []) (rest := [.ref n3, .ref a]) ⟨hx, hb, hml, hown, hts⟩ (c_X4_init (w0 := (w0 ++ ((((((((([(a, .inr (5, [.ref n0, .ref n1, .ref n2, .null, .int 0]))] ++ kws cI b1 0 kK0) ++ kws cI b2 0 kK0) ++ [(n2, .inr (2, [.ref r, .int 0, .int 0])), (r, .inl (cR, 6, .inr (.inr (.inr (.inr (fR br))))))]) ++ kws cI (br 0) 0 kK0) ++ kws cI (br 1) 0 kK0) ++ kws cI (br 2) 0 kK0) ++ kws cI (br 3) 0 kK0) ++ kws cI (br 4) 0 kK0) ++ kws cI (br 5) 0 kK0))) (a := n3)) ⟨va_cnB 0 hts gX5_init_X4_init_n28 rfl rfl rfl (nw_X5_28 hw.2.2.2.2) (hts (.initialized RX4) (by decide +kernel)) (by decide +kernel) ⟨Nat.le_of_ble_eq_true rfl, Nat.le_of_ble_eq_true rfl⟩, rfl, (hts (.instanceMethod yX4_init) (by decide +kernel))⟩ (i_preS hw hO hA hC) rfl rfl hl.1 rfl (lv_room (Nat.le_of_ble_eq_true rfl)) dX5_init_42 ⟨Nat.le_of_ble_eq_true rfl, Nat.le_of_ble_eq_true rfl⟩) hw (fun w9 h9 H locs hw => ?_)
  obtain ⟨u, rfl⟩ := h9
  have hw : WH D cI cR A (w0 ++ (((((((((([(a, .inr (5, [.ref n0, .ref n1, .ref n2, .null, .int 0]))] ++ kws cI b1 0 kK0) ++ kws cI b2 0 kK0) ++ [(n2, .inr (2, [.ref r, .int 0, .int 0])), (r, .inl (cR, 6, .inr (.inr (.inr (.inr (fR br))))))]) ++ kws cI (br 0) 0 kK0) ++ kws cI (br 1) 0 kK0) ++ kws cI (br 2) 0 kK0) ++ kws cI (br 3) 0 kK0) ++ kws cI (br 4) 0 kK0) ++ kws cI (br 5) 0 kK0) ++ [(n3, .inr (4, [.ref u, .int 0])), (u, .inl (cI, 60, .inl z32))])) s H locs := by simp only [List.append_assoc] at hw ⊢; exact hw
  refine i_putF (ty := .object "LaceRanks$Text") hx hb hts hiX5 tyX5 tyX5_ok nmX5 hown hw 0 rfl rfl 3 (by decide) (hts (.fieldLink RX5 29 "LaceRanks" "text" "LLaceRanks$Text;") (by decide +kernel)) rfl hin rfl (by decide +kernel) rfl rfl (Nat.le_of_ble_eq_true rfl) dX5_init_45 rfl (fun H locs hw => ?_)
  have hw : WH D cI cR A (w0 ++ (((((((((([(a, .inr (5, [.ref n0, .ref n1, .ref n2, .ref n3, .int 0]))] ++ kws cI b1 0 kK0) ++ kws cI b2 0 kK0) ++ [(n2, .inr (2, [.ref r, .int 0, .int 0])), (r, .inl (cR, 6, .inr (.inr (.inr (.inr (fR br))))))]) ++ kws cI (br 0) 0 kK0) ++ kws cI (br 1) 0 kK0) ++ kws cI (br 2) 0 kK0) ++ kws cI (br 3) 0 kK0) ++ kws cI (br 4) 0 kK0) ++ kws cI (br 5) 0 kK0) ++ [(n3, .inr (4, [.ref u, .int 0])), (u, .inl (cI, 60, .inl z32))])) s H locs := hw
  refine lv_aload_n hx hb dX5_init_48 rfl (lv_at hl 0 rfl) ?_
  refine lv_iconst (v := 0) hx hb dX5_init_49 (by decide) ?_
  refine i_put (ty := .boolean) hx hb hts hiX5 tyX5 tyX5_ok nmX5 hown hw 0 rfl rfl 4 (by decide) (hts (.fieldLink RX5 33 "LaceRanks" "hasSnapshot" "Z") (by decide +kernel)) rfl (by decide +kernel) nb_0 rfl (Nat.le_of_ble_eq_true rfl) dX5_init_50 rfl (fun H locs hw => ?_)
  have hw : WH D cI cR A (w0 ++ (((((((((([(a, .inr (5, [.ref n0, .ref n1, .ref n2, .ref n3, .int 0]))] ++ kws cI b1 0 kK0) ++ kws cI b2 0 kK0) ++ [(n2, .inr (2, [.ref r, .int 0, .int 0])), (r, .inl (cR, 6, .inr (.inr (.inr (.inr (fR br))))))]) ++ kws cI (br 0) 0 kK0) ++ kws cI (br 1) 0 kK0) ++ kws cI (br 2) 0 kK0) ++ kws cI (br 3) 0 kK0) ++ kws cI (br 4) 0 kK0) ++ kws cI (br 5) 0 kK0) ++ [(n3, .inr (4, [.ref u, .int 0])), (u, .inl (cI, 60, .inl z32))])) s H locs := hw
  have hring : vp_cell cR (6, .inr (.inr (.inr (.inr (fR br))))) = vp_cell cR (6, .inr (.inr (.inr (.inr (ringf (ad5 a b1 b2 n2 r br n3 u)))))) := fR_ring br _ (fun j hj => by rcases (show j = 0 ∨ j = 1 ∨ j = 2 ∨ j = 3 ∨ j = 4 ∨ j = 5 by omega) with rfl | rfl | rfl | rfl | rfl | rfl <;> rfl) cR
  rw [← hb1, ← hb2] at hw
  have hP2 : va_P D vwCl (w0 ++ xws cI cR (ad5 a b1 b2 n2 r br n3 u) O0 kK0) H := by
    intro k q hk
    by_cases hk30 : k = w0.length + 30
    · subst hk30
      have h1 := hw.1 (w0.length + 30) _ (wg.trans rfl)
      rw [wg, show (xws cI cR (ad5 a b1 b2 n2 r br n3 u) O0 kK0)[30]? = some (r, .inl (cR, 6, .inr (.inr (.inr (.inr (ringf (ad5 a b1 b2 n2 r br n3 u))))))) from rfl] at hk
      cases hk
      show H[r]? = some _
      rw [← hring]; exact h1
    · refine hw.1 k q ?_
      rw [← hk]
      have e : ∀ j, j ≠ 30 → ((((((((((([(a, .inr (5, [.ref (b1 0), .ref (b2 0), .ref n2, .ref n3, .int 0]))] ++ kws cI b1 0 kK0) ++ kws cI b2 0 kK0) ++ [(n2, .inr (2, [.ref r, .int 0, .int 0])), (r, .inl (cR, 6, .inr (.inr (.inr (.inr (fR br))))))]) ++ kws cI (br 0) 0 kK0) ++ kws cI (br 1) 0 kK0) ++ kws cI (br 2) 0 kK0) ++ kws cI (br 3) 0 kK0) ++ kws cI (br 4) 0 kK0) ++ kws cI (br 5) 0 kK0) ++ [(n3, .inr (4, [.ref u, .int 0])), (u, .inl (cI, 60, .inl z32))]))[j]? = (xws cI cR (ad5 a b1 b2 n2 r br n3 u) O0 kK0)[j]? := by
        intro j hj
        have e1 : (xws cI cR (ad5 a b1 b2 n2 r br n3 u) O0 kK0).set 30 (r, .inl (cR, 6, .inr (.inr (.inr (.inr (fR br)))))) = (((((((((([(a, .inr (5, [.ref (b1 0), .ref (b2 0), .ref n2, .ref n3, .int 0]))] ++ kws cI b1 0 kK0) ++ kws cI b2 0 kK0) ++ [(n2, .inr (2, [.ref r, .int 0, .int 0])), (r, .inl (cR, 6, .inr (.inr (.inr (.inr (fR br))))))]) ++ kws cI (br 0) 0 kK0) ++ kws cI (br 1) 0 kK0) ++ kws cI (br 2) 0 kK0) ++ kws cI (br 3) 0 kK0) ++ kws cI (br 4) 0 kK0) ++ kws cI (br 5) 0 kK0) ++ [(n3, .inr (4, [.ref u, .int 0])), (u, .inl (cI, 60, .inl z32))]) := rfl
        rw [← e1, List.getElem?_set_ne (Ne.symm hj)]
      by_cases hl : k < w0.length
      · rw [List.getElem?_append_left hl, List.getElem?_append_left hl]
      · have hl2 : w0.length ≤ k := Nat.not_lt.mp hl
        rw [List.getElem?_append_right hl2, List.getElem?_append_right hl2]
        exact e _ (fun h9 => hk30 (by omega))
  have hD2 : va_D A (w0 ++ xws cI cR (ad5 a b1 b2 n2 r br n3 u) O0 kK0) := vD_adr hw.2.2.1 (by rw [List.map_append, List.map_append]; rfl)
  exact i_ret (Nat.le_of_ble_eq_true rfl) (Nat.le_of_ble_eq_true rfl) hx hb hr hlocks ⟨hP2, hw.2.1, hD2, hw.2.2.2⟩ ⟨ad5 a b1 b2 n2 r br n3 u, rfl, rfl⟩ dX5_init_53
