set_option maxHeartbeats 4000000 in
set_option maxRecDepth 100000 in
theorem law_6 {p : Program} {l : Launch} {e : Env} {s : State} {m : MethodId} {below : List Frame} {meth : Method} {c : Code} {D : va_G} {cI cR cL : ClassId} {ad mad : Nat → Nat} {oa b L : Nat} {xs : Nat → Int32} {R : Nat → XO → RK → MS → Prop} {Q : State → Prop} {it : Nat} {x4 : Int32} (hC : LC p l e s m below meth c D cI cR cL ad mad oa b L xs) (hSim : Sim R) (hit : it < 512) (hin1 : vp_in (x4 + 1) L) (hin2 : vp_in (x4 + 2) L) (hin3 : vp_in (x4 + 3) L) (T : LT R p l e s m below meth c D cI cR cL ad mad oa b Q (it + 1) x4 1771) : LT R p l e s m below meth c D cI cR cL ad mad oa b Q it x4 556 := by
  intro O K g M H locs ls cells slots hR hw hl hc1 hc2
  obtain ⟨hx, hb, hml, hown, hts, htr, hO, hKL, hNC, hX, hbl⟩ := hC
  have hA : ∀ q : Nat, s.heap.size ≤ q → s.heap.size ≤ q := fun _ h => h
  have hbA : ¬ s.heap.size ≤ b := Nat.not_le.mpr hbl
  obtain ⟨v1, ev1⟩ : ∃ v, v = xs ((x4 + 1).toNatClampNeg) := ⟨_, rfl⟩
  obtain ⟨v2, ev2⟩ : ∃ v, v = xs ((x4 + 2).toNatClampNeg) := ⟨_, rfl⟩
  obtain ⟨v3, ev3⟩ : ∃ v, v = xs ((x4 + 3).toNatClampNeg) := ⟨_, rfl⟩
  obtain ⟨r, t, M1, hm, ht, hres⟩ := hSim.2.2.2.2.2.2.2.2.1 it O K M v1 hit hR
  rcases hres with ⟨k, hk, hf, rfl, hR⟩ | ⟨u, hf, rfl, rfl, hR⟩
  · refine lv_aload_n hx hb dL_law__556 rfl (lv_at hl 1 rfl) ?_
    refine lv_aload_n hx hb dL_law__557 rfl (lv_at hl 0 rfl) ?_
    refine lv_iload hx hb dL_law__558 (lv_at hl 4 rfl) ?_
    refine lv_iconst (v := 1) hx hb dL_law__560 (by decide) ?_
    refine lv_iadd hx hb dL_law__561 ?_
    refine va_sld hx hb hX hbl hbA hw.2.2.2.1 hin1 dL_law__562 ?_
    refine q_is ev1 ?_
    refine lv_aload_n hx hb dL_law__563 rfl (lv_at hl 3 rfl) ?_
    refine w_run (r := mws cI mad M) (st1 := [.int (kW 1 k)]) (vx_runSW (As := [.ref (ad 0), .int v1, .ref oa]) (rest := []) ⟨hx, hb, hml, hown, hts⟩ (cw_pay (A := AR (fun q : Nat => s.heap.size ≤ q) (mws cI mad M)) htr hf (fun k9 e9 => by cases e9; exact hk)) (vx_cwSW 3 hts gT_L_pay rfl rfl rfl (by decide +kernel) ⟨Nat.le_of_ble_eq_true rfl, Nat.le_of_ble_eq_true rfl⟩) ⟨w_blind, fun U hU hW => ⟨rfl, f_PX hw hO hA hU hW, va_K.moved hW.alike hKL, NC.moved hW.alike hNC⟩⟩ rfl rfl hl.1 rfl (lv_room (Nat.le_of_ble_eq_true rfl)) dL_law__564 ⟨by show _ ≤ 601024; omega, by show _ ≤ 7293034; omega⟩) hw rfl (fun H locs hw => ?_)
    have hw : WH D cI cR (fun q : Nat => s.heap.size ≤ q) ((xws cI cR ad O K ++ oc cL oa g) ++ mws cI mad M) s H locs := hw
    refine lv_istore (lv' := [(5, .int (kW 1 k)), (0, .ref b), (1, .ref (ad 0)), (2, .ref (mad 0)), (3, .ref oa), (4, .int x4)]) hx hb dL_law__567 hl (by decide) rfl (fun ls hl => ?_)
    refine lv_aload_n hx hb dL_law__569 rfl (lv_at hl 3 rfl) ?_
    refine lv_aload_n hx hb dL_law__570 rfl (lv_at hl 1 rfl) ?_
    refine lv_iload hx hb dL_law__571 (lv_at hl 5 rfl) ?_
    refine lv_iconst (v := 1) hx hb dL_law__573 (by decide) ?_
    refine lv_iadd hx hb dL_law__574 ?_
    refine va_sld hx hb hX hbl hbA hw.2.2.2.1 hin1 dL_law__575 ?_
    refine q_is ev1 ?_
    have hw := hw.swap
    refine w_run (r := (xws cI cR ad O K ++ oc cL oa g)) (st1 := [.int r]) (va_runV (b := mad 0) (As := [.int v1]) (rest := []) ⟨hx, hb, hml, hown, hts⟩ (c_X6_pay (cR := cR) (A := AR (fun q : Nat => s.heap.size ≤ q) (xws cI cR ad O K ++ oc cL oa g)) hm) (cwV 1 hts gT_X6_pay rfl rfl rfl (by decide +kernel) ⟨Nat.le_of_ble_eq_true rfl, Nat.le_of_ble_eq_true rfl⟩) ⟨q_blind, va_recv hw.2.1 (f_sub hw).1 (ci := 6) (q0 := 0) rfl ma_0, fun U hU hW => ⟨rfl, f_WB hw hU hW⟩⟩ rfl rfl hl.1 rfl (lv_room (Nat.le_of_ble_eq_true rfl)) dL_law__576 ⟨by show _ ≤ 601024; omega, by show _ ≤ 7293034; omega⟩) hw rfl (fun H locs hw => ?_)
    refine lv_istore (lv' := [(6, .int r), (5, .int (kW 1 k)), (0, .ref b), (1, .ref (ad 0)), (2, .ref (mad 0)), (3, .ref oa), (4, .int x4)]) hx hb dL_law__579 hl (by decide) rfl (fun ls hl => ?_)
    refine lv_aload_n hx hb dL_law__581 rfl (lv_at hl 4 rfl) ?_
    refine w_run (r := (xws cI cR ad O K ++ oc cL oa g)) (st1 := [.int (kW 1 k)]) (va_runV (b := mad 0) (As := []) (rest := []) ⟨hx, hb, hml, hown, hts⟩ (c_X6_thrown (cR := cR) (A := AR (fun q : Nat => s.heap.size ≤ q) (xws cI cR ad O K ++ oc cL oa g)) ht) (cwV 0 hts gT_X6_thrown rfl rfl rfl (by decide +kernel) ⟨Nat.le_of_ble_eq_true rfl, Nat.le_of_ble_eq_true rfl⟩) ⟨q_blind, va_recv hw.2.1 (f_sub hw).1 (ci := 6) (q0 := 0) rfl ma_0, fun U hU hW => ⟨rfl, f_WB hw hU hW⟩⟩ rfl rfl hl.1 rfl (lv_room (Nat.le_of_ble_eq_true rfl)) dL_law__582 ⟨by show _ ≤ 601024; omega, by show _ ≤ 7293034; omega⟩) hw rfl (fun H locs hw => ?_)
    have hw := hw.swap
    refine lv_iload hx hb dL_law__585 (lv_at hl 1 rfl) ?_
    refine lv_icmp_eq (tgt := 592) hx hb dL_law__587 (by decide) (fun hc => ?_) (fun hc => absurd rfl hc)
    refine lv_iload hx hb dL_law__592 (lv_at hl 1 rfl) ?_
    refine lv_if_ne (tgt := 609) hx hb dL_law__594 (by decide) (fun hc => ?_) (fun hc => absurd hc (kW_ne _ _))
    refine lv_goto (tgt := 1771) hx hb dL_law__609 (by decide) ?_
    exact T _ _ _ _ H locs ls _ _ hR hw (lv_sub hl [2, 3, 4, 5, 6] rfl) (by omega) (by omega)
  · refine lv_aload_n hx hb dL_law__556 rfl (lv_at hl 1 rfl) ?_
    refine lv_aload_n hx hb dL_law__557 rfl (lv_at hl 0 rfl) ?_
    refine lv_iload hx hb dL_law__558 (lv_at hl 4 rfl) ?_
    refine lv_iconst (v := 1) hx hb dL_law__560 (by decide) ?_
    refine lv_iadd hx hb dL_law__561 ?_
    refine va_sld hx hb hX hbl hbA hw.2.2.2.1 hin1 dL_law__562 ?_
    refine q_is ev1 ?_
    refine lv_aload_n hx hb dL_law__563 rfl (lv_at hl 3 rfl) ?_
    refine w_run (r := mws cI mad M) (st1 := [.int (0)]) (vx_runSW (As := [.ref (ad 0), .int v1, .ref oa]) (rest := []) ⟨hx, hb, hml, hown, hts⟩ (cw_pay (A := AR (fun q : Nat => s.heap.size ≤ q) (mws cI mad M)) htr hf (fun k9 e9 => nomatch e9)) (vx_cwSW 3 hts gT_L_pay rfl rfl rfl (by decide +kernel) ⟨Nat.le_of_ble_eq_true rfl, Nat.le_of_ble_eq_true rfl⟩) ⟨w_blind, fun U hU hW => ⟨rfl, f_PX hw hO hA hU hW, va_K.moved hW.alike hKL, NC.moved hW.alike hNC⟩⟩ rfl rfl hl.1 rfl (lv_room (Nat.le_of_ble_eq_true rfl)) dL_law__564 ⟨by show _ ≤ 601024; omega, by show _ ≤ 7293034; omega⟩) hw rfl (fun H locs hw => ?_)
    have hw : WH D cI cR (fun q : Nat => s.heap.size ≤ q) ((xws cI cR ad u.2.1 u.2.2 ++ oc cL oa (ocu g u.1.toInt64)) ++ mws cI mad M) s H locs := hw
    refine lv_istore (lv' := [(5, .int (0)), (0, .ref b), (1, .ref (ad 0)), (2, .ref (mad 0)), (3, .ref oa), (4, .int x4)]) hx hb dL_law__567 hl (by decide) rfl (fun ls hl => ?_)
    refine lv_aload_n hx hb dL_law__569 rfl (lv_at hl 3 rfl) ?_
    refine lv_aload_n hx hb dL_law__570 rfl (lv_at hl 1 rfl) ?_
    refine lv_iload hx hb dL_law__571 (lv_at hl 5 rfl) ?_
    refine lv_iconst (v := 1) hx hb dL_law__573 (by decide) ?_
    refine lv_iadd hx hb dL_law__574 ?_
    refine va_sld hx hb hX hbl hbA hw.2.2.2.1 hin1 dL_law__575 ?_
    refine q_is ev1 ?_
    have hw := hw.swap
    refine w_run (r := (xws cI cR ad u.2.1 u.2.2 ++ oc cL oa (ocu g u.1.toInt64))) (st1 := [.int u.1]) (va_runV (b := mad 0) (As := [.int v1]) (rest := []) ⟨hx, hb, hml, hown, hts⟩ (c_X6_pay (cR := cR) (A := AR (fun q : Nat => s.heap.size ≤ q) (xws cI cR ad u.2.1 u.2.2 ++ oc cL oa (ocu g u.1.toInt64))) hm) (cwV 1 hts gT_X6_pay rfl rfl rfl (by decide +kernel) ⟨Nat.le_of_ble_eq_true rfl, Nat.le_of_ble_eq_true rfl⟩) ⟨q_blind, va_recv hw.2.1 (f_sub hw).1 (ci := 6) (q0 := 0) rfl ma_0, fun U hU hW => ⟨rfl, f_WB hw hU hW⟩⟩ rfl rfl hl.1 rfl (lv_room (Nat.le_of_ble_eq_true rfl)) dL_law__576 ⟨by show _ ≤ 601024; omega, by show _ ≤ 7293034; omega⟩) hw rfl (fun H locs hw => ?_)
    refine lv_istore (lv' := [(6, .int u.1), (5, .int (0)), (0, .ref b), (1, .ref (ad 0)), (2, .ref (mad 0)), (3, .ref oa), (4, .int x4)]) hx hb dL_law__579 hl (by decide) rfl (fun ls hl => ?_)
    refine lv_aload_n hx hb dL_law__581 rfl (lv_at hl 4 rfl) ?_
    refine w_run (r := (xws cI cR ad u.2.1 u.2.2 ++ oc cL oa (ocu g u.1.toInt64))) (st1 := [.int (0)]) (va_runV (b := mad 0) (As := []) (rest := []) ⟨hx, hb, hml, hown, hts⟩ (c_X6_thrown (cR := cR) (A := AR (fun q : Nat => s.heap.size ≤ q) (xws cI cR ad u.2.1 u.2.2 ++ oc cL oa (ocu g u.1.toInt64))) ht) (cwV 0 hts gT_X6_thrown rfl rfl rfl (by decide +kernel) ⟨Nat.le_of_ble_eq_true rfl, Nat.le_of_ble_eq_true rfl⟩) ⟨q_blind, va_recv hw.2.1 (f_sub hw).1 (ci := 6) (q0 := 0) rfl ma_0, fun U hU hW => ⟨rfl, f_WB hw hU hW⟩⟩ rfl rfl hl.1 rfl (lv_room (Nat.le_of_ble_eq_true rfl)) dL_law__582 ⟨by show _ ≤ 601024; omega, by show _ ≤ 7293034; omega⟩) hw rfl (fun H locs hw => ?_)
    have hw := hw.swap
    refine lv_iload hx hb dL_law__585 (lv_at hl 1 rfl) ?_
    refine lv_icmp_eq (tgt := 592) hx hb dL_law__587 (by decide) (fun hc => ?_) (fun hc => absurd rfl hc)
    refine lv_iload hx hb dL_law__592 (lv_at hl 1 rfl) ?_
    refine lv_if_ne (tgt := 609) hx hb dL_law__594 (by decide) (fun hc => absurd rfl hc) (fun hc => ?_)
    refine lv_aload_n hx hb dL_law__597 rfl (lv_at hl 5 rfl) ?_
    refine lv_iconst (v := 0) hx hb dL_law__598 (by decide) ?_
    refine va_lald hx hb hKL hw.1 ((xws cI cR ad u.2.1 u.2.2).length + 0) 0 (by rw [List.append_assoc]; exact wg.trans rfl) rfl (inb_in (by decide)) dL_law__599 ?_
    rw [oc_up]
    refine lv_iload hx hb dL_law__600 (lv_at hl 0 rfl) ?_
    refine lv_i2l hx hb dL_law__602 rfl ?_
    refine W.lcmp hx hb dL_law__603 ?_
    refine q_is (lg_self _).symm ?_
    refine lv_if_eq (tgt := 609) hx hb dL_law__604 (by decide) (fun hc => ?_) (fun hc => absurd rfl hc)
    refine lv_goto (tgt := 1771) hx hb dL_law__609 (by decide) ?_
    exact T _ _ _ _ H locs ls _ _ hR hw (lv_sub hl [2, 3, 4, 5, 6] rfl) (by omega) (by omega)
set_option maxHeartbeats 4000000 in
set_option maxRecDepth 100000 in
theorem law_7 {p : Program} {l : Launch} {e : Env} {s : State} {m : MethodId} {below : List Frame} {meth : Method} {c : Code} {D : va_G} {cI cR cL : ClassId} {ad mad : Nat → Nat} {oa b L : Nat} {xs : Nat → Int32} {R : Nat → XO → RK → MS → Prop} {Q : State → Prop} {it : Nat} {x4 : Int32} (hC : LC p l e s m below meth c D cI cR cL ad mad oa b L xs) (hSim : Sim R) (hit : it < 512) (hin1 : vp_in (x4 + 1) L) (hin2 : vp_in (x4 + 2) L) (hin3 : vp_in (x4 + 3) L) (T : LT R p l e s m below meth c D cI cR cL ad mad oa b Q (it + 1) x4 1771) : LT R p l e s m below meth c D cI cR cL ad mad oa b Q it x4 612 := by
  intro O K g M H locs ls cells slots hR hw hl hc1 hc2
  obtain ⟨hx, hb, hml, hown, hts, htr, hO, hKL, hNC, hX, hbl⟩ := hC
  have hA : ∀ q : Nat, s.heap.size ≤ q → s.heap.size ≤ q := fun _ h => h
  have hbA : ¬ s.heap.size ≤ b := Nat.not_le.mpr hbl
  obtain ⟨v1, ev1⟩ : ∃ v, v = xs ((x4 + 1).toNatClampNeg) := ⟨_, rfl⟩
  obtain ⟨v2, ev2⟩ : ∃ v, v = xs ((x4 + 2).toNatClampNeg) := ⟨_, rfl⟩
  obtain ⟨v3, ev3⟩ : ∃ v, v = xs ((x4 + 3).toNatClampNeg) := ⟨_, rfl⟩
  obtain ⟨r, t, M1, hm, ht, hres⟩ := hSim.2.2.2.2.2.2.2.2.2.1 it O K M v1 v2 hit hR
  rcases hres with ⟨k, hk, hf, rfl, hR⟩ | ⟨u, hf, rfl, rfl, hR⟩
  · refine lv_aload_n hx hb dL_law__612 rfl (lv_at hl 1 rfl) ?_
    refine lv_aload_n hx hb dL_law__613 rfl (lv_at hl 0 rfl) ?_
    refine lv_iload hx hb dL_law__614 (lv_at hl 4 rfl) ?_
    refine lv_iconst (v := 1) hx hb dL_law__616 (by decide) ?_
    refine lv_iadd hx hb dL_law__617 ?_
    refine va_sld hx hb hX hbl hbA hw.2.2.2.1 hin1 dL_law__618 ?_
    refine q_is ev1 ?_
    refine lv_aload_n hx hb dL_law__619 rfl (lv_at hl 0 rfl) ?_
    refine lv_iload hx hb dL_law__620 (lv_at hl 4 rfl) ?_
    refine lv_iconst (v := 2) hx hb dL_law__622 (by decide) ?_
    refine lv_iadd hx hb dL_law__623 ?_
    refine va_sld hx hb hX hbl hbA hw.2.2.2.1 hin2 dL_law__624 ?_
    refine q_is ev2 ?_
    refine lv_aload_n hx hb dL_law__625 rfl (lv_at hl 3 rfl) ?_
    refine w_run (r := mws cI mad M) (st1 := [.int (kW 1 k)]) (vx_runSW (As := [.ref (ad 0), .int v1, .int v2, .ref oa]) (rest := []) ⟨hx, hb, hml, hown, hts⟩ (cw_queue (A := AR (fun q : Nat => s.heap.size ≤ q) (mws cI mad M)) htr hf (fun k9 e9 => by cases e9; exact hk)) (vx_cwSW 4 hts gT_L_queue rfl rfl rfl (by decide +kernel) ⟨Nat.le_of_ble_eq_true rfl, Nat.le_of_ble_eq_true rfl⟩) ⟨w_blind, fun U hU hW => ⟨rfl, f_PX hw hO hA hU hW, va_K.moved hW.alike hKL, NC.moved hW.alike hNC⟩⟩ rfl rfl hl.1 rfl (lv_room (Nat.le_of_ble_eq_true rfl)) dL_law__626 ⟨by show _ ≤ 601024; omega, by show _ ≤ 7293034; omega⟩) hw rfl (fun H locs hw => ?_)
    have hw : WH D cI cR (fun q : Nat => s.heap.size ≤ q) ((xws cI cR ad O K ++ oc cL oa g) ++ mws cI mad M) s H locs := hw
    refine lv_istore (lv' := [(5, .int (kW 1 k)), (0, .ref b), (1, .ref (ad 0)), (2, .ref (mad 0)), (3, .ref oa), (4, .int x4)]) hx hb dL_law__629 hl (by decide) rfl (fun ls hl => ?_)
    refine lv_aload_n hx hb dL_law__631 rfl (lv_at hl 3 rfl) ?_
    refine lv_aload_n hx hb dL_law__632 rfl (lv_at hl 1 rfl) ?_
    refine lv_iload hx hb dL_law__633 (lv_at hl 5 rfl) ?_
    refine lv_iconst (v := 1) hx hb dL_law__635 (by decide) ?_
    refine lv_iadd hx hb dL_law__636 ?_
    refine va_sld hx hb hX hbl hbA hw.2.2.2.1 hin1 dL_law__637 ?_
    refine q_is ev1 ?_
    refine lv_aload_n hx hb dL_law__638 rfl (lv_at hl 1 rfl) ?_
    refine lv_iload hx hb dL_law__639 (lv_at hl 5 rfl) ?_
    refine lv_iconst (v := 2) hx hb dL_law__641 (by decide) ?_
    refine lv_iadd hx hb dL_law__642 ?_
    refine va_sld hx hb hX hbl hbA hw.2.2.2.1 hin2 dL_law__643 ?_
    refine q_is ev2 ?_
    have hw := hw.swap
    refine w_run (r := (xws cI cR ad O K ++ oc cL oa g)) (st1 := [.int r]) (va_runV (b := mad 0) (As := [.int v1, .int v2]) (rest := []) ⟨hx, hb, hml, hown, hts⟩ (c_X6_queue (cR := cR) (A := AR (fun q : Nat => s.heap.size ≤ q) (xws cI cR ad O K ++ oc cL oa g)) hm) (cwV 2 hts gT_X6_queue rfl rfl rfl (by decide +kernel) ⟨Nat.le_of_ble_eq_true rfl, Nat.le_of_ble_eq_true rfl⟩) ⟨q_blind, va_recv hw.2.1 (f_sub hw).1 (ci := 6) (q0 := 0) rfl ma_0, fun U hU hW => ⟨rfl, f_WB hw hU hW⟩⟩ rfl rfl hl.1 rfl (lv_room (Nat.le_of_ble_eq_true rfl)) dL_law__644 ⟨by show _ ≤ 601024; omega, by show _ ≤ 7293034; omega⟩) hw rfl (fun H locs hw => ?_)
    refine lv_istore (lv' := [(6, .int r), (5, .int (kW 1 k)), (0, .ref b), (1, .ref (ad 0)), (2, .ref (mad 0)), (3, .ref oa), (4, .int x4)]) hx hb dL_law__647 hl (by decide) rfl (fun ls hl => ?_)
    refine lv_aload_n hx hb dL_law__649 rfl (lv_at hl 4 rfl) ?_
    refine w_run (r := (xws cI cR ad O K ++ oc cL oa g)) (st1 := [.int (kW 1 k)]) (va_runV (b := mad 0) (As := []) (rest := []) ⟨hx, hb, hml, hown, hts⟩ (c_X6_thrown (cR := cR) (A := AR (fun q : Nat => s.heap.size ≤ q) (xws cI cR ad O K ++ oc cL oa g)) ht) (cwV 0 hts gT_X6_thrown rfl rfl rfl (by decide +kernel) ⟨Nat.le_of_ble_eq_true rfl, Nat.le_of_ble_eq_true rfl⟩) ⟨q_blind, va_recv hw.2.1 (f_sub hw).1 (ci := 6) (q0 := 0) rfl ma_0, fun U hU hW => ⟨rfl, f_WB hw hU hW⟩⟩ rfl rfl hl.1 rfl (lv_room (Nat.le_of_ble_eq_true rfl)) dL_law__650 ⟨by show _ ≤ 601024; omega, by show _ ≤ 7293034; omega⟩) hw rfl (fun H locs hw => ?_)
    have hw := hw.swap
    refine lv_iload hx hb dL_law__653 (lv_at hl 1 rfl) ?_
    refine lv_icmp_eq (tgt := 660) hx hb dL_law__655 (by decide) (fun hc => ?_) (fun hc => absurd rfl hc)
    refine lv_iload hx hb dL_law__660 (lv_at hl 1 rfl) ?_
    refine lv_if_ne (tgt := 677) hx hb dL_law__662 (by decide) (fun hc => ?_) (fun hc => absurd hc (kW_ne _ _))
    refine lv_goto (tgt := 1771) hx hb dL_law__677 (by decide) ?_
    exact T _ _ _ _ H locs ls _ _ hR hw (lv_sub hl [2, 3, 4, 5, 6] rfl) (by omega) (by omega)
  · refine lv_aload_n hx hb dL_law__612 rfl (lv_at hl 1 rfl) ?_
    refine lv_aload_n hx hb dL_law__613 rfl (lv_at hl 0 rfl) ?_
    refine lv_iload hx hb dL_law__614 (lv_at hl 4 rfl) ?_
    refine lv_iconst (v := 1) hx hb dL_law__616 (by decide) ?_
    refine lv_iadd hx hb dL_law__617 ?_
    refine va_sld hx hb hX hbl hbA hw.2.2.2.1 hin1 dL_law__618 ?_
    refine q_is ev1 ?_
    refine lv_aload_n hx hb dL_law__619 rfl (lv_at hl 0 rfl) ?_
    refine lv_iload hx hb dL_law__620 (lv_at hl 4 rfl) ?_
    refine lv_iconst (v := 2) hx hb dL_law__622 (by decide) ?_
    refine lv_iadd hx hb dL_law__623 ?_
    refine va_sld hx hb hX hbl hbA hw.2.2.2.1 hin2 dL_law__624 ?_
    refine q_is ev2 ?_
    refine lv_aload_n hx hb dL_law__625 rfl (lv_at hl 3 rfl) ?_
    refine w_run (r := mws cI mad M) (st1 := [.int (0)]) (vx_runSW (As := [.ref (ad 0), .int v1, .int v2, .ref oa]) (rest := []) ⟨hx, hb, hml, hown, hts⟩ (cw_queue (A := AR (fun q : Nat => s.heap.size ≤ q) (mws cI mad M)) htr hf (fun k9 e9 => nomatch e9)) (vx_cwSW 4 hts gT_L_queue rfl rfl rfl (by decide +kernel) ⟨Nat.le_of_ble_eq_true rfl, Nat.le_of_ble_eq_true rfl⟩) ⟨w_blind, fun U hU hW => ⟨rfl, f_PX hw hO hA hU hW, va_K.moved hW.alike hKL, NC.moved hW.alike hNC⟩⟩ rfl rfl hl.1 rfl (lv_room (Nat.le_of_ble_eq_true rfl)) dL_law__626 ⟨by show _ ≤ 601024; omega, by show _ ≤ 7293034; omega⟩) hw rfl (fun H locs hw => ?_)
    have hw : WH D cI cR (fun q : Nat => s.heap.size ≤ q) ((xws cI cR ad u.2.1 u.2.2 ++ oc cL oa (ocu g u.1.toInt64)) ++ mws cI mad M) s H locs := hw
    refine lv_istore (lv' := [(5, .int (0)), (0, .ref b), (1, .ref (ad 0)), (2, .ref (mad 0)), (3, .ref oa), (4, .int x4)]) hx hb dL_law__629 hl (by decide) rfl (fun ls hl => ?_)
    refine lv_aload_n hx hb dL_law__631 rfl (lv_at hl 3 rfl) ?_
    refine lv_aload_n hx hb dL_law__632 rfl (lv_at hl 1 rfl) ?_
    refine lv_iload hx hb dL_law__633 (lv_at hl 5 rfl) ?_
    refine lv_iconst (v := 1) hx hb dL_law__635 (by decide) ?_
    refine lv_iadd hx hb dL_law__636 ?_
    refine va_sld hx hb hX hbl hbA hw.2.2.2.1 hin1 dL_law__637 ?_
    refine q_is ev1 ?_
    refine lv_aload_n hx hb dL_law__638 rfl (lv_at hl 1 rfl) ?_
    refine lv_iload hx hb dL_law__639 (lv_at hl 5 rfl) ?_
    refine lv_iconst (v := 2) hx hb dL_law__641 (by decide) ?_
    refine lv_iadd hx hb dL_law__642 ?_
    refine va_sld hx hb hX hbl hbA hw.2.2.2.1 hin2 dL_law__643 ?_
    refine q_is ev2 ?_
    have hw := hw.swap
    refine w_run (r := (xws cI cR ad u.2.1 u.2.2 ++ oc cL oa (ocu g u.1.toInt64))) (st1 := [.int u.1]) (va_runV (b := mad 0) (As := [.int v1, .int v2]) (rest := []) ⟨hx, hb, hml, hown, hts⟩ (c_X6_queue (cR := cR) (A := AR (fun q : Nat => s.heap.size ≤ q) (xws cI cR ad u.2.1 u.2.2 ++ oc cL oa (ocu g u.1.toInt64))) hm) (cwV 2 hts gT_X6_queue rfl rfl rfl (by decide +kernel) ⟨Nat.le_of_ble_eq_true rfl, Nat.le_of_ble_eq_true rfl⟩) ⟨q_blind, va_recv hw.2.1 (f_sub hw).1 (ci := 6) (q0 := 0) rfl ma_0, fun U hU hW => ⟨rfl, f_WB hw hU hW⟩⟩ rfl rfl hl.1 rfl (lv_room (Nat.le_of_ble_eq_true rfl)) dL_law__644 ⟨by show _ ≤ 601024; omega, by show _ ≤ 7293034; omega⟩) hw rfl (fun H locs hw => ?_)
    refine lv_istore (lv' := [(6, .int u.1), (5, .int (0)), (0, .ref b), (1, .ref (ad 0)), (2, .ref (mad 0)), (3, .ref oa), (4, .int x4)]) hx hb dL_law__647 hl (by decide) rfl (fun ls hl => ?_)
    refine lv_aload_n hx hb dL_law__649 rfl (lv_at hl 4 rfl) ?_
    refine w_run (r := (xws cI cR ad u.2.1 u.2.2 ++ oc cL oa (ocu g u.1.toInt64))) (st1 := [.int (0)]) (va_runV (b := mad 0) (As := []) (rest := []) ⟨hx, hb, hml, hown, hts⟩ (c_X6_thrown (cR := cR) (A := AR (fun q : Nat => s.heap.size ≤ q) (xws cI cR ad u.2.1 u.2.2 ++ oc cL oa (ocu g u.1.toInt64))) ht) (cwV 0 hts gT_X6_thrown rfl rfl rfl (by decide +kernel) ⟨Nat.le_of_ble_eq_true rfl, Nat.le_of_ble_eq_true rfl⟩) ⟨q_blind, va_recv hw.2.1 (f_sub hw).1 (ci := 6) (q0 := 0) rfl ma_0, fun U hU hW => ⟨rfl, f_WB hw hU hW⟩⟩ rfl rfl hl.1 rfl (lv_room (Nat.le_of_ble_eq_true rfl)) dL_law__650 ⟨by show _ ≤ 601024; omega, by show _ ≤ 7293034; omega⟩) hw rfl (fun H locs hw => ?_)
    have hw := hw.swap
    refine lv_iload hx hb dL_law__653 (lv_at hl 1 rfl) ?_
    refine lv_icmp_eq (tgt := 660) hx hb dL_law__655 (by decide) (fun hc => ?_) (fun hc => absurd rfl hc)
    refine lv_iload hx hb dL_law__660 (lv_at hl 1 rfl) ?_
    refine lv_if_ne (tgt := 677) hx hb dL_law__662 (by decide) (fun hc => absurd rfl hc) (fun hc => ?_)
    refine lv_aload_n hx hb dL_law__665 rfl (lv_at hl 5 rfl) ?_
    refine lv_iconst (v := 0) hx hb dL_law__666 (by decide) ?_
    refine va_lald hx hb hKL hw.1 ((xws cI cR ad u.2.1 u.2.2).length + 0) 0 (by rw [List.append_assoc]; exact wg.trans rfl) rfl (inb_in (by decide)) dL_law__667 ?_
    rw [oc_up]
    refine lv_iload hx hb dL_law__668 (lv_at hl 0 rfl) ?_
    refine lv_i2l hx hb dL_law__670 rfl ?_
    refine W.lcmp hx hb dL_law__671 ?_
    refine q_is (lg_self _).symm ?_
    refine lv_if_eq (tgt := 677) hx hb dL_law__672 (by decide) (fun hc => ?_) (fun hc => absurd rfl hc)
    refine lv_goto (tgt := 1771) hx hb dL_law__677 (by decide) ?_
    exact T _ _ _ _ H locs ls _ _ hR hw (lv_sub hl [2, 3, 4, 5, 6] rfl) (by omega) (by omega)
set_option maxHeartbeats 4000000 in
set_option maxRecDepth 100000 in
theorem law_8 {p : Program} {l : Launch} {e : Env} {s : State} {m : MethodId} {below : List Frame} {meth : Method} {c : Code} {D : va_G} {cI cR cL : ClassId} {ad mad : Nat → Nat} {oa b L : Nat} {xs : Nat → Int32} {R : Nat → XO → RK → MS → Prop} {Q : State → Prop} {it : Nat} {x4 : Int32} (hC : LC p l e s m below meth c D cI cR cL ad mad oa b L xs) (hSim : Sim R) (hit : it < 512) (hin1 : vp_in (x4 + 1) L) (hin2 : vp_in (x4 + 2) L) (hin3 : vp_in (x4 + 3) L) (T : LT R p l e s m below meth c D cI cR cL ad mad oa b Q (it + 1) x4 1771) : LT R p l e s m below meth c D cI cR cL ad mad oa b Q it x4 680 := by
  intro O K g M H locs ls cells slots hR hw hl hc1 hc2
  obtain ⟨hx, hb, hml, hown, hts, htr, hO, hKL, hNC, hX, hbl⟩ := hC
  have hA : ∀ q : Nat, s.heap.size ≤ q → s.heap.size ≤ q := fun _ h => h
  have hbA : ¬ s.heap.size ≤ b := Nat.not_le.mpr hbl
  obtain ⟨v1, ev1⟩ : ∃ v, v = xs ((x4 + 1).toNatClampNeg) := ⟨_, rfl⟩
  obtain ⟨v2, ev2⟩ : ∃ v, v = xs ((x4 + 2).toNatClampNeg) := ⟨_, rfl⟩
  obtain ⟨v3, ev3⟩ : ∃ v, v = xs ((x4 + 3).toNatClampNeg) := ⟨_, rfl⟩
  obtain ⟨r, t, M1, hm, ht, hres⟩ := hSim.2.2.2.2.2.2.2.2.2.2.1 it O K M v1 hit hR
  rcases hres with ⟨k, hk, hf, rfl, hR⟩ | ⟨u, hf, rfl, rfl, hR⟩
  · refine lv_aload_n hx hb dL_law__680 rfl (lv_at hl 1 rfl) ?_
    refine lv_aload_n hx hb dL_law__681 rfl (lv_at hl 0 rfl) ?_
    refine lv_iload hx hb dL_law__682 (lv_at hl 4 rfl) ?_
    refine lv_iconst (v := 1) hx hb dL_law__684 (by decide) ?_
    refine lv_iadd hx hb dL_law__685 ?_
    refine va_sld hx hb hX hbl hbA hw.2.2.2.1 hin1 dL_law__686 ?_
    refine q_is ev1 ?_
    refine lv_aload_n hx hb dL_law__687 rfl (lv_at hl 3 rfl) ?_
    refine w_run (r := mws cI mad M) (st1 := [.int (kW 1 k)]) (vx_runSW (As := [.ref (ad 0), .int v1, .ref oa]) (rest := []) ⟨hx, hb, hml, hown, hts⟩ (cw_open (A := AR (fun q : Nat => s.heap.size ≤ q) (mws cI mad M)) htr hf (fun k9 e9 => by cases e9; exact hk)) (vx_cwSW 3 hts gT_L_open rfl rfl rfl (by decide +kernel) ⟨Nat.le_of_ble_eq_true rfl, Nat.le_of_ble_eq_true rfl⟩) ⟨w_blind, fun U hU hW => ⟨rfl, f_PX hw hO hA hU hW, va_K.moved hW.alike hKL, NC.moved hW.alike hNC⟩⟩ rfl rfl hl.1 rfl (lv_room (Nat.le_of_ble_eq_true rfl)) dL_law__688 ⟨by show _ ≤ 601024; omega, by show _ ≤ 7293034; omega⟩) hw rfl (fun H locs hw => ?_)
    have hw : WH D cI cR (fun q : Nat => s.heap.size ≤ q) ((xws cI cR ad O K ++ oc cL oa g) ++ mws cI mad M) s H locs := hw
    refine lv_istore (lv' := [(5, .int (kW 1 k)), (0, .ref b), (1, .ref (ad 0)), (2, .ref (mad 0)), (3, .ref oa), (4, .int x4)]) hx hb dL_law__691 hl (by decide) rfl (fun ls hl => ?_)
    refine lv_aload_n hx hb dL_law__693 rfl (lv_at hl 3 rfl) ?_
    refine lv_aload_n hx hb dL_law__694 rfl (lv_at hl 1 rfl) ?_
    refine lv_iload hx hb dL_law__695 (lv_at hl 5 rfl) ?_
    refine lv_iconst (v := 1) hx hb dL_law__697 (by decide) ?_
    refine lv_iadd hx hb dL_law__698 ?_
    refine va_sld hx hb hX hbl hbA hw.2.2.2.1 hin1 dL_law__699 ?_
    refine q_is ev1 ?_
    have hw := hw.swap
    refine w_run (r := (xws cI cR ad O K ++ oc cL oa g)) (st1 := [.int r]) (va_runV (b := mad 0) (As := [.int v1]) (rest := []) ⟨hx, hb, hml, hown, hts⟩ (c_X6_open (cR := cR) (A := AR (fun q : Nat => s.heap.size ≤ q) (xws cI cR ad O K ++ oc cL oa g)) hm) (cwV 1 hts gT_X6_open rfl rfl rfl (by decide +kernel) ⟨Nat.le_of_ble_eq_true rfl, Nat.le_of_ble_eq_true rfl⟩) ⟨q_blind, va_recv hw.2.1 (f_sub hw).1 (ci := 6) (q0 := 0) rfl ma_0, fun U hU hW => ⟨rfl, f_WB hw hU hW⟩⟩ rfl rfl hl.1 rfl (lv_room (Nat.le_of_ble_eq_true rfl)) dL_law__700 ⟨by show _ ≤ 601024; omega, by show _ ≤ 7293034; omega⟩) hw rfl (fun H locs hw => ?_)
    refine lv_istore (lv' := [(6, .int r), (5, .int (kW 1 k)), (0, .ref b), (1, .ref (ad 0)), (2, .ref (mad 0)), (3, .ref oa), (4, .int x4)]) hx hb dL_law__703 hl (by decide) rfl (fun ls hl => ?_)
    refine lv_aload_n hx hb dL_law__705 rfl (lv_at hl 4 rfl) ?_
    refine w_run (r := (xws cI cR ad O K ++ oc cL oa g)) (st1 := [.int (kW 1 k)]) (va_runV (b := mad 0) (As := []) (rest := []) ⟨hx, hb, hml, hown, hts⟩ (c_X6_thrown (cR := cR) (A := AR (fun q : Nat => s.heap.size ≤ q) (xws cI cR ad O K ++ oc cL oa g)) ht) (cwV 0 hts gT_X6_thrown rfl rfl rfl (by decide +kernel) ⟨Nat.le_of_ble_eq_true rfl, Nat.le_of_ble_eq_true rfl⟩) ⟨q_blind, va_recv hw.2.1 (f_sub hw).1 (ci := 6) (q0 := 0) rfl ma_0, fun U hU hW => ⟨rfl, f_WB hw hU hW⟩⟩ rfl rfl hl.1 rfl (lv_room (Nat.le_of_ble_eq_true rfl)) dL_law__706 ⟨by show _ ≤ 601024; omega, by show _ ≤ 7293034; omega⟩) hw rfl (fun H locs hw => ?_)
    have hw := hw.swap
    refine lv_iload hx hb dL_law__709 (lv_at hl 1 rfl) ?_
    refine lv_icmp_eq (tgt := 716) hx hb dL_law__711 (by decide) (fun hc => ?_) (fun hc => absurd rfl hc)
    refine lv_iload hx hb dL_law__716 (lv_at hl 1 rfl) ?_
    refine lv_if_ne (tgt := 733) hx hb dL_law__718 (by decide) (fun hc => ?_) (fun hc => absurd hc (kW_ne _ _))
    refine lv_goto (tgt := 1771) hx hb dL_law__733 (by decide) ?_
    exact T _ _ _ _ H locs ls _ _ hR hw (lv_sub hl [2, 3, 4, 5, 6] rfl) (by omega) (by omega)
  · refine lv_aload_n hx hb dL_law__680 rfl (lv_at hl 1 rfl) ?_
    refine lv_aload_n hx hb dL_law__681 rfl (lv_at hl 0 rfl) ?_
    refine lv_iload hx hb dL_law__682 (lv_at hl 4 rfl) ?_
    refine lv_iconst (v := 1) hx hb dL_law__684 (by decide) ?_
    refine lv_iadd hx hb dL_law__685 ?_
    refine va_sld hx hb hX hbl hbA hw.2.2.2.1 hin1 dL_law__686 ?_
    refine q_is ev1 ?_
    refine lv_aload_n hx hb dL_law__687 rfl (lv_at hl 3 rfl) ?_
    refine w_run (r := mws cI mad M) (st1 := [.int (0)]) (vx_runSW (As := [.ref (ad 0), .int v1, .ref oa]) (rest := []) ⟨hx, hb, hml, hown, hts⟩ (cw_open (A := AR (fun q : Nat => s.heap.size ≤ q) (mws cI mad M)) htr hf (fun k9 e9 => nomatch e9)) (vx_cwSW 3 hts gT_L_open rfl rfl rfl (by decide +kernel) ⟨Nat.le_of_ble_eq_true rfl, Nat.le_of_ble_eq_true rfl⟩) ⟨w_blind, fun U hU hW => ⟨rfl, f_PX hw hO hA hU hW, va_K.moved hW.alike hKL, NC.moved hW.alike hNC⟩⟩ rfl rfl hl.1 rfl (lv_room (Nat.le_of_ble_eq_true rfl)) dL_law__688 ⟨by show _ ≤ 601024; omega, by show _ ≤ 7293034; omega⟩) hw rfl (fun H locs hw => ?_)
    have hw : WH D cI cR (fun q : Nat => s.heap.size ≤ q) ((xws cI cR ad u.2.1 u.2.2 ++ oc cL oa (ocu g u.1.toInt64)) ++ mws cI mad M) s H locs := hw
    refine lv_istore (lv' := [(5, .int (0)), (0, .ref b), (1, .ref (ad 0)), (2, .ref (mad 0)), (3, .ref oa), (4, .int x4)]) hx hb dL_law__691 hl (by decide) rfl (fun ls hl => ?_)
    refine lv_aload_n hx hb dL_law__693 rfl (lv_at hl 3 rfl) ?_
    refine lv_aload_n hx hb dL_law__694 rfl (lv_at hl 1 rfl) ?_
    refine lv_iload hx hb dL_law__695 (lv_at hl 5 rfl) ?_
    refine lv_iconst (v := 1) hx hb dL_law__697 (by decide) ?_
    refine lv_iadd hx hb dL_law__698 ?_
    refine va_sld hx hb hX hbl hbA hw.2.2.2.1 hin1 dL_law__699 ?_
    refine q_is ev1 ?_
    have hw := hw.swap
    refine w_run (r := (xws cI cR ad u.2.1 u.2.2 ++ oc cL oa (ocu g u.1.toInt64))) (st1 := [.int u.1]) (va_runV (b := mad 0) (As := [.int v1]) (rest := []) ⟨hx, hb, hml, hown, hts⟩ (c_X6_open (cR := cR) (A := AR (fun q : Nat => s.heap.size ≤ q) (xws cI cR ad u.2.1 u.2.2 ++ oc cL oa (ocu g u.1.toInt64))) hm) (cwV 1 hts gT_X6_open rfl rfl rfl (by decide +kernel) ⟨Nat.le_of_ble_eq_true rfl, Nat.le_of_ble_eq_true rfl⟩) ⟨q_blind, va_recv hw.2.1 (f_sub hw).1 (ci := 6) (q0 := 0) rfl ma_0, fun U hU hW => ⟨rfl, f_WB hw hU hW⟩⟩ rfl rfl hl.1 rfl (lv_room (Nat.le_of_ble_eq_true rfl)) dL_law__700 ⟨by show _ ≤ 601024; omega, by show _ ≤ 7293034; omega⟩) hw rfl (fun H locs hw => ?_)
    refine lv_istore (lv' := [(6, .int u.1), (5, .int (0)), (0, .ref b), (1, .ref (ad 0)), (2, .ref (mad 0)), (3, .ref oa), (4, .int x4)]) hx hb dL_law__703 hl (by decide) rfl (fun ls hl => ?_)
    refine lv_aload_n hx hb dL_law__705 rfl (lv_at hl 4 rfl) ?_
    refine w_run (r := (xws cI cR ad u.2.1 u.2.2 ++ oc cL oa (ocu g u.1.toInt64))) (st1 := [.int (0)]) (va_runV (b := mad 0) (As := []) (rest := []) ⟨hx, hb, hml, hown, hts⟩ (c_X6_thrown (cR := cR) (A := AR (fun q : Nat => s.heap.size ≤ q) (xws cI cR ad u.2.1 u.2.2 ++ oc cL oa (ocu g u.1.toInt64))) ht) (cwV 0 hts gT_X6_thrown rfl rfl rfl (by decide +kernel) ⟨Nat.le_of_ble_eq_true rfl, Nat.le_of_ble_eq_true rfl⟩) ⟨q_blind, va_recv hw.2.1 (f_sub hw).1 (ci := 6) (q0 := 0) rfl ma_0, fun U hU hW => ⟨rfl, f_WB hw hU hW⟩⟩ rfl rfl hl.1 rfl (lv_room (Nat.le_of_ble_eq_true rfl)) dL_law__706 ⟨by show _ ≤ 601024; omega, by show _ ≤ 7293034; omega⟩) hw rfl (fun H locs hw => ?_)
    have hw := hw.swap
    refine lv_iload hx hb dL_law__709 (lv_at hl 1 rfl) ?_
    refine lv_icmp_eq (tgt := 716) hx hb dL_law__711 (by decide) (fun hc => ?_) (fun hc => absurd rfl hc)
    refine lv_iload hx hb dL_law__716 (lv_at hl 1 rfl) ?_
    refine lv_if_ne (tgt := 733) hx hb dL_law__718 (by decide) (fun hc => absurd rfl hc) (fun hc => ?_)
    refine lv_aload_n hx hb dL_law__721 rfl (lv_at hl 5 rfl) ?_
    refine lv_iconst (v := 0) hx hb dL_law__722 (by decide) ?_
    refine va_lald hx hb hKL hw.1 ((xws cI cR ad u.2.1 u.2.2).length + 0) 0 (by rw [List.append_assoc]; exact wg.trans rfl) rfl (inb_in (by decide)) dL_law__723 ?_
    rw [oc_up]
    refine lv_iload hx hb dL_law__724 (lv_at hl 0 rfl) ?_
    refine lv_i2l hx hb dL_law__726 rfl ?_
    refine W.lcmp hx hb dL_law__727 ?_
    refine q_is (lg_self _).symm ?_
    refine lv_if_eq (tgt := 733) hx hb dL_law__728 (by decide) (fun hc => ?_) (fun hc => absurd rfl hc)
    refine lv_goto (tgt := 1771) hx hb dL_law__733 (by decide) ?_
    exact T _ _ _ _ H locs ls _ _ hR hw (lv_sub hl [2, 3, 4, 5, 6] rfl) (by omega) (by omega)
