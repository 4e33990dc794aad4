set_option maxHeartbeats 4000000 in
set_option maxRecDepth 100000 in
theorem law_24 {p : Program} {l : Launch} {e : Env} {s : State} {m : MethodId} {below : List Frame} {meth : Method} {c : Code} {D : va_G} {cI cR cL : ClassId} {ad mad : Nat → Nat} {oa b L : Nat} {xs : Nat → Int32} {R : Nat → XO → RK → MS → Prop} {Q : State → Prop} {it : Nat} {x4 : Int32} (hC : LC p l e s m below meth c D cI cR cL ad mad oa b L xs) (hSim : Sim R) (hit : it < 512) (hin1 : vp_in (x4 + 1) L) (hin2 : vp_in (x4 + 2) L) (hin3 : vp_in (x4 + 3) L) (T : LT R p l e s m below meth c D cI cR cL ad mad oa b Q (it + 1) x4 1771) : LT R p l e s m below meth c D cI cR cL ad mad oa b Q it x4 1428 := by
  intro O K g M H locs ls cells slots hR hw hl hc1 hc2
  obtain ⟨hx, hb, hml, hown, hts, htr, hO, hKL, hNC, hX, hbl⟩ := hC
  have hA : ∀ q : Nat, s.heap.size ≤ q → s.heap.size ≤ q := fun _ h => h
  have hbA : ¬ s.heap.size ≤ b := Nat.not_le.mpr hbl
  obtain ⟨v1, ev1⟩ : ∃ v, v = xs ((x4 + 1).toNatClampNeg) := ⟨_, rfl⟩
  obtain ⟨v2, ev2⟩ : ∃ v, v = xs ((x4 + 2).toNatClampNeg) := ⟨_, rfl⟩
  obtain ⟨v3, ev3⟩ : ∃ v, v = xs ((x4 + 3).toNatClampNeg) := ⟨_, rfl⟩
  by_cases hv2 : v2 = 0
  · obtain ⟨r, t, M1, hm, ht, hres⟩ := hSim.2.2.2.2.2.2.2.2.2.2.2.2.2.2.2.2.2.2.2.2.2.2.2.2.2.2.1 it O K M v1 0 hit hR (Or.inl rfl)
    rcases hres with ⟨k, hk, hf, rfl, hR⟩ | ⟨u, hf, rfl, rfl, hR⟩
    · refine lv_aload_n hx hb dL_law__1428 rfl (lv_at hl 1 rfl) ?_
      refine lv_aload_n hx hb dL_law__1429 rfl (lv_at hl 0 rfl) ?_
      refine lv_iload hx hb dL_law__1430 (lv_at hl 4 rfl) ?_
      refine lv_iconst (v := 1) hx hb dL_law__1432 (by decide) ?_
      refine lv_iadd hx hb dL_law__1433 ?_
      refine va_sld hx hb hX hbl hbA hw.2.2.2.1 hin1 dL_law__1434 ?_
      refine q_is ev1 ?_
      refine lv_aload_n hx hb dL_law__1435 rfl (lv_at hl 0 rfl) ?_
      refine lv_iload hx hb dL_law__1436 (lv_at hl 4 rfl) ?_
      refine lv_iconst (v := 2) hx hb dL_law__1438 (by decide) ?_
      refine lv_iadd hx hb dL_law__1439 ?_
      refine va_sld hx hb hX hbl hbA hw.2.2.2.1 hin2 dL_law__1440 ?_
      refine q_is ev2 ?_
      refine lv_if_eq (tgt := 1448) hx hb dL_law__1441 (by decide) (fun hc => ?_) (fun hc => absurd hv2 hc)
      refine lv_iconst (v := 0) hx hb dL_law__1448 (by decide) ?_
      refine lv_aload_n hx hb dL_law__1449 rfl (lv_at hl 3 rfl) ?_
      refine w_run (r := mws cI mad M) (st1 := [.int (kW 1 k)]) (vx_runSW (As := [.ref (ad 0), .int v1, .int 0, .ref oa]) (rest := []) ⟨hx, hb, hml, hown, hts⟩ (cw_whyNot (A := AR (fun q : Nat => s.heap.size ≤ q) (mws cI mad M)) htr hf (fun k9 e9 => by cases e9; exact hk)) (vx_cwSW 4 hts gT_L_whyNot rfl rfl rfl (by decide +kernel) ⟨Nat.le_of_ble_eq_true rfl, Nat.le_of_ble_eq_true rfl⟩) ⟨w_blind, fun U hU hW => ⟨rfl, f_PX hw hO hA hU hW, va_K.moved hW.alike hKL, NC.moved hW.alike hNC⟩⟩ rfl rfl hl.1 rfl (lv_room (Nat.le_of_ble_eq_true rfl)) dL_law__1450 ⟨by show _ ≤ 601024; omega, by show _ ≤ 7293034; omega⟩) hw rfl (fun H locs hw => ?_)
      have hw : WH D cI cR (fun q : Nat => s.heap.size ≤ q) ((xws cI cR ad O K ++ oc cL oa g) ++ mws cI mad M) s H locs := hw
      refine lv_istore (lv' := [(5, .int (kW 1 k)), (0, .ref b), (1, .ref (ad 0)), (2, .ref (mad 0)), (3, .ref oa), (4, .int x4)]) hx hb dL_law__1453 hl (by decide) rfl (fun ls hl => ?_)
      refine lv_aload_n hx hb dL_law__1455 rfl (lv_at hl 3 rfl) ?_
      refine lv_aload_n hx hb dL_law__1456 rfl (lv_at hl 1 rfl) ?_
      refine lv_iload hx hb dL_law__1457 (lv_at hl 5 rfl) ?_
      refine lv_iconst (v := 1) hx hb dL_law__1459 (by decide) ?_
      refine lv_iadd hx hb dL_law__1460 ?_
      refine va_sld hx hb hX hbl hbA hw.2.2.2.1 hin1 dL_law__1461 ?_
      refine q_is ev1 ?_
      refine lv_aload_n hx hb dL_law__1462 rfl (lv_at hl 1 rfl) ?_
      refine lv_iload hx hb dL_law__1463 (lv_at hl 5 rfl) ?_
      refine lv_iconst (v := 2) hx hb dL_law__1465 (by decide) ?_
      refine lv_iadd hx hb dL_law__1466 ?_
      refine va_sld hx hb hX hbl hbA hw.2.2.2.1 hin2 dL_law__1467 ?_
      refine q_is ev2 ?_
      refine lv_if_eq (tgt := 1475) hx hb dL_law__1468 (by decide) (fun hc => ?_) (fun hc => absurd hv2 hc)
      refine lv_iconst (v := 0) hx hb dL_law__1475 (by decide) ?_
      have hw := hw.swap
      refine w_run (r := (xws cI cR ad O K ++ oc cL oa g)) (st1 := [.int r]) (va_runV (b := mad 0) (As := [.int v1, .int 0]) (rest := []) ⟨hx, hb, hml, hown, hts⟩ (c_X6_whyNot (cR := cR) (A := AR (fun q : Nat => s.heap.size ≤ q) (xws cI cR ad O K ++ oc cL oa g)) hm) (cwV 2 hts gT_X6_whyNot rfl rfl rfl (by decide +kernel) ⟨Nat.le_of_ble_eq_true rfl, Nat.le_of_ble_eq_true rfl⟩) ⟨q_blind, va_recv hw.2.1 (f_sub hw).1 (ci := 6) (q0 := 0) rfl ma_0, fun U hU hW => ⟨rfl, f_WB hw hU hW⟩⟩ rfl rfl hl.1 rfl (lv_room (Nat.le_of_ble_eq_true rfl)) dL_law__1476 ⟨by show _ ≤ 601024; omega, by show _ ≤ 7293034; omega⟩) hw rfl (fun H locs hw => ?_)
      refine lv_istore (lv' := [(6, .int r), (5, .int (kW 1 k)), (0, .ref b), (1, .ref (ad 0)), (2, .ref (mad 0)), (3, .ref oa), (4, .int x4)]) hx hb dL_law__1479 hl (by decide) rfl (fun ls hl => ?_)
      refine lv_aload_n hx hb dL_law__1481 rfl (lv_at hl 4 rfl) ?_
      refine w_run (r := (xws cI cR ad O K ++ oc cL oa g)) (st1 := [.int (kW 1 k)]) (va_runV (b := mad 0) (As := []) (rest := []) ⟨hx, hb, hml, hown, hts⟩ (c_X6_thrown (cR := cR) (A := AR (fun q : Nat => s.heap.size ≤ q) (xws cI cR ad O K ++ oc cL oa g)) ht) (cwV 0 hts gT_X6_thrown rfl rfl rfl (by decide +kernel) ⟨Nat.le_of_ble_eq_true rfl, Nat.le_of_ble_eq_true rfl⟩) ⟨q_blind, va_recv hw.2.1 (f_sub hw).1 (ci := 6) (q0 := 0) rfl ma_0, fun U hU hW => ⟨rfl, f_WB hw hU hW⟩⟩ rfl rfl hl.1 rfl (lv_room (Nat.le_of_ble_eq_true rfl)) dL_law__1482 ⟨by show _ ≤ 601024; omega, by show _ ≤ 7293034; omega⟩) hw rfl (fun H locs hw => ?_)
      have hw := hw.swap
      refine lv_iload hx hb dL_law__1485 (lv_at hl 1 rfl) ?_
      refine lv_icmp_eq (tgt := 1492) hx hb dL_law__1487 (by decide) (fun hc => ?_) (fun hc => absurd rfl hc)
      refine lv_iload hx hb dL_law__1492 (lv_at hl 1 rfl) ?_
      refine lv_if_ne (tgt := 1509) hx hb dL_law__1494 (by decide) (fun hc => ?_) (fun hc => absurd hc (kW_ne _ _))
      refine lv_goto (tgt := 1771) hx hb dL_law__1509 (by decide) ?_
      exact T _ _ _ _ H locs ls _ _ hR hw (lv_sub hl [2, 3, 4, 5, 6] rfl) (by omega) (by omega)
    · refine lv_aload_n hx hb dL_law__1428 rfl (lv_at hl 1 rfl) ?_
      refine lv_aload_n hx hb dL_law__1429 rfl (lv_at hl 0 rfl) ?_
      refine lv_iload hx hb dL_law__1430 (lv_at hl 4 rfl) ?_
      refine lv_iconst (v := 1) hx hb dL_law__1432 (by decide) ?_
      refine lv_iadd hx hb dL_law__1433 ?_
      refine va_sld hx hb hX hbl hbA hw.2.2.2.1 hin1 dL_law__1434 ?_
      refine q_is ev1 ?_
      refine lv_aload_n hx hb dL_law__1435 rfl (lv_at hl 0 rfl) ?_
      refine lv_iload hx hb dL_law__1436 (lv_at hl 4 rfl) ?_
      refine lv_iconst (v := 2) hx hb dL_law__1438 (by decide) ?_
      refine lv_iadd hx hb dL_law__1439 ?_
      refine va_sld hx hb hX hbl hbA hw.2.2.2.1 hin2 dL_law__1440 ?_
      refine q_is ev2 ?_
      refine lv_if_eq (tgt := 1448) hx hb dL_law__1441 (by decide) (fun hc => ?_) (fun hc => absurd hv2 hc)
      refine lv_iconst (v := 0) hx hb dL_law__1448 (by decide) ?_
      refine lv_aload_n hx hb dL_law__1449 rfl (lv_at hl 3 rfl) ?_
      refine w_run (r := mws cI mad M) (st1 := [.int (0)]) (vx_runSW (As := [.ref (ad 0), .int v1, .int 0, .ref oa]) (rest := []) ⟨hx, hb, hml, hown, hts⟩ (cw_whyNot (A := AR (fun q : Nat => s.heap.size ≤ q) (mws cI mad M)) htr hf (fun k9 e9 => nomatch e9)) (vx_cwSW 4 hts gT_L_whyNot rfl rfl rfl (by decide +kernel) ⟨Nat.le_of_ble_eq_true rfl, Nat.le_of_ble_eq_true rfl⟩) ⟨w_blind, fun U hU hW => ⟨rfl, f_PX hw hO hA hU hW, va_K.moved hW.alike hKL, NC.moved hW.alike hNC⟩⟩ rfl rfl hl.1 rfl (lv_room (Nat.le_of_ble_eq_true rfl)) dL_law__1450 ⟨by show _ ≤ 601024; omega, by show _ ≤ 7293034; omega⟩) hw rfl (fun H locs hw => ?_)
      have hw : WH D cI cR (fun q : Nat => s.heap.size ≤ q) ((xws cI cR ad O K ++ oc cL oa (ocu g r.toInt64)) ++ mws cI mad M) s H locs := hw
      refine lv_istore (lv' := [(5, .int (0)), (0, .ref b), (1, .ref (ad 0)), (2, .ref (mad 0)), (3, .ref oa), (4, .int x4)]) hx hb dL_law__1453 hl (by decide) rfl (fun ls hl => ?_)
      refine lv_aload_n hx hb dL_law__1455 rfl (lv_at hl 3 rfl) ?_
      refine lv_aload_n hx hb dL_law__1456 rfl (lv_at hl 1 rfl) ?_
      refine lv_iload hx hb dL_law__1457 (lv_at hl 5 rfl) ?_
      refine lv_iconst (v := 1) hx hb dL_law__1459 (by decide) ?_
      refine lv_iadd hx hb dL_law__1460 ?_
      refine va_sld hx hb hX hbl hbA hw.2.2.2.1 hin1 dL_law__1461 ?_
      refine q_is ev1 ?_
      refine lv_aload_n hx hb dL_law__1462 rfl (lv_at hl 1 rfl) ?_
      refine lv_iload hx hb dL_law__1463 (lv_at hl 5 rfl) ?_
      refine lv_iconst (v := 2) hx hb dL_law__1465 (by decide) ?_
      refine lv_iadd hx hb dL_law__1466 ?_
      refine va_sld hx hb hX hbl hbA hw.2.2.2.1 hin2 dL_law__1467 ?_
      refine q_is ev2 ?_
      refine lv_if_eq (tgt := 1475) hx hb dL_law__1468 (by decide) (fun hc => ?_) (fun hc => absurd hv2 hc)
      refine lv_iconst (v := 0) hx hb dL_law__1475 (by decide) ?_
      have hw := hw.swap
      refine w_run (r := (xws cI cR ad O K ++ oc cL oa (ocu g r.toInt64))) (st1 := [.int r]) (va_runV (b := mad 0) (As := [.int v1, .int 0]) (rest := []) ⟨hx, hb, hml, hown, hts⟩ (c_X6_whyNot (cR := cR) (A := AR (fun q : Nat => s.heap.size ≤ q) (xws cI cR ad O K ++ oc cL oa (ocu g r.toInt64))) hm) (cwV 2 hts gT_X6_whyNot rfl rfl rfl (by decide +kernel) ⟨Nat.le_of_ble_eq_true rfl, Nat.le_of_ble_eq_true rfl⟩) ⟨q_blind, va_recv hw.2.1 (f_sub hw).1 (ci := 6) (q0 := 0) rfl ma_0, fun U hU hW => ⟨rfl, f_WB hw hU hW⟩⟩ rfl rfl hl.1 rfl (lv_room (Nat.le_of_ble_eq_true rfl)) dL_law__1476 ⟨by show _ ≤ 601024; omega, by show _ ≤ 7293034; omega⟩) hw rfl (fun H locs hw => ?_)
      refine lv_istore (lv' := [(6, .int r), (5, .int (0)), (0, .ref b), (1, .ref (ad 0)), (2, .ref (mad 0)), (3, .ref oa), (4, .int x4)]) hx hb dL_law__1479 hl (by decide) rfl (fun ls hl => ?_)
      refine lv_aload_n hx hb dL_law__1481 rfl (lv_at hl 4 rfl) ?_
      refine w_run (r := (xws cI cR ad O K ++ oc cL oa (ocu g r.toInt64))) (st1 := [.int (0)]) (va_runV (b := mad 0) (As := []) (rest := []) ⟨hx, hb, hml, hown, hts⟩ (c_X6_thrown (cR := cR) (A := AR (fun q : Nat => s.heap.size ≤ q) (xws cI cR ad O K ++ oc cL oa (ocu g r.toInt64))) ht) (cwV 0 hts gT_X6_thrown rfl rfl rfl (by decide +kernel) ⟨Nat.le_of_ble_eq_true rfl, Nat.le_of_ble_eq_true rfl⟩) ⟨q_blind, va_recv hw.2.1 (f_sub hw).1 (ci := 6) (q0 := 0) rfl ma_0, fun U hU hW => ⟨rfl, f_WB hw hU hW⟩⟩ rfl rfl hl.1 rfl (lv_room (Nat.le_of_ble_eq_true rfl)) dL_law__1482 ⟨by show _ ≤ 601024; omega, by show _ ≤ 7293034; omega⟩) hw rfl (fun H locs hw => ?_)
      have hw := hw.swap
      refine lv_iload hx hb dL_law__1485 (lv_at hl 1 rfl) ?_
      refine lv_icmp_eq (tgt := 1492) hx hb dL_law__1487 (by decide) (fun hc => ?_) (fun hc => absurd rfl hc)
      refine lv_iload hx hb dL_law__1492 (lv_at hl 1 rfl) ?_
      refine lv_if_ne (tgt := 1509) hx hb dL_law__1494 (by decide) (fun hc => absurd rfl hc) (fun hc => ?_)
      refine lv_aload_n hx hb dL_law__1497 rfl (lv_at hl 5 rfl) ?_
      refine lv_iconst (v := 0) hx hb dL_law__1498 (by decide) ?_
      refine va_lald hx hb hKL hw.1 ((xws cI cR ad O K).length + 0) 0 (by rw [List.append_assoc]; exact wg.trans rfl) rfl (inb_in (by decide)) dL_law__1499 ?_
      rw [oc_up]
      refine lv_iload hx hb dL_law__1500 (lv_at hl 0 rfl) ?_
      refine lv_i2l hx hb dL_law__1502 rfl ?_
      refine W.lcmp hx hb dL_law__1503 ?_
      refine q_is (lg_self _).symm ?_
      refine lv_if_eq (tgt := 1509) hx hb dL_law__1504 (by decide) (fun hc => ?_) (fun hc => absurd rfl hc)
      refine lv_goto (tgt := 1771) hx hb dL_law__1509 (by decide) ?_
      exact T _ _ _ _ H locs ls _ _ hR hw (lv_sub hl [2, 3, 4, 5, 6] rfl) (by omega) (by omega)
  · obtain ⟨r, t, M1, hm, ht, hres⟩ := hSim.2.2.2.2.2.2.2.2.2.2.2.2.2.2.2.2.2.2.2.2.2.2.2.2.2.2.1 it O K M v1 1 hit hR (Or.inr rfl)
    rcases hres with ⟨k, hk, hf, rfl, hR⟩ | ⟨u, hf, rfl, rfl, hR⟩
    · refine lv_aload_n hx hb dL_law__1428 rfl (lv_at hl 1 rfl) ?_
      refine lv_aload_n hx hb dL_law__1429 rfl (lv_at hl 0 rfl) ?_
      refine lv_iload hx hb dL_law__1430 (lv_at hl 4 rfl) ?_
      refine lv_iconst (v := 1) hx hb dL_law__1432 (by decide) ?_
      refine lv_iadd hx hb dL_law__1433 ?_
      refine va_sld hx hb hX hbl hbA hw.2.2.2.1 hin1 dL_law__1434 ?_
      refine q_is ev1 ?_
      refine lv_aload_n hx hb dL_law__1435 rfl (lv_at hl 0 rfl) ?_
      refine lv_iload hx hb dL_law__1436 (lv_at hl 4 rfl) ?_
      refine lv_iconst (v := 2) hx hb dL_law__1438 (by decide) ?_
      refine lv_iadd hx hb dL_law__1439 ?_
      refine va_sld hx hb hX hbl hbA hw.2.2.2.1 hin2 dL_law__1440 ?_
      refine q_is ev2 ?_
      refine lv_if_eq (tgt := 1448) hx hb dL_law__1441 (by decide) (fun hc => absurd hc hv2) (fun hc => ?_)
      refine lv_iconst (v := 1) hx hb dL_law__1444 (by decide) ?_
      refine lv_goto (tgt := 1449) hx hb dL_law__1445 (by decide) ?_
      refine lv_aload_n hx hb dL_law__1449 rfl (lv_at hl 3 rfl) ?_
      refine w_run (r := mws cI mad M) (st1 := [.int (kW 1 k)]) (vx_runSW (As := [.ref (ad 0), .int v1, .int 1, .ref oa]) (rest := []) ⟨hx, hb, hml, hown, hts⟩ (cw_whyNot (A := AR (fun q : Nat => s.heap.size ≤ q) (mws cI mad M)) htr hf (fun k9 e9 => by cases e9; exact hk)) (vx_cwSW 4 hts gT_L_whyNot rfl rfl rfl (by decide +kernel) ⟨Nat.le_of_ble_eq_true rfl, Nat.le_of_ble_eq_true rfl⟩) ⟨w_blind, fun U hU hW => ⟨rfl, f_PX hw hO hA hU hW, va_K.moved hW.alike hKL, NC.moved hW.alike hNC⟩⟩ rfl rfl hl.1 rfl (lv_room (Nat.le_of_ble_eq_true rfl)) dL_law__1450 ⟨by show _ ≤ 601024; omega, by show _ ≤ 7293034; omega⟩) hw rfl (fun H locs hw => ?_)
      have hw : WH D cI cR (fun q : Nat => s.heap.size ≤ q) ((xws cI cR ad O K ++ oc cL oa g) ++ mws cI mad M) s H locs := hw
      refine lv_istore (lv' := [(5, .int (kW 1 k)), (0, .ref b), (1, .ref (ad 0)), (2, .ref (mad 0)), (3, .ref oa), (4, .int x4)]) hx hb dL_law__1453 hl (by decide) rfl (fun ls hl => ?_)
      refine lv_aload_n hx hb dL_law__1455 rfl (lv_at hl 3 rfl) ?_
      refine lv_aload_n hx hb dL_law__1456 rfl (lv_at hl 1 rfl) ?_
      refine lv_iload hx hb dL_law__1457 (lv_at hl 5 rfl) ?_
      refine lv_iconst (v := 1) hx hb dL_law__1459 (by decide) ?_
      refine lv_iadd hx hb dL_law__1460 ?_
      refine va_sld hx hb hX hbl hbA hw.2.2.2.1 hin1 dL_law__1461 ?_
      refine q_is ev1 ?_
      refine lv_aload_n hx hb dL_law__1462 rfl (lv_at hl 1 rfl) ?_
      refine lv_iload hx hb dL_law__1463 (lv_at hl 5 rfl) ?_
      refine lv_iconst (v := 2) hx hb dL_law__1465 (by decide) ?_
      refine lv_iadd hx hb dL_law__1466 ?_
      refine va_sld hx hb hX hbl hbA hw.2.2.2.1 hin2 dL_law__1467 ?_
      refine q_is ev2 ?_
      refine lv_if_eq (tgt := 1475) hx hb dL_law__1468 (by decide) (fun hc => absurd hc hv2) (fun hc => ?_)
      refine lv_iconst (v := 1) hx hb dL_law__1471 (by decide) ?_
      refine lv_goto (tgt := 1476) hx hb dL_law__1472 (by decide) ?_
      have hw := hw.swap
      refine w_run (r := (xws cI cR ad O K ++ oc cL oa g)) (st1 := [.int r]) (va_runV (b := mad 0) (As := [.int v1, .int 1]) (rest := []) ⟨hx, hb, hml, hown, hts⟩ (c_X6_whyNot (cR := cR) (A := AR (fun q : Nat => s.heap.size ≤ q) (xws cI cR ad O K ++ oc cL oa g)) hm) (cwV 2 hts gT_X6_whyNot rfl rfl rfl (by decide +kernel) ⟨Nat.le_of_ble_eq_true rfl, Nat.le_of_ble_eq_true rfl⟩) ⟨q_blind, va_recv hw.2.1 (f_sub hw).1 (ci := 6) (q0 := 0) rfl ma_0, fun U hU hW => ⟨rfl, f_WB hw hU hW⟩⟩ rfl rfl hl.1 rfl (lv_room (Nat.le_of_ble_eq_true rfl)) dL_law__1476 ⟨by show _ ≤ 601024; omega, by show _ ≤ 7293034; omega⟩) hw rfl (fun H locs hw => ?_)
      refine lv_istore (lv' := [(6, .int r), (5, .int (kW 1 k)), (0, .ref b), (1, .ref (ad 0)), (2, .ref (mad 0)), (3, .ref oa), (4, .int x4)]) hx hb dL_law__1479 hl (by decide) rfl (fun ls hl => ?_)
      refine lv_aload_n hx hb dL_law__1481 rfl (lv_at hl 4 rfl) ?_
      refine w_run (r := (xws cI cR ad O K ++ oc cL oa g)) (st1 := [.int (kW 1 k)]) (va_runV (b := mad 0) (As := []) (rest := []) ⟨hx, hb, hml, hown, hts⟩ (c_X6_thrown (cR := cR) (A := AR (fun q : Nat => s.heap.size ≤ q) (xws cI cR ad O K ++ oc cL oa g)) ht) (cwV 0 hts gT_X6_thrown rfl rfl rfl (by decide +kernel) ⟨Nat.le_of_ble_eq_true rfl, Nat.le_of_ble_eq_true rfl⟩) ⟨q_blind, va_recv hw.2.1 (f_sub hw).1 (ci := 6) (q0 := 0) rfl ma_0, fun U hU hW => ⟨rfl, f_WB hw hU hW⟩⟩ rfl rfl hl.1 rfl (lv_room (Nat.le_of_ble_eq_true rfl)) dL_law__1482 ⟨by show _ ≤ 601024; omega, by show _ ≤ 7293034; omega⟩) hw rfl (fun H locs hw => ?_)
      have hw := hw.swap
      refine lv_iload hx hb dL_law__1485 (lv_at hl 1 rfl) ?_
      refine lv_icmp_eq (tgt := 1492) hx hb dL_law__1487 (by decide) (fun hc => ?_) (fun hc => absurd rfl hc)
      refine lv_iload hx hb dL_law__1492 (lv_at hl 1 rfl) ?_
      refine lv_if_ne (tgt := 1509) hx hb dL_law__1494 (by decide) (fun hc => ?_) (fun hc => absurd hc (kW_ne _ _))
      refine lv_goto (tgt := 1771) hx hb dL_law__1509 (by decide) ?_
      exact T _ _ _ _ H locs ls _ _ hR hw (lv_sub hl [2, 3, 4, 5, 6] rfl) (by omega) (by omega)
    · refine lv_aload_n hx hb dL_law__1428 rfl (lv_at hl 1 rfl) ?_
      refine lv_aload_n hx hb dL_law__1429 rfl (lv_at hl 0 rfl) ?_
      refine lv_iload hx hb dL_law__1430 (lv_at hl 4 rfl) ?_
      refine lv_iconst (v := 1) hx hb dL_law__1432 (by decide) ?_
      refine lv_iadd hx hb dL_law__1433 ?_
      refine va_sld hx hb hX hbl hbA hw.2.2.2.1 hin1 dL_law__1434 ?_
      refine q_is ev1 ?_
      refine lv_aload_n hx hb dL_law__1435 rfl (lv_at hl 0 rfl) ?_
      refine lv_iload hx hb dL_law__1436 (lv_at hl 4 rfl) ?_
      refine lv_iconst (v := 2) hx hb dL_law__1438 (by decide) ?_
      refine lv_iadd hx hb dL_law__1439 ?_
      refine va_sld hx hb hX hbl hbA hw.2.2.2.1 hin2 dL_law__1440 ?_
      refine q_is ev2 ?_
      refine lv_if_eq (tgt := 1448) hx hb dL_law__1441 (by decide) (fun hc => absurd hc hv2) (fun hc => ?_)
      refine lv_iconst (v := 1) hx hb dL_law__1444 (by decide) ?_
      refine lv_goto (tgt := 1449) hx hb dL_law__1445 (by decide) ?_
      refine lv_aload_n hx hb dL_law__1449 rfl (lv_at hl 3 rfl) ?_
      refine w_run (r := mws cI mad M) (st1 := [.int (0)]) (vx_runSW (As := [.ref (ad 0), .int v1, .int 1, .ref oa]) (rest := []) ⟨hx, hb, hml, hown, hts⟩ (cw_whyNot (A := AR (fun q : Nat => s.heap.size ≤ q) (mws cI mad M)) htr hf (fun k9 e9 => nomatch e9)) (vx_cwSW 4 hts gT_L_whyNot rfl rfl rfl (by decide +kernel) ⟨Nat.le_of_ble_eq_true rfl, Nat.le_of_ble_eq_true rfl⟩) ⟨w_blind, fun U hU hW => ⟨rfl, f_PX hw hO hA hU hW, va_K.moved hW.alike hKL, NC.moved hW.alike hNC⟩⟩ rfl rfl hl.1 rfl (lv_room (Nat.le_of_ble_eq_true rfl)) dL_law__1450 ⟨by show _ ≤ 601024; omega, by show _ ≤ 7293034; omega⟩) hw rfl (fun H locs hw => ?_)
      have hw : WH D cI cR (fun q : Nat => s.heap.size ≤ q) ((xws cI cR ad O K ++ oc cL oa (ocu g r.toInt64)) ++ mws cI mad M) s H locs := hw
      refine lv_istore (lv' := [(5, .int (0)), (0, .ref b), (1, .ref (ad 0)), (2, .ref (mad 0)), (3, .ref oa), (4, .int x4)]) hx hb dL_law__1453 hl (by decide) rfl (fun ls hl => ?_)
      refine lv_aload_n hx hb dL_law__1455 rfl (lv_at hl 3 rfl) ?_
      refine lv_aload_n hx hb dL_law__1456 rfl (lv_at hl 1 rfl) ?_
      refine lv_iload hx hb dL_law__1457 (lv_at hl 5 rfl) ?_
      refine lv_iconst (v := 1) hx hb dL_law__1459 (by decide) ?_
      refine lv_iadd hx hb dL_law__1460 ?_
      refine va_sld hx hb hX hbl hbA hw.2.2.2.1 hin1 dL_law__1461 ?_
      refine q_is ev1 ?_
      refine lv_aload_n hx hb dL_law__1462 rfl (lv_at hl 1 rfl) ?_
      refine lv_iload hx hb dL_law__1463 (lv_at hl 5 rfl) ?_
      refine lv_iconst (v := 2) hx hb dL_law__1465 (by decide) ?_
      refine lv_iadd hx hb dL_law__1466 ?_
      refine va_sld hx hb hX hbl hbA hw.2.2.2.1 hin2 dL_law__1467 ?_
      refine q_is ev2 ?_
      refine lv_if_eq (tgt := 1475) hx hb dL_law__1468 (by decide) (fun hc => absurd hc hv2) (fun hc => ?_)
      refine lv_iconst (v := 1) hx hb dL_law__1471 (by decide) ?_
      refine lv_goto (tgt := 1476) hx hb dL_law__1472 (by decide) ?_
      have hw := hw.swap
      refine w_run (r := (xws cI cR ad O K ++ oc cL oa (ocu g r.toInt64))) (st1 := [.int r]) (va_runV (b := mad 0) (As := [.int v1, .int 1]) (rest := []) ⟨hx, hb, hml, hown, hts⟩ (c_X6_whyNot (cR := cR) (A := AR (fun q : Nat => s.heap.size ≤ q) (xws cI cR ad O K ++ oc cL oa (ocu g r.toInt64))) hm) (cwV 2 hts gT_X6_whyNot rfl rfl rfl (by decide +kernel) ⟨Nat.le_of_ble_eq_true rfl, Nat.le_of_ble_eq_true rfl⟩) ⟨q_blind, va_recv hw.2.1 (f_sub hw).1 (ci := 6) (q0 := 0) rfl ma_0, fun U hU hW => ⟨rfl, f_WB hw hU hW⟩⟩ rfl rfl hl.1 rfl (lv_room (Nat.le_of_ble_eq_true rfl)) dL_law__1476 ⟨by show _ ≤ 601024; omega, by show _ ≤ 7293034; omega⟩) hw rfl (fun H locs hw => ?_)
      refine lv_istore (lv' := [(6, .int r), (5, .int (0)), (0, .ref b), (1, .ref (ad 0)), (2, .ref (mad 0)), (3, .ref oa), (4, .int x4)]) hx hb dL_law__1479 hl (by decide) rfl (fun ls hl => ?_)
      refine lv_aload_n hx hb dL_law__1481 rfl (lv_at hl 4 rfl) ?_
      refine w_run (r := (xws cI cR ad O K ++ oc cL oa (ocu g r.toInt64))) (st1 := [.int (0)]) (va_runV (b := mad 0) (As := []) (rest := []) ⟨hx, hb, hml, hown, hts⟩ (c_X6_thrown (cR := cR) (A := AR (fun q : Nat => s.heap.size ≤ q) (xws cI cR ad O K ++ oc cL oa (ocu g r.toInt64))) ht) (cwV 0 hts gT_X6_thrown rfl rfl rfl (by decide +kernel) ⟨Nat.le_of_ble_eq_true rfl, Nat.le_of_ble_eq_true rfl⟩) ⟨q_blind, va_recv hw.2.1 (f_sub hw).1 (ci := 6) (q0 := 0) rfl ma_0, fun U hU hW => ⟨rfl, f_WB hw hU hW⟩⟩ rfl rfl hl.1 rfl (lv_room (Nat.le_of_ble_eq_true rfl)) dL_law__1482 ⟨by show _ ≤ 601024; omega, by show _ ≤ 7293034; omega⟩) hw rfl (fun H locs hw => ?_)
      have hw := hw.swap
      refine lv_iload hx hb dL_law__1485 (lv_at hl 1 rfl) ?_
      refine lv_icmp_eq (tgt := 1492) hx hb dL_law__1487 (by decide) (fun hc => ?_) (fun hc => absurd rfl hc)
      refine lv_iload hx hb dL_law__1492 (lv_at hl 1 rfl) ?_
      refine lv_if_ne (tgt := 1509) hx hb dL_law__1494 (by decide) (fun hc => absurd rfl hc) (fun hc => ?_)
      refine lv_aload_n hx hb dL_law__1497 rfl (lv_at hl 5 rfl) ?_
      refine lv_iconst (v := 0) hx hb dL_law__1498 (by decide) ?_
      refine va_lald hx hb hKL hw.1 ((xws cI cR ad O K).length + 0) 0 (by rw [List.append_assoc]; exact wg.trans rfl) rfl (inb_in (by decide)) dL_law__1499 ?_
      rw [oc_up]
      refine lv_iload hx hb dL_law__1500 (lv_at hl 0 rfl) ?_
      refine lv_i2l hx hb dL_law__1502 rfl ?_
      refine W.lcmp hx hb dL_law__1503 ?_
      refine q_is (lg_self _).symm ?_
      refine lv_if_eq (tgt := 1509) hx hb dL_law__1504 (by decide) (fun hc => ?_) (fun hc => absurd rfl hc)
      refine lv_goto (tgt := 1771) hx hb dL_law__1509 (by decide) ?_
      exact T _ _ _ _ H locs ls _ _ hR hw (lv_sub hl [2, 3, 4, 5, 6] rfl) (by omega) (by omega)
set_option maxHeartbeats 4000000 in
set_option maxRecDepth 100000 in
theorem law_25 {p : Program} {l : Launch} {e : Env} {s : State} {m : MethodId} {below : List Frame} {meth : Method} {c : Code} {D : va_G} {cI cR cL : ClassId} {ad mad : Nat → Nat} {oa b L : Nat} {xs : Nat → Int32} {R : Nat → XO → RK → MS → Prop} {Q : State → Prop} {it : Nat} {x4 : Int32} (hC : LC p l e s m below meth c D cI cR cL ad mad oa b L xs) (hSim : Sim R) (hit : it < 512) (hin1 : vp_in (x4 + 1) L) (hin2 : vp_in (x4 + 2) L) (hin3 : vp_in (x4 + 3) L) (T : LT R p l e s m below meth c D cI cR cL ad mad oa b Q (it + 1) x4 1771) : LT R p l e s m below meth c D cI cR cL ad mad oa b Q it x4 1512 := by
  intro O K g M H locs ls cells slots hR hw hl hc1 hc2
  obtain ⟨hx, hb, hml, hown, hts, htr, hO, hKL, hNC, hX, hbl⟩ := hC
  have hA : ∀ q : Nat, s.heap.size ≤ q → s.heap.size ≤ q := fun _ h => h
  have hbA : ¬ s.heap.size ≤ b := Nat.not_le.mpr hbl
  obtain ⟨v1, ev1⟩ : ∃ v, v = xs ((x4 + 1).toNatClampNeg) := ⟨_, rfl⟩
  obtain ⟨v2, ev2⟩ : ∃ v, v = xs ((x4 + 2).toNatClampNeg) := ⟨_, rfl⟩
  obtain ⟨v3, ev3⟩ : ∃ v, v = xs ((x4 + 3).toNatClampNeg) := ⟨_, rfl⟩
  obtain ⟨r, t, M1, hm, ht, hres⟩ := hSim.2.2.2.2.2.2.2.2.2.2.2.2.2.2.2.2.2.2.2.2.2.2.2.2.2.2.2.1 it O K M v1 v2 v3 hit hR
  rcases hres with ⟨k, hk, hf, rfl, hR⟩ | ⟨u, hf, rfl, rfl, hR⟩
  · refine lv_aload_n hx hb dL_law__1512 rfl (lv_at hl 1 rfl) ?_
    refine lv_aload_n hx hb dL_law__1513 rfl (lv_at hl 0 rfl) ?_
    refine lv_iload hx hb dL_law__1514 (lv_at hl 4 rfl) ?_
    refine lv_iconst (v := 1) hx hb dL_law__1516 (by decide) ?_
    refine lv_iadd hx hb dL_law__1517 ?_
    refine va_sld hx hb hX hbl hbA hw.2.2.2.1 hin1 dL_law__1518 ?_
    refine q_is ev1 ?_
    refine lv_aload_n hx hb dL_law__1519 rfl (lv_at hl 0 rfl) ?_
    refine lv_iload hx hb dL_law__1520 (lv_at hl 4 rfl) ?_
    refine lv_iconst (v := 2) hx hb dL_law__1522 (by decide) ?_
    refine lv_iadd hx hb dL_law__1523 ?_
    refine va_sld hx hb hX hbl hbA hw.2.2.2.1 hin2 dL_law__1524 ?_
    refine q_is ev2 ?_
    refine lv_aload_n hx hb dL_law__1525 rfl (lv_at hl 0 rfl) ?_
    refine lv_iload hx hb dL_law__1526 (lv_at hl 4 rfl) ?_
    refine lv_iconst (v := 3) hx hb dL_law__1528 (by decide) ?_
    refine lv_iadd hx hb dL_law__1529 ?_
    refine va_sld hx hb hX hbl hbA hw.2.2.2.1 hin3 dL_law__1530 ?_
    refine q_is ev3 ?_
    refine lv_aload_n hx hb dL_law__1531 rfl (lv_at hl 3 rfl) ?_
    refine w_run (r := mws cI mad M) (st1 := [.int (kW 1 k)]) (vx_runSW (As := [.ref (ad 0), .int v1, .int v2, .int v3, .ref oa]) (rest := []) ⟨hx, hb, hml, hown, hts⟩ (cw_ifOpened (A := AR (fun q : Nat => s.heap.size ≤ q) (mws cI mad M)) htr hf (fun k9 e9 => by cases e9; exact hk)) (vx_cwSW 5 hts gT_L_ifOpened rfl rfl rfl (by decide +kernel) ⟨Nat.le_of_ble_eq_true rfl, Nat.le_of_ble_eq_true rfl⟩) ⟨w_blind, fun U hU hW => ⟨rfl, f_PX hw hO hA hU hW, va_K.moved hW.alike hKL, NC.moved hW.alike hNC⟩⟩ rfl rfl hl.1 rfl (lv_room (Nat.le_of_ble_eq_true rfl)) dL_law__1532 ⟨by show _ ≤ 601024; omega, by show _ ≤ 7293034; omega⟩) hw rfl (fun H locs hw => ?_)
    have hw : WH D cI cR (fun q : Nat => s.heap.size ≤ q) ((xws cI cR ad O K ++ oc cL oa g) ++ mws cI mad M) s H locs := hw
    refine lv_istore (lv' := [(5, .int (kW 1 k)), (0, .ref b), (1, .ref (ad 0)), (2, .ref (mad 0)), (3, .ref oa), (4, .int x4)]) hx hb dL_law__1535 hl (by decide) rfl (fun ls hl => ?_)
    refine lv_aload_n hx hb dL_law__1537 rfl (lv_at hl 3 rfl) ?_
    refine lv_aload_n hx hb dL_law__1538 rfl (lv_at hl 1 rfl) ?_
    refine lv_iload hx hb dL_law__1539 (lv_at hl 5 rfl) ?_
    refine lv_iconst (v := 1) hx hb dL_law__1541 (by decide) ?_
    refine lv_iadd hx hb dL_law__1542 ?_
    refine va_sld hx hb hX hbl hbA hw.2.2.2.1 hin1 dL_law__1543 ?_
    refine q_is ev1 ?_
    refine lv_aload_n hx hb dL_law__1544 rfl (lv_at hl 1 rfl) ?_
    refine lv_iload hx hb dL_law__1545 (lv_at hl 5 rfl) ?_
    refine lv_iconst (v := 2) hx hb dL_law__1547 (by decide) ?_
    refine lv_iadd hx hb dL_law__1548 ?_
    refine va_sld hx hb hX hbl hbA hw.2.2.2.1 hin2 dL_law__1549 ?_
    refine q_is ev2 ?_
    refine lv_aload_n hx hb dL_law__1550 rfl (lv_at hl 1 rfl) ?_
    refine lv_iload hx hb dL_law__1551 (lv_at hl 5 rfl) ?_
    refine lv_iconst (v := 3) hx hb dL_law__1553 (by decide) ?_
    refine lv_iadd hx hb dL_law__1554 ?_
    refine va_sld hx hb hX hbl hbA hw.2.2.2.1 hin3 dL_law__1555 ?_
    refine q_is ev3 ?_
    have hw := hw.swap
    refine w_run (r := (xws cI cR ad O K ++ oc cL oa g)) (st1 := [.int r]) (va_runV (b := mad 0) (As := [.int v1, .int v2, .int v3]) (rest := []) ⟨hx, hb, hml, hown, hts⟩ (c_X6_ifOpened (cR := cR) (A := AR (fun q : Nat => s.heap.size ≤ q) (xws cI cR ad O K ++ oc cL oa g)) hm) (cwV 3 hts gT_X6_ifOpened rfl rfl rfl (by decide +kernel) ⟨Nat.le_of_ble_eq_true rfl, Nat.le_of_ble_eq_true rfl⟩) ⟨q_blind, va_recv hw.2.1 (f_sub hw).1 (ci := 6) (q0 := 0) rfl ma_0, fun U hU hW => ⟨rfl, f_WB hw hU hW⟩⟩ rfl rfl hl.1 rfl (lv_room (Nat.le_of_ble_eq_true rfl)) dL_law__1556 ⟨by show _ ≤ 601024; omega, by show _ ≤ 7293034; omega⟩) hw rfl (fun H locs hw => ?_)
    refine lv_istore (lv' := [(6, .int r), (5, .int (kW 1 k)), (0, .ref b), (1, .ref (ad 0)), (2, .ref (mad 0)), (3, .ref oa), (4, .int x4)]) hx hb dL_law__1559 hl (by decide) rfl (fun ls hl => ?_)
    refine lv_aload_n hx hb dL_law__1561 rfl (lv_at hl 4 rfl) ?_
    refine w_run (r := (xws cI cR ad O K ++ oc cL oa g)) (st1 := [.int (kW 1 k)]) (va_runV (b := mad 0) (As := []) (rest := []) ⟨hx, hb, hml, hown, hts⟩ (c_X6_thrown (cR := cR) (A := AR (fun q : Nat => s.heap.size ≤ q) (xws cI cR ad O K ++ oc cL oa g)) ht) (cwV 0 hts gT_X6_thrown rfl rfl rfl (by decide +kernel) ⟨Nat.le_of_ble_eq_true rfl, Nat.le_of_ble_eq_true rfl⟩) ⟨q_blind, va_recv hw.2.1 (f_sub hw).1 (ci := 6) (q0 := 0) rfl ma_0, fun U hU hW => ⟨rfl, f_WB hw hU hW⟩⟩ rfl rfl hl.1 rfl (lv_room (Nat.le_of_ble_eq_true rfl)) dL_law__1562 ⟨by show _ ≤ 601024; omega, by show _ ≤ 7293034; omega⟩) hw rfl (fun H locs hw => ?_)
    have hw := hw.swap
    refine lv_iload hx hb dL_law__1565 (lv_at hl 1 rfl) ?_
    refine lv_icmp_eq (tgt := 1572) hx hb dL_law__1567 (by decide) (fun hc => ?_) (fun hc => absurd rfl hc)
    refine lv_iload hx hb dL_law__1572 (lv_at hl 1 rfl) ?_
    refine lv_if_ne (tgt := 1589) hx hb dL_law__1574 (by decide) (fun hc => ?_) (fun hc => absurd hc (kW_ne _ _))
    refine lv_goto (tgt := 1771) hx hb dL_law__1589 (by decide) ?_
    exact T _ _ _ _ H locs ls _ _ hR hw (lv_sub hl [2, 3, 4, 5, 6] rfl) (by omega) (by omega)
  · refine lv_aload_n hx hb dL_law__1512 rfl (lv_at hl 1 rfl) ?_
    refine lv_aload_n hx hb dL_law__1513 rfl (lv_at hl 0 rfl) ?_
    refine lv_iload hx hb dL_law__1514 (lv_at hl 4 rfl) ?_
    refine lv_iconst (v := 1) hx hb dL_law__1516 (by decide) ?_
    refine lv_iadd hx hb dL_law__1517 ?_
    refine va_sld hx hb hX hbl hbA hw.2.2.2.1 hin1 dL_law__1518 ?_
    refine q_is ev1 ?_
    refine lv_aload_n hx hb dL_law__1519 rfl (lv_at hl 0 rfl) ?_
    refine lv_iload hx hb dL_law__1520 (lv_at hl 4 rfl) ?_
    refine lv_iconst (v := 2) hx hb dL_law__1522 (by decide) ?_
    refine lv_iadd hx hb dL_law__1523 ?_
    refine va_sld hx hb hX hbl hbA hw.2.2.2.1 hin2 dL_law__1524 ?_
    refine q_is ev2 ?_
    refine lv_aload_n hx hb dL_law__1525 rfl (lv_at hl 0 rfl) ?_
    refine lv_iload hx hb dL_law__1526 (lv_at hl 4 rfl) ?_
    refine lv_iconst (v := 3) hx hb dL_law__1528 (by decide) ?_
    refine lv_iadd hx hb dL_law__1529 ?_
    refine va_sld hx hb hX hbl hbA hw.2.2.2.1 hin3 dL_law__1530 ?_
    refine q_is ev3 ?_
    refine lv_aload_n hx hb dL_law__1531 rfl (lv_at hl 3 rfl) ?_
    refine w_run (r := mws cI mad M) (st1 := [.int (0)]) (vx_runSW (As := [.ref (ad 0), .int v1, .int v2, .int v3, .ref oa]) (rest := []) ⟨hx, hb, hml, hown, hts⟩ (cw_ifOpened (A := AR (fun q : Nat => s.heap.size ≤ q) (mws cI mad M)) htr hf (fun k9 e9 => nomatch e9)) (vx_cwSW 5 hts gT_L_ifOpened rfl rfl rfl (by decide +kernel) ⟨Nat.le_of_ble_eq_true rfl, Nat.le_of_ble_eq_true rfl⟩) ⟨w_blind, fun U hU hW => ⟨rfl, f_PX hw hO hA hU hW, va_K.moved hW.alike hKL, NC.moved hW.alike hNC⟩⟩ rfl rfl hl.1 rfl (lv_room (Nat.le_of_ble_eq_true rfl)) dL_law__1532 ⟨by show _ ≤ 601024; omega, by show _ ≤ 7293034; omega⟩) hw rfl (fun H locs hw => ?_)
    have hw : WH D cI cR (fun q : Nat => s.heap.size ≤ q) ((xws cI cR ad O K ++ oc cL oa (ocu g r.toInt64)) ++ mws cI mad M) s H locs := hw
    refine lv_istore (lv' := [(5, .int (0)), (0, .ref b), (1, .ref (ad 0)), (2, .ref (mad 0)), (3, .ref oa), (4, .int x4)]) hx hb dL_law__1535 hl (by decide) rfl (fun ls hl => ?_)
    refine lv_aload_n hx hb dL_law__1537 rfl (lv_at hl 3 rfl) ?_
    refine lv_aload_n hx hb dL_law__1538 rfl (lv_at hl 1 rfl) ?_
    refine lv_iload hx hb dL_law__1539 (lv_at hl 5 rfl) ?_
    refine lv_iconst (v := 1) hx hb dL_law__1541 (by decide) ?_
    refine lv_iadd hx hb dL_law__1542 ?_
    refine va_sld hx hb hX hbl hbA hw.2.2.2.1 hin1 dL_law__1543 ?_
    refine q_is ev1 ?_
    refine lv_aload_n hx hb dL_law__1544 rfl (lv_at hl 1 rfl) ?_
    refine lv_iload hx hb dL_law__1545 (lv_at hl 5 rfl) ?_
    refine lv_iconst (v := 2) hx hb dL_law__1547 (by decide) ?_
    refine lv_iadd hx hb dL_law__1548 ?_
    refine va_sld hx hb hX hbl hbA hw.2.2.2.1 hin2 dL_law__1549 ?_
    refine q_is ev2 ?_
    refine lv_aload_n hx hb dL_law__1550 rfl (lv_at hl 1 rfl) ?_
    refine lv_iload hx hb dL_law__1551 (lv_at hl 5 rfl) ?_
    refine lv_iconst (v := 3) hx hb dL_law__1553 (by decide) ?_
    refine lv_iadd hx hb dL_law__1554 ?_
    refine va_sld hx hb hX hbl hbA hw.2.2.2.1 hin3 dL_law__1555 ?_
    refine q_is ev3 ?_
    have hw := hw.swap
    refine w_run (r := (xws cI cR ad O K ++ oc cL oa (ocu g r.toInt64))) (st1 := [.int r]) (va_runV (b := mad 0) (As := [.int v1, .int v2, .int v3]) (rest := []) ⟨hx, hb, hml, hown, hts⟩ (c_X6_ifOpened (cR := cR) (A := AR (fun q : Nat => s.heap.size ≤ q) (xws cI cR ad O K ++ oc cL oa (ocu g r.toInt64))) hm) (cwV 3 hts gT_X6_ifOpened rfl rfl rfl (by decide +kernel) ⟨Nat.le_of_ble_eq_true rfl, Nat.le_of_ble_eq_true rfl⟩) ⟨q_blind, va_recv hw.2.1 (f_sub hw).1 (ci := 6) (q0 := 0) rfl ma_0, fun U hU hW => ⟨rfl, f_WB hw hU hW⟩⟩ rfl rfl hl.1 rfl (lv_room (Nat.le_of_ble_eq_true rfl)) dL_law__1556 ⟨by show _ ≤ 601024; omega, by show _ ≤ 7293034; omega⟩) hw rfl (fun H locs hw => ?_)
    refine lv_istore (lv' := [(6, .int r), (5, .int (0)), (0, .ref b), (1, .ref (ad 0)), (2, .ref (mad 0)), (3, .ref oa), (4, .int x4)]) hx hb dL_law__1559 hl (by decide) rfl (fun ls hl => ?_)
    refine lv_aload_n hx hb dL_law__1561 rfl (lv_at hl 4 rfl) ?_
    refine w_run (r := (xws cI cR ad O K ++ oc cL oa (ocu g r.toInt64))) (st1 := [.int (0)]) (va_runV (b := mad 0) (As := []) (rest := []) ⟨hx, hb, hml, hown, hts⟩ (c_X6_thrown (cR := cR) (A := AR (fun q : Nat => s.heap.size ≤ q) (xws cI cR ad O K ++ oc cL oa (ocu g r.toInt64))) ht) (cwV 0 hts gT_X6_thrown rfl rfl rfl (by decide +kernel) ⟨Nat.le_of_ble_eq_true rfl, Nat.le_of_ble_eq_true rfl⟩) ⟨q_blind, va_recv hw.2.1 (f_sub hw).1 (ci := 6) (q0 := 0) rfl ma_0, fun U hU hW => ⟨rfl, f_WB hw hU hW⟩⟩ rfl rfl hl.1 rfl (lv_room (Nat.le_of_ble_eq_true rfl)) dL_law__1562 ⟨by show _ ≤ 601024; omega, by show _ ≤ 7293034; omega⟩) hw rfl (fun H locs hw => ?_)
    have hw := hw.swap
    refine lv_iload hx hb dL_law__1565 (lv_at hl 1 rfl) ?_
    refine lv_icmp_eq (tgt := 1572) hx hb dL_law__1567 (by decide) (fun hc => ?_) (fun hc => absurd rfl hc)
    refine lv_iload hx hb dL_law__1572 (lv_at hl 1 rfl) ?_
    refine lv_if_ne (tgt := 1589) hx hb dL_law__1574 (by decide) (fun hc => absurd rfl hc) (fun hc => ?_)
    refine lv_aload_n hx hb dL_law__1577 rfl (lv_at hl 5 rfl) ?_
    refine lv_iconst (v := 0) hx hb dL_law__1578 (by decide) ?_
    refine va_lald hx hb hKL hw.1 ((xws cI cR ad O K).length + 0) 0 (by rw [List.append_assoc]; exact wg.trans rfl) rfl (inb_in (by decide)) dL_law__1579 ?_
    rw [oc_up]
    refine lv_iload hx hb dL_law__1580 (lv_at hl 0 rfl) ?_
    refine lv_i2l hx hb dL_law__1582 rfl ?_
    refine W.lcmp hx hb dL_law__1583 ?_
    refine q_is (lg_self _).symm ?_
    refine lv_if_eq (tgt := 1589) hx hb dL_law__1584 (by decide) (fun hc => ?_) (fun hc => absurd rfl hc)
    refine lv_goto (tgt := 1771) hx hb dL_law__1589 (by decide) ?_
    exact T _ _ _ _ H locs ls _ _ hR hw (lv_sub hl [2, 3, 4, 5, 6] rfl) (by omega) (by omega)
set_option maxHeartbeats 4000000 in
set_option maxRecDepth 100000 in
theorem law_26 {p : Program} {l : Launch} {e : Env} {s : State} {m : MethodId} {below : List Frame} {meth : Method} {c : Code} {D : va_G} {cI cR cL : ClassId} {ad mad : Nat → Nat} {oa b L : Nat} {xs : Nat → Int32} {R : Nat → XO → RK → MS → Prop} {Q : State → Prop} {it : Nat} {x4 : Int32} (hC : LC p l e s m below meth c D cI cR cL ad mad oa b L xs) (hSim : Sim R) (hit : it < 512) (hin1 : vp_in (x4 + 1) L) (hin2 : vp_in (x4 + 2) L) (hin3 : vp_in (x4 + 3) L) (T : LT R p l e s m below meth c D cI cR cL ad mad oa b Q (it + 1) x4 1771) : LT R p l e s m below meth c D cI cR cL ad mad oa b Q it x4 1592 := by
  intro O K g M H locs ls cells slots hR hw hl hc1 hc2
  obtain ⟨hx, hb, hml, hown, hts, htr, hO, hKL, hNC, hX, hbl⟩ := hC
  have hA : ∀ q : Nat, s.heap.size ≤ q → s.heap.size ≤ q := fun _ h => h
  have hbA : ¬ s.heap.size ≤ b := Nat.not_le.mpr hbl
  obtain ⟨v1, ev1⟩ : ∃ v, v = xs ((x4 + 1).toNatClampNeg) := ⟨_, rfl⟩
  obtain ⟨v2, ev2⟩ : ∃ v, v = xs ((x4 + 2).toNatClampNeg) := ⟨_, rfl⟩
  obtain ⟨v3, ev3⟩ : ∃ v, v = xs ((x4 + 3).toNatClampNeg) := ⟨_, rfl⟩
  obtain ⟨r, t, M1, hm, ht, hres⟩ := hSim.2.2.2.2.2.2.2.2.2.2.2.2.2.2.2.2.2.2.2.2.2.2.2.2.2.2.2.2.1 it O K M v1 hit hR
  rcases hres with ⟨k, hk, hf, rfl, hR⟩ | ⟨u, hf, rfl, rfl, hR⟩
  · refine lv_aload_n hx hb dL_law__1592 rfl (lv_at hl 1 rfl) ?_
    refine lv_aload_n hx hb dL_law__1593 rfl (lv_at hl 0 rfl) ?_
    refine lv_iload hx hb dL_law__1594 (lv_at hl 4 rfl) ?_
    refine lv_iconst (v := 1) hx hb dL_law__1596 (by decide) ?_
    refine lv_iadd hx hb dL_law__1597 ?_
    refine va_sld hx hb hX hbl hbA hw.2.2.2.1 hin1 dL_law__1598 ?_
    refine q_is ev1 ?_
    refine lv_aload_n hx hb dL_law__1599 rfl (lv_at hl 3 rfl) ?_
    refine w_run (r := mws cI mad M) (st1 := [.int (kW 1 k)]) (vx_runSW (As := [.ref (ad 0), .int v1, .ref oa]) (rest := []) ⟨hx, hb, hml, hown, hts⟩ (cw_bestGate (A := AR (fun q : Nat => s.heap.size ≤ q) (mws cI mad M)) htr hf (fun k9 e9 => by cases e9; exact hk)) (vx_cwSW 3 hts gT_L_bestGate rfl rfl rfl (by decide +kernel) ⟨Nat.le_of_ble_eq_true rfl, Nat.le_of_ble_eq_true rfl⟩) ⟨w_blind, fun U hU hW => ⟨rfl, f_PX hw hO hA hU hW, va_K.moved hW.alike hKL, NC.moved hW.alike hNC⟩⟩ rfl rfl hl.1 rfl (lv_room (Nat.le_of_ble_eq_true rfl)) dL_law__1600 ⟨by show _ ≤ 601024; omega, by show _ ≤ 7293034; omega⟩) hw rfl (fun H locs hw => ?_)
    have hw : WH D cI cR (fun q : Nat => s.heap.size ≤ q) ((xws cI cR ad O K ++ oc cL oa g) ++ mws cI mad M) s H locs := hw
    refine lv_istore (lv' := [(5, .int (kW 1 k)), (0, .ref b), (1, .ref (ad 0)), (2, .ref (mad 0)), (3, .ref oa), (4, .int x4)]) hx hb dL_law__1603 hl (by decide) rfl (fun ls hl => ?_)
    refine lv_aload_n hx hb dL_law__1605 rfl (lv_at hl 3 rfl) ?_
    refine lv_aload_n hx hb dL_law__1606 rfl (lv_at hl 1 rfl) ?_
    refine lv_iload hx hb dL_law__1607 (lv_at hl 5 rfl) ?_
    refine lv_iconst (v := 1) hx hb dL_law__1609 (by decide) ?_
    refine lv_iadd hx hb dL_law__1610 ?_
    refine va_sld hx hb hX hbl hbA hw.2.2.2.1 hin1 dL_law__1611 ?_
    refine q_is ev1 ?_
    have hw := hw.swap
    refine w_run (r := (xws cI cR ad O K ++ oc cL oa g)) (st1 := [.int r]) (va_runV (b := mad 0) (As := [.int v1]) (rest := []) ⟨hx, hb, hml, hown, hts⟩ (c_X6_bestGate (cR := cR) (A := AR (fun q : Nat => s.heap.size ≤ q) (xws cI cR ad O K ++ oc cL oa g)) hm) (cwV 1 hts gT_X6_bestGate rfl rfl rfl (by decide +kernel) ⟨Nat.le_of_ble_eq_true rfl, Nat.le_of_ble_eq_true rfl⟩) ⟨q_blind, va_recv hw.2.1 (f_sub hw).1 (ci := 6) (q0 := 0) rfl ma_0, fun U hU hW => ⟨rfl, f_WB hw hU hW⟩⟩ rfl rfl hl.1 rfl (lv_room (Nat.le_of_ble_eq_true rfl)) dL_law__1612 ⟨by show _ ≤ 601024; omega, by show _ ≤ 7293034; omega⟩) hw rfl (fun H locs hw => ?_)
    refine lv_istore (lv' := [(6, .int r), (5, .int (kW 1 k)), (0, .ref b), (1, .ref (ad 0)), (2, .ref (mad 0)), (3, .ref oa), (4, .int x4)]) hx hb dL_law__1615 hl (by decide) rfl (fun ls hl => ?_)
    refine lv_aload_n hx hb dL_law__1617 rfl (lv_at hl 4 rfl) ?_
    refine w_run (r := (xws cI cR ad O K ++ oc cL oa g)) (st1 := [.int (kW 1 k)]) (va_runV (b := mad 0) (As := []) (rest := []) ⟨hx, hb, hml, hown, hts⟩ (c_X6_thrown (cR := cR) (A := AR (fun q : Nat => s.heap.size ≤ q) (xws cI cR ad O K ++ oc cL oa g)) ht) (cwV 0 hts gT_X6_thrown rfl rfl rfl (by decide +kernel) ⟨Nat.le_of_ble_eq_true rfl, Nat.le_of_ble_eq_true rfl⟩) ⟨q_blind, va_recv hw.2.1 (f_sub hw).1 (ci := 6) (q0 := 0) rfl ma_0, fun U hU hW => ⟨rfl, f_WB hw hU hW⟩⟩ rfl rfl hl.1 rfl (lv_room (Nat.le_of_ble_eq_true rfl)) dL_law__1618 ⟨by show _ ≤ 601024; omega, by show _ ≤ 7293034; omega⟩) hw rfl (fun H locs hw => ?_)
    have hw := hw.swap
    refine lv_iload hx hb dL_law__1621 (lv_at hl 1 rfl) ?_
    refine lv_icmp_eq (tgt := 1628) hx hb dL_law__1623 (by decide) (fun hc => ?_) (fun hc => absurd rfl hc)
    refine lv_iload hx hb dL_law__1628 (lv_at hl 1 rfl) ?_
    refine lv_if_ne (tgt := 1645) hx hb dL_law__1630 (by decide) (fun hc => ?_) (fun hc => absurd hc (kW_ne _ _))
    refine lv_goto (tgt := 1771) hx hb dL_law__1645 (by decide) ?_
    exact T _ _ _ _ H locs ls _ _ hR hw (lv_sub hl [2, 3, 4, 5, 6] rfl) (by omega) (by omega)
  · refine lv_aload_n hx hb dL_law__1592 rfl (lv_at hl 1 rfl) ?_
    refine lv_aload_n hx hb dL_law__1593 rfl (lv_at hl 0 rfl) ?_
    refine lv_iload hx hb dL_law__1594 (lv_at hl 4 rfl) ?_
    refine lv_iconst (v := 1) hx hb dL_law__1596 (by decide) ?_
    refine lv_iadd hx hb dL_law__1597 ?_
    refine va_sld hx hb hX hbl hbA hw.2.2.2.1 hin1 dL_law__1598 ?_
    refine q_is ev1 ?_
    refine lv_aload_n hx hb dL_law__1599 rfl (lv_at hl 3 rfl) ?_
    refine w_run (r := mws cI mad M) (st1 := [.int (0)]) (vx_runSW (As := [.ref (ad 0), .int v1, .ref oa]) (rest := []) ⟨hx, hb, hml, hown, hts⟩ (cw_bestGate (A := AR (fun q : Nat => s.heap.size ≤ q) (mws cI mad M)) htr hf (fun k9 e9 => nomatch e9)) (vx_cwSW 3 hts gT_L_bestGate rfl rfl rfl (by decide +kernel) ⟨Nat.le_of_ble_eq_true rfl, Nat.le_of_ble_eq_true rfl⟩) ⟨w_blind, fun U hU hW => ⟨rfl, f_PX hw hO hA hU hW, va_K.moved hW.alike hKL, NC.moved hW.alike hNC⟩⟩ rfl rfl hl.1 rfl (lv_room (Nat.le_of_ble_eq_true rfl)) dL_law__1600 ⟨by show _ ≤ 601024; omega, by show _ ≤ 7293034; omega⟩) hw rfl (fun H locs hw => ?_)
    have hw : WH D cI cR (fun q : Nat => s.heap.size ≤ q) ((xws cI cR ad O K ++ oc cL oa (ocu g r.toInt64)) ++ mws cI mad M) s H locs := hw
    refine lv_istore (lv' := [(5, .int (0)), (0, .ref b), (1, .ref (ad 0)), (2, .ref (mad 0)), (3, .ref oa), (4, .int x4)]) hx hb dL_law__1603 hl (by decide) rfl (fun ls hl => ?_)
    refine lv_aload_n hx hb dL_law__1605 rfl (lv_at hl 3 rfl) ?_
    refine lv_aload_n hx hb dL_law__1606 rfl (lv_at hl 1 rfl) ?_
    refine lv_iload hx hb dL_law__1607 (lv_at hl 5 rfl) ?_
    refine lv_iconst (v := 1) hx hb dL_law__1609 (by decide) ?_
    refine lv_iadd hx hb dL_law__1610 ?_
    refine va_sld hx hb hX hbl hbA hw.2.2.2.1 hin1 dL_law__1611 ?_
    refine q_is ev1 ?_
    have hw := hw.swap
    refine w_run (r := (xws cI cR ad O K ++ oc cL oa (ocu g r.toInt64))) (st1 := [.int r]) (va_runV (b := mad 0) (As := [.int v1]) (rest := []) ⟨hx, hb, hml, hown, hts⟩ (c_X6_bestGate (cR := cR) (A := AR (fun q : Nat => s.heap.size ≤ q) (xws cI cR ad O K ++ oc cL oa (ocu g r.toInt64))) hm) (cwV 1 hts gT_X6_bestGate rfl rfl rfl (by decide +kernel) ⟨Nat.le_of_ble_eq_true rfl, Nat.le_of_ble_eq_true rfl⟩) ⟨q_blind, va_recv hw.2.1 (f_sub hw).1 (ci := 6) (q0 := 0) rfl ma_0, fun U hU hW => ⟨rfl, f_WB hw hU hW⟩⟩ rfl rfl hl.1 rfl (lv_room (Nat.le_of_ble_eq_true rfl)) dL_law__1612 ⟨by show _ ≤ 601024; omega, by show _ ≤ 7293034; omega⟩) hw rfl (fun H locs hw => ?_)
    refine lv_istore (lv' := [(6, .int r), (5, .int (0)), (0, .ref b), (1, .ref (ad 0)), (2, .ref (mad 0)), (3, .ref oa), (4, .int x4)]) hx hb dL_law__1615 hl (by decide) rfl (fun ls hl => ?_)
    refine lv_aload_n hx hb dL_law__1617 rfl (lv_at hl 4 rfl) ?_
    refine w_run (r := (xws cI cR ad O K ++ oc cL oa (ocu g r.toInt64))) (st1 := [.int (0)]) (va_runV (b := mad 0) (As := []) (rest := []) ⟨hx, hb, hml, hown, hts⟩ (c_X6_thrown (cR := cR) (A := AR (fun q : Nat => s.heap.size ≤ q) (xws cI cR ad O K ++ oc cL oa (ocu g r.toInt64))) ht) (cwV 0 hts gT_X6_thrown rfl rfl rfl (by decide +kernel) ⟨Nat.le_of_ble_eq_true rfl, Nat.le_of_ble_eq_true rfl⟩) ⟨q_blind, va_recv hw.2.1 (f_sub hw).1 (ci := 6) (q0 := 0) rfl ma_0, fun U hU hW => ⟨rfl, f_WB hw hU hW⟩⟩ rfl rfl hl.1 rfl (lv_room (Nat.le_of_ble_eq_true rfl)) dL_law__1618 ⟨by show _ ≤ 601024; omega, by show _ ≤ 7293034; omega⟩) hw rfl (fun H locs hw => ?_)
    have hw := hw.swap
    refine lv_iload hx hb dL_law__1621 (lv_at hl 1 rfl) ?_
    refine lv_icmp_eq (tgt := 1628) hx hb dL_law__1623 (by decide) (fun hc => ?_) (fun hc => absurd rfl hc)
    refine lv_iload hx hb dL_law__1628 (lv_at hl 1 rfl) ?_
    refine lv_if_ne (tgt := 1645) hx hb dL_law__1630 (by decide) (fun hc => absurd rfl hc) (fun hc => ?_)
    refine lv_aload_n hx hb dL_law__1633 rfl (lv_at hl 5 rfl) ?_
    refine lv_iconst (v := 0) hx hb dL_law__1634 (by decide) ?_
    refine va_lald hx hb hKL hw.1 ((xws cI cR ad O K).length + 0) 0 (by rw [List.append_assoc]; exact wg.trans rfl) rfl (inb_in (by decide)) dL_law__1635 ?_
    rw [oc_up]
    refine lv_iload hx hb dL_law__1636 (lv_at hl 0 rfl) ?_
    refine lv_i2l hx hb dL_law__1638 rfl ?_
    refine W.lcmp hx hb dL_law__1639 ?_
    refine q_is (lg_self _).symm ?_
    refine lv_if_eq (tgt := 1645) hx hb dL_law__1640 (by decide) (fun hc => ?_) (fun hc => absurd rfl hc)
    refine lv_goto (tgt := 1771) hx hb dL_law__1645 (by decide) ?_
    exact T _ _ _ _ H locs ls _ _ hR hw (lv_sub hl [2, 3, 4, 5, 6] rfl) (by omega) (by omega)
