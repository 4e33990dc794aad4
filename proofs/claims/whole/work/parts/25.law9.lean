set_option maxHeartbeats 4000000 in
set_option maxRecDepth 100000 in
theorem law_27 {p : Program} {l : Launch} {e : Env} {s : State} {m : MethodId} {below : List Frame} {meth : Method} {c : Code} {D : va_G} {cI cR cL : ClassId} {ad mad : Nat → Nat} {oa b L : Nat} {xs : Nat → Int32} {R : Nat → XO → RK → MS → Prop} {Q : State → Prop} {it : Nat} {x4 : Int32} (hC : LC p l e s m below meth c D cI cR cL ad mad oa b L xs) (hSim : Sim R) (hit : it < 512) (hin1 : vp_in (x4 + 1) L) (hin2 : vp_in (x4 + 2) L) (hin3 : vp_in (x4 + 3) L) (T : LT R p l e s m below meth c D cI cR cL ad mad oa b Q (it + 1) x4 1771) : LT R p l e s m below meth c D cI cR cL ad mad oa b Q it x4 1648 := by
  intro O K g M H locs ls cells slots hR hw hl hc1 hc2
  obtain ⟨hx, hb, hml, hown, hts, htr, hO, hKL, hNC, hX, hbl⟩ := hC
  have hA : ∀ q : Nat, s.heap.size ≤ q → s.heap.size ≤ q := fun _ h => h
  have hbA : ¬ s.heap.size ≤ b := Nat.not_le.mpr hbl
  obtain ⟨v1, ev1⟩ : ∃ v, v = xs ((x4 + 1).toNatClampNeg) := ⟨_, rfl⟩
  obtain ⟨v2, ev2⟩ : ∃ v, v = xs ((x4 + 2).toNatClampNeg) := ⟨_, rfl⟩
  obtain ⟨v3, ev3⟩ : ∃ v, v = xs ((x4 + 3).toNatClampNeg) := ⟨_, rfl⟩
  obtain ⟨r, t, M1, hm, ht, hres⟩ := hSim.2.2.2.2.2.2.2.2.2.2.2.2.2.2.2.2.2.2.2.2.2.2.2.2.2.2.2.2.2.1 it O K M v1 v2 hit hR
  rcases hres with ⟨k, hk, hf, rfl, hR⟩ | ⟨u, hf, rfl, rfl, hR⟩
  · refine lv_aload_n hx hb dL_law__1648 rfl (lv_at hl 1 rfl) ?_
    refine lv_aload_n hx hb dL_law__1649 rfl (lv_at hl 0 rfl) ?_
    refine lv_iload hx hb dL_law__1650 (lv_at hl 4 rfl) ?_
    refine lv_iconst (v := 1) hx hb dL_law__1652 (by decide) ?_
    refine lv_iadd hx hb dL_law__1653 ?_
    refine va_sld hx hb hX hbl hbA hw.2.2.2.1 hin1 dL_law__1654 ?_
    refine q_is ev1 ?_
    refine lv_aload_n hx hb dL_law__1655 rfl (lv_at hl 0 rfl) ?_
    refine lv_iload hx hb dL_law__1656 (lv_at hl 4 rfl) ?_
    refine lv_iconst (v := 2) hx hb dL_law__1658 (by decide) ?_
    refine lv_iadd hx hb dL_law__1659 ?_
    refine va_sld hx hb hX hbl hbA hw.2.2.2.1 hin2 dL_law__1660 ?_
    refine q_is ev2 ?_
    refine lv_aload_n hx hb dL_law__1661 rfl (lv_at hl 3 rfl) ?_
    refine w_run (r := mws cI mad M) (st1 := [.int (kW 1 k)]) (vx_runSW (As := [.ref (ad 0), .int v1, .int v2, .ref oa]) (rest := []) ⟨hx, hb, hml, hown, hts⟩ (cw_freeIn (A := AR (fun q : Nat => s.heap.size ≤ q) (mws cI mad M)) htr hf (fun k9 e9 => by cases e9; exact hk)) (vx_cwSW 4 hts gT_L_freeIn rfl rfl rfl (by decide +kernel) ⟨Nat.le_of_ble_eq_true rfl, Nat.le_of_ble_eq_true rfl⟩) ⟨w_blind, fun U hU hW => ⟨rfl, f_PX hw hO hA hU hW, va_K.moved hW.alike hKL, NC.moved hW.alike hNC⟩⟩ rfl rfl hl.1 rfl (lv_room (Nat.le_of_ble_eq_true rfl)) dL_law__1662 ⟨by show _ ≤ 601024; omega, by show _ ≤ 7293034; omega⟩) hw rfl (fun H locs hw => ?_)
    have hw : WH D cI cR (fun q : Nat => s.heap.size ≤ q) ((xws cI cR ad O K ++ oc cL oa g) ++ mws cI mad M) s H locs := hw
    refine lv_istore (lv' := [(5, .int (kW 1 k)), (0, .ref b), (1, .ref (ad 0)), (2, .ref (mad 0)), (3, .ref oa), (4, .int x4)]) hx hb dL_law__1665 hl (by decide) rfl (fun ls hl => ?_)
    refine lv_aload_n hx hb dL_law__1667 rfl (lv_at hl 3 rfl) ?_
    refine lv_aload_n hx hb dL_law__1668 rfl (lv_at hl 1 rfl) ?_
    refine lv_iload hx hb dL_law__1669 (lv_at hl 5 rfl) ?_
    refine lv_iconst (v := 1) hx hb dL_law__1671 (by decide) ?_
    refine lv_iadd hx hb dL_law__1672 ?_
    refine va_sld hx hb hX hbl hbA hw.2.2.2.1 hin1 dL_law__1673 ?_
    refine q_is ev1 ?_
    refine lv_aload_n hx hb dL_law__1674 rfl (lv_at hl 1 rfl) ?_
    refine lv_iload hx hb dL_law__1675 (lv_at hl 5 rfl) ?_
    refine lv_iconst (v := 2) hx hb dL_law__1677 (by decide) ?_
    refine lv_iadd hx hb dL_law__1678 ?_
    refine va_sld hx hb hX hbl hbA hw.2.2.2.1 hin2 dL_law__1679 ?_
    refine q_is ev2 ?_
    have hw := hw.swap
    refine w_run (r := (xws cI cR ad O K ++ oc cL oa g)) (st1 := [.int r]) (va_runV (b := mad 0) (As := [.int v1, .int v2]) (rest := []) ⟨hx, hb, hml, hown, hts⟩ (c_X6_freeIn (cR := cR) (A := AR (fun q : Nat => s.heap.size ≤ q) (xws cI cR ad O K ++ oc cL oa g)) hm) (cwV 2 hts gT_X6_freeIn rfl rfl rfl (by decide +kernel) ⟨Nat.le_of_ble_eq_true rfl, Nat.le_of_ble_eq_true rfl⟩) ⟨q_blind, va_recv hw.2.1 (f_sub hw).1 (ci := 6) (q0 := 0) rfl ma_0, fun U hU hW => ⟨rfl, f_WB hw hU hW⟩⟩ rfl rfl hl.1 rfl (lv_room (Nat.le_of_ble_eq_true rfl)) dL_law__1680 ⟨by show _ ≤ 601024; omega, by show _ ≤ 7293034; omega⟩) hw rfl (fun H locs hw => ?_)
    refine lv_istore (lv' := [(6, .int r), (5, .int (kW 1 k)), (0, .ref b), (1, .ref (ad 0)), (2, .ref (mad 0)), (3, .ref oa), (4, .int x4)]) hx hb dL_law__1683 hl (by decide) rfl (fun ls hl => ?_)
    refine lv_aload_n hx hb dL_law__1685 rfl (lv_at hl 4 rfl) ?_
    refine w_run (r := (xws cI cR ad O K ++ oc cL oa g)) (st1 := [.int (kW 1 k)]) (va_runV (b := mad 0) (As := []) (rest := []) ⟨hx, hb, hml, hown, hts⟩ (c_X6_thrown (cR := cR) (A := AR (fun q : Nat => s.heap.size ≤ q) (xws cI cR ad O K ++ oc cL oa g)) ht) (cwV 0 hts gT_X6_thrown rfl rfl rfl (by decide +kernel) ⟨Nat.le_of_ble_eq_true rfl, Nat.le_of_ble_eq_true rfl⟩) ⟨q_blind, va_recv hw.2.1 (f_sub hw).1 (ci := 6) (q0 := 0) rfl ma_0, fun U hU hW => ⟨rfl, f_WB hw hU hW⟩⟩ rfl rfl hl.1 rfl (lv_room (Nat.le_of_ble_eq_true rfl)) dL_law__1686 ⟨by show _ ≤ 601024; omega, by show _ ≤ 7293034; omega⟩) hw rfl (fun H locs hw => ?_)
    have hw := hw.swap
    refine lv_iload hx hb dL_law__1689 (lv_at hl 1 rfl) ?_
    refine lv_icmp_eq (tgt := 1696) hx hb dL_law__1691 (by decide) (fun hc => ?_) (fun hc => absurd rfl hc)
    refine lv_iload hx hb dL_law__1696 (lv_at hl 1 rfl) ?_
    refine lv_if_ne (tgt := 1713) hx hb dL_law__1698 (by decide) (fun hc => ?_) (fun hc => absurd hc (kW_ne _ _))
    refine lv_goto (tgt := 1771) hx hb dL_law__1713 (by decide) ?_
    exact T _ _ _ _ H locs ls _ _ hR hw (lv_sub hl [2, 3, 4, 5, 6] rfl) (by omega) (by omega)
  · refine lv_aload_n hx hb dL_law__1648 rfl (lv_at hl 1 rfl) ?_
    refine lv_aload_n hx hb dL_law__1649 rfl (lv_at hl 0 rfl) ?_
    refine lv_iload hx hb dL_law__1650 (lv_at hl 4 rfl) ?_
    refine lv_iconst (v := 1) hx hb dL_law__1652 (by decide) ?_
    refine lv_iadd hx hb dL_law__1653 ?_
    refine va_sld hx hb hX hbl hbA hw.2.2.2.1 hin1 dL_law__1654 ?_
    refine q_is ev1 ?_
    refine lv_aload_n hx hb dL_law__1655 rfl (lv_at hl 0 rfl) ?_
    refine lv_iload hx hb dL_law__1656 (lv_at hl 4 rfl) ?_
    refine lv_iconst (v := 2) hx hb dL_law__1658 (by decide) ?_
    refine lv_iadd hx hb dL_law__1659 ?_
    refine va_sld hx hb hX hbl hbA hw.2.2.2.1 hin2 dL_law__1660 ?_
    refine q_is ev2 ?_
    refine lv_aload_n hx hb dL_law__1661 rfl (lv_at hl 3 rfl) ?_
    refine w_run (r := mws cI mad M) (st1 := [.int (0)]) (vx_runSW (As := [.ref (ad 0), .int v1, .int v2, .ref oa]) (rest := []) ⟨hx, hb, hml, hown, hts⟩ (cw_freeIn (A := AR (fun q : Nat => s.heap.size ≤ q) (mws cI mad M)) htr hf (fun k9 e9 => nomatch e9)) (vx_cwSW 4 hts gT_L_freeIn rfl rfl rfl (by decide +kernel) ⟨Nat.le_of_ble_eq_true rfl, Nat.le_of_ble_eq_true rfl⟩) ⟨w_blind, fun U hU hW => ⟨rfl, f_PX hw hO hA hU hW, va_K.moved hW.alike hKL, NC.moved hW.alike hNC⟩⟩ rfl rfl hl.1 rfl (lv_room (Nat.le_of_ble_eq_true rfl)) dL_law__1662 ⟨by show _ ≤ 601024; omega, by show _ ≤ 7293034; omega⟩) hw rfl (fun H locs hw => ?_)
    have hw : WH D cI cR (fun q : Nat => s.heap.size ≤ q) ((xws cI cR ad O K ++ oc cL oa (ocu g r.toInt64)) ++ mws cI mad M) s H locs := hw
    refine lv_istore (lv' := [(5, .int (0)), (0, .ref b), (1, .ref (ad 0)), (2, .ref (mad 0)), (3, .ref oa), (4, .int x4)]) hx hb dL_law__1665 hl (by decide) rfl (fun ls hl => ?_)
    refine lv_aload_n hx hb dL_law__1667 rfl (lv_at hl 3 rfl) ?_
    refine lv_aload_n hx hb dL_law__1668 rfl (lv_at hl 1 rfl) ?_
    refine lv_iload hx hb dL_law__1669 (lv_at hl 5 rfl) ?_
    refine lv_iconst (v := 1) hx hb dL_law__1671 (by decide) ?_
    refine lv_iadd hx hb dL_law__1672 ?_
    refine va_sld hx hb hX hbl hbA hw.2.2.2.1 hin1 dL_law__1673 ?_
    refine q_is ev1 ?_
    refine lv_aload_n hx hb dL_law__1674 rfl (lv_at hl 1 rfl) ?_
    refine lv_iload hx hb dL_law__1675 (lv_at hl 5 rfl) ?_
    refine lv_iconst (v := 2) hx hb dL_law__1677 (by decide) ?_
    refine lv_iadd hx hb dL_law__1678 ?_
    refine va_sld hx hb hX hbl hbA hw.2.2.2.1 hin2 dL_law__1679 ?_
    refine q_is ev2 ?_
    have hw := hw.swap
    refine w_run (r := (xws cI cR ad O K ++ oc cL oa (ocu g r.toInt64))) (st1 := [.int r]) (va_runV (b := mad 0) (As := [.int v1, .int v2]) (rest := []) ⟨hx, hb, hml, hown, hts⟩ (c_X6_freeIn (cR := cR) (A := AR (fun q : Nat => s.heap.size ≤ q) (xws cI cR ad O K ++ oc cL oa (ocu g r.toInt64))) hm) (cwV 2 hts gT_X6_freeIn rfl rfl rfl (by decide +kernel) ⟨Nat.le_of_ble_eq_true rfl, Nat.le_of_ble_eq_true rfl⟩) ⟨q_blind, va_recv hw.2.1 (f_sub hw).1 (ci := 6) (q0 := 0) rfl ma_0, fun U hU hW => ⟨rfl, f_WB hw hU hW⟩⟩ rfl rfl hl.1 rfl (lv_room (Nat.le_of_ble_eq_true rfl)) dL_law__1680 ⟨by show _ ≤ 601024; omega, by show _ ≤ 7293034; omega⟩) hw rfl (fun H locs hw => ?_)
    refine lv_istore (lv' := [(6, .int r), (5, .int (0)), (0, .ref b), (1, .ref (ad 0)), (2, .ref (mad 0)), (3, .ref oa), (4, .int x4)]) hx hb dL_law__1683 hl (by decide) rfl (fun ls hl => ?_)
    refine lv_aload_n hx hb dL_law__1685 rfl (lv_at hl 4 rfl) ?_
    refine w_run (r := (xws cI cR ad O K ++ oc cL oa (ocu g r.toInt64))) (st1 := [.int (0)]) (va_runV (b := mad 0) (As := []) (rest := []) ⟨hx, hb, hml, hown, hts⟩ (c_X6_thrown (cR := cR) (A := AR (fun q : Nat => s.heap.size ≤ q) (xws cI cR ad O K ++ oc cL oa (ocu g r.toInt64))) ht) (cwV 0 hts gT_X6_thrown rfl rfl rfl (by decide +kernel) ⟨Nat.le_of_ble_eq_true rfl, Nat.le_of_ble_eq_true rfl⟩) ⟨q_blind, va_recv hw.2.1 (f_sub hw).1 (ci := 6) (q0 := 0) rfl ma_0, fun U hU hW => ⟨rfl, f_WB hw hU hW⟩⟩ rfl rfl hl.1 rfl (lv_room (Nat.le_of_ble_eq_true rfl)) dL_law__1686 ⟨by show _ ≤ 601024; omega, by show _ ≤ 7293034; omega⟩) hw rfl (fun H locs hw => ?_)
    have hw := hw.swap
    refine lv_iload hx hb dL_law__1689 (lv_at hl 1 rfl) ?_
    refine lv_icmp_eq (tgt := 1696) hx hb dL_law__1691 (by decide) (fun hc => ?_) (fun hc => absurd rfl hc)
    refine lv_iload hx hb dL_law__1696 (lv_at hl 1 rfl) ?_
    refine lv_if_ne (tgt := 1713) hx hb dL_law__1698 (by decide) (fun hc => absurd rfl hc) (fun hc => ?_)
    refine lv_aload_n hx hb dL_law__1701 rfl (lv_at hl 5 rfl) ?_
    refine lv_iconst (v := 0) hx hb dL_law__1702 (by decide) ?_
    refine va_lald hx hb hKL hw.1 ((xws cI cR ad O K).length + 0) 0 (by rw [List.append_assoc]; exact wg.trans rfl) rfl (inb_in (by decide)) dL_law__1703 ?_
    rw [oc_up]
    refine lv_iload hx hb dL_law__1704 (lv_at hl 0 rfl) ?_
    refine lv_i2l hx hb dL_law__1706 rfl ?_
    refine W.lcmp hx hb dL_law__1707 ?_
    refine q_is (lg_self _).symm ?_
    refine lv_if_eq (tgt := 1713) hx hb dL_law__1708 (by decide) (fun hc => ?_) (fun hc => absurd rfl hc)
    refine lv_goto (tgt := 1771) hx hb dL_law__1713 (by decide) ?_
    exact T _ _ _ _ H locs ls _ _ hR hw (lv_sub hl [2, 3, 4, 5, 6] rfl) (by omega) (by omega)
set_option maxHeartbeats 4000000 in
set_option maxRecDepth 100000 in
theorem law_28 {p : Program} {l : Launch} {e : Env} {s : State} {m : MethodId} {below : List Frame} {meth : Method} {c : Code} {D : va_G} {cI cR cL : ClassId} {ad mad : Nat → Nat} {oa b L : Nat} {xs : Nat → Int32} {R : Nat → XO → RK → MS → Prop} {Q : State → Prop} {it : Nat} {x4 : Int32} (hC : LC p l e s m below meth c D cI cR cL ad mad oa b L xs) (hSim : Sim R) (hit : it < 512) (hin1 : vp_in (x4 + 1) L) (hin2 : vp_in (x4 + 2) L) (hin3 : vp_in (x4 + 3) L) (T : LT R p l e s m below meth c D cI cR cL ad mad oa b Q (it + 1) x4 1771) : LT R p l e s m below meth c D cI cR cL ad mad oa b Q it x4 1716 := by
  intro O K g M H locs ls cells slots hR hw hl hc1 hc2
  obtain ⟨hx, hb, hml, hown, hts, htr, hO, hKL, hNC, hX, hbl⟩ := hC
  have hA : ∀ q : Nat, s.heap.size ≤ q → s.heap.size ≤ q := fun _ h => h
  have hbA : ¬ s.heap.size ≤ b := Nat.not_le.mpr hbl
  obtain ⟨v1, ev1⟩ : ∃ v, v = xs ((x4 + 1).toNatClampNeg) := ⟨_, rfl⟩
  obtain ⟨v2, ev2⟩ : ∃ v, v = xs ((x4 + 2).toNatClampNeg) := ⟨_, rfl⟩
  obtain ⟨v3, ev3⟩ : ∃ v, v = xs ((x4 + 3).toNatClampNeg) := ⟨_, rfl⟩
  obtain ⟨r, M1, hf, hm, hR⟩ := hSim.2.2.2.2.2.2.2.2.2.2.2.2.2.2.2.2.2.2.2.2.2.2.2.2.2.2.2.2.2.2.1 it O K M hit hR
  refine lv_aload_n hx hb dL_law__1716 rfl (lv_at hl 1 rfl) ?_
  have hw : WH D cI cR (fun q : Nat => s.heap.size ≤ q) (xws cI cR ad O K ++ (oc cL oa g ++ mws cI mad M)) s H locs := hw.to (List.append_assoc _ _ _)
  refine w_run (r := oc cL oa g ++ mws cI mad M) (st1 := [.double r]) (va_runV (b := ad 0) (As := []) (rest := []) ⟨hx, hb, hml, hown, hts⟩ (c_X5_decentShare (A := AR (fun q : Nat => s.heap.size ≤ q) (oc cL oa g ++ mws cI mad M)) hf) (cwV 0 hts gT_X5_decentShare rfl rfl rfl (by decide +kernel) ⟨Nat.le_of_ble_eq_true rfl, Nat.le_of_ble_eq_true rfl⟩) ⟨q_blind, va_recv hw.2.1 (f_sub hw).1 (ci := 5) (q0 := 0) rfl xa_0, fun U hU hW => ⟨rfl, f_WB hw hU hW⟩⟩ rfl rfl hl.1 rfl (lv_room (Nat.le_of_ble_eq_true rfl)) dL_law__1717 ⟨by show _ ≤ 601024; omega, by show _ ≤ 7293034; omega⟩) hw rfl (fun H locs hw => ?_)
  have hw : WH D cI cR (fun q : Nat => s.heap.size ≤ q) ((xws cI cR ad O K ++ oc cL oa g) ++ mws cI mad M) s H locs := hw.to (List.append_assoc _ _ _).symm
  refine lv_dstore (lv' := [(5, .double r), (0, .ref b), (1, .ref (ad 0)), (2, .ref (mad 0)), (3, .ref oa), (4, .int x4)]) hx hb dL_law__1720 hl (by decide) rfl (fun ls hl => ?_)
  refine lv_aload_n hx hb dL_law__1722 rfl (lv_at hl 3 rfl) ?_
  have hw := hw.swap
  refine w_run (r := (xws cI cR ad O K ++ oc cL oa g)) (st1 := [.double r]) (va_runV (b := mad 0) (As := []) (rest := []) ⟨hx, hb, hml, hown, hts⟩ (c_X6_decentShare (cR := cR) (A := AR (fun q : Nat => s.heap.size ≤ q) (xws cI cR ad O K ++ oc cL oa g)) hm) (cwV 0 hts gT_X6_decentShare rfl rfl rfl (by decide +kernel) ⟨Nat.le_of_ble_eq_true rfl, Nat.le_of_ble_eq_true rfl⟩) ⟨q_blind, va_recv hw.2.1 (f_sub hw).1 (ci := 6) (q0 := 0) rfl ma_0, fun U hU hW => ⟨rfl, f_WB hw hU hW⟩⟩ rfl rfl hl.1 rfl (lv_room (Nat.le_of_ble_eq_true rfl)) dL_law__1723 ⟨by show _ ≤ 601024; omega, by show _ ≤ 7293034; omega⟩) hw rfl (fun H locs hw => ?_)
  have hw := hw.swap
  refine lv_dstore (lv' := [(7, .double r), (5, .double r), (0, .ref b), (1, .ref (ad 0)), (2, .ref (mad 0)), (3, .ref oa), (4, .int x4)]) hx hb dL_law__1726 hl (by decide) rfl (fun ls hl => ?_)
  refine lv_dload hx hb dL_law__1728 (lv_at hl 1 rfl) ?_
  refine lv_dload hx hb dL_law__1730 (lv_at hl 0 rfl) ?_
  refine lv_dcmp hx hb dL_law__1732 ?_
  refine lv_if_eq (tgt := 1754) hx hb dL_law__1733 (by decide) (fun hc => ?_) (fun hc => ?_)
  · refine lv_goto (tgt := 1771) hx hb dL_law__1754 (by decide) ?_
    exact T _ _ _ _ H locs ls _ _ hR hw (lv_sub hl [2, 3, 4, 5, 6] rfl) (by omega) (by omega)
  · refine lv_dload hx hb dL_law__1736 (lv_at hl 1 rfl) ?_
    refine lv_dload hx hb dL_law__1738 (lv_at hl 1 rfl) ?_
    refine lv_dcmp hx hb dL_law__1740 ?_
    refine lv_if_eq (tgt := 1752) hx hb dL_law__1741 (by decide) (fun hc2 => absurd hc2 hc) (fun hc2 => ?_)
    refine lv_dload hx hb dL_law__1744 (lv_at hl 0 rfl) ?_
    refine lv_dload hx hb dL_law__1746 (lv_at hl 0 rfl) ?_
    refine lv_dcmp hx hb dL_law__1748 ?_
    refine lv_if_ne (tgt := 1754) hx hb dL_law__1749 (by decide) (fun hc3 => ?_) (fun hc3 => absurd hc3 hc)
    refine lv_goto (tgt := 1771) hx hb dL_law__1754 (by decide) ?_
    exact T _ _ _ _ H locs ls _ _ hR hw (lv_sub hl [2, 3, 4, 5, 6] rfl) (by omega) (by omega)
set_option maxHeartbeats 4000000 in
set_option maxRecDepth 100000 in
theorem law_29 {p : Program} {l : Launch} {e : Env} {s : State} {m : MethodId} {below : List Frame} {meth : Method} {c : Code} {D : va_G} {cI cR cL : ClassId} {ad mad : Nat → Nat} {oa b L : Nat} {xs : Nat → Int32} {R : Nat → XO → RK → MS → Prop} {Q : State → Prop} {it : Nat} {x4 : Int32} (hC : LC p l e s m below meth c D cI cR cL ad mad oa b L xs) (hSim : Sim R) (hit : it < 512) (hin1 : vp_in (x4 + 1) L) (hin2 : vp_in (x4 + 2) L) (hin3 : vp_in (x4 + 3) L) (T : LT R p l e s m below meth c D cI cR cL ad mad oa b Q (it + 1) x4 1771) : LT R p l e s m below meth c D cI cR cL ad mad oa b Q it x4 1757 := by
  intro O K g M H locs ls cells slots hR hw hl hc1 hc2
  obtain ⟨hx, hb, hml, hown, hts, htr, hO, hKL, hNC, hX, hbl⟩ := hC
  have hA : ∀ q : Nat, s.heap.size ≤ q → s.heap.size ≤ q := fun _ h => h
  have hbA : ¬ s.heap.size ≤ b := Nat.not_le.mpr hbl
  obtain ⟨v1, ev1⟩ : ∃ v, v = xs ((x4 + 1).toNatClampNeg) := ⟨_, rfl⟩
  obtain ⟨v2, ev2⟩ : ∃ v, v = xs ((x4 + 2).toNatClampNeg) := ⟨_, rfl⟩
  obtain ⟨v3, ev3⟩ : ∃ v, v = xs ((x4 + 3).toNatClampNeg) := ⟨_, rfl⟩
  obtain ⟨r, M1, hf, hm, hR⟩ := hSim.2.2.2.2.2.2.2.2.2.2.2.2.2.2.2.2.2.2.2.2.2.2.2.2.2.2.2.2.2.2.2 it O K M hit hR
  refine lv_aload_n hx hb dL_law__1757 rfl (lv_at hl 1 rfl) ?_
  have hw : WH D cI cR (fun q : Nat => s.heap.size ≤ q) (xws cI cR ad O K ++ (oc cL oa g ++ mws cI mad M)) s H locs := hw.to (List.append_assoc _ _ _)
  refine w_run (r := oc cL oa g ++ mws cI mad M) (st1 := [.long r]) (va_runV (b := ad 0) (As := []) (rest := []) ⟨hx, hb, hml, hown, hts⟩ (c_X5_digest (A := AR (fun q : Nat => s.heap.size ≤ q) (oc cL oa g ++ mws cI mad M)) hf) (cwV 0 hts gT_X5_digest rfl rfl rfl (by decide +kernel) ⟨Nat.le_of_ble_eq_true rfl, Nat.le_of_ble_eq_true rfl⟩) ⟨q_blind, va_recv hw.2.1 (f_sub hw).1 (ci := 5) (q0 := 0) rfl xa_0, fun U hU hW => ⟨rfl, f_WB hw hU hW⟩⟩ rfl rfl hl.1 rfl (lv_room (Nat.le_of_ble_eq_true rfl)) dL_law__1758 ⟨by show _ ≤ 601024; omega, by show _ ≤ 7293034; omega⟩) hw rfl (fun H locs hw => ?_)
  have hw : WH D cI cR (fun q : Nat => s.heap.size ≤ q) ((xws cI cR ad O K ++ oc cL oa g) ++ mws cI mad M) s H locs := hw.to (List.append_assoc _ _ _).symm
  refine lv_aload_n hx hb dL_law__1761 rfl (lv_at hl 2 rfl) ?_
  have hw := hw.swap
  refine w_run (r := (xws cI cR ad O K ++ oc cL oa g)) (st1 := [.long r, .long r]) (va_runV (b := mad 0) (As := []) (rest := [.long r]) ⟨hx, hb, hml, hown, hts⟩ (c_X6_digest (cR := cR) (A := AR (fun q : Nat => s.heap.size ≤ q) (xws cI cR ad O K ++ oc cL oa g)) hm) (cwV 0 hts gT_X6_digest rfl rfl rfl (by decide +kernel) ⟨Nat.le_of_ble_eq_true rfl, Nat.le_of_ble_eq_true rfl⟩) ⟨q_blind, va_recv hw.2.1 (f_sub hw).1 (ci := 6) (q0 := 0) rfl ma_0, fun U hU hW => ⟨rfl, f_WB hw hU hW⟩⟩ rfl rfl hl.1 rfl (lv_room (Nat.le_of_ble_eq_true rfl)) dL_law__1762 ⟨by show _ ≤ 601024; omega, by show _ ≤ 7293034; omega⟩) hw rfl (fun H locs hw => ?_)
  have hw := hw.swap
  refine W.lcmp hx hb dL_law__1765 ?_
  refine q_is (lg_self _).symm ?_
  refine lv_if_eq (tgt := 1771) hx hb dL_law__1766 (by decide) (fun hc => ?_) (fun hc => absurd rfl hc)
  exact T _ _ _ _ H locs ls _ _ hR hw (lv_sub hl [0, 1, 2, 3, 4] rfl) (by omega) (by omega)
