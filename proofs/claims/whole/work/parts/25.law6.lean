set_option maxHeartbeats 4000000 in
set_option maxRecDepth 100000 in
theorem law_18 {p : Program} {l : Launch} {e : Env} {s : State} {m : MethodId} {below : List Frame} {meth : Method} {c : Code} {D : va_G} {cI cR cL : ClassId} {ad mad : Nat → Nat} {oa b L : Nat} {xs : Nat → Int32} {R : Nat → XO → RK → MS → Prop} {Q : State → Prop} {it : Nat} {x4 : Int32} (hC : LC p l e s m below meth c D cI cR cL ad mad oa b L xs) (hSim : Sim R) (hit : it < 512) (hin1 : vp_in (x4 + 1) L) (hin2 : vp_in (x4 + 2) L) (hin3 : vp_in (x4 + 3) L) (T : LT R p l e s m below meth c D cI cR cL ad mad oa b Q (it + 1) x4 1771) : LT R p l e s m below meth c D cI cR cL ad mad oa b Q it x4 1056 := by
  intro O K g M H locs ls cells slots hR hw hl hc1 hc2
  obtain ⟨hx, hb, hml, hown, hts, htr, hO, hKL, hNC, hX, hbl⟩ := hC
  have hA : ∀ q : Nat, s.heap.size ≤ q → s.heap.size ≤ q := fun _ h => h
  have hbA : ¬ s.heap.size ≤ b := Nat.not_le.mpr hbl
  obtain ⟨v1, ev1⟩ : ∃ v, v = xs ((x4 + 1).toNatClampNeg) := ⟨_, rfl⟩
  obtain ⟨v2, ev2⟩ : ∃ v, v = xs ((x4 + 2).toNatClampNeg) := ⟨_, rfl⟩
  obtain ⟨v3, ev3⟩ : ∃ v, v = xs ((x4 + 3).toNatClampNeg) := ⟨_, rfl⟩
  obtain ⟨r, t, M1, hm, ht, hres⟩ := hSim.2.2.2.2.2.2.2.2.2.2.2.2.2.2.2.2.2.2.2.2.1 it O K M  hit hR
  rcases hres with ⟨k, hk, hf, rfl, hR⟩ | ⟨u, hf, rfl, rfl, hR⟩
  · refine lv_aload_n hx hb dL_law__1056 rfl (lv_at hl 1 rfl) ?_
    refine lv_aload_n hx hb dL_law__1057 rfl (lv_at hl 3 rfl) ?_
    refine w_run (r := mws cI mad M) (st1 := [.int (kW 3 k)]) (vx_runSW (As := [.ref (ad 0), .ref oa]) (rest := []) ⟨hx, hb, hml, hown, hts⟩ (cw_restore (A := AR (fun q : Nat => s.heap.size ≤ q) (mws cI mad M)) htr hf (fun k9 e9 => by cases e9; exact hk)) (vx_cwSW 2 hts gT_L_restore rfl rfl rfl (by decide +kernel) ⟨Nat.le_of_ble_eq_true rfl, Nat.le_of_ble_eq_true rfl⟩) ⟨w_blind, fun U hU hW => ⟨rfl, f_PX hw hO hA hU hW, va_K.moved hW.alike hKL, NC.moved hW.alike hNC⟩⟩ rfl rfl hl.1 rfl (lv_room (Nat.le_of_ble_eq_true rfl)) dL_law__1058 ⟨by show _ ≤ 601024; omega, by show _ ≤ 7293034; omega⟩) hw rfl (fun H locs hw => ?_)
    have hw : WH D cI cR (fun q : Nat => s.heap.size ≤ q) ((xws cI cR ad O K ++ oc cL oa g) ++ mws cI mad M) s H locs := hw
    refine lv_istore (lv' := [(5, .int (kW 3 k)), (0, .ref b), (1, .ref (ad 0)), (2, .ref (mad 0)), (3, .ref oa), (4, .int x4)]) hx hb dL_law__1061 hl (by decide) rfl (fun ls hl => ?_)
    refine lv_aload_n hx hb dL_law__1063 rfl (lv_at hl 3 rfl) ?_
    have hw := hw.swap
    refine w_run (r := (xws cI cR ad O K ++ oc cL oa g)) (st1 := [.int r]) (va_runV (b := mad 0) (As := []) (rest := []) ⟨hx, hb, hml, hown, hts⟩ (c_X6_restore (cR := cR) (A := AR (fun q : Nat => s.heap.size ≤ q) (xws cI cR ad O K ++ oc cL oa g)) hm) (cwV 0 hts gT_X6_restore rfl rfl rfl (by decide +kernel) ⟨Nat.le_of_ble_eq_true rfl, Nat.le_of_ble_eq_true rfl⟩) ⟨q_blind, va_recv hw.2.1 (f_sub hw).1 (ci := 6) (q0 := 0) rfl ma_0, fun U hU hW => ⟨rfl, f_WB hw hU hW⟩⟩ rfl rfl hl.1 rfl (lv_room (Nat.le_of_ble_eq_true rfl)) dL_law__1064 ⟨by show _ ≤ 601024; omega, by show _ ≤ 7293034; omega⟩) hw rfl (fun H locs hw => ?_)
    refine lv_istore (lv' := [(6, .int r), (5, .int (kW 3 k)), (0, .ref b), (1, .ref (ad 0)), (2, .ref (mad 0)), (3, .ref oa), (4, .int x4)]) hx hb dL_law__1067 hl (by decide) rfl (fun ls hl => ?_)
    refine lv_aload_n hx hb dL_law__1069 rfl (lv_at hl 4 rfl) ?_
    refine w_run (r := (xws cI cR ad O K ++ oc cL oa g)) (st1 := [.int (kW 3 k)]) (va_runV (b := mad 0) (As := []) (rest := []) ⟨hx, hb, hml, hown, hts⟩ (c_X6_thrown (cR := cR) (A := AR (fun q : Nat => s.heap.size ≤ q) (xws cI cR ad O K ++ oc cL oa g)) ht) (cwV 0 hts gT_X6_thrown rfl rfl rfl (by decide +kernel) ⟨Nat.le_of_ble_eq_true rfl, Nat.le_of_ble_eq_true rfl⟩) ⟨q_blind, va_recv hw.2.1 (f_sub hw).1 (ci := 6) (q0 := 0) rfl ma_0, fun U hU hW => ⟨rfl, f_WB hw hU hW⟩⟩ rfl rfl hl.1 rfl (lv_room (Nat.le_of_ble_eq_true rfl)) dL_law__1070 ⟨by show _ ≤ 601024; omega, by show _ ≤ 7293034; omega⟩) hw rfl (fun H locs hw => ?_)
    have hw := hw.swap
    refine lv_iload hx hb dL_law__1073 (lv_at hl 1 rfl) ?_
    refine lv_icmp_eq (tgt := 1080) hx hb dL_law__1075 (by decide) (fun hc => ?_) (fun hc => absurd rfl hc)
    refine lv_iload hx hb dL_law__1080 (lv_at hl 1 rfl) ?_
    refine lv_if_ne (tgt := 1097) hx hb dL_law__1082 (by decide) (fun hc => ?_) (fun hc => absurd hc (kW_ne _ _))
    refine lv_goto (tgt := 1771) hx hb dL_law__1097 (by decide) ?_
    exact T _ _ _ _ H locs ls _ _ hR hw (lv_sub hl [2, 3, 4, 5, 6] rfl) (by omega) (by omega)
  · refine lv_aload_n hx hb dL_law__1056 rfl (lv_at hl 1 rfl) ?_
    refine lv_aload_n hx hb dL_law__1057 rfl (lv_at hl 3 rfl) ?_
    refine w_run (r := mws cI mad M) (st1 := [.int (0)]) (vx_runSW (As := [.ref (ad 0), .ref oa]) (rest := []) ⟨hx, hb, hml, hown, hts⟩ (cw_restore (A := AR (fun q : Nat => s.heap.size ≤ q) (mws cI mad M)) htr hf (fun k9 e9 => nomatch e9)) (vx_cwSW 2 hts gT_L_restore rfl rfl rfl (by decide +kernel) ⟨Nat.le_of_ble_eq_true rfl, Nat.le_of_ble_eq_true rfl⟩) ⟨w_blind, fun U hU hW => ⟨rfl, f_PX hw hO hA hU hW, va_K.moved hW.alike hKL, NC.moved hW.alike hNC⟩⟩ rfl rfl hl.1 rfl (lv_room (Nat.le_of_ble_eq_true rfl)) dL_law__1058 ⟨by show _ ≤ 601024; omega, by show _ ≤ 7293034; omega⟩) hw rfl (fun H locs hw => ?_)
    have hw : WH D cI cR (fun q : Nat => s.heap.size ≤ q) ((xws cI cR ad u.2.1 u.2.2 ++ oc cL oa (ocu g u.1.toInt64)) ++ mws cI mad M) s H locs := hw
    refine lv_istore (lv' := [(5, .int (0)), (0, .ref b), (1, .ref (ad 0)), (2, .ref (mad 0)), (3, .ref oa), (4, .int x4)]) hx hb dL_law__1061 hl (by decide) rfl (fun ls hl => ?_)
    refine lv_aload_n hx hb dL_law__1063 rfl (lv_at hl 3 rfl) ?_
    have hw := hw.swap
    refine w_run (r := (xws cI cR ad u.2.1 u.2.2 ++ oc cL oa (ocu g u.1.toInt64))) (st1 := [.int u.1]) (va_runV (b := mad 0) (As := []) (rest := []) ⟨hx, hb, hml, hown, hts⟩ (c_X6_restore (cR := cR) (A := AR (fun q : Nat => s.heap.size ≤ q) (xws cI cR ad u.2.1 u.2.2 ++ oc cL oa (ocu g u.1.toInt64))) hm) (cwV 0 hts gT_X6_restore rfl rfl rfl (by decide +kernel) ⟨Nat.le_of_ble_eq_true rfl, Nat.le_of_ble_eq_true rfl⟩) ⟨q_blind, va_recv hw.2.1 (f_sub hw).1 (ci := 6) (q0 := 0) rfl ma_0, fun U hU hW => ⟨rfl, f_WB hw hU hW⟩⟩ rfl rfl hl.1 rfl (lv_room (Nat.le_of_ble_eq_true rfl)) dL_law__1064 ⟨by show _ ≤ 601024; omega, by show _ ≤ 7293034; omega⟩) hw rfl (fun H locs hw => ?_)
    refine lv_istore (lv' := [(6, .int u.1), (5, .int (0)), (0, .ref b), (1, .ref (ad 0)), (2, .ref (mad 0)), (3, .ref oa), (4, .int x4)]) hx hb dL_law__1067 hl (by decide) rfl (fun ls hl => ?_)
    refine lv_aload_n hx hb dL_law__1069 rfl (lv_at hl 4 rfl) ?_
    refine w_run (r := (xws cI cR ad u.2.1 u.2.2 ++ oc cL oa (ocu g u.1.toInt64))) (st1 := [.int (0)]) (va_runV (b := mad 0) (As := []) (rest := []) ⟨hx, hb, hml, hown, hts⟩ (c_X6_thrown (cR := cR) (A := AR (fun q : Nat => s.heap.size ≤ q) (xws cI cR ad u.2.1 u.2.2 ++ oc cL oa (ocu g u.1.toInt64))) ht) (cwV 0 hts gT_X6_thrown rfl rfl rfl (by decide +kernel) ⟨Nat.le_of_ble_eq_true rfl, Nat.le_of_ble_eq_true rfl⟩) ⟨q_blind, va_recv hw.2.1 (f_sub hw).1 (ci := 6) (q0 := 0) rfl ma_0, fun U hU hW => ⟨rfl, f_WB hw hU hW⟩⟩ rfl rfl hl.1 rfl (lv_room (Nat.le_of_ble_eq_true rfl)) dL_law__1070 ⟨by show _ ≤ 601024; omega, by show _ ≤ 7293034; omega⟩) hw rfl (fun H locs hw => ?_)
    have hw := hw.swap
    refine lv_iload hx hb dL_law__1073 (lv_at hl 1 rfl) ?_
    refine lv_icmp_eq (tgt := 1080) hx hb dL_law__1075 (by decide) (fun hc => ?_) (fun hc => absurd rfl hc)
    refine lv_iload hx hb dL_law__1080 (lv_at hl 1 rfl) ?_
    refine lv_if_ne (tgt := 1097) hx hb dL_law__1082 (by decide) (fun hc => absurd rfl hc) (fun hc => ?_)
    refine lv_aload_n hx hb dL_law__1085 rfl (lv_at hl 5 rfl) ?_
    refine lv_iconst (v := 0) hx hb dL_law__1086 (by decide) ?_
    refine va_lald hx hb hKL hw.1 ((xws cI cR ad u.2.1 u.2.2).length + 0) 0 (by rw [List.append_assoc]; exact wg.trans rfl) rfl (inb_in (by decide)) dL_law__1087 ?_
    rw [oc_up]
    refine lv_iload hx hb dL_law__1088 (lv_at hl 0 rfl) ?_
    refine lv_i2l hx hb dL_law__1090 rfl ?_
    refine W.lcmp hx hb dL_law__1091 ?_
    refine q_is (lg_self _).symm ?_
    refine lv_if_eq (tgt := 1097) hx hb dL_law__1092 (by decide) (fun hc => ?_) (fun hc => absurd rfl hc)
    refine lv_goto (tgt := 1771) hx hb dL_law__1097 (by decide) ?_
    exact T _ _ _ _ H locs ls _ _ hR hw (lv_sub hl [2, 3, 4, 5, 6] rfl) (by omega) (by omega)
set_option maxHeartbeats 4000000 in
set_option maxRecDepth 100000 in
theorem law_19 {p : Program} {l : Launch} {e : Env} {s : State} {m : MethodId} {below : List Frame} {meth : Method} {c : Code} {D : va_G} {cI cR cL : ClassId} {ad mad : Nat → Nat} {oa b L : Nat} {xs : Nat → Int32} {R : Nat → XO → RK → MS → Prop} {Q : State → Prop} {it : Nat} {x4 : Int32} (hC : LC p l e s m below meth c D cI cR cL ad mad oa b L xs) (hSim : Sim R) (hit : it < 512) (hin1 : vp_in (x4 + 1) L) (hin2 : vp_in (x4 + 2) L) (hin3 : vp_in (x4 + 3) L) (T : LT R p l e s m below meth c D cI cR cL ad mad oa b Q (it + 1) x4 1771) : LT R p l e s m below meth c D cI cR cL ad mad oa b Q it x4 1100 := by
  intro O K g M H locs ls cells slots hR hw hl hc1 hc2
  obtain ⟨hx, hb, hml, hown, hts, htr, hO, hKL, hNC, hX, hbl⟩ := hC
  have hA : ∀ q : Nat, s.heap.size ≤ q → s.heap.size ≤ q := fun _ h => h
  have hbA : ¬ s.heap.size ≤ b := Nat.not_le.mpr hbl
  obtain ⟨v1, ev1⟩ : ∃ v, v = xs ((x4 + 1).toNatClampNeg) := ⟨_, rfl⟩
  obtain ⟨v2, ev2⟩ : ∃ v, v = xs ((x4 + 2).toNatClampNeg) := ⟨_, rfl⟩
  obtain ⟨v3, ev3⟩ : ∃ v, v = xs ((x4 + 3).toNatClampNeg) := ⟨_, rfl⟩
  obtain ⟨r, t, M1, hm, ht, hres⟩ := hSim.2.2.2.2.2.2.2.2.2.2.2.2.2.2.2.2.2.2.2.2.2.1 it O K M v1 v2 hit hR
  rcases hres with ⟨k, hk, hf, rfl, hR⟩ | ⟨u, hf, rfl, rfl, hR⟩
  · refine lv_aload_n hx hb dL_law__1100 rfl (lv_at hl 1 rfl) ?_
    refine lv_aload_n hx hb dL_law__1101 rfl (lv_at hl 0 rfl) ?_
    refine lv_iload hx hb dL_law__1102 (lv_at hl 4 rfl) ?_
    refine lv_iconst (v := 1) hx hb dL_law__1104 (by decide) ?_
    refine lv_iadd hx hb dL_law__1105 ?_
    refine va_sld hx hb hX hbl hbA hw.2.2.2.1 hin1 dL_law__1106 ?_
    refine q_is ev1 ?_
    refine lv_aload_n hx hb dL_law__1107 rfl (lv_at hl 0 rfl) ?_
    refine lv_iload hx hb dL_law__1108 (lv_at hl 4 rfl) ?_
    refine lv_iconst (v := 2) hx hb dL_law__1110 (by decide) ?_
    refine lv_iadd hx hb dL_law__1111 ?_
    refine va_sld hx hb hX hbl hbA hw.2.2.2.1 hin2 dL_law__1112 ?_
    refine q_is ev2 ?_
    refine lv_aload_n hx hb dL_law__1113 rfl (lv_at hl 3 rfl) ?_
    refine w_run (r := mws cI mad M) (st1 := [.int (kW 1 k)]) (vx_runSW (As := [.ref (ad 0), .int v1, .int v2, .ref oa]) (rest := []) ⟨hx, hb, hml, hown, hts⟩ (cw_guest (A := AR (fun q : Nat => s.heap.size ≤ q) (mws cI mad M)) htr hf (fun k9 e9 => by cases e9; exact hk)) (vx_cwSW 4 hts gT_L_guest rfl rfl rfl (by decide +kernel) ⟨Nat.le_of_ble_eq_true rfl, Nat.le_of_ble_eq_true rfl⟩) ⟨w_blind, fun U hU hW => ⟨rfl, f_PX hw hO hA hU hW, va_K.moved hW.alike hKL, NC.moved hW.alike hNC⟩⟩ rfl rfl hl.1 rfl (lv_room (Nat.le_of_ble_eq_true rfl)) dL_law__1114 ⟨by show _ ≤ 601024; omega, by show _ ≤ 7293034; omega⟩) hw rfl (fun H locs hw => ?_)
    have hw : WH D cI cR (fun q : Nat => s.heap.size ≤ q) ((xws cI cR ad O K ++ oc cL oa g) ++ mws cI mad M) s H locs := hw
    refine lv_istore (lv' := [(5, .int (kW 1 k)), (0, .ref b), (1, .ref (ad 0)), (2, .ref (mad 0)), (3, .ref oa), (4, .int x4)]) hx hb dL_law__1117 hl (by decide) rfl (fun ls hl => ?_)
    refine lv_aload_n hx hb dL_law__1119 rfl (lv_at hl 3 rfl) ?_
    refine lv_aload_n hx hb dL_law__1120 rfl (lv_at hl 1 rfl) ?_
    refine lv_iload hx hb dL_law__1121 (lv_at hl 5 rfl) ?_
    refine lv_iconst (v := 1) hx hb dL_law__1123 (by decide) ?_
    refine lv_iadd hx hb dL_law__1124 ?_
    refine va_sld hx hb hX hbl hbA hw.2.2.2.1 hin1 dL_law__1125 ?_
    refine q_is ev1 ?_
    refine lv_aload_n hx hb dL_law__1126 rfl (lv_at hl 1 rfl) ?_
    refine lv_iload hx hb dL_law__1127 (lv_at hl 5 rfl) ?_
    refine lv_iconst (v := 2) hx hb dL_law__1129 (by decide) ?_
    refine lv_iadd hx hb dL_law__1130 ?_
    refine va_sld hx hb hX hbl hbA hw.2.2.2.1 hin2 dL_law__1131 ?_
    refine q_is ev2 ?_
    have hw := hw.swap
    refine w_run (r := (xws cI cR ad O K ++ oc cL oa g)) (st1 := [.int r]) (va_runV (b := mad 0) (As := [.int v1, .int v2]) (rest := []) ⟨hx, hb, hml, hown, hts⟩ (c_X6_guest (cR := cR) (A := AR (fun q : Nat => s.heap.size ≤ q) (xws cI cR ad O K ++ oc cL oa g)) hm) (cwV 2 hts gT_X6_guest rfl rfl rfl (by decide +kernel) ⟨Nat.le_of_ble_eq_true rfl, Nat.le_of_ble_eq_true rfl⟩) ⟨q_blind, va_recv hw.2.1 (f_sub hw).1 (ci := 6) (q0 := 0) rfl ma_0, fun U hU hW => ⟨rfl, f_WB hw hU hW⟩⟩ rfl rfl hl.1 rfl (lv_room (Nat.le_of_ble_eq_true rfl)) dL_law__1132 ⟨by show _ ≤ 601024; omega, by show _ ≤ 7293034; omega⟩) hw rfl (fun H locs hw => ?_)
    refine lv_istore (lv' := [(6, .int r), (5, .int (kW 1 k)), (0, .ref b), (1, .ref (ad 0)), (2, .ref (mad 0)), (3, .ref oa), (4, .int x4)]) hx hb dL_law__1135 hl (by decide) rfl (fun ls hl => ?_)
    refine lv_aload_n hx hb dL_law__1137 rfl (lv_at hl 4 rfl) ?_
    refine w_run (r := (xws cI cR ad O K ++ oc cL oa g)) (st1 := [.int (kW 1 k)]) (va_runV (b := mad 0) (As := []) (rest := []) ⟨hx, hb, hml, hown, hts⟩ (c_X6_thrown (cR := cR) (A := AR (fun q : Nat => s.heap.size ≤ q) (xws cI cR ad O K ++ oc cL oa g)) ht) (cwV 0 hts gT_X6_thrown rfl rfl rfl (by decide +kernel) ⟨Nat.le_of_ble_eq_true rfl, Nat.le_of_ble_eq_true rfl⟩) ⟨q_blind, va_recv hw.2.1 (f_sub hw).1 (ci := 6) (q0 := 0) rfl ma_0, fun U hU hW => ⟨rfl, f_WB hw hU hW⟩⟩ rfl rfl hl.1 rfl (lv_room (Nat.le_of_ble_eq_true rfl)) dL_law__1138 ⟨by show _ ≤ 601024; omega, by show _ ≤ 7293034; omega⟩) hw rfl (fun H locs hw => ?_)
    have hw := hw.swap
    refine lv_iload hx hb dL_law__1141 (lv_at hl 1 rfl) ?_
    refine lv_icmp_eq (tgt := 1148) hx hb dL_law__1143 (by decide) (fun hc => ?_) (fun hc => absurd rfl hc)
    refine lv_iload hx hb dL_law__1148 (lv_at hl 1 rfl) ?_
    refine lv_if_ne (tgt := 1165) hx hb dL_law__1150 (by decide) (fun hc => ?_) (fun hc => absurd hc (kW_ne _ _))
    refine lv_goto (tgt := 1771) hx hb dL_law__1165 (by decide) ?_
    exact T _ _ _ _ H locs ls _ _ hR hw (lv_sub hl [2, 3, 4, 5, 6] rfl) (by omega) (by omega)
  · refine lv_aload_n hx hb dL_law__1100 rfl (lv_at hl 1 rfl) ?_
    refine lv_aload_n hx hb dL_law__1101 rfl (lv_at hl 0 rfl) ?_
    refine lv_iload hx hb dL_law__1102 (lv_at hl 4 rfl) ?_
    refine lv_iconst (v := 1) hx hb dL_law__1104 (by decide) ?_
    refine lv_iadd hx hb dL_law__1105 ?_
    refine va_sld hx hb hX hbl hbA hw.2.2.2.1 hin1 dL_law__1106 ?_
    refine q_is ev1 ?_
    refine lv_aload_n hx hb dL_law__1107 rfl (lv_at hl 0 rfl) ?_
    refine lv_iload hx hb dL_law__1108 (lv_at hl 4 rfl) ?_
    refine lv_iconst (v := 2) hx hb dL_law__1110 (by decide) ?_
    refine lv_iadd hx hb dL_law__1111 ?_
    refine va_sld hx hb hX hbl hbA hw.2.2.2.1 hin2 dL_law__1112 ?_
    refine q_is ev2 ?_
    refine lv_aload_n hx hb dL_law__1113 rfl (lv_at hl 3 rfl) ?_
    refine w_run (r := mws cI mad M) (st1 := [.int (0)]) (vx_runSW (As := [.ref (ad 0), .int v1, .int v2, .ref oa]) (rest := []) ⟨hx, hb, hml, hown, hts⟩ (cw_guest (A := AR (fun q : Nat => s.heap.size ≤ q) (mws cI mad M)) htr hf (fun k9 e9 => nomatch e9)) (vx_cwSW 4 hts gT_L_guest rfl rfl rfl (by decide +kernel) ⟨Nat.le_of_ble_eq_true rfl, Nat.le_of_ble_eq_true rfl⟩) ⟨w_blind, fun U hU hW => ⟨rfl, f_PX hw hO hA hU hW, va_K.moved hW.alike hKL, NC.moved hW.alike hNC⟩⟩ rfl rfl hl.1 rfl (lv_room (Nat.le_of_ble_eq_true rfl)) dL_law__1114 ⟨by show _ ≤ 601024; omega, by show _ ≤ 7293034; omega⟩) hw rfl (fun H locs hw => ?_)
    have hw : WH D cI cR (fun q : Nat => s.heap.size ≤ q) ((xws cI cR ad O K ++ oc cL oa (ocu g r.toInt64)) ++ mws cI mad M) s H locs := hw
    refine lv_istore (lv' := [(5, .int (0)), (0, .ref b), (1, .ref (ad 0)), (2, .ref (mad 0)), (3, .ref oa), (4, .int x4)]) hx hb dL_law__1117 hl (by decide) rfl (fun ls hl => ?_)
    refine lv_aload_n hx hb dL_law__1119 rfl (lv_at hl 3 rfl) ?_
    refine lv_aload_n hx hb dL_law__1120 rfl (lv_at hl 1 rfl) ?_
    refine lv_iload hx hb dL_law__1121 (lv_at hl 5 rfl) ?_
    refine lv_iconst (v := 1) hx hb dL_law__1123 (by decide) ?_
    refine lv_iadd hx hb dL_law__1124 ?_
    refine va_sld hx hb hX hbl hbA hw.2.2.2.1 hin1 dL_law__1125 ?_
    refine q_is ev1 ?_
    refine lv_aload_n hx hb dL_law__1126 rfl (lv_at hl 1 rfl) ?_
    refine lv_iload hx hb dL_law__1127 (lv_at hl 5 rfl) ?_
    refine lv_iconst (v := 2) hx hb dL_law__1129 (by decide) ?_
    refine lv_iadd hx hb dL_law__1130 ?_
    refine va_sld hx hb hX hbl hbA hw.2.2.2.1 hin2 dL_law__1131 ?_
    refine q_is ev2 ?_
    have hw := hw.swap
    refine w_run (r := (xws cI cR ad O K ++ oc cL oa (ocu g r.toInt64))) (st1 := [.int r]) (va_runV (b := mad 0) (As := [.int v1, .int v2]) (rest := []) ⟨hx, hb, hml, hown, hts⟩ (c_X6_guest (cR := cR) (A := AR (fun q : Nat => s.heap.size ≤ q) (xws cI cR ad O K ++ oc cL oa (ocu g r.toInt64))) hm) (cwV 2 hts gT_X6_guest rfl rfl rfl (by decide +kernel) ⟨Nat.le_of_ble_eq_true rfl, Nat.le_of_ble_eq_true rfl⟩) ⟨q_blind, va_recv hw.2.1 (f_sub hw).1 (ci := 6) (q0 := 0) rfl ma_0, fun U hU hW => ⟨rfl, f_WB hw hU hW⟩⟩ rfl rfl hl.1 rfl (lv_room (Nat.le_of_ble_eq_true rfl)) dL_law__1132 ⟨by show _ ≤ 601024; omega, by show _ ≤ 7293034; omega⟩) hw rfl (fun H locs hw => ?_)
    refine lv_istore (lv' := [(6, .int r), (5, .int (0)), (0, .ref b), (1, .ref (ad 0)), (2, .ref (mad 0)), (3, .ref oa), (4, .int x4)]) hx hb dL_law__1135 hl (by decide) rfl (fun ls hl => ?_)
    refine lv_aload_n hx hb dL_law__1137 rfl (lv_at hl 4 rfl) ?_
    refine w_run (r := (xws cI cR ad O K ++ oc cL oa (ocu g r.toInt64))) (st1 := [.int (0)]) (va_runV (b := mad 0) (As := []) (rest := []) ⟨hx, hb, hml, hown, hts⟩ (c_X6_thrown (cR := cR) (A := AR (fun q : Nat => s.heap.size ≤ q) (xws cI cR ad O K ++ oc cL oa (ocu g r.toInt64))) ht) (cwV 0 hts gT_X6_thrown rfl rfl rfl (by decide +kernel) ⟨Nat.le_of_ble_eq_true rfl, Nat.le_of_ble_eq_true rfl⟩) ⟨q_blind, va_recv hw.2.1 (f_sub hw).1 (ci := 6) (q0 := 0) rfl ma_0, fun U hU hW => ⟨rfl, f_WB hw hU hW⟩⟩ rfl rfl hl.1 rfl (lv_room (Nat.le_of_ble_eq_true rfl)) dL_law__1138 ⟨by show _ ≤ 601024; omega, by show _ ≤ 7293034; omega⟩) hw rfl (fun H locs hw => ?_)
    have hw := hw.swap
    refine lv_iload hx hb dL_law__1141 (lv_at hl 1 rfl) ?_
    refine lv_icmp_eq (tgt := 1148) hx hb dL_law__1143 (by decide) (fun hc => ?_) (fun hc => absurd rfl hc)
    refine lv_iload hx hb dL_law__1148 (lv_at hl 1 rfl) ?_
    refine lv_if_ne (tgt := 1165) hx hb dL_law__1150 (by decide) (fun hc => absurd rfl hc) (fun hc => ?_)
    refine lv_aload_n hx hb dL_law__1153 rfl (lv_at hl 5 rfl) ?_
    refine lv_iconst (v := 0) hx hb dL_law__1154 (by decide) ?_
    refine va_lald hx hb hKL hw.1 ((xws cI cR ad O K).length + 0) 0 (by rw [List.append_assoc]; exact wg.trans rfl) rfl (inb_in (by decide)) dL_law__1155 ?_
    rw [oc_up]
    refine lv_iload hx hb dL_law__1156 (lv_at hl 0 rfl) ?_
    refine lv_i2l hx hb dL_law__1158 rfl ?_
    refine W.lcmp hx hb dL_law__1159 ?_
    refine q_is (lg_self _).symm ?_
    refine lv_if_eq (tgt := 1165) hx hb dL_law__1160 (by decide) (fun hc => ?_) (fun hc => absurd rfl hc)
    refine lv_goto (tgt := 1771) hx hb dL_law__1165 (by decide) ?_
    exact T _ _ _ _ H locs ls _ _ hR hw (lv_sub hl [2, 3, 4, 5, 6] rfl) (by omega) (by omega)
set_option maxHeartbeats 4000000 in
set_option maxRecDepth 100000 in
theorem law_20 {p : Program} {l : Launch} {e : Env} {s : State} {m : MethodId} {below : List Frame} {meth : Method} {c : Code} {D : va_G} {cI cR cL : ClassId} {ad mad : Nat → Nat} {oa b L : Nat} {xs : Nat → Int32} {R : Nat → XO → RK → MS → Prop} {Q : State → Prop} {it : Nat} {x4 : Int32} (hC : LC p l e s m below meth c D cI cR cL ad mad oa b L xs) (hSim : Sim R) (hit : it < 512) (hin1 : vp_in (x4 + 1) L) (hin2 : vp_in (x4 + 2) L) (hin3 : vp_in (x4 + 3) L) (T : LT R p l e s m below meth c D cI cR cL ad mad oa b Q (it + 1) x4 1771) : LT R p l e s m below meth c D cI cR cL ad mad oa b Q it x4 1168 := by
  intro O K g M H locs ls cells slots hR hw hl hc1 hc2
  obtain ⟨hx, hb, hml, hown, hts, htr, hO, hKL, hNC, hX, hbl⟩ := hC
  have hA : ∀ q : Nat, s.heap.size ≤ q → s.heap.size ≤ q := fun _ h => h
  have hbA : ¬ s.heap.size ≤ b := Nat.not_le.mpr hbl
  obtain ⟨v1, ev1⟩ : ∃ v, v = xs ((x4 + 1).toNatClampNeg) := ⟨_, rfl⟩
  obtain ⟨v2, ev2⟩ : ∃ v, v = xs ((x4 + 2).toNatClampNeg) := ⟨_, rfl⟩
  obtain ⟨v3, ev3⟩ : ∃ v, v = xs ((x4 + 3).toNatClampNeg) := ⟨_, rfl⟩
  obtain ⟨r, t, M1, hm, ht, hres⟩ := hSim.2.2.2.2.2.2.2.2.2.2.2.2.2.2.2.2.2.2.2.2.2.2.1 it O K M v1 v2 v3 hit hR
  rcases hres with ⟨k, hk, hf, rfl, hR⟩ | ⟨u, hf, rfl, rfl, hR⟩
  · refine lv_aload_n hx hb dL_law__1168 rfl (lv_at hl 1 rfl) ?_
    refine lv_aload_n hx hb dL_law__1169 rfl (lv_at hl 0 rfl) ?_
    refine lv_iload hx hb dL_law__1170 (lv_at hl 4 rfl) ?_
    refine lv_iconst (v := 1) hx hb dL_law__1172 (by decide) ?_
    refine lv_iadd hx hb dL_law__1173 ?_
    refine va_sld hx hb hX hbl hbA hw.2.2.2.1 hin1 dL_law__1174 ?_
    refine q_is ev1 ?_
    refine lv_aload_n hx hb dL_law__1175 rfl (lv_at hl 0 rfl) ?_
    refine lv_iload hx hb dL_law__1176 (lv_at hl 4 rfl) ?_
    refine lv_iconst (v := 2) hx hb dL_law__1178 (by decide) ?_
    refine lv_iadd hx hb dL_law__1179 ?_
    refine va_sld hx hb hX hbl hbA hw.2.2.2.1 hin2 dL_law__1180 ?_
    refine q_is ev2 ?_
    refine lv_aload_n hx hb dL_law__1181 rfl (lv_at hl 0 rfl) ?_
    refine lv_iload hx hb dL_law__1182 (lv_at hl 4 rfl) ?_
    refine lv_iconst (v := 3) hx hb dL_law__1184 (by decide) ?_
    refine lv_iadd hx hb dL_law__1185 ?_
    refine va_sld hx hb hX hbl hbA hw.2.2.2.1 hin3 dL_law__1186 ?_
    refine q_is ev3 ?_
    refine lv_aload_n hx hb dL_law__1187 rfl (lv_at hl 3 rfl) ?_
    refine w_run (r := mws cI mad M) (st1 := [.int (kW 1 k)]) (vx_runSW (As := [.ref (ad 0), .int v1, .int v2, .int v3, .ref oa]) (rest := []) ⟨hx, hb, hml, hown, hts⟩ (cw_law (A := AR (fun q : Nat => s.heap.size ≤ q) (mws cI mad M)) htr hf (fun k9 e9 => by cases e9; exact hk)) (vx_cwSW 5 hts gT_L_law rfl rfl rfl (by decide +kernel) ⟨Nat.le_of_ble_eq_true rfl, Nat.le_of_ble_eq_true rfl⟩) ⟨w_blind, fun U hU hW => ⟨rfl, f_PX hw hO hA hU hW, va_K.moved hW.alike hKL, NC.moved hW.alike hNC⟩⟩ rfl rfl hl.1 rfl (lv_room (Nat.le_of_ble_eq_true rfl)) dL_law__1188 ⟨by show _ ≤ 601024; omega, by show _ ≤ 7293034; omega⟩) hw rfl (fun H locs hw => ?_)
    have hw : WH D cI cR (fun q : Nat => s.heap.size ≤ q) ((xws cI cR ad O K ++ oc cL oa g) ++ mws cI mad M) s H locs := hw
    refine lv_istore (lv' := [(5, .int (kW 1 k)), (0, .ref b), (1, .ref (ad 0)), (2, .ref (mad 0)), (3, .ref oa), (4, .int x4)]) hx hb dL_law__1191 hl (by decide) rfl (fun ls hl => ?_)
    refine lv_aload_n hx hb dL_law__1193 rfl (lv_at hl 3 rfl) ?_
    refine lv_aload_n hx hb dL_law__1194 rfl (lv_at hl 1 rfl) ?_
    refine lv_iload hx hb dL_law__1195 (lv_at hl 5 rfl) ?_
    refine lv_iconst (v := 1) hx hb dL_law__1197 (by decide) ?_
    refine lv_iadd hx hb dL_law__1198 ?_
    refine va_sld hx hb hX hbl hbA hw.2.2.2.1 hin1 dL_law__1199 ?_
    refine q_is ev1 ?_
    refine lv_aload_n hx hb dL_law__1200 rfl (lv_at hl 1 rfl) ?_
    refine lv_iload hx hb dL_law__1201 (lv_at hl 5 rfl) ?_
    refine lv_iconst (v := 2) hx hb dL_law__1203 (by decide) ?_
    refine lv_iadd hx hb dL_law__1204 ?_
    refine va_sld hx hb hX hbl hbA hw.2.2.2.1 hin2 dL_law__1205 ?_
    refine q_is ev2 ?_
    refine lv_aload_n hx hb dL_law__1206 rfl (lv_at hl 1 rfl) ?_
    refine lv_iload hx hb dL_law__1207 (lv_at hl 5 rfl) ?_
    refine lv_iconst (v := 3) hx hb dL_law__1209 (by decide) ?_
    refine lv_iadd hx hb dL_law__1210 ?_
    refine va_sld hx hb hX hbl hbA hw.2.2.2.1 hin3 dL_law__1211 ?_
    refine q_is ev3 ?_
    have hw := hw.swap
    refine w_run (r := (xws cI cR ad O K ++ oc cL oa g)) (st1 := [.int r]) (va_runV (b := mad 0) (As := [.int v1, .int v2, .int v3]) (rest := []) ⟨hx, hb, hml, hown, hts⟩ (c_X6_law (cR := cR) (A := AR (fun q : Nat => s.heap.size ≤ q) (xws cI cR ad O K ++ oc cL oa g)) hm) (cwV 3 hts gT_X6_law rfl rfl rfl (by decide +kernel) ⟨Nat.le_of_ble_eq_true rfl, Nat.le_of_ble_eq_true rfl⟩) ⟨q_blind, va_recv hw.2.1 (f_sub hw).1 (ci := 6) (q0 := 0) rfl ma_0, fun U hU hW => ⟨rfl, f_WB hw hU hW⟩⟩ rfl rfl hl.1 rfl (lv_room (Nat.le_of_ble_eq_true rfl)) dL_law__1212 ⟨by show _ ≤ 601024; omega, by show _ ≤ 7293034; omega⟩) hw rfl (fun H locs hw => ?_)
    refine lv_istore (lv' := [(6, .int r), (5, .int (kW 1 k)), (0, .ref b), (1, .ref (ad 0)), (2, .ref (mad 0)), (3, .ref oa), (4, .int x4)]) hx hb dL_law__1215 hl (by decide) rfl (fun ls hl => ?_)
    refine lv_aload_n hx hb dL_law__1217 rfl (lv_at hl 4 rfl) ?_
    refine w_run (r := (xws cI cR ad O K ++ oc cL oa g)) (st1 := [.int (kW 1 k)]) (va_runV (b := mad 0) (As := []) (rest := []) ⟨hx, hb, hml, hown, hts⟩ (c_X6_thrown (cR := cR) (A := AR (fun q : Nat => s.heap.size ≤ q) (xws cI cR ad O K ++ oc cL oa g)) ht) (cwV 0 hts gT_X6_thrown rfl rfl rfl (by decide +kernel) ⟨Nat.le_of_ble_eq_true rfl, Nat.le_of_ble_eq_true rfl⟩) ⟨q_blind, va_recv hw.2.1 (f_sub hw).1 (ci := 6) (q0 := 0) rfl ma_0, fun U hU hW => ⟨rfl, f_WB hw hU hW⟩⟩ rfl rfl hl.1 rfl (lv_room (Nat.le_of_ble_eq_true rfl)) dL_law__1218 ⟨by show _ ≤ 601024; omega, by show _ ≤ 7293034; omega⟩) hw rfl (fun H locs hw => ?_)
    have hw := hw.swap
    refine lv_iload hx hb dL_law__1221 (lv_at hl 1 rfl) ?_
    refine lv_icmp_eq (tgt := 1228) hx hb dL_law__1223 (by decide) (fun hc => ?_) (fun hc => absurd rfl hc)
    refine lv_iload hx hb dL_law__1228 (lv_at hl 1 rfl) ?_
    refine lv_if_ne (tgt := 1245) hx hb dL_law__1230 (by decide) (fun hc => ?_) (fun hc => absurd hc (kW_ne _ _))
    refine lv_goto (tgt := 1771) hx hb dL_law__1245 (by decide) ?_
    exact T _ _ _ _ H locs ls _ _ hR hw (lv_sub hl [2, 3, 4, 5, 6] rfl) (by omega) (by omega)
  · refine lv_aload_n hx hb dL_law__1168 rfl (lv_at hl 1 rfl) ?_
    refine lv_aload_n hx hb dL_law__1169 rfl (lv_at hl 0 rfl) ?_
    refine lv_iload hx hb dL_law__1170 (lv_at hl 4 rfl) ?_
    refine lv_iconst (v := 1) hx hb dL_law__1172 (by decide) ?_
    refine lv_iadd hx hb dL_law__1173 ?_
    refine va_sld hx hb hX hbl hbA hw.2.2.2.1 hin1 dL_law__1174 ?_
    refine q_is ev1 ?_
    refine lv_aload_n hx hb dL_law__1175 rfl (lv_at hl 0 rfl) ?_
    refine lv_iload hx hb dL_law__1176 (lv_at hl 4 rfl) ?_
    refine lv_iconst (v := 2) hx hb dL_law__1178 (by decide) ?_
    refine lv_iadd hx hb dL_law__1179 ?_
    refine va_sld hx hb hX hbl hbA hw.2.2.2.1 hin2 dL_law__1180 ?_
    refine q_is ev2 ?_
    refine lv_aload_n hx hb dL_law__1181 rfl (lv_at hl 0 rfl) ?_
    refine lv_iload hx hb dL_law__1182 (lv_at hl 4 rfl) ?_
    refine lv_iconst (v := 3) hx hb dL_law__1184 (by decide) ?_
    refine lv_iadd hx hb dL_law__1185 ?_
    refine va_sld hx hb hX hbl hbA hw.2.2.2.1 hin3 dL_law__1186 ?_
    refine q_is ev3 ?_
    refine lv_aload_n hx hb dL_law__1187 rfl (lv_at hl 3 rfl) ?_
    refine w_run (r := mws cI mad M) (st1 := [.int (0)]) (vx_runSW (As := [.ref (ad 0), .int v1, .int v2, .int v3, .ref oa]) (rest := []) ⟨hx, hb, hml, hown, hts⟩ (cw_law (A := AR (fun q : Nat => s.heap.size ≤ q) (mws cI mad M)) htr hf (fun k9 e9 => nomatch e9)) (vx_cwSW 5 hts gT_L_law rfl rfl rfl (by decide +kernel) ⟨Nat.le_of_ble_eq_true rfl, Nat.le_of_ble_eq_true rfl⟩) ⟨w_blind, fun U hU hW => ⟨rfl, f_PX hw hO hA hU hW, va_K.moved hW.alike hKL, NC.moved hW.alike hNC⟩⟩ rfl rfl hl.1 rfl (lv_room (Nat.le_of_ble_eq_true rfl)) dL_law__1188 ⟨by show _ ≤ 601024; omega, by show _ ≤ 7293034; omega⟩) hw rfl (fun H locs hw => ?_)
    have hw : WH D cI cR (fun q : Nat => s.heap.size ≤ q) ((xws cI cR ad O K ++ oc cL oa (ocu g r.toInt64)) ++ mws cI mad M) s H locs := hw
    refine lv_istore (lv' := [(5, .int (0)), (0, .ref b), (1, .ref (ad 0)), (2, .ref (mad 0)), (3, .ref oa), (4, .int x4)]) hx hb dL_law__1191 hl (by decide) rfl (fun ls hl => ?_)
    refine lv_aload_n hx hb dL_law__1193 rfl (lv_at hl 3 rfl) ?_
    refine lv_aload_n hx hb dL_law__1194 rfl (lv_at hl 1 rfl) ?_
    refine lv_iload hx hb dL_law__1195 (lv_at hl 5 rfl) ?_
    refine lv_iconst (v := 1) hx hb dL_law__1197 (by decide) ?_
    refine lv_iadd hx hb dL_law__1198 ?_
    refine va_sld hx hb hX hbl hbA hw.2.2.2.1 hin1 dL_law__1199 ?_
    refine q_is ev1 ?_
    refine lv_aload_n hx hb dL_law__1200 rfl (lv_at hl 1 rfl) ?_
    refine lv_iload hx hb dL_law__1201 (lv_at hl 5 rfl) ?_
    refine lv_iconst (v := 2) hx hb dL_law__1203 (by decide) ?_
    refine lv_iadd hx hb dL_law__1204 ?_
    refine va_sld hx hb hX hbl hbA hw.2.2.2.1 hin2 dL_law__1205 ?_
    refine q_is ev2 ?_
    refine lv_aload_n hx hb dL_law__1206 rfl (lv_at hl 1 rfl) ?_
    refine lv_iload hx hb dL_law__1207 (lv_at hl 5 rfl) ?_
    refine lv_iconst (v := 3) hx hb dL_law__1209 (by decide) ?_
    refine lv_iadd hx hb dL_law__1210 ?_
    refine va_sld hx hb hX hbl hbA hw.2.2.2.1 hin3 dL_law__1211 ?_
    refine q_is ev3 ?_
    have hw := hw.swap
    refine w_run (r := (xws cI cR ad O K ++ oc cL oa (ocu g r.toInt64))) (st1 := [.int r]) (va_runV (b := mad 0) (As := [.int v1, .int v2, .int v3]) (rest := []) ⟨hx, hb, hml, hown, hts⟩ (c_X6_law (cR := cR) (A := AR (fun q : Nat => s.heap.size ≤ q) (xws cI cR ad O K ++ oc cL oa (ocu g r.toInt64))) hm) (cwV 3 hts gT_X6_law rfl rfl rfl (by decide +kernel) ⟨Nat.le_of_ble_eq_true rfl, Nat.le_of_ble_eq_true rfl⟩) ⟨q_blind, va_recv hw.2.1 (f_sub hw).1 (ci := 6) (q0 := 0) rfl ma_0, fun U hU hW => ⟨rfl, f_WB hw hU hW⟩⟩ rfl rfl hl.1 rfl (lv_room (Nat.le_of_ble_eq_true rfl)) dL_law__1212 ⟨by show _ ≤ 601024; omega, by show _ ≤ 7293034; omega⟩) hw rfl (fun H locs hw => ?_)
    refine lv_istore (lv' := [(6, .int r), (5, .int (0)), (0, .ref b), (1, .ref (ad 0)), (2, .ref (mad 0)), (3, .ref oa), (4, .int x4)]) hx hb dL_law__1215 hl (by decide) rfl (fun ls hl => ?_)
    refine lv_aload_n hx hb dL_law__1217 rfl (lv_at hl 4 rfl) ?_
    refine w_run (r := (xws cI cR ad O K ++ oc cL oa (ocu g r.toInt64))) (st1 := [.int (0)]) (va_runV (b := mad 0) (As := []) (rest := []) ⟨hx, hb, hml, hown, hts⟩ (c_X6_thrown (cR := cR) (A := AR (fun q : Nat => s.heap.size ≤ q) (xws cI cR ad O K ++ oc cL oa (ocu g r.toInt64))) ht) (cwV 0 hts gT_X6_thrown rfl rfl rfl (by decide +kernel) ⟨Nat.le_of_ble_eq_true rfl, Nat.le_of_ble_eq_true rfl⟩) ⟨q_blind, va_recv hw.2.1 (f_sub hw).1 (ci := 6) (q0 := 0) rfl ma_0, fun U hU hW => ⟨rfl, f_WB hw hU hW⟩⟩ rfl rfl hl.1 rfl (lv_room (Nat.le_of_ble_eq_true rfl)) dL_law__1218 ⟨by show _ ≤ 601024; omega, by show _ ≤ 7293034; omega⟩) hw rfl (fun H locs hw => ?_)
    have hw := hw.swap
    refine lv_iload hx hb dL_law__1221 (lv_at hl 1 rfl) ?_
    refine lv_icmp_eq (tgt := 1228) hx hb dL_law__1223 (by decide) (fun hc => ?_) (fun hc => absurd rfl hc)
    refine lv_iload hx hb dL_law__1228 (lv_at hl 1 rfl) ?_
    refine lv_if_ne (tgt := 1245) hx hb dL_law__1230 (by decide) (fun hc => absurd rfl hc) (fun hc => ?_)
    refine lv_aload_n hx hb dL_law__1233 rfl (lv_at hl 5 rfl) ?_
    refine lv_iconst (v := 0) hx hb dL_law__1234 (by decide) ?_
    refine va_lald hx hb hKL hw.1 ((xws cI cR ad O K).length + 0) 0 (by rw [List.append_assoc]; exact wg.trans rfl) rfl (inb_in (by decide)) dL_law__1235 ?_
    rw [oc_up]
    refine lv_iload hx hb dL_law__1236 (lv_at hl 0 rfl) ?_
    refine lv_i2l hx hb dL_law__1238 rfl ?_
    refine W.lcmp hx hb dL_law__1239 ?_
    refine q_is (lg_self _).symm ?_
    refine lv_if_eq (tgt := 1245) hx hb dL_law__1240 (by decide) (fun hc => ?_) (fun hc => absurd rfl hc)
    refine lv_goto (tgt := 1771) hx hb dL_law__1245 (by decide) ?_
    exact T _ _ _ _ H locs ls _ _ hR hw (lv_sub hl [2, 3, 4, 5, 6] rfl) (by omega) (by omega)
