set_option maxHeartbeats 4000000 in
set_option maxRecDepth 100000 in
theorem law_15 {p : Program} {l : Launch} {e : Env} {s : State} {m : MethodId} {below : List Frame} {meth : Method} {c : Code} {D : va_G} {cI cR cL : ClassId} {ad mad : Nat → Nat} {oa b L : Nat} {xs : Nat → Int32} {R : Nat → XO → RK → MS → Prop} {Q : State → Prop} {it : Nat} {x4 : Int32} (hC : LC p l e s m below meth c D cI cR cL ad mad oa b L xs) (hSim : Sim R) (hit : it < 512) (hin1 : vp_in (x4 + 1) L) (hin2 : vp_in (x4 + 2) L) (hin3 : vp_in (x4 + 3) L) (T : LT R p l e s m below meth c D cI cR cL ad mad oa b Q (it + 1) x4 1771) : LT R p l e s m below meth c D cI cR cL ad mad oa b Q it x4 943 := by
  intro O K g M H locs ls cells slots hR hw hl hc1 hc2
  obtain ⟨hx, hb, hml, hown, hts, htr, hO, hKL, hNC, hX, hbl⟩ := hC
  have hA : ∀ q : Nat, s.heap.size ≤ q → s.heap.size ≤ q := fun _ h => h
  have hbA : ¬ s.heap.size ≤ b := Nat.not_le.mpr hbl
  obtain ⟨v1, ev1⟩ : ∃ v, v = xs ((x4 + 1).toNatClampNeg) := ⟨_, rfl⟩
  obtain ⟨v2, ev2⟩ : ∃ v, v = xs ((x4 + 2).toNatClampNeg) := ⟨_, rfl⟩
  obtain ⟨v3, ev3⟩ : ∃ v, v = xs ((x4 + 3).toNatClampNeg) := ⟨_, rfl⟩
  obtain ⟨r, t, M1, hm, ht, hres⟩ := hSim.2.2.2.2.2.2.2.2.2.2.2.2.2.2.2.2.2.1 it O K M v1 hit hR
  rcases hres with ⟨k, hk, hf, rfl, hR⟩ | ⟨u, hf, rfl, rfl, hR⟩
  · refine lv_aload_n hx hb dL_law__943 rfl (lv_at hl 1 rfl) ?_
    refine lv_aload_n hx hb dL_law__944 rfl (lv_at hl 0 rfl) ?_
    refine lv_iload hx hb dL_law__945 (lv_at hl 4 rfl) ?_
    refine lv_iconst (v := 1) hx hb dL_law__947 (by decide) ?_
    refine lv_iadd hx hb dL_law__948 ?_
    refine va_sld hx hb hX hbl hbA hw.2.2.2.1 hin1 dL_law__949 ?_
    refine q_is ev1 ?_
    refine lv_aload_n hx hb dL_law__950 rfl (lv_at hl 3 rfl) ?_
    refine w_run (r := mws cI mad M) (st1 := [.int (kW 2 k)]) (vx_runSW (As := [.ref (ad 0), .int v1, .ref oa]) (rest := []) ⟨hx, hb, hml, hown, hts⟩ (cw_stopped (A := AR (fun q : Nat => s.heap.size ≤ q) (mws cI mad M)) htr hf (fun k9 e9 => by cases e9; exact hk)) (vx_cwSW 3 hts gT_L_stopped rfl rfl rfl (by decide +kernel) ⟨Nat.le_of_ble_eq_true rfl, Nat.le_of_ble_eq_true rfl⟩) ⟨w_blind, fun U hU hW => ⟨rfl, f_PX hw hO hA hU hW, va_K.moved hW.alike hKL, NC.moved hW.alike hNC⟩⟩ rfl rfl hl.1 rfl (lv_room (Nat.le_of_ble_eq_true rfl)) dL_law__951 ⟨by show _ ≤ 601024; omega, by show _ ≤ 7293034; omega⟩) hw rfl (fun H locs hw => ?_)
    have hw : WH D cI cR (fun q : Nat => s.heap.size ≤ q) ((xws cI cR ad O K ++ oc cL oa g) ++ mws cI mad M) s H locs := hw
    refine lv_istore (lv' := [(5, .int (kW 2 k)), (0, .ref b), (1, .ref (ad 0)), (2, .ref (mad 0)), (3, .ref oa), (4, .int x4)]) hx hb dL_law__954 hl (by decide) rfl (fun ls hl => ?_)
    refine lv_aload_n hx hb dL_law__956 rfl (lv_at hl 3 rfl) ?_
    refine lv_aload_n hx hb dL_law__957 rfl (lv_at hl 1 rfl) ?_
    refine lv_iload hx hb dL_law__958 (lv_at hl 5 rfl) ?_
    refine lv_iconst (v := 1) hx hb dL_law__960 (by decide) ?_
    refine lv_iadd hx hb dL_law__961 ?_
    refine va_sld hx hb hX hbl hbA hw.2.2.2.1 hin1 dL_law__962 ?_
    refine q_is ev1 ?_
    have hw := hw.swap
    refine w_run (r := (xws cI cR ad O K ++ oc cL oa g)) (st1 := [.int r]) (va_runV (b := mad 0) (As := [.int v1]) (rest := []) ⟨hx, hb, hml, hown, hts⟩ (c_X6_stopped (cR := cR) (A := AR (fun q : Nat => s.heap.size ≤ q) (xws cI cR ad O K ++ oc cL oa g)) hm) (cwV 1 hts gT_X6_stopped rfl rfl rfl (by decide +kernel) ⟨Nat.le_of_ble_eq_true rfl, Nat.le_of_ble_eq_true rfl⟩) ⟨q_blind, va_recv hw.2.1 (f_sub hw).1 (ci := 6) (q0 := 0) rfl ma_0, fun U hU hW => ⟨rfl, f_WB hw hU hW⟩⟩ rfl rfl hl.1 rfl (lv_room (Nat.le_of_ble_eq_true rfl)) dL_law__963 ⟨by show _ ≤ 601024; omega, by show _ ≤ 7293034; omega⟩) hw rfl (fun H locs hw => ?_)
    refine lv_istore (lv' := [(6, .int r), (5, .int (kW 2 k)), (0, .ref b), (1, .ref (ad 0)), (2, .ref (mad 0)), (3, .ref oa), (4, .int x4)]) hx hb dL_law__966 hl (by decide) rfl (fun ls hl => ?_)
    refine lv_aload_n hx hb dL_law__968 rfl (lv_at hl 4 rfl) ?_
    refine w_run (r := (xws cI cR ad O K ++ oc cL oa g)) (st1 := [.int (kW 2 k)]) (va_runV (b := mad 0) (As := []) (rest := []) ⟨hx, hb, hml, hown, hts⟩ (c_X6_thrown (cR := cR) (A := AR (fun q : Nat => s.heap.size ≤ q) (xws cI cR ad O K ++ oc cL oa g)) ht) (cwV 0 hts gT_X6_thrown rfl rfl rfl (by decide +kernel) ⟨Nat.le_of_ble_eq_true rfl, Nat.le_of_ble_eq_true rfl⟩) ⟨q_blind, va_recv hw.2.1 (f_sub hw).1 (ci := 6) (q0 := 0) rfl ma_0, fun U hU hW => ⟨rfl, f_WB hw hU hW⟩⟩ rfl rfl hl.1 rfl (lv_room (Nat.le_of_ble_eq_true rfl)) dL_law__969 ⟨by show _ ≤ 601024; omega, by show _ ≤ 7293034; omega⟩) hw rfl (fun H locs hw => ?_)
    have hw := hw.swap
    refine lv_iload hx hb dL_law__972 (lv_at hl 1 rfl) ?_
    refine lv_icmp_eq (tgt := 979) hx hb dL_law__974 (by decide) (fun hc => ?_) (fun hc => absurd rfl hc)
    refine lv_iload hx hb dL_law__979 (lv_at hl 1 rfl) ?_
    refine lv_if_ne (tgt := 996) hx hb dL_law__981 (by decide) (fun hc => ?_) (fun hc => absurd hc (kW_ne _ _))
    refine lv_goto (tgt := 1771) hx hb dL_law__996 (by decide) ?_
    exact T _ _ _ _ H locs ls _ _ hR hw (lv_sub hl [2, 3, 4, 5, 6] rfl) (by omega) (by omega)
  · refine lv_aload_n hx hb dL_law__943 rfl (lv_at hl 1 rfl) ?_
    refine lv_aload_n hx hb dL_law__944 rfl (lv_at hl 0 rfl) ?_
    refine lv_iload hx hb dL_law__945 (lv_at hl 4 rfl) ?_
    refine lv_iconst (v := 1) hx hb dL_law__947 (by decide) ?_
    refine lv_iadd hx hb dL_law__948 ?_
    refine va_sld hx hb hX hbl hbA hw.2.2.2.1 hin1 dL_law__949 ?_
    refine q_is ev1 ?_
    refine lv_aload_n hx hb dL_law__950 rfl (lv_at hl 3 rfl) ?_
    refine w_run (r := mws cI mad M) (st1 := [.int (0)]) (vx_runSW (As := [.ref (ad 0), .int v1, .ref oa]) (rest := []) ⟨hx, hb, hml, hown, hts⟩ (cw_stopped (A := AR (fun q : Nat => s.heap.size ≤ q) (mws cI mad M)) htr hf (fun k9 e9 => nomatch e9)) (vx_cwSW 3 hts gT_L_stopped rfl rfl rfl (by decide +kernel) ⟨Nat.le_of_ble_eq_true rfl, Nat.le_of_ble_eq_true rfl⟩) ⟨w_blind, fun U hU hW => ⟨rfl, f_PX hw hO hA hU hW, va_K.moved hW.alike hKL, NC.moved hW.alike hNC⟩⟩ rfl rfl hl.1 rfl (lv_room (Nat.le_of_ble_eq_true rfl)) dL_law__951 ⟨by show _ ≤ 601024; omega, by show _ ≤ 7293034; omega⟩) hw rfl (fun H locs hw => ?_)
    have hw : WH D cI cR (fun q : Nat => s.heap.size ≤ q) ((xws cI cR ad O K ++ oc cL oa (ocu g r.toInt64)) ++ mws cI mad M) s H locs := hw
    refine lv_istore (lv' := [(5, .int (0)), (0, .ref b), (1, .ref (ad 0)), (2, .ref (mad 0)), (3, .ref oa), (4, .int x4)]) hx hb dL_law__954 hl (by decide) rfl (fun ls hl => ?_)
    refine lv_aload_n hx hb dL_law__956 rfl (lv_at hl 3 rfl) ?_
    refine lv_aload_n hx hb dL_law__957 rfl (lv_at hl 1 rfl) ?_
    refine lv_iload hx hb dL_law__958 (lv_at hl 5 rfl) ?_
    refine lv_iconst (v := 1) hx hb dL_law__960 (by decide) ?_
    refine lv_iadd hx hb dL_law__961 ?_
    refine va_sld hx hb hX hbl hbA hw.2.2.2.1 hin1 dL_law__962 ?_
    refine q_is ev1 ?_
    have hw := hw.swap
    refine w_run (r := (xws cI cR ad O K ++ oc cL oa (ocu g r.toInt64))) (st1 := [.int r]) (va_runV (b := mad 0) (As := [.int v1]) (rest := []) ⟨hx, hb, hml, hown, hts⟩ (c_X6_stopped (cR := cR) (A := AR (fun q : Nat => s.heap.size ≤ q) (xws cI cR ad O K ++ oc cL oa (ocu g r.toInt64))) hm) (cwV 1 hts gT_X6_stopped rfl rfl rfl (by decide +kernel) ⟨Nat.le_of_ble_eq_true rfl, Nat.le_of_ble_eq_true rfl⟩) ⟨q_blind, va_recv hw.2.1 (f_sub hw).1 (ci := 6) (q0 := 0) rfl ma_0, fun U hU hW => ⟨rfl, f_WB hw hU hW⟩⟩ rfl rfl hl.1 rfl (lv_room (Nat.le_of_ble_eq_true rfl)) dL_law__963 ⟨by show _ ≤ 601024; omega, by show _ ≤ 7293034; omega⟩) hw rfl (fun H locs hw => ?_)
    refine lv_istore (lv' := [(6, .int r), (5, .int (0)), (0, .ref b), (1, .ref (ad 0)), (2, .ref (mad 0)), (3, .ref oa), (4, .int x4)]) hx hb dL_law__966 hl (by decide) rfl (fun ls hl => ?_)
    refine lv_aload_n hx hb dL_law__968 rfl (lv_at hl 4 rfl) ?_
    refine w_run (r := (xws cI cR ad O K ++ oc cL oa (ocu g r.toInt64))) (st1 := [.int (0)]) (va_runV (b := mad 0) (As := []) (rest := []) ⟨hx, hb, hml, hown, hts⟩ (c_X6_thrown (cR := cR) (A := AR (fun q : Nat => s.heap.size ≤ q) (xws cI cR ad O K ++ oc cL oa (ocu g r.toInt64))) ht) (cwV 0 hts gT_X6_thrown rfl rfl rfl (by decide +kernel) ⟨Nat.le_of_ble_eq_true rfl, Nat.le_of_ble_eq_true rfl⟩) ⟨q_blind, va_recv hw.2.1 (f_sub hw).1 (ci := 6) (q0 := 0) rfl ma_0, fun U hU hW => ⟨rfl, f_WB hw hU hW⟩⟩ rfl rfl hl.1 rfl (lv_room (Nat.le_of_ble_eq_true rfl)) dL_law__969 ⟨by show _ ≤ 601024; omega, by show _ ≤ 7293034; omega⟩) hw rfl (fun H locs hw => ?_)
    have hw := hw.swap
    refine lv_iload hx hb dL_law__972 (lv_at hl 1 rfl) ?_
    refine lv_icmp_eq (tgt := 979) hx hb dL_law__974 (by decide) (fun hc => ?_) (fun hc => absurd rfl hc)
    refine lv_iload hx hb dL_law__979 (lv_at hl 1 rfl) ?_
    refine lv_if_ne (tgt := 996) hx hb dL_law__981 (by decide) (fun hc => absurd rfl hc) (fun hc => ?_)
    refine lv_aload_n hx hb dL_law__984 rfl (lv_at hl 5 rfl) ?_
    refine lv_iconst (v := 0) hx hb dL_law__985 (by decide) ?_
    refine va_lald hx hb hKL hw.1 ((xws cI cR ad O K).length + 0) 0 (by rw [List.append_assoc]; exact wg.trans rfl) rfl (inb_in (by decide)) dL_law__986 ?_
    rw [oc_up]
    refine lv_iload hx hb dL_law__987 (lv_at hl 0 rfl) ?_
    refine lv_i2l hx hb dL_law__989 rfl ?_
    refine W.lcmp hx hb dL_law__990 ?_
    refine q_is (lg_self _).symm ?_
    refine lv_if_eq (tgt := 996) hx hb dL_law__991 (by decide) (fun hc => ?_) (fun hc => absurd rfl hc)
    refine lv_goto (tgt := 1771) hx hb dL_law__996 (by decide) ?_
    exact T _ _ _ _ H locs ls _ _ hR hw (lv_sub hl [2, 3, 4, 5, 6] rfl) (by omega) (by omega)
set_option maxHeartbeats 4000000 in
set_option maxRecDepth 100000 in
theorem law_16 {p : Program} {l : Launch} {e : Env} {s : State} {m : MethodId} {below : List Frame} {meth : Method} {c : Code} {D : va_G} {cI cR cL : ClassId} {ad mad : Nat → Nat} {oa b L : Nat} {xs : Nat → Int32} {R : Nat → XO → RK → MS → Prop} {Q : State → Prop} {it : Nat} {x4 : Int32} (hC : LC p l e s m below meth c D cI cR cL ad mad oa b L xs) (hSim : Sim R) (hit : it < 512) (hin1 : vp_in (x4 + 1) L) (hin2 : vp_in (x4 + 2) L) (hin3 : vp_in (x4 + 3) L) (T : LT R p l e s m below meth c D cI cR cL ad mad oa b Q (it + 1) x4 1771) : LT R p l e s m below meth c D cI cR cL ad mad oa b Q it x4 999 := by
  intro O K g M H locs ls cells slots hR hw hl hc1 hc2
  obtain ⟨hx, hb, hml, hown, hts, htr, hO, hKL, hNC, hX, hbl⟩ := hC
  have hA : ∀ q : Nat, s.heap.size ≤ q → s.heap.size ≤ q := fun _ h => h
  have hbA : ¬ s.heap.size ≤ b := Nat.not_le.mpr hbl
  obtain ⟨v1, ev1⟩ : ∃ v, v = xs ((x4 + 1).toNatClampNeg) := ⟨_, rfl⟩
  obtain ⟨v2, ev2⟩ : ∃ v, v = xs ((x4 + 2).toNatClampNeg) := ⟨_, rfl⟩
  obtain ⟨v3, ev3⟩ : ∃ v, v = xs ((x4 + 3).toNatClampNeg) := ⟨_, rfl⟩
  obtain ⟨r, t, M1, hm, ht, hres⟩ := hSim.2.2.2.2.2.2.2.2.2.2.2.2.2.2.2.2.2.2.1 it O K M  hit hR
  rcases hres with ⟨k, hk, hf, rfl, hR⟩ | ⟨u, hf, rfl, rfl, hR⟩
  · refine lv_aload_n hx hb dL_law__999 rfl (lv_at hl 1 rfl) ?_
    refine lv_aload_n hx hb dL_law__1000 rfl (lv_at hl 3 rfl) ?_
    refine w_run (r := mws cI mad M) (st1 := [.int (kW 3 k)]) (vx_runSW (As := [.ref (ad 0), .ref oa]) (rest := []) ⟨hx, hb, hml, hown, hts⟩ (cw_undo (A := AR (fun q : Nat => s.heap.size ≤ q) (mws cI mad M)) htr hf (fun k9 e9 => by cases e9; exact hk)) (vx_cwSW 2 hts gT_L_undo rfl rfl rfl (by decide +kernel) ⟨Nat.le_of_ble_eq_true rfl, Nat.le_of_ble_eq_true rfl⟩) ⟨w_blind, fun U hU hW => ⟨rfl, f_PX hw hO hA hU hW, va_K.moved hW.alike hKL, NC.moved hW.alike hNC⟩⟩ rfl rfl hl.1 rfl (lv_room (Nat.le_of_ble_eq_true rfl)) dL_law__1001 ⟨by show _ ≤ 601024; omega, by show _ ≤ 7293034; omega⟩) hw rfl (fun H locs hw => ?_)
    have hw : WH D cI cR (fun q : Nat => s.heap.size ≤ q) ((xws cI cR ad O K ++ oc cL oa g) ++ mws cI mad M) s H locs := hw
    refine lv_istore (lv' := [(5, .int (kW 3 k)), (0, .ref b), (1, .ref (ad 0)), (2, .ref (mad 0)), (3, .ref oa), (4, .int x4)]) hx hb dL_law__1004 hl (by decide) rfl (fun ls hl => ?_)
    refine lv_aload_n hx hb dL_law__1006 rfl (lv_at hl 3 rfl) ?_
    have hw := hw.swap
    refine w_run (r := (xws cI cR ad O K ++ oc cL oa g)) (st1 := [.int r]) (va_runV (b := mad 0) (As := []) (rest := []) ⟨hx, hb, hml, hown, hts⟩ (c_X6_undo (cR := cR) (A := AR (fun q : Nat => s.heap.size ≤ q) (xws cI cR ad O K ++ oc cL oa g)) hm) (cwV 0 hts gT_X6_undo rfl rfl rfl (by decide +kernel) ⟨Nat.le_of_ble_eq_true rfl, Nat.le_of_ble_eq_true rfl⟩) ⟨q_blind, va_recv hw.2.1 (f_sub hw).1 (ci := 6) (q0 := 0) rfl ma_0, fun U hU hW => ⟨rfl, f_WB hw hU hW⟩⟩ rfl rfl hl.1 rfl (lv_room (Nat.le_of_ble_eq_true rfl)) dL_law__1007 ⟨by show _ ≤ 601024; omega, by show _ ≤ 7293034; omega⟩) hw rfl (fun H locs hw => ?_)
    refine lv_istore (lv' := [(6, .int r), (5, .int (kW 3 k)), (0, .ref b), (1, .ref (ad 0)), (2, .ref (mad 0)), (3, .ref oa), (4, .int x4)]) hx hb dL_law__1010 hl (by decide) rfl (fun ls hl => ?_)
    refine lv_aload_n hx hb dL_law__1012 rfl (lv_at hl 4 rfl) ?_
    refine w_run (r := (xws cI cR ad O K ++ oc cL oa g)) (st1 := [.int (kW 3 k)]) (va_runV (b := mad 0) (As := []) (rest := []) ⟨hx, hb, hml, hown, hts⟩ (c_X6_thrown (cR := cR) (A := AR (fun q : Nat => s.heap.size ≤ q) (xws cI cR ad O K ++ oc cL oa g)) ht) (cwV 0 hts gT_X6_thrown rfl rfl rfl (by decide +kernel) ⟨Nat.le_of_ble_eq_true rfl, Nat.le_of_ble_eq_true rfl⟩) ⟨q_blind, va_recv hw.2.1 (f_sub hw).1 (ci := 6) (q0 := 0) rfl ma_0, fun U hU hW => ⟨rfl, f_WB hw hU hW⟩⟩ rfl rfl hl.1 rfl (lv_room (Nat.le_of_ble_eq_true rfl)) dL_law__1013 ⟨by show _ ≤ 601024; omega, by show _ ≤ 7293034; omega⟩) hw rfl (fun H locs hw => ?_)
    have hw := hw.swap
    refine lv_iload hx hb dL_law__1016 (lv_at hl 1 rfl) ?_
    refine lv_icmp_eq (tgt := 1023) hx hb dL_law__1018 (by decide) (fun hc => ?_) (fun hc => absurd rfl hc)
    refine lv_iload hx hb dL_law__1023 (lv_at hl 1 rfl) ?_
    refine lv_if_ne (tgt := 1040) hx hb dL_law__1025 (by decide) (fun hc => ?_) (fun hc => absurd hc (kW_ne _ _))
    refine lv_goto (tgt := 1771) hx hb dL_law__1040 (by decide) ?_
    exact T _ _ _ _ H locs ls _ _ hR hw (lv_sub hl [2, 3, 4, 5, 6] rfl) (by omega) (by omega)
  · refine lv_aload_n hx hb dL_law__999 rfl (lv_at hl 1 rfl) ?_
    refine lv_aload_n hx hb dL_law__1000 rfl (lv_at hl 3 rfl) ?_
    refine w_run (r := mws cI mad M) (st1 := [.int (0)]) (vx_runSW (As := [.ref (ad 0), .ref oa]) (rest := []) ⟨hx, hb, hml, hown, hts⟩ (cw_undo (A := AR (fun q : Nat => s.heap.size ≤ q) (mws cI mad M)) htr hf (fun k9 e9 => nomatch e9)) (vx_cwSW 2 hts gT_L_undo rfl rfl rfl (by decide +kernel) ⟨Nat.le_of_ble_eq_true rfl, Nat.le_of_ble_eq_true rfl⟩) ⟨w_blind, fun U hU hW => ⟨rfl, f_PX hw hO hA hU hW, va_K.moved hW.alike hKL, NC.moved hW.alike hNC⟩⟩ rfl rfl hl.1 rfl (lv_room (Nat.le_of_ble_eq_true rfl)) dL_law__1001 ⟨by show _ ≤ 601024; omega, by show _ ≤ 7293034; omega⟩) hw rfl (fun H locs hw => ?_)
    have hw : WH D cI cR (fun q : Nat => s.heap.size ≤ q) ((xws cI cR ad u.2.1 u.2.2 ++ oc cL oa (ocu g u.1.toInt64)) ++ mws cI mad M) s H locs := hw
    refine lv_istore (lv' := [(5, .int (0)), (0, .ref b), (1, .ref (ad 0)), (2, .ref (mad 0)), (3, .ref oa), (4, .int x4)]) hx hb dL_law__1004 hl (by decide) rfl (fun ls hl => ?_)
    refine lv_aload_n hx hb dL_law__1006 rfl (lv_at hl 3 rfl) ?_
    have hw := hw.swap
    refine w_run (r := (xws cI cR ad u.2.1 u.2.2 ++ oc cL oa (ocu g u.1.toInt64))) (st1 := [.int u.1]) (va_runV (b := mad 0) (As := []) (rest := []) ⟨hx, hb, hml, hown, hts⟩ (c_X6_undo (cR := cR) (A := AR (fun q : Nat => s.heap.size ≤ q) (xws cI cR ad u.2.1 u.2.2 ++ oc cL oa (ocu g u.1.toInt64))) hm) (cwV 0 hts gT_X6_undo rfl rfl rfl (by decide +kernel) ⟨Nat.le_of_ble_eq_true rfl, Nat.le_of_ble_eq_true rfl⟩) ⟨q_blind, va_recv hw.2.1 (f_sub hw).1 (ci := 6) (q0 := 0) rfl ma_0, fun U hU hW => ⟨rfl, f_WB hw hU hW⟩⟩ rfl rfl hl.1 rfl (lv_room (Nat.le_of_ble_eq_true rfl)) dL_law__1007 ⟨by show _ ≤ 601024; omega, by show _ ≤ 7293034; omega⟩) hw rfl (fun H locs hw => ?_)
    refine lv_istore (lv' := [(6, .int u.1), (5, .int (0)), (0, .ref b), (1, .ref (ad 0)), (2, .ref (mad 0)), (3, .ref oa), (4, .int x4)]) hx hb dL_law__1010 hl (by decide) rfl (fun ls hl => ?_)
    refine lv_aload_n hx hb dL_law__1012 rfl (lv_at hl 4 rfl) ?_
    refine w_run (r := (xws cI cR ad u.2.1 u.2.2 ++ oc cL oa (ocu g u.1.toInt64))) (st1 := [.int (0)]) (va_runV (b := mad 0) (As := []) (rest := []) ⟨hx, hb, hml, hown, hts⟩ (c_X6_thrown (cR := cR) (A := AR (fun q : Nat => s.heap.size ≤ q) (xws cI cR ad u.2.1 u.2.2 ++ oc cL oa (ocu g u.1.toInt64))) ht) (cwV 0 hts gT_X6_thrown rfl rfl rfl (by decide +kernel) ⟨Nat.le_of_ble_eq_true rfl, Nat.le_of_ble_eq_true rfl⟩) ⟨q_blind, va_recv hw.2.1 (f_sub hw).1 (ci := 6) (q0 := 0) rfl ma_0, fun U hU hW => ⟨rfl, f_WB hw hU hW⟩⟩ rfl rfl hl.1 rfl (lv_room (Nat.le_of_ble_eq_true rfl)) dL_law__1013 ⟨by show _ ≤ 601024; omega, by show _ ≤ 7293034; omega⟩) hw rfl (fun H locs hw => ?_)
    have hw := hw.swap
    refine lv_iload hx hb dL_law__1016 (lv_at hl 1 rfl) ?_
    refine lv_icmp_eq (tgt := 1023) hx hb dL_law__1018 (by decide) (fun hc => ?_) (fun hc => absurd rfl hc)
    refine lv_iload hx hb dL_law__1023 (lv_at hl 1 rfl) ?_
    refine lv_if_ne (tgt := 1040) hx hb dL_law__1025 (by decide) (fun hc => absurd rfl hc) (fun hc => ?_)
    refine lv_aload_n hx hb dL_law__1028 rfl (lv_at hl 5 rfl) ?_
    refine lv_iconst (v := 0) hx hb dL_law__1029 (by decide) ?_
    refine va_lald hx hb hKL hw.1 ((xws cI cR ad u.2.1 u.2.2).length + 0) 0 (by rw [List.append_assoc]; exact wg.trans rfl) rfl (inb_in (by decide)) dL_law__1030 ?_
    rw [oc_up]
    refine lv_iload hx hb dL_law__1031 (lv_at hl 0 rfl) ?_
    refine lv_i2l hx hb dL_law__1033 rfl ?_
    refine W.lcmp hx hb dL_law__1034 ?_
    refine q_is (lg_self _).symm ?_
    refine lv_if_eq (tgt := 1040) hx hb dL_law__1035 (by decide) (fun hc => ?_) (fun hc => absurd rfl hc)
    refine lv_goto (tgt := 1771) hx hb dL_law__1040 (by decide) ?_
    exact T _ _ _ _ H locs ls _ _ hR hw (lv_sub hl [2, 3, 4, 5, 6] rfl) (by omega) (by omega)
set_option maxHeartbeats 4000000 in
set_option maxRecDepth 100000 in
theorem law_17 {p : Program} {l : Launch} {e : Env} {s : State} {m : MethodId} {below : List Frame} {meth : Method} {c : Code} {D : va_G} {cI cR cL : ClassId} {ad mad : Nat → Nat} {oa b L : Nat} {xs : Nat → Int32} {R : Nat → XO → RK → MS → Prop} {Q : State → Prop} {it : Nat} {x4 : Int32} (hC : LC p l e s m below meth c D cI cR cL ad mad oa b L xs) (hSim : Sim R) (hit : it < 512) (hin1 : vp_in (x4 + 1) L) (hin2 : vp_in (x4 + 2) L) (hin3 : vp_in (x4 + 3) L) (T : LT R p l e s m below meth c D cI cR cL ad mad oa b Q (it + 1) x4 1771) : LT R p l e s m below meth c D cI cR cL ad mad oa b Q it x4 1043 := by
  intro O K g M H locs ls cells slots hR hw hl hc1 hc2
  obtain ⟨hx, hb, hml, hown, hts, htr, hO, hKL, hNC, hX, hbl⟩ := hC
  have hA : ∀ q : Nat, s.heap.size ≤ q → s.heap.size ≤ q := fun _ h => h
  have hbA : ¬ s.heap.size ≤ b := Nat.not_le.mpr hbl
  obtain ⟨v1, ev1⟩ : ∃ v, v = xs ((x4 + 1).toNatClampNeg) := ⟨_, rfl⟩
  obtain ⟨v2, ev2⟩ : ∃ v, v = xs ((x4 + 2).toNatClampNeg) := ⟨_, rfl⟩
  obtain ⟨v3, ev3⟩ : ∃ v, v = xs ((x4 + 3).toNatClampNeg) := ⟨_, rfl⟩
  obtain ⟨r, O1, M1, hf, hm, hR⟩ := hSim.2.2.2.2.2.2.2.2.2.2.2.2.2.2.2.2.2.2.2.1 it O K M hit hR
  refine lv_aload_n hx hb dL_law__1043 rfl (lv_at hl 1 rfl) ?_
  have hw : WH D cI cR (fun q : Nat => s.heap.size ≤ q) (xws cI cR ad O K ++ (oc cL oa g ++ mws cI mad M)) s H locs := hw.to (List.append_assoc _ _ _)
  refine w_run (r := oc cL oa g ++ mws cI mad M) (st1 := [.int r]) (va_runV (b := ad 0) (As := []) (rest := []) ⟨hx, hb, hml, hown, hts⟩ (c_X5_keep (A := AR (fun q : Nat => s.heap.size ≤ q) (oc cL oa g ++ mws cI mad M)) hf) (cwV 0 hts gT_X5_keep rfl rfl rfl (by decide +kernel) ⟨Nat.le_of_ble_eq_true rfl, Nat.le_of_ble_eq_true rfl⟩) ⟨q_blind, va_recv hw.2.1 (f_sub hw).1 (ci := 5) (q0 := 0) rfl xa_0, fun U hU hW => ⟨rfl, f_WB hw hU hW⟩⟩ rfl rfl hl.1 rfl (lv_room (Nat.le_of_ble_eq_true rfl)) dL_law__1044 ⟨by show _ ≤ 601024; omega, by show _ ≤ 7293034; omega⟩) hw rfl (fun H locs hw => ?_)
  have hw : WH D cI cR (fun q : Nat => s.heap.size ≤ q) ((xws cI cR ad O1 K ++ oc cL oa g) ++ mws cI mad M) s H locs := hw.to (List.append_assoc _ _ _).symm
  refine lv_aload_n hx hb dL_law__1047 rfl (lv_at hl 2 rfl) ?_
  have hw := hw.swap
  refine w_run (r := (xws cI cR ad O1 K ++ oc cL oa g)) (st1 := [.int r, .int r]) (va_runV (b := mad 0) (As := []) (rest := [.int r]) ⟨hx, hb, hml, hown, hts⟩ (c_X6_keep (cR := cR) (A := AR (fun q : Nat => s.heap.size ≤ q) (xws cI cR ad O1 K ++ oc cL oa g)) hm) (cwV 0 hts gT_X6_keep rfl rfl rfl (by decide +kernel) ⟨Nat.le_of_ble_eq_true rfl, Nat.le_of_ble_eq_true rfl⟩) ⟨q_blind, va_recv hw.2.1 (f_sub hw).1 (ci := 6) (q0 := 0) rfl ma_0, fun U hU hW => ⟨rfl, f_WB hw hU hW⟩⟩ rfl rfl hl.1 rfl (lv_room (Nat.le_of_ble_eq_true rfl)) dL_law__1048 ⟨by show _ ≤ 601024; omega, by show _ ≤ 7293034; omega⟩) hw rfl (fun H locs hw => ?_)
  have hw := hw.swap
  refine lv_icmp_eq (tgt := 1771) hx hb dL_law__1051 (by decide) (fun hc => ?_) (fun hc => absurd rfl hc)
  exact T _ _ _ _ H locs ls _ _ hR hw (lv_sub hl [0, 1, 2, 3, 4] rfl) (by omega) (by omega)
