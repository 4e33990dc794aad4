set_option maxHeartbeats 4000000 in
set_option maxRecDepth 100000 in
theorem law_0 {p : Program} {l : Launch} {e : Env} {s : State} {m : MethodId} {below : List Frame} {meth : Method} {c : Code} {D : va_G} {cI cR cL : ClassId} {ad mad : Nat → Nat} {oa b L : Nat} {xs : Nat → Int32} {R : Nat → XO → RK → MS → Prop} {Q : State → Prop} {it : Nat} {x4 : Int32} (hC : LC p l e s m below meth c D cI cR cL ad mad oa b L xs) (hSim : Sim R) (hit : it < 512) (hin1 : vp_in (x4 + 1) L) (hin2 : vp_in (x4 + 2) L) (hin3 : vp_in (x4 + 3) L) (T : LT R p l e s m below meth c D cI cR cL ad mad oa b Q (it + 1) x4 1771) : LT R p l e s m below meth c D cI cR cL ad mad oa b Q it x4 172 := by
  intro O K g M H locs ls cells slots hR hw hl hc1 hc2
  obtain ⟨hx, hb, hml, hown, hts, htr, hO, hKL, hNC, hX, hbl⟩ := hC
  have hA : ∀ q : Nat, s.heap.size ≤ q → s.heap.size ≤ q := fun _ h => h
  have hbA : ¬ s.heap.size ≤ b := Nat.not_le.mpr hbl
  obtain ⟨v1, ev1⟩ : ∃ v, v = xs ((x4 + 1).toNatClampNeg) := ⟨_, rfl⟩
  obtain ⟨v2, ev2⟩ : ∃ v, v = xs ((x4 + 2).toNatClampNeg) := ⟨_, rfl⟩
  obtain ⟨v3, ev3⟩ : ∃ v, v = xs ((x4 + 3).toNatClampNeg) := ⟨_, rfl⟩
  obtain ⟨r, t, M1, hm, ht, hres⟩ := hSim.2.2.1 it O K M v1 v2 v3 hit hR
  rcases hres with ⟨k, hk, hf, rfl, hR⟩ | ⟨u, hf, rfl, rfl, hR⟩
  · refine lv_aload_n hx hb dL_law__172 rfl (lv_at hl 1 rfl) ?_
    refine lv_aload_n hx hb dL_law__173 rfl (lv_at hl 0 rfl) ?_
    refine lv_iload hx hb dL_law__174 (lv_at hl 4 rfl) ?_
    refine lv_iconst (v := 1) hx hb dL_law__176 (by decide) ?_
    refine lv_iadd hx hb dL_law__177 ?_
    refine va_sld hx hb hX hbl hbA hw.2.2.2.1 hin1 dL_law__178 ?_
    refine q_is ev1 ?_
    refine lv_aload_n hx hb dL_law__179 rfl (lv_at hl 0 rfl) ?_
    refine lv_iload hx hb dL_law__180 (lv_at hl 4 rfl) ?_
    refine lv_iconst (v := 2) hx hb dL_law__182 (by decide) ?_
    refine lv_iadd hx hb dL_law__183 ?_
    refine va_sld hx hb hX hbl hbA hw.2.2.2.1 hin2 dL_law__184 ?_
    refine q_is ev2 ?_
    refine lv_aload_n hx hb dL_law__185 rfl (lv_at hl 0 rfl) ?_
    refine lv_iload hx hb dL_law__186 (lv_at hl 4 rfl) ?_
    refine lv_iconst (v := 3) hx hb dL_law__188 (by decide) ?_
    refine lv_iadd hx hb dL_law__189 ?_
    refine va_sld hx hb hX hbl hbA hw.2.2.2.1 hin3 dL_law__190 ?_
    refine q_is ev3 ?_
    refine lv_aload_n hx hb dL_law__191 rfl (lv_at hl 3 rfl) ?_
    refine w_run (r := mws cI mad M) (st1 := [.int (kW 2 k)]) (vx_runSW (As := [.ref (ad 0), .int v1, .int v2, .int v3, .ref oa]) (rest := []) ⟨hx, hb, hml, hown, hts⟩ (cw_come (A := AR (fun q : Nat => s.heap.size ≤ q) (mws cI mad M)) htr hf (fun k9 e9 => by cases e9; exact hk)) (vx_cwSW 5 hts gT_L_come rfl rfl rfl (by decide +kernel) ⟨Nat.le_of_ble_eq_true rfl, Nat.le_of_ble_eq_true rfl⟩) ⟨w_blind, fun U hU hW => ⟨rfl, f_PX hw hO hA hU hW, va_K.moved hW.alike hKL, NC.moved hW.alike hNC⟩⟩ rfl rfl hl.1 rfl (lv_room (Nat.le_of_ble_eq_true rfl)) dL_law__192 ⟨by show _ ≤ 601024; omega, by show _ ≤ 7293034; omega⟩) hw rfl (fun H locs hw => ?_)
    have hw : WH D cI cR (fun q : Nat => s.heap.size ≤ q) ((xws cI cR ad O K ++ oc cL oa g) ++ mws cI mad M) s H locs := hw
    refine lv_istore (lv' := [(5, .int (kW 2 k)), (0, .ref b), (1, .ref (ad 0)), (2, .ref (mad 0)), (3, .ref oa), (4, .int x4)]) hx hb dL_law__195 hl (by decide) rfl (fun ls hl => ?_)
    refine lv_aload_n hx hb dL_law__197 rfl (lv_at hl 3 rfl) ?_
    refine lv_aload_n hx hb dL_law__198 rfl (lv_at hl 1 rfl) ?_
    refine lv_iload hx hb dL_law__199 (lv_at hl 5 rfl) ?_
    refine lv_iconst (v := 1) hx hb dL_law__201 (by decide) ?_
    refine lv_iadd hx hb dL_law__202 ?_
    refine va_sld hx hb hX hbl hbA hw.2.2.2.1 hin1 dL_law__203 ?_
    refine q_is ev1 ?_
    refine lv_aload_n hx hb dL_law__204 rfl (lv_at hl 1 rfl) ?_
    refine lv_iload hx hb dL_law__205 (lv_at hl 5 rfl) ?_
    refine lv_iconst (v := 2) hx hb dL_law__207 (by decide) ?_
    refine lv_iadd hx hb dL_law__208 ?_
    refine va_sld hx hb hX hbl hbA hw.2.2.2.1 hin2 dL_law__209 ?_
    refine q_is ev2 ?_
    refine lv_aload_n hx hb dL_law__210 rfl (lv_at hl 1 rfl) ?_
    refine lv_iload hx hb dL_law__211 (lv_at hl 5 rfl) ?_
    refine lv_iconst (v := 3) hx hb dL_law__213 (by decide) ?_
    refine lv_iadd hx hb dL_law__214 ?_
    refine va_sld hx hb hX hbl hbA hw.2.2.2.1 hin3 dL_law__215 ?_
    refine q_is ev3 ?_
    have hw := hw.swap
    refine w_run (r := (xws cI cR ad O K ++ oc cL oa g)) (st1 := [.int r]) (va_runV (b := mad 0) (As := [.int v1, .int v2, .int v3]) (rest := []) ⟨hx, hb, hml, hown, hts⟩ (c_X6_come (cR := cR) (A := AR (fun q : Nat => s.heap.size ≤ q) (xws cI cR ad O K ++ oc cL oa g)) hm) (cwV 3 hts gT_X6_come rfl rfl rfl (by decide +kernel) ⟨Nat.le_of_ble_eq_true rfl, Nat.le_of_ble_eq_true rfl⟩) ⟨q_blind, va_recv hw.2.1 (f_sub hw).1 (ci := 6) (q0 := 0) rfl ma_0, fun U hU hW => ⟨rfl, f_WB hw hU hW⟩⟩ rfl rfl hl.1 rfl (lv_room (Nat.le_of_ble_eq_true rfl)) dL_law__216 ⟨by show _ ≤ 601024; omega, by show _ ≤ 7293034; omega⟩) hw rfl (fun H locs hw => ?_)
    refine lv_istore (lv' := [(6, .int r), (5, .int (kW 2 k)), (0, .ref b), (1, .ref (ad 0)), (2, .ref (mad 0)), (3, .ref oa), (4, .int x4)]) hx hb dL_law__219 hl (by decide) rfl (fun ls hl => ?_)
    refine lv_aload_n hx hb dL_law__221 rfl (lv_at hl 4 rfl) ?_
    refine w_run (r := (xws cI cR ad O K ++ oc cL oa g)) (st1 := [.int (kW 2 k)]) (va_runV (b := mad 0) (As := []) (rest := []) ⟨hx, hb, hml, hown, hts⟩ (c_X6_thrown (cR := cR) (A := AR (fun q : Nat => s.heap.size ≤ q) (xws cI cR ad O K ++ oc cL oa g)) ht) (cwV 0 hts gT_X6_thrown rfl rfl rfl (by decide +kernel) ⟨Nat.le_of_ble_eq_true rfl, Nat.le_of_ble_eq_true rfl⟩) ⟨q_blind, va_recv hw.2.1 (f_sub hw).1 (ci := 6) (q0 := 0) rfl ma_0, fun U hU hW => ⟨rfl, f_WB hw hU hW⟩⟩ rfl rfl hl.1 rfl (lv_room (Nat.le_of_ble_eq_true rfl)) dL_law__222 ⟨by show _ ≤ 601024; omega, by show _ ≤ 7293034; omega⟩) hw rfl (fun H locs hw => ?_)
    have hw := hw.swap
    refine lv_iload hx hb dL_law__225 (lv_at hl 1 rfl) ?_
    refine lv_icmp_eq (tgt := 232) hx hb dL_law__227 (by decide) (fun hc => ?_) (fun hc => absurd rfl hc)
    refine lv_iload hx hb dL_law__232 (lv_at hl 1 rfl) ?_
    refine lv_if_ne (tgt := 249) hx hb dL_law__234 (by decide) (fun hc => ?_) (fun hc => absurd hc (kW_ne _ _))
    refine lv_goto (tgt := 1771) hx hb dL_law__249 (by decide) ?_
    exact T _ _ _ _ H locs ls _ _ hR hw (lv_sub hl [2, 3, 4, 5, 6] rfl) (by omega) (by omega)
  · refine lv_aload_n hx hb dL_law__172 rfl (lv_at hl 1 rfl) ?_
    refine lv_aload_n hx hb dL_law__173 rfl (lv_at hl 0 rfl) ?_
    refine lv_iload hx hb dL_law__174 (lv_at hl 4 rfl) ?_
    refine lv_iconst (v := 1) hx hb dL_law__176 (by decide) ?_
    refine lv_iadd hx hb dL_law__177 ?_
    refine va_sld hx hb hX hbl hbA hw.2.2.2.1 hin1 dL_law__178 ?_
    refine q_is ev1 ?_
    refine lv_aload_n hx hb dL_law__179 rfl (lv_at hl 0 rfl) ?_
    refine lv_iload hx hb dL_law__180 (lv_at hl 4 rfl) ?_
    refine lv_iconst (v := 2) hx hb dL_law__182 (by decide) ?_
    refine lv_iadd hx hb dL_law__183 ?_
    refine va_sld hx hb hX hbl hbA hw.2.2.2.1 hin2 dL_law__184 ?_
    refine q_is ev2 ?_
    refine lv_aload_n hx hb dL_law__185 rfl (lv_at hl 0 rfl) ?_
    refine lv_iload hx hb dL_law__186 (lv_at hl 4 rfl) ?_
    refine lv_iconst (v := 3) hx hb dL_law__188 (by decide) ?_
    refine lv_iadd hx hb dL_law__189 ?_
    refine va_sld hx hb hX hbl hbA hw.2.2.2.1 hin3 dL_law__190 ?_
    refine q_is ev3 ?_
    refine lv_aload_n hx hb dL_law__191 rfl (lv_at hl 3 rfl) ?_
    refine w_run (r := mws cI mad M) (st1 := [.int (0)]) (vx_runSW (As := [.ref (ad 0), .int v1, .int v2, .int v3, .ref oa]) (rest := []) ⟨hx, hb, hml, hown, hts⟩ (cw_come (A := AR (fun q : Nat => s.heap.size ≤ q) (mws cI mad M)) htr hf (fun k9 e9 => nomatch e9)) (vx_cwSW 5 hts gT_L_come rfl rfl rfl (by decide +kernel) ⟨Nat.le_of_ble_eq_true rfl, Nat.le_of_ble_eq_true rfl⟩) ⟨w_blind, fun U hU hW => ⟨rfl, f_PX hw hO hA hU hW, va_K.moved hW.alike hKL, NC.moved hW.alike hNC⟩⟩ rfl rfl hl.1 rfl (lv_room (Nat.le_of_ble_eq_true rfl)) dL_law__192 ⟨by show _ ≤ 601024; omega, by show _ ≤ 7293034; omega⟩) hw rfl (fun H locs hw => ?_)
    have hw : WH D cI cR (fun q : Nat => s.heap.size ≤ q) ((xws cI cR ad u.2.1 u.2.2 ++ oc cL oa (ocu g u.1.toInt64)) ++ mws cI mad M) s H locs := hw
    refine lv_istore (lv' := [(5, .int (0)), (0, .ref b), (1, .ref (ad 0)), (2, .ref (mad 0)), (3, .ref oa), (4, .int x4)]) hx hb dL_law__195 hl (by decide) rfl (fun ls hl => ?_)
    refine lv_aload_n hx hb dL_law__197 rfl (lv_at hl 3 rfl) ?_
    refine lv_aload_n hx hb dL_law__198 rfl (lv_at hl 1 rfl) ?_
    refine lv_iload hx hb dL_law__199 (lv_at hl 5 rfl) ?_
    refine lv_iconst (v := 1) hx hb dL_law__201 (by decide) ?_
    refine lv_iadd hx hb dL_law__202 ?_
    refine va_sld hx hb hX hbl hbA hw.2.2.2.1 hin1 dL_law__203 ?_
    refine q_is ev1 ?_
    refine lv_aload_n hx hb dL_law__204 rfl (lv_at hl 1 rfl) ?_
    refine lv_iload hx hb dL_law__205 (lv_at hl 5 rfl) ?_
    refine lv_iconst (v := 2) hx hb dL_law__207 (by decide) ?_
    refine lv_iadd hx hb dL_law__208 ?_
    refine va_sld hx hb hX hbl hbA hw.2.2.2.1 hin2 dL_law__209 ?_
    refine q_is ev2 ?_
    refine lv_aload_n hx hb dL_law__210 rfl (lv_at hl 1 rfl) ?_
    refine lv_iload hx hb dL_law__211 (lv_at hl 5 rfl) ?_
    refine lv_iconst (v := 3) hx hb dL_law__213 (by decide) ?_
    refine lv_iadd hx hb dL_law__214 ?_
    refine va_sld hx hb hX hbl hbA hw.2.2.2.1 hin3 dL_law__215 ?_
    refine q_is ev3 ?_
    have hw := hw.swap
    refine w_run (r := (xws cI cR ad u.2.1 u.2.2 ++ oc cL oa (ocu g u.1.toInt64))) (st1 := [.int u.1]) (va_runV (b := mad 0) (As := [.int v1, .int v2, .int v3]) (rest := []) ⟨hx, hb, hml, hown, hts⟩ (c_X6_come (cR := cR) (A := AR (fun q : Nat => s.heap.size ≤ q) (xws cI cR ad u.2.1 u.2.2 ++ oc cL oa (ocu g u.1.toInt64))) hm) (cwV 3 hts gT_X6_come rfl rfl rfl (by decide +kernel) ⟨Nat.le_of_ble_eq_true rfl, Nat.le_of_ble_eq_true rfl⟩) ⟨q_blind, va_recv hw.2.1 (f_sub hw).1 (ci := 6) (q0 := 0) rfl ma_0, fun U hU hW => ⟨rfl, f_WB hw hU hW⟩⟩ rfl rfl hl.1 rfl (lv_room (Nat.le_of_ble_eq_true rfl)) dL_law__216 ⟨by show _ ≤ 601024; omega, by show _ ≤ 7293034; omega⟩) hw rfl (fun H locs hw => ?_)
    refine lv_istore (lv' := [(6, .int u.1), (5, .int (0)), (0, .ref b), (1, .ref (ad 0)), (2, .ref (mad 0)), (3, .ref oa), (4, .int x4)]) hx hb dL_law__219 hl (by decide) rfl (fun ls hl => ?_)
    refine lv_aload_n hx hb dL_law__221 rfl (lv_at hl 4 rfl) ?_
    refine w_run (r := (xws cI cR ad u.2.1 u.2.2 ++ oc cL oa (ocu g u.1.toInt64))) (st1 := [.int (0)]) (va_runV (b := mad 0) (As := []) (rest := []) ⟨hx, hb, hml, hown, hts⟩ (c_X6_thrown (cR := cR) (A := AR (fun q : Nat => s.heap.size ≤ q) (xws cI cR ad u.2.1 u.2.2 ++ oc cL oa (ocu g u.1.toInt64))) ht) (cwV 0 hts gT_X6_thrown rfl rfl rfl (by decide +kernel) ⟨Nat.le_of_ble_eq_true rfl, Nat.le_of_ble_eq_true rfl⟩) ⟨q_blind, va_recv hw.2.1 (f_sub hw).1 (ci := 6) (q0 := 0) rfl ma_0, fun U hU hW => ⟨rfl, f_WB hw hU hW⟩⟩ rfl rfl hl.1 rfl (lv_room (Nat.le_of_ble_eq_true rfl)) dL_law__222 ⟨by show _ ≤ 601024; omega, by show _ ≤ 7293034; omega⟩) hw rfl (fun H locs hw => ?_)
    have hw := hw.swap
    refine lv_iload hx hb dL_law__225 (lv_at hl 1 rfl) ?_
    refine lv_icmp_eq (tgt := 232) hx hb dL_law__227 (by decide) (fun hc => ?_) (fun hc => absurd rfl hc)
    refine lv_iload hx hb dL_law__232 (lv_at hl 1 rfl) ?_
    refine lv_if_ne (tgt := 249) hx hb dL_law__234 (by decide) (fun hc => absurd rfl hc) (fun hc => ?_)
    refine lv_aload_n hx hb dL_law__237 rfl (lv_at hl 5 rfl) ?_
    refine lv_iconst (v := 0) hx hb dL_law__238 (by decide) ?_
    refine va_lald hx hb hKL hw.1 ((xws cI cR ad u.2.1 u.2.2).length + 0) 0 (by rw [List.append_assoc]; exact wg.trans rfl) rfl (inb_in (by decide)) dL_law__239 ?_
    rw [oc_up]
    refine lv_iload hx hb dL_law__240 (lv_at hl 0 rfl) ?_
    refine lv_i2l hx hb dL_law__242 rfl ?_
    refine W.lcmp hx hb dL_law__243 ?_
    refine q_is (lg_self _).symm ?_
    refine lv_if_eq (tgt := 249) hx hb dL_law__244 (by decide) (fun hc => ?_) (fun hc => absurd rfl hc)
    refine lv_goto (tgt := 1771) hx hb dL_law__249 (by decide) ?_
    exact T _ _ _ _ H locs ls _ _ hR hw (lv_sub hl [2, 3, 4, 5, 6] rfl) (by omega) (by omega)
set_option maxHeartbeats 4000000 in
set_option maxRecDepth 100000 in
theorem law_1 {p : Program} {l : Launch} {e : Env} {s : State} {m : MethodId} {below : List Frame} {meth : Method} {c : Code} {D : va_G} {cI cR cL : ClassId} {ad mad : Nat → Nat} {oa b L : Nat} {xs : Nat → Int32} {R : Nat → XO → RK → MS → Prop} {Q : State → Prop} {it : Nat} {x4 : Int32} (hC : LC p l e s m below meth c D cI cR cL ad mad oa b L xs) (hSim : Sim R) (hit : it < 512) (hin1 : vp_in (x4 + 1) L) (hin2 : vp_in (x4 + 2) L) (hin3 : vp_in (x4 + 3) L) (T : LT R p l e s m below meth c D cI cR cL ad mad oa b Q (it + 1) x4 1771) : LT R p l e s m below meth c D cI cR cL ad mad oa b Q it x4 252 := by
  intro O K g M H locs ls cells slots hR hw hl hc1 hc2
  obtain ⟨hx, hb, hml, hown, hts, htr, hO, hKL, hNC, hX, hbl⟩ := hC
  have hA : ∀ q : Nat, s.heap.size ≤ q → s.heap.size ≤ q := fun _ h => h
  have hbA : ¬ s.heap.size ≤ b := Nat.not_le.mpr hbl
  obtain ⟨v1, ev1⟩ : ∃ v, v = xs ((x4 + 1).toNatClampNeg) := ⟨_, rfl⟩
  obtain ⟨v2, ev2⟩ : ∃ v, v = xs ((x4 + 2).toNatClampNeg) := ⟨_, rfl⟩
  obtain ⟨v3, ev3⟩ : ∃ v, v = xs ((x4 + 3).toNatClampNeg) := ⟨_, rfl⟩
  obtain ⟨r, t, M1, hm, ht, hres⟩ := hSim.2.2.2.1 it O K M v1 hit hR
  rcases hres with ⟨k, hk, hf, rfl, hR⟩ | ⟨u, hf, rfl, rfl, hR⟩
  · refine lv_aload_n hx hb dL_law__252 rfl (lv_at hl 1 rfl) ?_
    refine lv_aload_n hx hb dL_law__253 rfl (lv_at hl 0 rfl) ?_
    refine lv_iload hx hb dL_law__254 (lv_at hl 4 rfl) ?_
    refine lv_iconst (v := 1) hx hb dL_law__256 (by decide) ?_
    refine lv_iadd hx hb dL_law__257 ?_
    refine va_sld hx hb hX hbl hbA hw.2.2.2.1 hin1 dL_law__258 ?_
    refine q_is ev1 ?_
    refine lv_aload_n hx hb dL_law__259 rfl (lv_at hl 3 rfl) ?_
    refine w_run (r := mws cI mad M) (st1 := [.int (kW 1 k)]) (vx_runSW (As := [.ref (ad 0), .int v1, .ref oa]) (rest := []) ⟨hx, hb, hml, hown, hts⟩ (cw_leave (A := AR (fun q : Nat => s.heap.size ≤ q) (mws cI mad M)) htr hf (fun k9 e9 => by cases e9; exact hk)) (vx_cwSW 3 hts gT_L_leave rfl rfl rfl (by decide +kernel) ⟨Nat.le_of_ble_eq_true rfl, Nat.le_of_ble_eq_true rfl⟩) ⟨w_blind, fun U hU hW => ⟨rfl, f_PX hw hO hA hU hW, va_K.moved hW.alike hKL, NC.moved hW.alike hNC⟩⟩ rfl rfl hl.1 rfl (lv_room (Nat.le_of_ble_eq_true rfl)) dL_law__260 ⟨by show _ ≤ 601024; omega, by show _ ≤ 7293034; omega⟩) hw rfl (fun H locs hw => ?_)
    have hw : WH D cI cR (fun q : Nat => s.heap.size ≤ q) ((xws cI cR ad O K ++ oc cL oa g) ++ mws cI mad M) s H locs := hw
    refine lv_istore (lv' := [(5, .int (kW 1 k)), (0, .ref b), (1, .ref (ad 0)), (2, .ref (mad 0)), (3, .ref oa), (4, .int x4)]) hx hb dL_law__263 hl (by decide) rfl (fun ls hl => ?_)
    refine lv_aload_n hx hb dL_law__265 rfl (lv_at hl 3 rfl) ?_
    refine lv_aload_n hx hb dL_law__266 rfl (lv_at hl 1 rfl) ?_
    refine lv_iload hx hb dL_law__267 (lv_at hl 5 rfl) ?_
    refine lv_iconst (v := 1) hx hb dL_law__269 (by decide) ?_
    refine lv_iadd hx hb dL_law__270 ?_
    refine va_sld hx hb hX hbl hbA hw.2.2.2.1 hin1 dL_law__271 ?_
    refine q_is ev1 ?_
    have hw := hw.swap
    refine w_run (r := (xws cI cR ad O K ++ oc cL oa g)) (st1 := [.int r]) (va_runV (b := mad 0) (As := [.int v1]) (rest := []) ⟨hx, hb, hml, hown, hts⟩ (c_X6_leave (cR := cR) (A := AR (fun q : Nat => s.heap.size ≤ q) (xws cI cR ad O K ++ oc cL oa g)) hm) (cwV 1 hts gT_X6_leave rfl rfl rfl (by decide +kernel) ⟨Nat.le_of_ble_eq_true rfl, Nat.le_of_ble_eq_true rfl⟩) ⟨q_blind, va_recv hw.2.1 (f_sub hw).1 (ci := 6) (q0 := 0) rfl ma_0, fun U hU hW => ⟨rfl, f_WB hw hU hW⟩⟩ rfl rfl hl.1 rfl (lv_room (Nat.le_of_ble_eq_true rfl)) dL_law__272 ⟨by show _ ≤ 601024; omega, by show _ ≤ 7293034; omega⟩) hw rfl (fun H locs hw => ?_)
    refine lv_istore (lv' := [(6, .int r), (5, .int (kW 1 k)), (0, .ref b), (1, .ref (ad 0)), (2, .ref (mad 0)), (3, .ref oa), (4, .int x4)]) hx hb dL_law__275 hl (by decide) rfl (fun ls hl => ?_)
    refine lv_aload_n hx hb dL_law__277 rfl (lv_at hl 4 rfl) ?_
    refine w_run (r := (xws cI cR ad O K ++ oc cL oa g)) (st1 := [.int (kW 1 k)]) (va_runV (b := mad 0) (As := []) (rest := []) ⟨hx, hb, hml, hown, hts⟩ (c_X6_thrown (cR := cR) (A := AR (fun q : Nat => s.heap.size ≤ q) (xws cI cR ad O K ++ oc cL oa g)) ht) (cwV 0 hts gT_X6_thrown rfl rfl rfl (by decide +kernel) ⟨Nat.le_of_ble_eq_true rfl, Nat.le_of_ble_eq_true rfl⟩) ⟨q_blind, va_recv hw.2.1 (f_sub hw).1 (ci := 6) (q0 := 0) rfl ma_0, fun U hU hW => ⟨rfl, f_WB hw hU hW⟩⟩ rfl rfl hl.1 rfl (lv_room (Nat.le_of_ble_eq_true rfl)) dL_law__278 ⟨by show _ ≤ 601024; omega, by show _ ≤ 7293034; omega⟩) hw rfl (fun H locs hw => ?_)
    have hw := hw.swap
    refine lv_iload hx hb dL_law__281 (lv_at hl 1 rfl) ?_
    refine lv_icmp_eq (tgt := 288) hx hb dL_law__283 (by decide) (fun hc => ?_) (fun hc => absurd rfl hc)
    refine lv_iload hx hb dL_law__288 (lv_at hl 1 rfl) ?_
    refine lv_if_ne (tgt := 305) hx hb dL_law__290 (by decide) (fun hc => ?_) (fun hc => absurd hc (kW_ne _ _))
    refine lv_goto (tgt := 1771) hx hb dL_law__305 (by decide) ?_
    exact T _ _ _ _ H locs ls _ _ hR hw (lv_sub hl [2, 3, 4, 5, 6] rfl) (by omega) (by omega)
  · refine lv_aload_n hx hb dL_law__252 rfl (lv_at hl 1 rfl) ?_
    refine lv_aload_n hx hb dL_law__253 rfl (lv_at hl 0 rfl) ?_
    refine lv_iload hx hb dL_law__254 (lv_at hl 4 rfl) ?_
    refine lv_iconst (v := 1) hx hb dL_law__256 (by decide) ?_
    refine lv_iadd hx hb dL_law__257 ?_
    refine va_sld hx hb hX hbl hbA hw.2.2.2.1 hin1 dL_law__258 ?_
    refine q_is ev1 ?_
    refine lv_aload_n hx hb dL_law__259 rfl (lv_at hl 3 rfl) ?_
    refine w_run (r := mws cI mad M) (st1 := [.int (0)]) (vx_runSW (As := [.ref (ad 0), .int v1, .ref oa]) (rest := []) ⟨hx, hb, hml, hown, hts⟩ (cw_leave (A := AR (fun q : Nat => s.heap.size ≤ q) (mws cI mad M)) htr hf (fun k9 e9 => nomatch e9)) (vx_cwSW 3 hts gT_L_leave rfl rfl rfl (by decide +kernel) ⟨Nat.le_of_ble_eq_true rfl, Nat.le_of_ble_eq_true rfl⟩) ⟨w_blind, fun U hU hW => ⟨rfl, f_PX hw hO hA hU hW, va_K.moved hW.alike hKL, NC.moved hW.alike hNC⟩⟩ rfl rfl hl.1 rfl (lv_room (Nat.le_of_ble_eq_true rfl)) dL_law__260 ⟨by show _ ≤ 601024; omega, by show _ ≤ 7293034; omega⟩) hw rfl (fun H locs hw => ?_)
    have hw : WH D cI cR (fun q : Nat => s.heap.size ≤ q) ((xws cI cR ad u.2.1 u.2.2 ++ oc cL oa (ocu g u.1.toInt64)) ++ mws cI mad M) s H locs := hw
    refine lv_istore (lv' := [(5, .int (0)), (0, .ref b), (1, .ref (ad 0)), (2, .ref (mad 0)), (3, .ref oa), (4, .int x4)]) hx hb dL_law__263 hl (by decide) rfl (fun ls hl => ?_)
    refine lv_aload_n hx hb dL_law__265 rfl (lv_at hl 3 rfl) ?_
    refine lv_aload_n hx hb dL_law__266 rfl (lv_at hl 1 rfl) ?_
    refine lv_iload hx hb dL_law__267 (lv_at hl 5 rfl) ?_
    refine lv_iconst (v := 1) hx hb dL_law__269 (by decide) ?_
    refine lv_iadd hx hb dL_law__270 ?_
    refine va_sld hx hb hX hbl hbA hw.2.2.2.1 hin1 dL_law__271 ?_
    refine q_is ev1 ?_
    have hw := hw.swap
    refine w_run (r := (xws cI cR ad u.2.1 u.2.2 ++ oc cL oa (ocu g u.1.toInt64))) (st1 := [.int u.1]) (va_runV (b := mad 0) (As := [.int v1]) (rest := []) ⟨hx, hb, hml, hown, hts⟩ (c_X6_leave (cR := cR) (A := AR (fun q : Nat => s.heap.size ≤ q) (xws cI cR ad u.2.1 u.2.2 ++ oc cL oa (ocu g u.1.toInt64))) hm) (cwV 1 hts gT_X6_leave rfl rfl rfl (by decide +kernel) ⟨Nat.le_of_ble_eq_true rfl, Nat.le_of_ble_eq_true rfl⟩) ⟨q_blind, va_recv hw.2.1 (f_sub hw).1 (ci := 6) (q0 := 0) rfl ma_0, fun U hU hW => ⟨rfl, f_WB hw hU hW⟩⟩ rfl rfl hl.1 rfl (lv_room (Nat.le_of_ble_eq_true rfl)) dL_law__272 ⟨by show _ ≤ 601024; omega, by show _ ≤ 7293034; omega⟩) hw rfl (fun H locs hw => ?_)
    refine lv_istore (lv' := [(6, .int u.1), (5, .int (0)), (0, .ref b), (1, .ref (ad 0)), (2, .ref (mad 0)), (3, .ref oa), (4, .int x4)]) hx hb dL_law__275 hl (by decide) rfl (fun ls hl => ?_)
    refine lv_aload_n hx hb dL_law__277 rfl (lv_at hl 4 rfl) ?_
    refine w_run (r := (xws cI cR ad u.2.1 u.2.2 ++ oc cL oa (ocu g u.1.toInt64))) (st1 := [.int (0)]) (va_runV (b := mad 0) (As := []) (rest := []) ⟨hx, hb, hml, hown, hts⟩ (c_X6_thrown (cR := cR) (A := AR (fun q : Nat => s.heap.size ≤ q) (xws cI cR ad u.2.1 u.2.2 ++ oc cL oa (ocu g u.1.toInt64))) ht) (cwV 0 hts gT_X6_thrown rfl rfl rfl (by decide +kernel) ⟨Nat.le_of_ble_eq_true rfl, Nat.le_of_ble_eq_true rfl⟩) ⟨q_blind, va_recv hw.2.1 (f_sub hw).1 (ci := 6) (q0 := 0) rfl ma_0, fun U hU hW => ⟨rfl, f_WB hw hU hW⟩⟩ rfl rfl hl.1 rfl (lv_room (Nat.le_of_ble_eq_true rfl)) dL_law__278 ⟨by show _ ≤ 601024; omega, by show _ ≤ 7293034; omega⟩) hw rfl (fun H locs hw => ?_)
    have hw := hw.swap
    refine lv_iload hx hb dL_law__281 (lv_at hl 1 rfl) ?_
    refine lv_icmp_eq (tgt := 288) hx hb dL_law__283 (by decide) (fun hc => ?_) (fun hc => absurd rfl hc)
    refine lv_iload hx hb dL_law__288 (lv_at hl 1 rfl) ?_
    refine lv_if_ne (tgt := 305) hx hb dL_law__290 (by decide) (fun hc => absurd rfl hc) (fun hc => ?_)
    refine lv_aload_n hx hb dL_law__293 rfl (lv_at hl 5 rfl) ?_
    refine lv_iconst (v := 0) hx hb dL_law__294 (by decide) ?_
    refine va_lald hx hb hKL hw.1 ((xws cI cR ad u.2.1 u.2.2).length + 0) 0 (by rw [List.append_assoc]; exact wg.trans rfl) rfl (inb_in (by decide)) dL_law__295 ?_
    rw [oc_up]
    refine lv_iload hx hb dL_law__296 (lv_at hl 0 rfl) ?_
    refine lv_i2l hx hb dL_law__298 rfl ?_
    refine W.lcmp hx hb dL_law__299 ?_
    refine q_is (lg_self _).symm ?_
    refine lv_if_eq (tgt := 305) hx hb dL_law__300 (by decide) (fun hc => ?_) (fun hc => absurd rfl hc)
    refine lv_goto (tgt := 1771) hx hb dL_law__305 (by decide) ?_
    exact T _ _ _ _ H locs ls _ _ hR hw (lv_sub hl [2, 3, 4, 5, 6] rfl) (by omega) (by omega)
set_option maxHeartbeats 4000000 in
set_option maxRecDepth 100000 in
theorem law_2 {p : Program} {l : Launch} {e : Env} {s : State} {m : MethodId} {below : List Frame} {meth : Method} {c : Code} {D : va_G} {cI cR cL : ClassId} {ad mad : Nat → Nat} {oa b L : Nat} {xs : Nat → Int32} {R : Nat → XO → RK → MS → Prop} {Q : State → Prop} {it : Nat} {x4 : Int32} (hC : LC p l e s m below meth c D cI cR cL ad mad oa b L xs) (hSim : Sim R) (hit : it < 512) (hin1 : vp_in (x4 + 1) L) (hin2 : vp_in (x4 + 2) L) (hin3 : vp_in (x4 + 3) L) (T : LT R p l e s m below meth c D cI cR cL ad mad oa b Q (it + 1) x4 1771) : LT R p l e s m below meth c D cI cR cL ad mad oa b Q it x4 308 := by
  intro O K g M H locs ls cells slots hR hw hl hc1 hc2
  obtain ⟨hx, hb, hml, hown, hts, htr, hO, hKL, hNC, hX, hbl⟩ := hC
  have hA : ∀ q : Nat, s.heap.size ≤ q → s.heap.size ≤ q := fun _ h => h
  have hbA : ¬ s.heap.size ≤ b := Nat.not_le.mpr hbl
  obtain ⟨v1, ev1⟩ : ∃ v, v = xs ((x4 + 1).toNatClampNeg) := ⟨_, rfl⟩
  obtain ⟨v2, ev2⟩ : ∃ v, v = xs ((x4 + 2).toNatClampNeg) := ⟨_, rfl⟩
  obtain ⟨v3, ev3⟩ : ∃ v, v = xs ((x4 + 3).toNatClampNeg) := ⟨_, rfl⟩
  obtain ⟨r, t, M1, hm, ht, hres⟩ := hSim.2.2.2.2.1 it O K M v1 v2 hit hR
  rcases hres with ⟨k, hk, hf, rfl, hR⟩ | ⟨u, hf, rfl, rfl, hR⟩
  · refine lv_aload_n hx hb dL_law__308 rfl (lv_at hl 1 rfl) ?_
    refine lv_aload_n hx hb dL_law__309 rfl (lv_at hl 0 rfl) ?_
    refine lv_iload hx hb dL_law__310 (lv_at hl 4 rfl) ?_
    refine lv_iconst (v := 1) hx hb dL_law__312 (by decide) ?_
    refine lv_iadd hx hb dL_law__313 ?_
    refine va_sld hx hb hX hbl hbA hw.2.2.2.1 hin1 dL_law__314 ?_
    refine q_is ev1 ?_
    refine lv_aload_n hx hb dL_law__315 rfl (lv_at hl 0 rfl) ?_
    refine lv_iload hx hb dL_law__316 (lv_at hl 4 rfl) ?_
    refine lv_iconst (v := 2) hx hb dL_law__318 (by decide) ?_
    refine lv_iadd hx hb dL_law__319 ?_
    refine va_sld hx hb hX hbl hbA hw.2.2.2.1 hin2 dL_law__320 ?_
    refine q_is ev2 ?_
    refine lv_aload_n hx hb dL_law__321 rfl (lv_at hl 3 rfl) ?_
    refine w_run (r := mws cI mad M) (st1 := [.int (kW 1 k)]) (vx_runSW (As := [.ref (ad 0), .int v1, .int v2, .ref oa]) (rest := []) ⟨hx, hb, hml, hown, hts⟩ (cw_earn (A := AR (fun q : Nat => s.heap.size ≤ q) (mws cI mad M)) htr hf (fun k9 e9 => by cases e9; exact hk)) (vx_cwSW 4 hts gT_L_earn rfl rfl rfl (by decide +kernel) ⟨Nat.le_of_ble_eq_true rfl, Nat.le_of_ble_eq_true rfl⟩) ⟨w_blind, fun U hU hW => ⟨rfl, f_PX hw hO hA hU hW, va_K.moved hW.alike hKL, NC.moved hW.alike hNC⟩⟩ rfl rfl hl.1 rfl (lv_room (Nat.le_of_ble_eq_true rfl)) dL_law__322 ⟨by show _ ≤ 601024; omega, by show _ ≤ 7293034; omega⟩) hw rfl (fun H locs hw => ?_)
    have hw : WH D cI cR (fun q : Nat => s.heap.size ≤ q) ((xws cI cR ad O K ++ oc cL oa g) ++ mws cI mad M) s H locs := hw
    refine lv_istore (lv' := [(5, .int (kW 1 k)), (0, .ref b), (1, .ref (ad 0)), (2, .ref (mad 0)), (3, .ref oa), (4, .int x4)]) hx hb dL_law__325 hl (by decide) rfl (fun ls hl => ?_)
    refine lv_aload_n hx hb dL_law__327 rfl (lv_at hl 3 rfl) ?_
    refine lv_aload_n hx hb dL_law__328 rfl (lv_at hl 1 rfl) ?_
    refine lv_iload hx hb dL_law__329 (lv_at hl 5 rfl) ?_
    refine lv_iconst (v := 1) hx hb dL_law__331 (by decide) ?_
    refine lv_iadd hx hb dL_law__332 ?_
    refine va_sld hx hb hX hbl hbA hw.2.2.2.1 hin1 dL_law__333 ?_
    refine q_is ev1 ?_
    refine lv_aload_n hx hb dL_law__334 rfl (lv_at hl 1 rfl) ?_
    refine lv_iload hx hb dL_law__335 (lv_at hl 5 rfl) ?_
    refine lv_iconst (v := 2) hx hb dL_law__337 (by decide) ?_
    refine lv_iadd hx hb dL_law__338 ?_
    refine va_sld hx hb hX hbl hbA hw.2.2.2.1 hin2 dL_law__339 ?_
    refine q_is ev2 ?_
    have hw := hw.swap
    refine w_run (r := (xws cI cR ad O K ++ oc cL oa g)) (st1 := [.int r]) (va_runV (b := mad 0) (As := [.int v1, .int v2]) (rest := []) ⟨hx, hb, hml, hown, hts⟩ (c_X6_earn (cR := cR) (A := AR (fun q : Nat => s.heap.size ≤ q) (xws cI cR ad O K ++ oc cL oa g)) hm) (cwV 2 hts gT_X6_earn rfl rfl rfl (by decide +kernel) ⟨Nat.le_of_ble_eq_true rfl, Nat.le_of_ble_eq_true rfl⟩) ⟨q_blind, va_recv hw.2.1 (f_sub hw).1 (ci := 6) (q0 := 0) rfl ma_0, fun U hU hW => ⟨rfl, f_WB hw hU hW⟩⟩ rfl rfl hl.1 rfl (lv_room (Nat.le_of_ble_eq_true rfl)) dL_law__340 ⟨by show _ ≤ 601024; omega, by show _ ≤ 7293034; omega⟩) hw rfl (fun H locs hw => ?_)
    refine lv_istore (lv' := [(6, .int r), (5, .int (kW 1 k)), (0, .ref b), (1, .ref (ad 0)), (2, .ref (mad 0)), (3, .ref oa), (4, .int x4)]) hx hb dL_law__343 hl (by decide) rfl (fun ls hl => ?_)
    refine lv_aload_n hx hb dL_law__345 rfl (lv_at hl 4 rfl) ?_
    refine w_run (r := (xws cI cR ad O K ++ oc cL oa g)) (st1 := [.int (kW 1 k)]) (va_runV (b := mad 0) (As := []) (rest := []) ⟨hx, hb, hml, hown, hts⟩ (c_X6_thrown (cR := cR) (A := AR (fun q : Nat => s.heap.size ≤ q) (xws cI cR ad O K ++ oc cL oa g)) ht) (cwV 0 hts gT_X6_thrown rfl rfl rfl (by decide +kernel) ⟨Nat.le_of_ble_eq_true rfl, Nat.le_of_ble_eq_true rfl⟩) ⟨q_blind, va_recv hw.2.1 (f_sub hw).1 (ci := 6) (q0 := 0) rfl ma_0, fun U hU hW => ⟨rfl, f_WB hw hU hW⟩⟩ rfl rfl hl.1 rfl (lv_room (Nat.le_of_ble_eq_true rfl)) dL_law__346 ⟨by show _ ≤ 601024; omega, by show _ ≤ 7293034; omega⟩) hw rfl (fun H locs hw => ?_)
    have hw := hw.swap
    refine lv_iload hx hb dL_law__349 (lv_at hl 1 rfl) ?_
    refine lv_icmp_eq (tgt := 356) hx hb dL_law__351 (by decide) (fun hc => ?_) (fun hc => absurd rfl hc)
    refine lv_iload hx hb dL_law__356 (lv_at hl 1 rfl) ?_
    refine lv_if_ne (tgt := 373) hx hb dL_law__358 (by decide) (fun hc => ?_) (fun hc => absurd hc (kW_ne _ _))
    refine lv_goto (tgt := 1771) hx hb dL_law__373 (by decide) ?_
    exact T _ _ _ _ H locs ls _ _ hR hw (lv_sub hl [2, 3, 4, 5, 6] rfl) (by omega) (by omega)
  · refine lv_aload_n hx hb dL_law__308 rfl (lv_at hl 1 rfl) ?_
    refine lv_aload_n hx hb dL_law__309 rfl (lv_at hl 0 rfl) ?_
    refine lv_iload hx hb dL_law__310 (lv_at hl 4 rfl) ?_
    refine lv_iconst (v := 1) hx hb dL_law__312 (by decide) ?_
    refine lv_iadd hx hb dL_law__313 ?_
    refine va_sld hx hb hX hbl hbA hw.2.2.2.1 hin1 dL_law__314 ?_
    refine q_is ev1 ?_
    refine lv_aload_n hx hb dL_law__315 rfl (lv_at hl 0 rfl) ?_
    refine lv_iload hx hb dL_law__316 (lv_at hl 4 rfl) ?_
    refine lv_iconst (v := 2) hx hb dL_law__318 (by decide) ?_
    refine lv_iadd hx hb dL_law__319 ?_
    refine va_sld hx hb hX hbl hbA hw.2.2.2.1 hin2 dL_law__320 ?_
    refine q_is ev2 ?_
    refine lv_aload_n hx hb dL_law__321 rfl (lv_at hl 3 rfl) ?_
    refine w_run (r := mws cI mad M) (st1 := [.int (0)]) (vx_runSW (As := [.ref (ad 0), .int v1, .int v2, .ref oa]) (rest := []) ⟨hx, hb, hml, hown, hts⟩ (cw_earn (A := AR (fun q : Nat => s.heap.size ≤ q) (mws cI mad M)) htr hf (fun k9 e9 => nomatch e9)) (vx_cwSW 4 hts gT_L_earn rfl rfl rfl (by decide +kernel) ⟨Nat.le_of_ble_eq_true rfl, Nat.le_of_ble_eq_true rfl⟩) ⟨w_blind, fun U hU hW => ⟨rfl, f_PX hw hO hA hU hW, va_K.moved hW.alike hKL, NC.moved hW.alike hNC⟩⟩ rfl rfl hl.1 rfl (lv_room (Nat.le_of_ble_eq_true rfl)) dL_law__322 ⟨by show _ ≤ 601024; omega, by show _ ≤ 7293034; omega⟩) hw rfl (fun H locs hw => ?_)
    have hw : WH D cI cR (fun q : Nat => s.heap.size ≤ q) ((xws cI cR ad u.2.1 u.2.2 ++ oc cL oa (ocu g u.1.toInt64)) ++ mws cI mad M) s H locs := hw
    refine lv_istore (lv' := [(5, .int (0)), (0, .ref b), (1, .ref (ad 0)), (2, .ref (mad 0)), (3, .ref oa), (4, .int x4)]) hx hb dL_law__325 hl (by decide) rfl (fun ls hl => ?_)
    refine lv_aload_n hx hb dL_law__327 rfl (lv_at hl 3 rfl) ?_
    refine lv_aload_n hx hb dL_law__328 rfl (lv_at hl 1 rfl) ?_
    refine lv_iload hx hb dL_law__329 (lv_at hl 5 rfl) ?_
    refine lv_iconst (v := 1) hx hb dL_law__331 (by decide) ?_
    refine lv_iadd hx hb dL_law__332 ?_
    refine va_sld hx hb hX hbl hbA hw.2.2.2.1 hin1 dL_law__333 ?_
    refine q_is ev1 ?_
    refine lv_aload_n hx hb dL_law__334 rfl (lv_at hl 1 rfl) ?_
    refine lv_iload hx hb dL_law__335 (lv_at hl 5 rfl) ?_
    refine lv_iconst (v := 2) hx hb dL_law__337 (by decide) ?_
    refine lv_iadd hx hb dL_law__338 ?_
    refine va_sld hx hb hX hbl hbA hw.2.2.2.1 hin2 dL_law__339 ?_
    refine q_is ev2 ?_
    have hw := hw.swap
    refine w_run (r := (xws cI cR ad u.2.1 u.2.2 ++ oc cL oa (ocu g u.1.toInt64))) (st1 := [.int u.1]) (va_runV (b := mad 0) (As := [.int v1, .int v2]) (rest := []) ⟨hx, hb, hml, hown, hts⟩ (c_X6_earn (cR := cR) (A := AR (fun q : Nat => s.heap.size ≤ q) (xws cI cR ad u.2.1 u.2.2 ++ oc cL oa (ocu g u.1.toInt64))) hm) (cwV 2 hts gT_X6_earn rfl rfl rfl (by decide +kernel) ⟨Nat.le_of_ble_eq_true rfl, Nat.le_of_ble_eq_true rfl⟩) ⟨q_blind, va_recv hw.2.1 (f_sub hw).1 (ci := 6) (q0 := 0) rfl ma_0, fun U hU hW => ⟨rfl, f_WB hw hU hW⟩⟩ rfl rfl hl.1 rfl (lv_room (Nat.le_of_ble_eq_true rfl)) dL_law__340 ⟨by show _ ≤ 601024; omega, by show _ ≤ 7293034; omega⟩) hw rfl (fun H locs hw => ?_)
    refine lv_istore (lv' := [(6, .int u.1), (5, .int (0)), (0, .ref b), (1, .ref (ad 0)), (2, .ref (mad 0)), (3, .ref oa), (4, .int x4)]) hx hb dL_law__343 hl (by decide) rfl (fun ls hl => ?_)
    refine lv_aload_n hx hb dL_law__345 rfl (lv_at hl 4 rfl) ?_
    refine w_run (r := (xws cI cR ad u.2.1 u.2.2 ++ oc cL oa (ocu g u.1.toInt64))) (st1 := [.int (0)]) (va_runV (b := mad 0) (As := []) (rest := []) ⟨hx, hb, hml, hown, hts⟩ (c_X6_thrown (cR := cR) (A := AR (fun q : Nat => s.heap.size ≤ q) (xws cI cR ad u.2.1 u.2.2 ++ oc cL oa (ocu g u.1.toInt64))) ht) (cwV 0 hts gT_X6_thrown rfl rfl rfl (by decide +kernel) ⟨Nat.le_of_ble_eq_true rfl, Nat.le_of_ble_eq_true rfl⟩) ⟨q_blind, va_recv hw.2.1 (f_sub hw).1 (ci := 6) (q0 := 0) rfl ma_0, fun U hU hW => ⟨rfl, f_WB hw hU hW⟩⟩ rfl rfl hl.1 rfl (lv_room (Nat.le_of_ble_eq_true rfl)) dL_law__346 ⟨by show _ ≤ 601024; omega, by show _ ≤ 7293034; omega⟩) hw rfl (fun H locs hw => ?_)
    have hw := hw.swap
    refine lv_iload hx hb dL_law__349 (lv_at hl 1 rfl) ?_
    refine lv_icmp_eq (tgt := 356) hx hb dL_law__351 (by decide) (fun hc => ?_) (fun hc => absurd rfl hc)
    refine lv_iload hx hb dL_law__356 (lv_at hl 1 rfl) ?_
    refine lv_if_ne (tgt := 373) hx hb dL_law__358 (by decide) (fun hc => absurd rfl hc) (fun hc => ?_)
    refine lv_aload_n hx hb dL_law__361 rfl (lv_at hl 5 rfl) ?_
    refine lv_iconst (v := 0) hx hb dL_law__362 (by decide) ?_
    refine va_lald hx hb hKL hw.1 ((xws cI cR ad u.2.1 u.2.2).length + 0) 0 (by rw [List.append_assoc]; exact wg.trans rfl) rfl (inb_in (by decide)) dL_law__363 ?_
    rw [oc_up]
    refine lv_iload hx hb dL_law__364 (lv_at hl 0 rfl) ?_
    refine lv_i2l hx hb dL_law__366 rfl ?_
    refine W.lcmp hx hb dL_law__367 ?_
    refine q_is (lg_self _).symm ?_
    refine lv_if_eq (tgt := 373) hx hb dL_law__368 (by decide) (fun hc => ?_) (fun hc => absurd rfl hc)
    refine lv_goto (tgt := 1771) hx hb dL_law__373 (by decide) ?_
    exact T _ _ _ _ H locs ls _ _ hR hw (lv_sub hl [2, 3, 4, 5, 6] rfl) (by omega) (by omega)
