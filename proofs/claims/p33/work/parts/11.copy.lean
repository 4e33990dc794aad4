/-! two carnivals: the one that is written, the one that is read -/
def w2s (cI : ClassId) (ad : Nat → Nat) (od os : Nat) (K KS : RK) : va_W := kws cI ad od K ++ kws cI ad os KS
theorem kd_0 {cI : ClassId} {ad : Nat → Nat} {od os : Nat} {K KS : RK} : (w2s cI ad od os K KS)[0]? = some ((ad od), .inr (0, [.ref (ad (od + 1)), .ref (ad (od + 10)), .ref (ad (od + 13)), .int (K 11 0), .int (K 11 1), .int (K 11 2), .int (K 11 3), .int (K 11 4), .int (K 11 5), .int (K 11 6), .int (K 11 7), .int (K 11 8)])) := rfl
theorem ks_0 {cI : ClassId} {ad : Nat → Nat} {od os : Nat} {K KS : RK} : (w2s cI ad od os K KS)[14]? = some ((ad os), .inr (0, [.ref (ad (os + 1)), .ref (ad (os + 10)), .ref (ad (os + 13)), .int (KS 11 0), .int (KS 11 1), .int (KS 11 2), .int (KS 11 3), .int (KS 11 4), .int (KS 11 5), .int (KS 11 6), .int (KS 11 7), .int (KS 11 8)])) := rfl
theorem kd_1 {cI : ClassId} {ad : Nat → Nat} {od os : Nat} {K KS : RK} : (w2s cI ad od os K KS)[1]? = some ((ad (od + 1)), .inr (1, [.ref (ad (od + 2)), .ref (ad (od + 3)), .ref (ad (od + 4)), .ref (ad (od + 5)), .ref (ad (od + 6)), .ref (ad (od + 7)), .ref (ad (od + 8)), .ref (ad (od + 9)), .int (K 12 0)])) := rfl
theorem ks_1 {cI : ClassId} {ad : Nat → Nat} {od os : Nat} {K KS : RK} : (w2s cI ad od os K KS)[15]? = some ((ad (os + 1)), .inr (1, [.ref (ad (os + 2)), .ref (ad (os + 3)), .ref (ad (os + 4)), .ref (ad (os + 5)), .ref (ad (os + 6)), .ref (ad (os + 7)), .ref (ad (os + 8)), .ref (ad (os + 9)), .int (KS 12 0)])) := rfl
theorem kd_2 {cI : ClassId} {ad : Nat → Nat} {od os : Nat} {K KS : RK} : (w2s cI ad od os K KS)[2]? = some ((ad (od + 2)), .inl (cI, 10, .inl (K 0))) := rfl
theorem ks_2 {cI : ClassId} {ad : Nat → Nat} {od os : Nat} {K KS : RK} : (w2s cI ad od os K KS)[16]? = some ((ad (os + 2)), .inl (cI, 10, .inl (KS 0))) := rfl
theorem kds_2 {cI : ClassId} {ad : Nat → Nat} {od os : Nat} {K KS : RK} {f : Nat → Int32} : (w2s cI ad od os K KS).set 2 ((ad (od + 2)), .inl (cI, 10, .inl f)) = w2s cI ad od os (upR K 0 f) KS := rfl
theorem kd_3 {cI : ClassId} {ad : Nat → Nat} {od os : Nat} {K KS : RK} : (w2s cI ad od os K KS)[3]? = some ((ad (od + 3)), .inl (cI, 10, .inl (K 1))) := rfl
theorem ks_3 {cI : ClassId} {ad : Nat → Nat} {od os : Nat} {K KS : RK} : (w2s cI ad od os K KS)[17]? = some ((ad (os + 3)), .inl (cI, 10, .inl (KS 1))) := rfl
theorem kds_3 {cI : ClassId} {ad : Nat → Nat} {od os : Nat} {K KS : RK} {f : Nat → Int32} : (w2s cI ad od os K KS).set 3 ((ad (od + 3)), .inl (cI, 10, .inl f)) = w2s cI ad od os (upR K 1 f) KS := rfl
theorem kd_4 {cI : ClassId} {ad : Nat → Nat} {od os : Nat} {K KS : RK} : (w2s cI ad od os K KS)[4]? = some ((ad (od + 4)), .inl (cI, 10, .inl (K 2))) := rfl
theorem ks_4 {cI : ClassId} {ad : Nat → Nat} {od os : Nat} {K KS : RK} : (w2s cI ad od os K KS)[18]? = some ((ad (os + 4)), .inl (cI, 10, .inl (KS 2))) := rfl
theorem kds_4 {cI : ClassId} {ad : Nat → Nat} {od os : Nat} {K KS : RK} {f : Nat → Int32} : (w2s cI ad od os K KS).set 4 ((ad (od + 4)), .inl (cI, 10, .inl f)) = w2s cI ad od os (upR K 2 f) KS := rfl
theorem kd_5 {cI : ClassId} {ad : Nat → Nat} {od os : Nat} {K KS : RK} : (w2s cI ad od os K KS)[5]? = some ((ad (od + 5)), .inl (cI, 10, .inl (K 3))) := rfl
theorem ks_5 {cI : ClassId} {ad : Nat → Nat} {od os : Nat} {K KS : RK} : (w2s cI ad od os K KS)[19]? = some ((ad (os + 5)), .inl (cI, 10, .inl (KS 3))) := rfl
theorem kds_5 {cI : ClassId} {ad : Nat → Nat} {od os : Nat} {K KS : RK} {f : Nat → Int32} : (w2s cI ad od os K KS).set 5 ((ad (od + 5)), .inl (cI, 10, .inl f)) = w2s cI ad od os (upR K 3 f) KS := rfl
theorem kd_6 {cI : ClassId} {ad : Nat → Nat} {od os : Nat} {K KS : RK} : (w2s cI ad od os K KS)[6]? = some ((ad (od + 6)), .inl (cI, 10, .inl (K 4))) := rfl
theorem ks_6 {cI : ClassId} {ad : Nat → Nat} {od os : Nat} {K KS : RK} : (w2s cI ad od os K KS)[20]? = some ((ad (os + 6)), .inl (cI, 10, .inl (KS 4))) := rfl
theorem kds_6 {cI : ClassId} {ad : Nat → Nat} {od os : Nat} {K KS : RK} {f : Nat → Int32} : (w2s cI ad od os K KS).set 6 ((ad (od + 6)), .inl (cI, 10, .inl f)) = w2s cI ad od os (upR K 4 f) KS := rfl
theorem kd_7 {cI : ClassId} {ad : Nat → Nat} {od os : Nat} {K KS : RK} : (w2s cI ad od os K KS)[7]? = some ((ad (od + 7)), .inl (cI, 10, .inl (K 5))) := rfl
theorem ks_7 {cI : ClassId} {ad : Nat → Nat} {od os : Nat} {K KS : RK} : (w2s cI ad od os K KS)[21]? = some ((ad (os + 7)), .inl (cI, 10, .inl (KS 5))) := rfl
theorem kds_7 {cI : ClassId} {ad : Nat → Nat} {od os : Nat} {K KS : RK} {f : Nat → Int32} : (w2s cI ad od os K KS).set 7 ((ad (od + 7)), .inl (cI, 10, .inl f)) = w2s cI ad od os (upR K 5 f) KS := rfl
theorem kd_8 {cI : ClassId} {ad : Nat → Nat} {od os : Nat} {K KS : RK} : (w2s cI ad od os K KS)[8]? = some ((ad (od + 8)), .inl (cI, 10, .inl (K 6))) := rfl
theorem ks_8 {cI : ClassId} {ad : Nat → Nat} {od os : Nat} {K KS : RK} : (w2s cI ad od os K KS)[22]? = some ((ad (os + 8)), .inl (cI, 10, .inl (KS 6))) := rfl
theorem kds_8 {cI : ClassId} {ad : Nat → Nat} {od os : Nat} {K KS : RK} {f : Nat → Int32} : (w2s cI ad od os K KS).set 8 ((ad (od + 8)), .inl (cI, 10, .inl f)) = w2s cI ad od os (upR K 6 f) KS := rfl
theorem kd_9 {cI : ClassId} {ad : Nat → Nat} {od os : Nat} {K KS : RK} : (w2s cI ad od os K KS)[9]? = some ((ad (od + 9)), .inl (cI, 10, .inl (K 7))) := rfl
theorem ks_9 {cI : ClassId} {ad : Nat → Nat} {od os : Nat} {K KS : RK} : (w2s cI ad od os K KS)[23]? = some ((ad (os + 9)), .inl (cI, 10, .inl (KS 7))) := rfl
theorem kds_9 {cI : ClassId} {ad : Nat → Nat} {od os : Nat} {K KS : RK} {f : Nat → Int32} : (w2s cI ad od os K KS).set 9 ((ad (od + 9)), .inl (cI, 10, .inl f)) = w2s cI ad od os (upR K 7 f) KS := rfl
theorem kd_10 {cI : ClassId} {ad : Nat → Nat} {od os : Nat} {K KS : RK} : (w2s cI ad od os K KS)[10]? = some ((ad (od + 10)), .inr (3, [.ref (ad (od + 11)), .ref (ad (od + 12))])) := rfl
theorem ks_10 {cI : ClassId} {ad : Nat → Nat} {od os : Nat} {K KS : RK} : (w2s cI ad od os K KS)[24]? = some ((ad (os + 10)), .inr (3, [.ref (ad (os + 11)), .ref (ad (os + 12))])) := rfl
theorem kd_11 {cI : ClassId} {ad : Nat → Nat} {od os : Nat} {K KS : RK} : (w2s cI ad od os K KS)[11]? = some ((ad (od + 11)), .inl (cI, 30, .inl (K 8))) := rfl
theorem ks_11 {cI : ClassId} {ad : Nat → Nat} {od os : Nat} {K KS : RK} : (w2s cI ad od os K KS)[25]? = some ((ad (os + 11)), .inl (cI, 30, .inl (KS 8))) := rfl
theorem kds_11 {cI : ClassId} {ad : Nat → Nat} {od os : Nat} {K KS : RK} {f : Nat → Int32} : (w2s cI ad od os K KS).set 11 ((ad (od + 11)), .inl (cI, 30, .inl f)) = w2s cI ad od os (upR K 8 f) KS := rfl
theorem kd_12 {cI : ClassId} {ad : Nat → Nat} {od os : Nat} {K KS : RK} : (w2s cI ad od os K KS)[12]? = some ((ad (od + 12)), .inl (cI, 3, .inl (K 9))) := rfl
theorem ks_12 {cI : ClassId} {ad : Nat → Nat} {od os : Nat} {K KS : RK} : (w2s cI ad od os K KS)[26]? = some ((ad (os + 12)), .inl (cI, 3, .inl (KS 9))) := rfl
theorem kds_12 {cI : ClassId} {ad : Nat → Nat} {od os : Nat} {K KS : RK} {f : Nat → Int32} : (w2s cI ad od os K KS).set 12 ((ad (od + 12)), .inl (cI, 3, .inl f)) = w2s cI ad od os (upR K 9 f) KS := rfl
theorem kd_13 {cI : ClassId} {ad : Nat → Nat} {od os : Nat} {K KS : RK} : (w2s cI ad od os K KS)[13]? = some ((ad (od + 13)), .inl (cI, 6, .inl (K 10))) := rfl
theorem ks_13 {cI : ClassId} {ad : Nat → Nat} {od os : Nat} {K KS : RK} : (w2s cI ad od os K KS)[27]? = some ((ad (os + 13)), .inl (cI, 6, .inl (KS 10))) := rfl
theorem kds_13 {cI : ClassId} {ad : Nat → Nat} {od os : Nat} {K KS : RK} {f : Nat → Int32} : (w2s cI ad od os K KS).set 13 ((ad (od + 13)), .inl (cI, 6, .inl f)) = w2s cI ad od os (upR K 10 f) KS := rfl
theorem kds_0_3 {cI : ClassId} {ad : Nat → Nat} {od os : Nat} {K KS : RK} {v : Int32} : (w2s cI ad od os K KS).set 0 (ad od, .inr (0, ([.ref (ad (od + 1)), .ref (ad (od + 10)), .ref (ad (od + 13)), .int (K 11 0), .int (K 11 1), .int (K 11 2), .int (K 11 3), .int (K 11 4), .int (K 11 5), .int (K 11 6), .int (K 11 7), .int (K 11 8)] : List Value).set 3 (.int v))) = w2s cI ad od os (upS K 11 0 v) KS := rfl
theorem kds_0_4 {cI : ClassId} {ad : Nat → Nat} {od os : Nat} {K KS : RK} {v : Int32} : (w2s cI ad od os K KS).set 0 (ad od, .inr (0, ([.ref (ad (od + 1)), .ref (ad (od + 10)), .ref (ad (od + 13)), .int (K 11 0), .int (K 11 1), .int (K 11 2), .int (K 11 3), .int (K 11 4), .int (K 11 5), .int (K 11 6), .int (K 11 7), .int (K 11 8)] : List Value).set 4 (.int v))) = w2s cI ad od os (upS K 11 1 v) KS := rfl
theorem kds_0_5 {cI : ClassId} {ad : Nat → Nat} {od os : Nat} {K KS : RK} {v : Int32} : (w2s cI ad od os K KS).set 0 (ad od, .inr (0, ([.ref (ad (od + 1)), .ref (ad (od + 10)), .ref (ad (od + 13)), .int (K 11 0), .int (K 11 1), .int (K 11 2), .int (K 11 3), .int (K 11 4), .int (K 11 5), .int (K 11 6), .int (K 11 7), .int (K 11 8)] : List Value).set 5 (.int v))) = w2s cI ad od os (upS K 11 2 v) KS := rfl
theorem kds_0_6 {cI : ClassId} {ad : Nat → Nat} {od os : Nat} {K KS : RK} {v : Int32} : (w2s cI ad od os K KS).set 0 (ad od, .inr (0, ([.ref (ad (od + 1)), .ref (ad (od + 10)), .ref (ad (od + 13)), .int (K 11 0), .int (K 11 1), .int (K 11 2), .int (K 11 3), .int (K 11 4), .int (K 11 5), .int (K 11 6), .int (K 11 7), .int (K 11 8)] : List Value).set 6 (.int v))) = w2s cI ad od os (upS K 11 3 v) KS := rfl
theorem kds_0_7 {cI : ClassId} {ad : Nat → Nat} {od os : Nat} {K KS : RK} {v : Int32} : (w2s cI ad od os K KS).set 0 (ad od, .inr (0, ([.ref (ad (od + 1)), .ref (ad (od + 10)), .ref (ad (od + 13)), .int (K 11 0), .int (K 11 1), .int (K 11 2), .int (K 11 3), .int (K 11 4), .int (K 11 5), .int (K 11 6), .int (K 11 7), .int (K 11 8)] : List Value).set 7 (.int v))) = w2s cI ad od os (upS K 11 4 v) KS := rfl
theorem kds_0_8 {cI : ClassId} {ad : Nat → Nat} {od os : Nat} {K KS : RK} {v : Int32} : (w2s cI ad od os K KS).set 0 (ad od, .inr (0, ([.ref (ad (od + 1)), .ref (ad (od + 10)), .ref (ad (od + 13)), .int (K 11 0), .int (K 11 1), .int (K 11 2), .int (K 11 3), .int (K 11 4), .int (K 11 5), .int (K 11 6), .int (K 11 7), .int (K 11 8)] : List Value).set 8 (.int v))) = w2s cI ad od os (upS K 11 5 v) KS := rfl
theorem kds_0_9 {cI : ClassId} {ad : Nat → Nat} {od os : Nat} {K KS : RK} {v : Int32} : (w2s cI ad od os K KS).set 0 (ad od, .inr (0, ([.ref (ad (od + 1)), .ref (ad (od + 10)), .ref (ad (od + 13)), .int (K 11 0), .int (K 11 1), .int (K 11 2), .int (K 11 3), .int (K 11 4), .int (K 11 5), .int (K 11 6), .int (K 11 7), .int (K 11 8)] : List Value).set 9 (.int v))) = w2s cI ad od os (upS K 11 6 v) KS := rfl
theorem kds_0_10 {cI : ClassId} {ad : Nat → Nat} {od os : Nat} {K KS : RK} {v : Int32} : (w2s cI ad od os K KS).set 0 (ad od, .inr (0, ([.ref (ad (od + 1)), .ref (ad (od + 10)), .ref (ad (od + 13)), .int (K 11 0), .int (K 11 1), .int (K 11 2), .int (K 11 3), .int (K 11 4), .int (K 11 5), .int (K 11 6), .int (K 11 7), .int (K 11 8)] : List Value).set 10 (.int v))) = w2s cI ad od os (upS K 11 7 v) KS := rfl
theorem kds_0_11 {cI : ClassId} {ad : Nat → Nat} {od os : Nat} {K KS : RK} {v : Int32} : (w2s cI ad od os K KS).set 0 (ad od, .inr (0, ([.ref (ad (od + 1)), .ref (ad (od + 10)), .ref (ad (od + 13)), .int (K 11 0), .int (K 11 1), .int (K 11 2), .int (K 11 3), .int (K 11 4), .int (K 11 5), .int (K 11 6), .int (K 11 7), .int (K 11 8)] : List Value).set 11 (.int v))) = w2s cI ad od os (upS K 11 8 v) KS := rfl
theorem kds_1_8 {cI : ClassId} {ad : Nat → Nat} {od os : Nat} {K KS : RK} {v : Int32} : (w2s cI ad od os K KS).set 1 (ad (od + 1), .inr (1, ([.ref (ad (od + 2)), .ref (ad (od + 3)), .ref (ad (od + 4)), .ref (ad (od + 5)), .ref (ad (od + 6)), .ref (ad (od + 7)), .ref (ad (od + 8)), .ref (ad (od + 9)), .int (K 12 0)] : List Value).set 8 (.int v))) = w2s cI ad od os (upS K 12 0 v) KS := rfl
theorem min_nn {n : Nat} : (if Int32.ofNat n < Int32.ofNat n then Int32.ofNat n else Int32.ofNat n) = Int32.ofNat n := by split <;> rfl
set_option maxHeartbeats 4000000 in
set_option maxRecDepth 100000 in
theorem c_X5_copyRow {l : Launch} {D : va_G} {cI cR : ClassId} {A : Nat → Prop} {w w' : va_W} {a0 a1 n q0 q1 : Nat} {f g : Nat → Int32} (he0 : w[q0]? = some (a0, .inl (cI, n, .inl f))) (he1 : w[q1]? = some (a1, .inl (cI, n, .inl g))) (hset : w.set q1 (a1, .inl (cI, n, .inl (va_cpy f g 0 0 n))) = w') (hn : n < 2 ^ 31 := by decide) : MC l yX5_copyRow wsX5_copyRow 1 20 D cI cR A [.ref a0, .ref a1] w none w' := by
  refine Met.ofW (cc := cX5_copyRow) (maxL := 2) (ret := none) (by decide) rfl ?_
  intro p e s m args below meth c s₁ B hml hv
  obtain ⟨rfl, hw⟩ := q_start hv
  have hx := B.exec
  have hb := B.bytes
  have hr := B.returns
  have hts := atoms_spec (ws := wsX5_copyRow) B.pre
  have hown : s.vm.findClass RX5 = some m.cls := findClass_of_methodNamed B.named
  have hlocks := B.notSynchronized
  have hl := lv_entry ([.ref a0, .ref a1]) (n := 2) (Nat.le_of_ble_eq_true rfl)
  rw [lg_entry_eq]
  generalize (lg_sl ([.ref a0, .ref a1]) ++ List.replicate (2 - (lg_sl ([.ref a0, .ref a1])).length) Slot.unset).toArray = ls at hl ⊢
  have hl : lv_has ls 2 [(0, .ref a0), (1, .ref a1)] := hl
  refine lv_aload_n hx hb dX5_copyRow_0 rfl (lv_at hl 0 rfl) ?_
  refine lv_iconst (v := 0) hx hb dX5_copyRow_1 (by decide) ?_
  refine lv_aload_n hx hb dX5_copyRow_2 rfl (lv_at hl 1 rfl) ?_
  refine lv_iconst (v := 0) hx hb dX5_copyRow_3 (by decide) ?_
  refine lv_aload_n hx hb dX5_copyRow_4 rfl (lv_at hl 0 rfl) ?_
  refine q_alen hx hb hw q0 he0 rfl dX5_copyRow_5 ?_
  refine lv_aload_n hx hb dX5_copyRow_6 rfl (lv_at hl 1 rfl) ?_
  refine q_alen hx hb hw q1 he1 rfl dX5_copyRow_7 ?_
  refine va_mmin hx hb (hml.trans hl.1.symm) hown (hts (.methodLink RX5 258 Lib.Math.min.name) (by decide +kernel)) (hts (.static Lib.Math.min.name) (by decide +kernel)) (hts (.initialized "java/lang/Math") (by decide +kernel)) (hts (.code Lib.Math.min.name Lib.Math.min.code 2 (some .int)) (by decide +kernel)) (Nat.le_of_ble_eq_true rfl) (Nat.le_of_ble_eq_true rfl) (Nat.zero_le _) (Nat.zero_le _) dX5_copyRow_8 ?_
  refine q_is min_nn.symm ?_
  have hz : (0 : Int32).toNatClampNeg = 0 := by decide
  have hcl : (Int32.ofNat n).toNatClampNeg = n := nI_clamp hn
  refine va_copyi hx hb (hml.trans hl.1.symm) hown (hts (.methodLink RX5 263 arraycopyName) (by decide +kernel)) (hts (.native arraycopyName) (by decide +kernel)) (hts (.static arraycopyName) (by decide +kernel)) (hts (.initialized "java/lang/System") (by decide +kernel)) hw.2.1 hw.1 hw.2.2.1 hw.2.2.2.1 q0 q1 0 0 he0 he1 rfl rfl rfl (by decide) (by decide) (nI_pos hn) (by rw [hz, hcl]; omega) (by rw [hz, hcl]; omega) (fun _ _ => rfl) (Nat.le_of_ble_eq_true rfl) (Nat.le_of_ble_eq_true rfl) dX5_copyRow_11 (fun H1 locs1 h1 h2 h3 => ?_)
  rw [hz, hcl, hset] at h1 h2
  exact q_vret hx hb hr hlocks ⟨h1, hw.2.1, h2, h3, hw.2.2.2.2⟩ dX5_copyRow_14
def f_X1_copyGuests (K : RK) (KS : RK)  : Option RK := nm (upR K 0 (va_cpy (KS 0) (K 0) 0 0 10)) (fun K1 => nm (upR K1 1 (va_cpy (KS 1) (K1 1) 0 0 10)) (fun K2 => nm (upR K2 2 (va_cpy (KS 2) (K2 2) 0 0 10)) (fun K3 => nm (upR K3 3 (va_cpy (KS 3) (K3 3) 0 0 10)) (fun K4 => nm (upR K4 4 (va_cpy (KS 4) (K4 4) 0 0 10)) (fun K5 => nm (upR K5 5 (va_cpy (KS 5) (K5 5) 0 0 10)) (fun K6 => nm (upR K6 6 (va_cpy (KS 6) (K6 6) 0 0 10)) (fun K7 => nm (upR K7 7 (va_cpy (KS 7) (K7 7) 0 0 10)) (fun K8 => nm (upS K8 12 0 (KS 12 0)) (fun K9 => some K9)))))))))
set_option maxHeartbeats 4000000 in
set_option maxRecDepth 100000 in
theorem c_X1_copyGuests {l : Launch} {D : va_G} {cI cR : ClassId} {ad : Nat → Nat} {A : Nat → Prop} {K : RK} {K' : RK}   {KS : RK} {od os : Nat} (hf : f_X1_copyGuests K KS = some K') : MC l yX1_copyGuests wsX1_copyGuests 2 41 D cI cR A [.ref (ad (od + 1)), .ref (ad (os + 1))] (w2s cI ad od os K KS) none (w2s cI ad od os K' KS) := by
  refine Met.ofW (cc := cX1_copyGuests) (maxL := 2) (ret := none) (by decide) rfl ?_
  intro p e s m args below meth c s₁ B hml hv
  obtain ⟨rfl, hw⟩ := q_start hv
  have hx := B.exec
  have hb := B.bytes
  have hr := B.returns
  have hts := atoms_spec (ws := wsX1_copyGuests) B.pre
  have hown : s.vm.findClass RX1 = some m.cls := findClass_of_methodNamed B.named
  have hlocks := B.notSynchronized
  have hiX1 : ∀ w ∈ wsX10, w ∈ wsX1_copyGuests := by decide +kernel
  have hl := lv_entry ([.ref (ad (od + 1)), .ref (ad (os + 1))]) (n := 2) (Nat.le_of_ble_eq_true rfl)
  rw [lg_entry_eq]
  generalize (lg_sl ([.ref (ad (od + 1)), .ref (ad (os + 1))]) ++ List.replicate (2 - (lg_sl ([.ref (ad (od + 1)), .ref (ad (os + 1))])).length) Slot.unset).toArray = ls at hl ⊢
  have hl : lv_has ls 2 [(0, .ref (ad (od + 1))), (1, .ref (ad (os + 1)))] := hl
  unfold f_X1_copyGuests at hf
  obtain ⟨H, eH⟩ : ∃ H, H = s.heap := ⟨_, rfl⟩
  obtain ⟨locs, eL⟩ : ∃ L : List Loc, L = [] := ⟨_, rfl⟩
  rw [← eH, ← eL] at hw ⊢
  clear eH eL
  refine lv_aload_n hx hb dX1_copyGuests_0 rfl (lv_at hl 1 rfl) ?_
  refine q_get hx hb hts hiX1 hown hw 15 ks_1 rfl 0 (by decide) (hts (.fieldLink RX1 9 "LaceRanks$Guests" "rank" "[I") (by decide +kernel)) rfl dX1_copyGuests_1 ?_
  refine lv_aload_n hx hb dX1_copyGuests_4 rfl (lv_at hl 0 rfl) ?_
  refine q_get hx hb hts hiX1 hown hw 1 kd_1 rfl 0 (by decide) (hts (.fieldLink RX1 9 "LaceRanks$Guests" "rank" "[I") (by decide +kernel)) rfl dX1_copyGuests_5 ?_
  obtain ⟨K1, hK1, hf⟩ := nmE hf
  refine q_callSN (rest := []) (st1 := []) [.ref (ad (os + 2)), .ref (ad (od + 2))] ⟨hx, hb, hml, hown, hts⟩ (c_X5_copyRow (q0 := 16) (q1 := 2) ks_2 kd_2 (kds_2.trans (congrArg (fun z => (w2s cI ad od os z KS)) hK1.symm))) ⟨va_cnB 2 hts gX1_copyGuests_X5_copyRow_n69 rfl rfl rfl (nw_X1_69 hw.2.2.2.2) (hts (.initialized RX5) (by decide +kernel)) (by decide +kernel) ⟨Nat.le_of_ble_eq_true rfl, Nat.le_of_ble_eq_true rfl⟩, (hts (.static yX5_copyRow) (by decide +kernel)), trivial⟩ hw rfl hl.1 rfl (Nat.le_of_ble_eq_true rfl) dX1_copyGuests_8 ⟨Nat.zero_le _, Nat.zero_le _⟩ rfl (fun H locs hw => ?_)
  refine lv_aload_n hx hb dX1_copyGuests_11 rfl (lv_at hl 1 rfl) ?_
  refine q_get hx hb hts hiX1 hown hw 15 ks_1 rfl 1 (by decide) (hts (.fieldLink RX1 15 "LaceRanks$Guests" "purse" "[I") (by decide +kernel)) rfl dX1_copyGuests_12 ?_
  refine lv_aload_n hx hb dX1_copyGuests_15 rfl (lv_at hl 0 rfl) ?_
  refine q_get hx hb hts hiX1 hown hw 1 kd_1 rfl 1 (by decide) (hts (.fieldLink RX1 15 "LaceRanks$Guests" "purse" "[I") (by decide +kernel)) rfl dX1_copyGuests_16 ?_
  obtain ⟨K2, hK2, hf⟩ := nmE hf
  refine q_callSN (rest := []) (st1 := []) [.ref (ad (os + 3)), .ref (ad (od + 3))] ⟨hx, hb, hml, hown, hts⟩ (c_X5_copyRow (q0 := 17) (q1 := 3) ks_3 kd_3 (kds_3.trans (congrArg (fun z => (w2s cI ad od os z KS)) hK2.symm))) ⟨va_cnB 2 hts gX1_copyGuests_X5_copyRow_n69 rfl rfl rfl (nw_X1_69 hw.2.2.2.2) (hts (.initialized RX5) (by decide +kernel)) (by decide +kernel) ⟨Nat.le_of_ble_eq_true rfl, Nat.le_of_ble_eq_true rfl⟩, (hts (.static yX5_copyRow) (by decide +kernel)), trivial⟩ hw rfl hl.1 rfl (Nat.le_of_ble_eq_true rfl) dX1_copyGuests_19 ⟨Nat.zero_le _, Nat.zero_le _⟩ rfl (fun H locs hw => ?_)
  refine lv_aload_n hx hb dX1_copyGuests_22 rfl (lv_at hl 1 rfl) ?_
  refine q_get hx hb hts hiX1 hown hw 15 ks_1 rfl 2 (by decide) (hts (.fieldLink RX1 18 "LaceRanks$Guests" "debts" "[I") (by decide +kernel)) rfl dX1_copyGuests_23 ?_
  refine lv_aload_n hx hb dX1_copyGuests_26 rfl (lv_at hl 0 rfl) ?_
  refine q_get hx hb hts hiX1 hown hw 1 kd_1 rfl 2 (by decide) (hts (.fieldLink RX1 18 "LaceRanks$Guests" "debts" "[I") (by decide +kernel)) rfl dX1_copyGuests_27 ?_
  obtain ⟨K3, hK3, hf⟩ := nmE hf
  refine q_callSN (rest := []) (st1 := []) [.ref (ad (os + 4)), .ref (ad (od + 4))] ⟨hx, hb, hml, hown, hts⟩ (c_X5_copyRow (q0 := 18) (q1 := 4) ks_4 kd_4 (kds_4.trans (congrArg (fun z => (w2s cI ad od os z KS)) hK3.symm))) ⟨va_cnB 2 hts gX1_copyGuests_X5_copyRow_n69 rfl rfl rfl (nw_X1_69 hw.2.2.2.2) (hts (.initialized RX5) (by decide +kernel)) (by decide +kernel) ⟨Nat.le_of_ble_eq_true rfl, Nat.le_of_ble_eq_true rfl⟩, (hts (.static yX5_copyRow) (by decide +kernel)), trivial⟩ hw rfl hl.1 rfl (Nat.le_of_ble_eq_true rfl) dX1_copyGuests_30 ⟨Nat.zero_le _, Nat.zero_le _⟩ rfl (fun H locs hw => ?_)
  refine lv_aload_n hx hb dX1_copyGuests_33 rfl (lv_at hl 1 rfl) ?_
  refine q_get hx hb hts hiX1 hown hw 15 ks_1 rfl 3 (by decide) (hts (.fieldLink RX1 21 "LaceRanks$Guests" "lace" "[I") (by decide +kernel)) rfl dX1_copyGuests_34 ?_
  refine lv_aload_n hx hb dX1_copyGuests_37 rfl (lv_at hl 0 rfl) ?_
  refine q_get hx hb hts hiX1 hown hw 1 kd_1 rfl 3 (by decide) (hts (.fieldLink RX1 21 "LaceRanks$Guests" "lace" "[I") (by decide +kernel)) rfl dX1_copyGuests_38 ?_
  obtain ⟨K4, hK4, hf⟩ := nmE hf
  refine q_callSN (rest := []) (st1 := []) [.ref (ad (os + 5)), .ref (ad (od + 5))] ⟨hx, hb, hml, hown, hts⟩ (c_X5_copyRow (q0 := 19) (q1 := 5) ks_5 kd_5 (kds_5.trans (congrArg (fun z => (w2s cI ad od os z KS)) hK4.symm))) ⟨va_cnB 2 hts gX1_copyGuests_X5_copyRow_n69 rfl rfl rfl (nw_X1_69 hw.2.2.2.2) (hts (.initialized RX5) (by decide +kernel)) (by decide +kernel) ⟨Nat.le_of_ble_eq_true rfl, Nat.le_of_ble_eq_true rfl⟩, (hts (.static yX5_copyRow) (by decide +kernel)), trivial⟩ hw rfl hl.1 rfl (Nat.le_of_ble_eq_true rfl) dX1_copyGuests_41 ⟨Nat.zero_le _, Nat.zero_le _⟩ rfl (fun H locs hw => ?_)
  refine lv_aload_n hx hb dX1_copyGuests_44 rfl (lv_at hl 1 rfl) ?_
  refine q_get hx hb hts hiX1 hown hw 15 ks_1 rfl 4 (by decide) (hts (.fieldLink RX1 24 "LaceRanks$Guests" "lender" "[I") (by decide +kernel)) rfl dX1_copyGuests_45 ?_
  refine lv_aload_n hx hb dX1_copyGuests_48 rfl (lv_at hl 0 rfl) ?_
  refine q_get hx hb hts hiX1 hown hw 1 kd_1 rfl 4 (by decide) (hts (.fieldLink RX1 24 "LaceRanks$Guests" "lender" "[I") (by decide +kernel)) rfl dX1_copyGuests_49 ?_
  obtain ⟨K5, hK5, hf⟩ := nmE hf
  refine q_callSN (rest := []) (st1 := []) [.ref (ad (os + 6)), .ref (ad (od + 6))] ⟨hx, hb, hml, hown, hts⟩ (c_X5_copyRow (q0 := 20) (q1 := 6) ks_6 kd_6 (kds_6.trans (congrArg (fun z => (w2s cI ad od os z KS)) hK5.symm))) ⟨va_cnB 2 hts gX1_copyGuests_X5_copyRow_n69 rfl rfl rfl (nw_X1_69 hw.2.2.2.2) (hts (.initialized RX5) (by decide +kernel)) (by decide +kernel) ⟨Nat.le_of_ble_eq_true rfl, Nat.le_of_ble_eq_true rfl⟩, (hts (.static yX5_copyRow) (by decide +kernel)), trivial⟩ hw rfl hl.1 rfl (Nat.le_of_ble_eq_true rfl) dX1_copyGuests_52 ⟨Nat.zero_le _, Nat.zero_le _⟩ rfl (fun H locs hw => ?_)
  refine lv_aload_n hx hb dX1_copyGuests_55 rfl (lv_at hl 1 rfl) ?_
  refine q_get hx hb hts hiX1 hown hw 15 ks_1 rfl 5 (by decide) (hts (.fieldLink RX1 27 "LaceRanks$Guests" "borrower" "[I") (by decide +kernel)) rfl dX1_copyGuests_56 ?_
  refine lv_aload_n hx hb dX1_copyGuests_59 rfl (lv_at hl 0 rfl) ?_
  refine q_get hx hb hts hiX1 hown hw 1 kd_1 rfl 5 (by decide) (hts (.fieldLink RX1 27 "LaceRanks$Guests" "borrower" "[I") (by decide +kernel)) rfl dX1_copyGuests_60 ?_
  obtain ⟨K6, hK6, hf⟩ := nmE hf
  refine q_callSN (rest := []) (st1 := []) [.ref (ad (os + 7)), .ref (ad (od + 7))] ⟨hx, hb, hml, hown, hts⟩ (c_X5_copyRow (q0 := 21) (q1 := 7) ks_7 kd_7 (kds_7.trans (congrArg (fun z => (w2s cI ad od os z KS)) hK6.symm))) ⟨va_cnB 2 hts gX1_copyGuests_X5_copyRow_n69 rfl rfl rfl (nw_X1_69 hw.2.2.2.2) (hts (.initialized RX5) (by decide +kernel)) (by decide +kernel) ⟨Nat.le_of_ble_eq_true rfl, Nat.le_of_ble_eq_true rfl⟩, (hts (.static yX5_copyRow) (by decide +kernel)), trivial⟩ hw rfl hl.1 rfl (Nat.le_of_ble_eq_true rfl) dX1_copyGuests_63 ⟨Nat.zero_le _, Nat.zero_le _⟩ rfl (fun H locs hw => ?_)
  refine lv_aload_n hx hb dX1_copyGuests_66 rfl (lv_at hl 1 rfl) ?_
  refine q_get hx hb hts hiX1 hown hw 15 ks_1 rfl 6 (by decide) (hts (.fieldLink RX1 30 "LaceRanks$Guests" "maskNights" "[I") (by decide +kernel)) rfl dX1_copyGuests_67 ?_
  refine lv_aload_n hx hb dX1_copyGuests_70 rfl (lv_at hl 0 rfl) ?_
  refine q_get hx hb hts hiX1 hown hw 1 kd_1 rfl 6 (by decide) (hts (.fieldLink RX1 30 "LaceRanks$Guests" "maskNights" "[I") (by decide +kernel)) rfl dX1_copyGuests_71 ?_
  obtain ⟨K7, hK7, hf⟩ := nmE hf
  refine q_callSN (rest := []) (st1 := []) [.ref (ad (os + 8)), .ref (ad (od + 8))] ⟨hx, hb, hml, hown, hts⟩ (c_X5_copyRow (q0 := 22) (q1 := 8) ks_8 kd_8 (kds_8.trans (congrArg (fun z => (w2s cI ad od os z KS)) hK7.symm))) ⟨va_cnB 2 hts gX1_copyGuests_X5_copyRow_n69 rfl rfl rfl (nw_X1_69 hw.2.2.2.2) (hts (.initialized RX5) (by decide +kernel)) (by decide +kernel) ⟨Nat.le_of_ble_eq_true rfl, Nat.le_of_ble_eq_true rfl⟩, (hts (.static yX5_copyRow) (by decide +kernel)), trivial⟩ hw rfl hl.1 rfl (Nat.le_of_ble_eq_true rfl) dX1_copyGuests_74 ⟨Nat.zero_le _, Nat.zero_le _⟩ rfl (fun H locs hw => ?_)
  refine lv_aload_n hx hb dX1_copyGuests_77 rfl (lv_at hl 1 rfl) ?_
  refine q_get hx hb hts hiX1 hown hw 15 ks_1 rfl 7 (by decide) (hts (.fieldLink RX1 33 "LaceRanks$Guests" "inside" "[I") (by decide +kernel)) rfl dX1_copyGuests_78 ?_
  refine lv_aload_n hx hb dX1_copyGuests_81 rfl (lv_at hl 0 rfl) ?_
  refine q_get hx hb hts hiX1 hown hw 1 kd_1 rfl 7 (by decide) (hts (.fieldLink RX1 33 "LaceRanks$Guests" "inside" "[I") (by decide +kernel)) rfl dX1_copyGuests_82 ?_
  obtain ⟨K8, hK8, hf⟩ := nmE hf
  refine q_callSN (rest := []) (st1 := []) [.ref (ad (os + 9)), .ref (ad (od + 9))] ⟨hx, hb, hml, hown, hts⟩ (c_X5_copyRow (q0 := 23) (q1 := 9) ks_9 kd_9 (kds_9.trans (congrArg (fun z => (w2s cI ad od os z KS)) hK8.symm))) ⟨va_cnB 2 hts gX1_copyGuests_X5_copyRow_n69 rfl rfl rfl (nw_X1_69 hw.2.2.2.2) (hts (.initialized RX5) (by decide +kernel)) (by decide +kernel) ⟨Nat.le_of_ble_eq_true rfl, Nat.le_of_ble_eq_true rfl⟩, (hts (.static yX5_copyRow) (by decide +kernel)), trivial⟩ hw rfl hl.1 rfl (Nat.le_of_ble_eq_true rfl) dX1_copyGuests_85 ⟨Nat.zero_le _, Nat.zero_le _⟩ rfl (fun H locs hw => ?_)
  refine lv_aload_n hx hb dX1_copyGuests_88 rfl (lv_at hl 0 rfl) ?_
  refine lv_aload_n hx hb dX1_copyGuests_89 rfl (lv_at hl 1 rfl) ?_
  refine q_get hx hb hts hiX1 hown hw 15 ks_1 rfl 8 (by decide) (hts (.fieldLink RX1 36 "LaceRanks$Guests" "size" "I") (by decide +kernel)) rfl dX1_copyGuests_90 ?_
  obtain ⟨K9, hK9, hf⟩ := nmE hf
  refine q_put (ty := .int) hx hb hts hiX1 tyX1 tyX1_ok nmX1 hown hw 1 kd_1 rfl 8 (by decide) (hts (.fieldLink RX1 36 "LaceRanks$Guests" "size" "I") (by decide +kernel)) rfl (by decide +kernel) rfl rfl (Nat.le_of_ble_eq_true rfl) dX1_copyGuests_93 (kds_1_8.trans (congrArg (fun z => (w2s cI ad od os z KS)) hK9.symm)) (fun H locs hw => ?_)
  cases hf
  exact q_vret hx hb hr hlocks hw dX1_copyGuests_96

def f_X3_copyLines (K : RK) (KS : RK)  : Option RK := nm (upR K 8 (va_cpy (KS 8) (K 8) 0 0 30)) (fun K1 => nm (upR K1 9 (va_cpy (KS 9) (K1 9) 0 0 3)) (fun K2 => some K2))
set_option maxHeartbeats 4000000 in
set_option maxRecDepth 100000 in
theorem c_X3_copyLines {l : Launch} {D : va_G} {cI cR : ClassId} {ad : Nat → Nat} {A : Nat → Prop} {K : RK} {K' : RK}   {KS : RK} {od os : Nat} (hf : f_X3_copyLines K KS = some K') : MC l yX3_copyLines wsX3_copyLines 2 41 D cI cR A [.ref (ad (od + 10)), .ref (ad (os + 10))] (w2s cI ad od os K KS) none (w2s cI ad od os K' KS) := by
  refine Met.ofW (cc := cX3_copyLines) (maxL := 2) (ret := none) (by decide) rfl ?_
  intro p e s m args below meth c s₁ B hml hv
  obtain ⟨rfl, hw⟩ := q_start hv
  have hx := B.exec
  have hb := B.bytes
  have hr := B.returns
  have hts := atoms_spec (ws := wsX3_copyLines) B.pre
  have hown : s.vm.findClass RX3 = some m.cls := findClass_of_methodNamed B.named
  have hlocks := B.notSynchronized
  have hiX3 : ∀ w ∈ wsX30, w ∈ wsX3_copyLines := by decide +kernel
  have hl := lv_entry ([.ref (ad (od + 10)), .ref (ad (os + 10))]) (n := 2) (Nat.le_of_ble_eq_true rfl)
  rw [lg_entry_eq]
  generalize (lg_sl ([.ref (ad (od + 10)), .ref (ad (os + 10))]) ++ List.replicate (2 - (lg_sl ([.ref (ad (od + 10)), .ref (ad (os + 10))])).length) Slot.unset).toArray = ls at hl ⊢
  have hl : lv_has ls 2 [(0, .ref (ad (od + 10))), (1, .ref (ad (os + 10)))] := hl
  unfold f_X3_copyLines at hf
  obtain ⟨H, eH⟩ : ∃ H, H = s.heap := ⟨_, rfl⟩
  obtain ⟨locs, eL⟩ : ∃ L : List Loc, L = [] := ⟨_, rfl⟩
  rw [← eH, ← eL] at hw ⊢
  clear eH eL
  refine lv_aload_n hx hb dX3_copyLines_0 rfl (lv_at hl 1 rfl) ?_
  refine q_get hx hb hts hiX3 hown hw 24 ks_10 rfl 0 (by decide) (hts (.fieldLink RX3 9 "LaceRanks$Lines" "places" "[I") (by decide +kernel)) rfl dX3_copyLines_1 ?_
  refine lv_aload_n hx hb dX3_copyLines_4 rfl (lv_at hl 0 rfl) ?_
  refine q_get hx hb hts hiX3 hown hw 10 kd_10 rfl 0 (by decide) (hts (.fieldLink RX3 9 "LaceRanks$Lines" "places" "[I") (by decide +kernel)) rfl dX3_copyLines_5 ?_
  obtain ⟨K1, hK1, hf⟩ := nmE hf
  refine q_callSN (rest := []) (st1 := []) [.ref (ad (os + 11)), .ref (ad (od + 11))] ⟨hx, hb, hml, hown, hts⟩ (c_X5_copyRow (q0 := 25) (q1 := 11) ks_11 kd_11 (kds_11.trans (congrArg (fun z => (w2s cI ad od os z KS)) hK1.symm))) ⟨va_cnB 2 hts gX3_copyLines_X5_copyRow_n39 rfl rfl rfl (nw_X3_39 hw.2.2.2.2) (hts (.initialized RX5) (by decide +kernel)) (by decide +kernel) ⟨Nat.le_of_ble_eq_true rfl, Nat.le_of_ble_eq_true rfl⟩, (hts (.static yX5_copyRow) (by decide +kernel)), trivial⟩ hw rfl hl.1 rfl (Nat.le_of_ble_eq_true rfl) dX3_copyLines_8 ⟨Nat.zero_le _, Nat.zero_le _⟩ rfl (fun H locs hw => ?_)
  refine lv_aload_n hx hb dX3_copyLines_11 rfl (lv_at hl 1 rfl) ?_
  refine q_get hx hb hts hiX3 hown hw 24 ks_10 rfl 1 (by decide) (hts (.fieldLink RX3 15 "LaceRanks$Lines" "lengths" "[I") (by decide +kernel)) rfl dX3_copyLines_12 ?_
  refine lv_aload_n hx hb dX3_copyLines_15 rfl (lv_at hl 0 rfl) ?_
  refine q_get hx hb hts hiX3 hown hw 10 kd_10 rfl 1 (by decide) (hts (.fieldLink RX3 15 "LaceRanks$Lines" "lengths" "[I") (by decide +kernel)) rfl dX3_copyLines_16 ?_
  obtain ⟨K2, hK2, hf⟩ := nmE hf
  refine q_callSN (rest := []) (st1 := []) [.ref (ad (os + 12)), .ref (ad (od + 12))] ⟨hx, hb, hml, hown, hts⟩ (c_X5_copyRow (q0 := 26) (q1 := 12) ks_12 kd_12 (kds_12.trans (congrArg (fun z => (w2s cI ad od os z KS)) hK2.symm))) ⟨va_cnB 2 hts gX3_copyLines_X5_copyRow_n39 rfl rfl rfl (nw_X3_39 hw.2.2.2.2) (hts (.initialized RX5) (by decide +kernel)) (by decide +kernel) ⟨Nat.le_of_ble_eq_true rfl, Nat.le_of_ble_eq_true rfl⟩, (hts (.static yX5_copyRow) (by decide +kernel)), trivial⟩ hw rfl hl.1 rfl (Nat.le_of_ble_eq_true rfl) dX3_copyLines_19 ⟨Nat.zero_le _, Nat.zero_le _⟩ rfl (fun H locs hw => ?_)
  cases hf
  exact q_vret hx hb hr hlocks hw dX3_copyLines_22

def f_X0_copyState (K : RK) (KS : RK)  : Option RK := bnd (f_X1_copyGuests K KS) (fun K1 => bnd (f_X3_copyLines K1 KS) (fun K2 => nm (upR K2 10 (va_cpy (KS 10) (K2 10) 0 0 6)) (fun K3 => nm (upS K3 11 0 (KS 11 0)) (fun K4 => nm (upS K4 11 1 (KS 11 1)) (fun K5 => nm (upS K5 11 2 (KS 11 2)) (fun K6 => nm (upS K6 11 3 (KS 11 3)) (fun K7 => nm (upS K7 11 4 (KS 11 4)) (fun K8 => nm (upS K8 11 5 (KS 11 5)) (fun K9 => nm (upS K9 11 6 (KS 11 6)) (fun K10 => nm (upS K10 11 7 (KS 11 7)) (fun K11 => nm (upS K11 11 8 (KS 11 8)) (fun K12 => some K12))))))))))))
set_option maxHeartbeats 4000000 in
set_option maxRecDepth 100000 in
theorem c_X0_copyState {l : Launch} {D : va_G} {cI cR : ClassId} {ad : Nat → Nat} {A : Nat → Prop} {K : RK} {K' : RK}   {KS : RK} {od os : Nat} (hf : f_X0_copyState K KS = some K') : MC l yX0_copyState wsX0_copyState 3 62 D cI cR A [.ref (ad od), .ref (ad os)] (w2s cI ad od os K KS) none (w2s cI ad od os K' KS) := by
  refine Met.ofW (cc := cX0_copyState) (maxL := 2) (ret := none) (by decide) rfl ?_
  intro p e s m args below meth c s₁ B hml hv
  obtain ⟨rfl, hw⟩ := q_start hv
  have hx := B.exec
  have hb := B.bytes
  have hr := B.returns
  have hts := atoms_spec (ws := wsX0_copyState) B.pre
  have hown : s.vm.findClass RX0 = some m.cls := findClass_of_methodNamed B.named
  have hlocks := B.notSynchronized
  have hiX0 : ∀ w ∈ wsX00, w ∈ wsX0_copyState := by decide +kernel
  have hl := lv_entry ([.ref (ad od), .ref (ad os)]) (n := 2) (Nat.le_of_ble_eq_true rfl)
  rw [lg_entry_eq]
  generalize (lg_sl ([.ref (ad od), .ref (ad os)]) ++ List.replicate (2 - (lg_sl ([.ref (ad od), .ref (ad os)])).length) Slot.unset).toArray = ls at hl ⊢
  have hl : lv_has ls 2 [(0, .ref (ad od)), (1, .ref (ad os))] := hl
  unfold f_X0_copyState at hf
  obtain ⟨H, eH⟩ : ∃ H, H = s.heap := ⟨_, rfl⟩
  obtain ⟨locs, eL⟩ : ∃ L : List Loc, L = [] := ⟨_, rfl⟩
  rw [← eH, ← eL] at hw ⊢
  clear eH eL
  refine lv_aload_n hx hb dX0_copyState_0 rfl (lv_at hl 0 rfl) ?_
  refine q_get hx hb hts hiX0 hown hw 0 kd_0 rfl 0 (by decide) (hts (.fieldLink RX0 12 "LaceRanks$Carnival" "guests" "LLaceRanks$Guests;") (by decide +kernel)) rfl dX0_copyState_1 ?_
  refine lv_aload_n hx hb dX0_copyState_4 rfl (lv_at hl 1 rfl) ?_
  refine q_get hx hb hts hiX0 hown hw 14 ks_0 rfl 0 (by decide) (hts (.fieldLink RX0 12 "LaceRanks$Carnival" "guests" "LLaceRanks$Guests;") (by decide +kernel)) rfl dX0_copyState_5 ?_
  obtain ⟨K1, hr1, hf⟩ := bndS hf
  refine q_callVN (rest := []) (st1 := []) [.ref (ad (os + 1))] ⟨hx, hb, hml, hown, hts⟩ (c_X1_copyGuests hr1) ⟨va_cnB 1 hts gX0_copyState_X1_copyGuests_n211 rfl rfl rfl (nw_X0_211 hw.2.2.2.2) (hts (.initialized RX1) (by decide +kernel)) (by decide +kernel) ⟨Nat.le_of_ble_eq_true rfl, Nat.le_of_ble_eq_true rfl⟩, (hts (.instanceMethod yX1_copyGuests) (by decide +kernel)), (hts (.selects RX1 yX1_copyGuests yX1_copyGuests) (by decide +kernel))⟩ hw kd_1 rfl rfl hl.1 rfl (Nat.le_of_ble_eq_true rfl) dX0_copyState_8 ⟨Nat.zero_le _, Nat.zero_le _⟩ rfl (fun H locs hw => ?_)
  refine lv_aload_n hx hb dX0_copyState_11 rfl (lv_at hl 0 rfl) ?_
  refine q_get hx hb hts hiX0 hown hw 0 kd_0 rfl 1 (by decide) (hts (.fieldLink RX0 21 "LaceRanks$Carnival" "lines" "LLaceRanks$Lines;") (by decide +kernel)) rfl dX0_copyState_12 ?_
  refine lv_aload_n hx hb dX0_copyState_15 rfl (lv_at hl 1 rfl) ?_
  refine q_get hx hb hts hiX0 hown hw 14 ks_0 rfl 1 (by decide) (hts (.fieldLink RX0 21 "LaceRanks$Carnival" "lines" "LLaceRanks$Lines;") (by decide +kernel)) rfl dX0_copyState_16 ?_
  obtain ⟨K2, hr2, hf⟩ := bndS hf
  refine q_callVN (rest := []) (st1 := []) [.ref (ad (os + 10))] ⟨hx, hb, hml, hown, hts⟩ (c_X3_copyLines hr2) ⟨va_cnB 1 hts gX0_copyState_X3_copyLines_n215 rfl rfl rfl (nw_X0_215 hw.2.2.2.2) (hts (.initialized RX3) (by decide +kernel)) (by decide +kernel) ⟨Nat.le_of_ble_eq_true rfl, Nat.le_of_ble_eq_true rfl⟩, (hts (.instanceMethod yX3_copyLines) (by decide +kernel)), (hts (.selects RX3 yX3_copyLines yX3_copyLines) (by decide +kernel))⟩ hw kd_10 rfl rfl hl.1 rfl (Nat.le_of_ble_eq_true rfl) dX0_copyState_19 ⟨Nat.zero_le _, Nat.zero_le _⟩ rfl (fun H locs hw => ?_)
  refine lv_aload_n hx hb dX0_copyState_22 rfl (lv_at hl 1 rfl) ?_
  refine q_get hx hb hts hiX0 hown hw 14 ks_0 rfl 2 (by decide) (hts (.fieldLink RX0 25 "LaceRanks$Carnival" "settings" "[I") (by decide +kernel)) rfl dX0_copyState_23 ?_
  refine lv_aload_n hx hb dX0_copyState_26 rfl (lv_at hl 0 rfl) ?_
  refine q_get hx hb hts hiX0 hown hw 0 kd_0 rfl 2 (by decide) (hts (.fieldLink RX0 25 "LaceRanks$Carnival" "settings" "[I") (by decide +kernel)) rfl dX0_copyState_27 ?_
  obtain ⟨K3, hK3, hf⟩ := nmE hf
  refine q_callSN (rest := []) (st1 := []) [.ref (ad (os + 13)), .ref (ad (od + 13))] ⟨hx, hb, hml, hown, hts⟩ (c_X5_copyRow (q0 := 27) (q1 := 13) ks_13 kd_13 (kds_13.trans (congrArg (fun z => (w2s cI ad od os z KS)) hK3.symm))) ⟨va_cnB 2 hts gX0_copyState_X5_copyRow_n39 rfl rfl rfl (nw_X0_39 hw.2.2.2.2) (hts (.initialized RX5) (by decide +kernel)) (by decide +kernel) ⟨Nat.le_of_ble_eq_true rfl, Nat.le_of_ble_eq_true rfl⟩, (hts (.static yX5_copyRow) (by decide +kernel)), trivial⟩ hw rfl hl.1 rfl (Nat.le_of_ble_eq_true rfl) dX0_copyState_30 ⟨Nat.zero_le _, Nat.zero_le _⟩ rfl (fun H locs hw => ?_)
  refine lv_aload_n hx hb dX0_copyState_33 rfl (lv_at hl 0 rfl) ?_
  refine lv_aload_n hx hb dX0_copyState_34 rfl (lv_at hl 1 rfl) ?_
  refine q_get hx hb hts hiX0 hown hw 14 ks_0 rfl 3 (by decide) (hts (.fieldLink RX0 115 "LaceRanks$Carnival" "nightNumber" "I") (by decide +kernel)) rfl dX0_copyState_35 ?_
  obtain ⟨K4, hK4, hf⟩ := nmE hf
  refine q_put (ty := .int) hx hb hts hiX0 tyX0 tyX0_ok nmX0 hown hw 0 kd_0 rfl 3 (by decide) (hts (.fieldLink RX0 115 "LaceRanks$Carnival" "nightNumber" "I") (by decide +kernel)) rfl (by decide +kernel) rfl rfl (Nat.le_of_ble_eq_true rfl) dX0_copyState_38 (kds_0_3.trans (congrArg (fun z => (w2s cI ad od os z KS)) hK4.symm)) (fun H locs hw => ?_)
  refine lv_aload_n hx hb dX0_copyState_41 rfl (lv_at hl 0 rfl) ?_
  refine lv_aload_n hx hb dX0_copyState_42 rfl (lv_at hl 1 rfl) ?_
  refine q_get hx hb hts hiX0 hown hw 14 ks_0 rfl 4 (by decide) (hts (.fieldLink RX0 97 "LaceRanks$Carnival" "chest" "I") (by decide +kernel)) rfl dX0_copyState_43 ?_
  obtain ⟨K5, hK5, hf⟩ := nmE hf
  refine q_put (ty := .int) hx hb hts hiX0 tyX0 tyX0_ok nmX0 hown hw 0 kd_0 rfl 4 (by decide) (hts (.fieldLink RX0 97 "LaceRanks$Carnival" "chest" "I") (by decide +kernel)) rfl (by decide +kernel) rfl rfl (Nat.le_of_ble_eq_true rfl) dX0_copyState_46 (kds_0_4.trans (congrArg (fun z => (w2s cI ad od os z KS)) hK5.symm)) (fun H locs hw => ?_)
  refine lv_aload_n hx hb dX0_copyState_49 rfl (lv_at hl 0 rfl) ?_
  refine lv_aload_n hx hb dX0_copyState_50 rfl (lv_at hl 1 rfl) ?_
  refine q_get hx hb hts hiX0 hown hw 14 ks_0 rfl 5 (by decide) (hts (.fieldLink RX0 149 "LaceRanks$Carnival" "laceChest" "I") (by decide +kernel)) rfl dX0_copyState_51 ?_
  obtain ⟨K6, hK6, hf⟩ := nmE hf
  refine q_put (ty := .int) hx hb hts hiX0 tyX0 tyX0_ok nmX0 hown hw 0 kd_0 rfl 5 (by decide) (hts (.fieldLink RX0 149 "LaceRanks$Carnival" "laceChest" "I") (by decide +kernel)) rfl (by decide +kernel) rfl rfl (Nat.le_of_ble_eq_true rfl) dX0_copyState_54 (kds_0_5.trans (congrArg (fun z => (w2s cI ad od os z KS)) hK6.symm)) (fun H locs hw => ?_)
  refine lv_aload_n hx hb dX0_copyState_57 rfl (lv_at hl 0 rfl) ?_
  refine lv_aload_n hx hb dX0_copyState_58 rfl (lv_at hl 1 rfl) ?_
  refine q_get hx hb hts hiX0 hown hw 14 ks_0 rfl 6 (by decide) (hts (.fieldLink RX0 43 "LaceRanks$Carnival" "ribbonsTold" "I") (by decide +kernel)) rfl dX0_copyState_59 ?_
  obtain ⟨K7, hK7, hf⟩ := nmE hf
  refine q_put (ty := .int) hx hb hts hiX0 tyX0 tyX0_ok nmX0 hown hw 0 kd_0 rfl 6 (by decide) (hts (.fieldLink RX0 43 "LaceRanks$Carnival" "ribbonsTold" "I") (by decide +kernel)) rfl (by decide +kernel) rfl rfl (Nat.le_of_ble_eq_true rfl) dX0_copyState_62 (kds_0_6.trans (congrArg (fun z => (w2s cI ad od os z KS)) hK7.symm)) (fun H locs hw => ?_)
  refine lv_aload_n hx hb dX0_copyState_65 rfl (lv_at hl 0 rfl) ?_
  refine lv_aload_n hx hb dX0_copyState_66 rfl (lv_at hl 1 rfl) ?_
  refine q_get hx hb hts hiX0 hown hw 14 ks_0 rfl 7 (by decide) (hts (.fieldLink RX0 46 "LaceRanks$Carnival" "laceTold" "I") (by decide +kernel)) rfl dX0_copyState_67 ?_
  obtain ⟨K8, hK8, hf⟩ := nmE hf
  refine q_put (ty := .int) hx hb hts hiX0 tyX0 tyX0_ok nmX0 hown hw 0 kd_0 rfl 7 (by decide) (hts (.fieldLink RX0 46 "LaceRanks$Carnival" "laceTold" "I") (by decide +kernel)) rfl (by decide +kernel) rfl rfl (Nat.le_of_ble_eq_true rfl) dX0_copyState_70 (kds_0_7.trans (congrArg (fun z => (w2s cI ad od os z KS)) hK8.symm)) (fun H locs hw => ?_)
  refine lv_aload_n hx hb dX0_copyState_73 rfl (lv_at hl 0 rfl) ?_
  refine lv_aload_n hx hb dX0_copyState_74 rfl (lv_at hl 1 rfl) ?_
  refine q_get hx hb hts hiX0 hown hw 14 ks_0 rfl 8 (by decide) (hts (.fieldLink RX0 155 "LaceRanks$Carnival" "fined" "I") (by decide +kernel)) rfl dX0_copyState_75 ?_
  obtain ⟨K9, hK9, hf⟩ := nmE hf
  refine q_put (ty := .int) hx hb hts hiX0 tyX0 tyX0_ok nmX0 hown hw 0 kd_0 rfl 8 (by decide) (hts (.fieldLink RX0 155 "LaceRanks$Carnival" "fined" "I") (by decide +kernel)) rfl (by decide +kernel) rfl rfl (Nat.le_of_ble_eq_true rfl) dX0_copyState_78 (kds_0_8.trans (congrArg (fun z => (w2s cI ad od os z KS)) hK9.symm)) (fun H locs hw => ?_)
  refine lv_aload_n hx hb dX0_copyState_81 rfl (lv_at hl 0 rfl) ?_
  refine lv_aload_n hx hb dX0_copyState_82 rfl (lv_at hl 1 rfl) ?_
  refine q_get hx hb hts hiX0 hown hw 14 ks_0 rfl 9 (by decide) (hts (.fieldLink RX0 152 "LaceRanks$Carnival" "ellsCut" "I") (by decide +kernel)) rfl dX0_copyState_83 ?_
  obtain ⟨K10, hK10, hf⟩ := nmE hf
  refine q_put (ty := .int) hx hb hts hiX0 tyX0 tyX0_ok nmX0 hown hw 0 kd_0 rfl 9 (by decide) (hts (.fieldLink RX0 152 "LaceRanks$Carnival" "ellsCut" "I") (by decide +kernel)) rfl (by decide +kernel) rfl rfl (Nat.le_of_ble_eq_true rfl) dX0_copyState_86 (kds_0_9.trans (congrArg (fun z => (w2s cI ad od os z KS)) hK10.symm)) (fun H locs hw => ?_)
  refine lv_aload_n hx hb dX0_copyState_89 rfl (lv_at hl 0 rfl) ?_
  refine lv_aload_n hx hb dX0_copyState_90 rfl (lv_at hl 1 rfl) ?_
  refine q_get hx hb hts hiX0 hown hw 14 ks_0 rfl 10 (by decide) (hts (.fieldLink RX0 29 "LaceRanks$Carnival" "stopPart" "I") (by decide +kernel)) rfl dX0_copyState_91 ?_
  obtain ⟨K11, hK11, hf⟩ := nmE hf
  refine q_put (ty := .int) hx hb hts hiX0 tyX0 tyX0_ok nmX0 hown hw 0 kd_0 rfl 10 (by decide) (hts (.fieldLink RX0 29 "LaceRanks$Carnival" "stopPart" "I") (by decide +kernel)) rfl (by decide +kernel) rfl rfl (Nat.le_of_ble_eq_true rfl) dX0_copyState_94 (kds_0_10.trans (congrArg (fun z => (w2s cI ad od os z KS)) hK11.symm)) (fun H locs hw => ?_)
  refine lv_aload_n hx hb dX0_copyState_97 rfl (lv_at hl 0 rfl) ?_
  refine lv_aload_n hx hb dX0_copyState_98 rfl (lv_at hl 1 rfl) ?_
  refine q_get hx hb hts hiX0 hown hw 14 ks_0 rfl 11 (by decide) (hts (.fieldLink RX0 33 "LaceRanks$Carnival" "stopReason" "I") (by decide +kernel)) rfl dX0_copyState_99 ?_
  obtain ⟨K12, hK12, hf⟩ := nmE hf
  refine q_put (ty := .int) hx hb hts hiX0 tyX0 tyX0_ok nmX0 hown hw 0 kd_0 rfl 11 (by decide) (hts (.fieldLink RX0 33 "LaceRanks$Carnival" "stopReason" "I") (by decide +kernel)) rfl (by decide +kernel) rfl rfl (Nat.le_of_ble_eq_true rfl) dX0_copyState_102 (kds_0_11.trans (congrArg (fun z => (w2s cI ad od os z KS)) hK12.symm)) (fun H locs hw => ?_)
  cases hf
  exact q_vret hx hb hr hlocks hw dX0_copyState_105
