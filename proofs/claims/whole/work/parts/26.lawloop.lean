/-! the law's loop -/
theorem lq_and (v : Int32) : ∃ k : Nat, k < 32 ∧ (v &&& 31).toInt = k := by
  have h : (v &&& 31).toBitVec.toNat ≤ 31 := by
    rw [Int32.toBitVec_and, BitVec.toNat_and]
    exact Nat.and_le_right
  refine ⟨(v &&& 31).toBitVec.toNat, by omega, ?_⟩
  show (v &&& 31).toBitVec.toInt = _
  rw [BitVec.toInt_eq_toNat_of_lt (by omega)]
theorem lq_sub {L : Nat} (h : L ≤ 2048) : (Int32.ofNat L - 4).toInt = (L : Int) - 4 := by
  have e : (Int32.ofNat L).toInt = (L : Int) := nI_toInt (by omega)
  rw [Int32.toInt_sub, e, show (4 : Int32).toInt = 4 from by decide, Int.bmod_eq_of_le (by omega) (by omega)]
theorem lq_i {a : Nat} (h : a ≤ 2100) : (nI a).toInt = (a : Int) := nI_toInt (by omega)
theorem lq_add (a k : Nat) : nI a + nI k = nI (a + k) := (Int32.ofNat_add a k).symm
theorem lq_in {a L : Nat} (h : a < L) (hL : L ≤ 2048) : vp_in (nI a) L := nI_in h (by omega)
set_option maxHeartbeats 4000000 in
set_option maxRecDepth 100000 in
theorem law_turn {p : Program} {l : Launch} {e : Env} {s : State} {m : MethodId} {below : List Frame} {meth : Method} {c : Code} {D : va_G} {cI cR cL : ClassId} {ad mad : Nat → Nat} {oa b L : Nat} {xs : Nat → Int32} {R : Nat → XO → RK → MS → Prop} {Q : State → Prop} {it : Nat} (hC : LC p l e s m below meth c D cI cR cL ad mad oa b L xs) (hSim : Sim R) (hit : it < 512) (hL : L ≤ 2048) (h4 : 4 * it + 4 ≤ L) (T : LT R p l e s m below meth c D cI cR cL ad mad oa b Q (it + 1) (nI (4 * it)) 1771) : LT R p l e s m below meth c D cI cR cL ad mad oa b Q it (nI (4 * it)) 32 := by
  have hin1 : vp_in (nI (4 * it) + 1) L := by rw [show (1 : Int32) = nI 1 from rfl, lq_add]; exact lq_in (by omega) hL
  have hin2 : vp_in (nI (4 * it) + 2) L := by rw [show (2 : Int32) = nI 2 from rfl, lq_add]; exact lq_in (by omega) hL
  have hin3 : vp_in (nI (4 * it) + 3) L := by rw [show (3 : Int32) = nI 3 from rfl, lq_add]; exact lq_in (by omega) hL
  intro O K g M H locs ls cells slots hR hw hl hc1 hc2
  have hx := hC.1
  have hb := hC.2.1
  refine lv_aload_n hx hb dL_law__32 rfl (lv_at hl 0 rfl) ?_
  refine lv_iload hx hb dL_law__33 (lv_at hl 4 rfl) ?_
  refine va_sld hx hb hC.2.2.2.2.2.2.2.2.2.1 hC.2.2.2.2.2.2.2.2.2.2 (Nat.not_le.mpr hC.2.2.2.2.2.2.2.2.2.2) hw.2.2.2.1 (lq_in (by omega) hL) dL_law__35 ?_
  refine lv_bipush (v := 31) hx hb dL_law__36 (by decide) ?_
  refine lv_iand hx hb dL_law__38 ?_
  obtain ⟨k9, hk9, hy⟩ := lq_and (xs (nI (4 * it)).toNatClampNeg)
  rcases Nat.lt_or_ge k9 30 with h30 | h30
  · have hk : k9 = 0 ∨ k9 = 1 ∨ k9 = 2 ∨ k9 = 3 ∨ k9 = 4 ∨ k9 = 5 ∨ k9 = 6 ∨ k9 = 7 ∨ k9 = 8 ∨ k9 = 9 ∨ k9 = 10 ∨ k9 = 11 ∨ k9 = 12 ∨ k9 = 13 ∨ k9 = 14 ∨ k9 = 15 ∨ k9 = 16 ∨ k9 = 17 ∨ k9 = 18 ∨ k9 = 19 ∨ k9 = 20 ∨ k9 = 21 ∨ k9 = 22 ∨ k9 = 23 ∨ k9 = 24 ∨ k9 = 25 ∨ k9 = 26 ∨ k9 = 27 ∨ k9 = 28 ∨ k9 = 29 := by omega
    rcases hk with rfl | rfl | rfl | rfl | rfl | rfl | rfl | rfl | rfl | rfl | rfl | rfl | rfl | rfl | rfl | rfl | rfl | rfl | rfl | rfl | rfl | rfl | rfl | rfl | rfl | rfl | rfl | rfl | rfl | rfl
    · refine lv_tableIn (off := 133) (tgt := 172) hx hb dL_law__39 (by rw [hy]; decide) (by rw [hy]; decide) (by rw [hy]; rfl) (by decide) ?_
      exact law_0 hC hSim hit hin1 hin2 hin3 T O K g M H locs ls _ _ hR hw hl (by omega) (by omega)
    · refine lv_tableIn (off := 213) (tgt := 252) hx hb dL_law__39 (by rw [hy]; decide) (by rw [hy]; decide) (by rw [hy]; rfl) (by decide) ?_
      exact law_1 hC hSim hit hin1 hin2 hin3 T O K g M H locs ls _ _ hR hw hl (by omega) (by omega)
    · refine lv_tableIn (off := 269) (tgt := 308) hx hb dL_law__39 (by rw [hy]; decide) (by rw [hy]; decide) (by rw [hy]; rfl) (by decide) ?_
      exact law_2 hC hSim hit hin1 hin2 hin3 T O K g M H locs ls _ _ hR hw hl (by omega) (by omega)
    · refine lv_tableIn (off := 337) (tgt := 376) hx hb dL_law__39 (by rw [hy]; decide) (by rw [hy]; decide) (by rw [hy]; rfl) (by decide) ?_
      exact law_3 hC hSim hit hin1 hin2 hin3 T O K g M H locs ls _ _ hR hw hl (by omega) (by omega)
    · refine lv_tableIn (off := 405) (tgt := 444) hx hb dL_law__39 (by rw [hy]; decide) (by rw [hy]; decide) (by rw [hy]; rfl) (by decide) ?_
      exact law_4 hC hSim hit hin1 hin2 hin3 T O K g M H locs ls _ _ hR hw hl (by omega) (by omega)
    · refine lv_tableIn (off := 461) (tgt := 500) hx hb dL_law__39 (by rw [hy]; decide) (by rw [hy]; decide) (by rw [hy]; rfl) (by decide) ?_
      exact law_5 hC hSim hit hin1 hin2 hin3 T O K g M H locs ls _ _ hR hw hl (by omega) (by omega)
    · refine lv_tableIn (off := 517) (tgt := 556) hx hb dL_law__39 (by rw [hy]; decide) (by rw [hy]; decide) (by rw [hy]; rfl) (by decide) ?_
      exact law_6 hC hSim hit hin1 hin2 hin3 T O K g M H locs ls _ _ hR hw hl (by omega) (by omega)
    · refine lv_tableIn (off := 573) (tgt := 612) hx hb dL_law__39 (by rw [hy]; decide) (by rw [hy]; decide) (by rw [hy]; rfl) (by decide) ?_
      exact law_7 hC hSim hit hin1 hin2 hin3 T O K g M H locs ls _ _ hR hw hl (by omega) (by omega)
    · refine lv_tableIn (off := 641) (tgt := 680) hx hb dL_law__39 (by rw [hy]; decide) (by rw [hy]; decide) (by rw [hy]; rfl) (by decide) ?_
      exact law_8 hC hSim hit hin1 hin2 hin3 T O K g M H locs ls _ _ hR hw hl (by omega) (by omega)
    · refine lv_tableIn (off := 697) (tgt := 736) hx hb dL_law__39 (by rw [hy]; decide) (by rw [hy]; decide) (by rw [hy]; rfl) (by decide) ?_
      exact law_9 hC hSim hit hin1 hin2 hin3 T O K g M H locs ls _ _ hR hw hl (by omega) (by omega)
    · refine lv_tableIn (off := 710) (tgt := 749) hx hb dL_law__39 (by rw [hy]; decide) (by rw [hy]; decide) (by rw [hy]; rfl) (by decide) ?_
      exact law_10 hC hSim hit hin1 hin2 hin3 T O K g M H locs ls _ _ hR hw hl (by omega) (by omega)
    · refine lv_tableIn (off := 778) (tgt := 817) hx hb dL_law__39 (by rw [hy]; decide) (by rw [hy]; decide) (by rw [hy]; rfl) (by decide) ?_
      exact law_11 hC hSim hit hin1 hin2 hin3 T O K g M H locs ls _ _ hR hw hl (by omega) (by omega)
    · refine lv_tableIn (off := 834) (tgt := 873) hx hb dL_law__39 (by rw [hy]; decide) (by rw [hy]; decide) (by rw [hy]; rfl) (by decide) ?_
      exact law_12 hC hSim hit hin1 hin2 hin3 T O K g M H locs ls _ _ hR hw hl (by omega) (by omega)
    · refine lv_tableIn (off := 847) (tgt := 886) hx hb dL_law__39 (by rw [hy]; decide) (by rw [hy]; decide) (by rw [hy]; rfl) (by decide) ?_
      exact law_13 hC hSim hit hin1 hin2 hin3 T O K g M H locs ls _ _ hR hw hl (by omega) (by omega)
    · refine lv_tableIn (off := 860) (tgt := 899) hx hb dL_law__39 (by rw [hy]; decide) (by rw [hy]; decide) (by rw [hy]; rfl) (by decide) ?_
      exact law_14 hC hSim hit hin1 hin2 hin3 T O K g M H locs ls _ _ hR hw hl (by omega) (by omega)
    · refine lv_tableIn (off := 904) (tgt := 943) hx hb dL_law__39 (by rw [hy]; decide) (by rw [hy]; decide) (by rw [hy]; rfl) (by decide) ?_
      exact law_15 hC hSim hit hin1 hin2 hin3 T O K g M H locs ls _ _ hR hw hl (by omega) (by omega)
    · refine lv_tableIn (off := 960) (tgt := 999) hx hb dL_law__39 (by rw [hy]; decide) (by rw [hy]; decide) (by rw [hy]; rfl) (by decide) ?_
      exact law_16 hC hSim hit hin1 hin2 hin3 T O K g M H locs ls _ _ hR hw hl (by omega) (by omega)
    · refine lv_tableIn (off := 1004) (tgt := 1043) hx hb dL_law__39 (by rw [hy]; decide) (by rw [hy]; decide) (by rw [hy]; rfl) (by decide) ?_
      exact law_17 hC hSim hit hin1 hin2 hin3 T O K g M H locs ls _ _ hR hw hl (by omega) (by omega)
    · refine lv_tableIn (off := 1017) (tgt := 1056) hx hb dL_law__39 (by rw [hy]; decide) (by rw [hy]; decide) (by rw [hy]; rfl) (by decide) ?_
      exact law_18 hC hSim hit hin1 hin2 hin3 T O K g M H locs ls _ _ hR hw hl (by omega) (by omega)
    · refine lv_tableIn (off := 1061) (tgt := 1100) hx hb dL_law__39 (by rw [hy]; decide) (by rw [hy]; decide) (by rw [hy]; rfl) (by decide) ?_
      exact law_19 hC hSim hit hin1 hin2 hin3 T O K g M H locs ls _ _ hR hw hl (by omega) (by omega)
    · refine lv_tableIn (off := 1129) (tgt := 1168) hx hb dL_law__39 (by rw [hy]; decide) (by rw [hy]; decide) (by rw [hy]; rfl) (by decide) ?_
      exact law_20 hC hSim hit hin1 hin2 hin3 T O K g M H locs ls _ _ hR hw hl (by omega) (by omega)
    · refine lv_tableIn (off := 1209) (tgt := 1248) hx hb dL_law__39 (by rw [hy]; decide) (by rw [hy]; decide) (by rw [hy]; rfl) (by decide) ?_
      exact law_21 hC hSim hit hin1 hin2 hin3 T O K g M H locs ls _ _ hR hw hl (by omega) (by omega)
    · refine lv_tableIn (off := 1265) (tgt := 1304) hx hb dL_law__39 (by rw [hy]; decide) (by rw [hy]; decide) (by rw [hy]; rfl) (by decide) ?_
      exact law_22 hC hSim hit hin1 hin2 hin3 T O K g M H locs ls _ _ hR hw hl (by omega) (by omega)
    · refine lv_tableIn (off := 1321) (tgt := 1360) hx hb dL_law__39 (by rw [hy]; decide) (by rw [hy]; decide) (by rw [hy]; rfl) (by decide) ?_
      exact law_23 hC hSim hit hin1 hin2 hin3 T O K g M H locs ls _ _ hR hw hl (by omega) (by omega)
    · refine lv_tableIn (off := 1389) (tgt := 1428) hx hb dL_law__39 (by rw [hy]; decide) (by rw [hy]; decide) (by rw [hy]; rfl) (by decide) ?_
      exact law_24 hC hSim hit hin1 hin2 hin3 T O K g M H locs ls _ _ hR hw hl (by omega) (by omega)
    · refine lv_tableIn (off := 1473) (tgt := 1512) hx hb dL_law__39 (by rw [hy]; decide) (by rw [hy]; decide) (by rw [hy]; rfl) (by decide) ?_
      exact law_25 hC hSim hit hin1 hin2 hin3 T O K g M H locs ls _ _ hR hw hl (by omega) (by omega)
    · refine lv_tableIn (off := 1553) (tgt := 1592) hx hb dL_law__39 (by rw [hy]; decide) (by rw [hy]; decide) (by rw [hy]; rfl) (by decide) ?_
      exact law_26 hC hSim hit hin1 hin2 hin3 T O K g M H locs ls _ _ hR hw hl (by omega) (by omega)
    · refine lv_tableIn (off := 1609) (tgt := 1648) hx hb dL_law__39 (by rw [hy]; decide) (by rw [hy]; decide) (by rw [hy]; rfl) (by decide) ?_
      exact law_27 hC hSim hit hin1 hin2 hin3 T O K g M H locs ls _ _ hR hw hl (by omega) (by omega)
    · refine lv_tableIn (off := 1677) (tgt := 1716) hx hb dL_law__39 (by rw [hy]; decide) (by rw [hy]; decide) (by rw [hy]; rfl) (by decide) ?_
      exact law_28 hC hSim hit hin1 hin2 hin3 T O K g M H locs ls _ _ hR hw hl (by omega) (by omega)
    · refine lv_tableIn (off := 1718) (tgt := 1757) hx hb dL_law__39 (by rw [hy]; decide) (by rw [hy]; decide) (by rw [hy]; rfl) (by decide) ?_
      exact law_29 hC hSim hit hin1 hin2 hin3 T O K g M H locs ls _ _ hR hw hl (by omega) (by omega)
  · refine lv_tableOut (tgt := 1771) hx hb dL_law__39 (Or.inr (by rw [hy]; omega)) (by decide) ?_
    exact T O K g M H locs ls _ _ (hSim.2.1 it O K M hR) hw hl (by omega) (by omega)
set_option maxHeartbeats 4000000 in
theorem law_loop {p : Program} {l : Launch} {e : Env} {s : State} {m : MethodId} {below : List Frame} {meth : Method} {c : Code} {D : va_G} {cI cR cL : ClassId} {ad mad : Nat → Nat} {oa b L : Nat} {xs : Nat → Int32} {R : Nat → XO → RK → MS → Prop} {Q : State → Prop} (hC : LC p l e s m below meth c D cI cR cL ad mad oa b L xs) (hSim : Sim R) (hL : L ≤ 2048)
    (X : ∀ (w : va_W) (H : Heap) (locs : List Loc) (ls : Array Slot) (cells slots : Nat), WH D cI cR (fun q : Nat => s.heap.size ≤ q) w s H locs → cells ≤ 601024 → slots ≤ 7293034 → W p l e room_1 s m #[Value.ref b] below meth c H locs cells slots Q (F0 m 1777 ls [])) :
    ∀ (k it : Nat), it + k = 513 → 4 * it ≤ L → LT R p l e s m below meth c D cI cR cL ad mad oa b Q it (nI (4 * it)) 23 := by
  have hx := hC.1
  have hb := hC.2.1
  intro k
  induction k with
  | zero => intro it h1 h2; omega
  | succ k ih =>
    intro it h1 h2 O K g M H locs ls cells slots hR hw hl hc1 hc2
    refine lv_iload hx hb dL_law__23 (lv_at hl 4 rfl) ?_
    refine lv_aload_n hx hb dL_law__25 rfl (lv_at hl 0 rfl) ?_
    refine va_slen hx hb hC.2.2.2.2.2.2.2.2.2.1 hC.2.2.2.2.2.2.2.2.2.2 (Nat.not_le.mpr hC.2.2.2.2.2.2.2.2.2.2) hw.2.2.2.1 dL_law__26 ?_
    refine lv_iconst (v := 4) hx hb dL_law__27 (by decide) ?_
    refine lv_isub hx hb dL_law__28 ?_
    refine lv_icmp_gt (tgt := 1777) hx hb dL_law__29 (by decide) (fun hc => X _ H locs ls cells slots hw (by omega) (by omega)) (fun hc => ?_)
    rw [Int32.lt_iff_toInt_lt, lq_sub hL, lq_i (by omega)] at hc
    have h4 : 4 * it + 4 ≤ L := by omega
    refine law_turn hC hSim (by omega) hL h4 ?_ O K g M H locs ls cells slots hR hw hl hc1 hc2
    intro O K g M H locs ls cells slots hR hw hl hc1 hc2
    refine lv_iinc (v := nI (4 * (it + 1))) (lv' := [(4, .int (nI (4 * (it + 1)))), (0, .ref b), (1, .ref (ad 0)), (2, .ref (mad 0)), (3, .ref oa)]) hx hb dL_law__1771 hl (k := 4) rfl (lq_add (4 * it) 4) (by decide) rfl (fun ls hl => ?_)
    refine lv_goto (tgt := 23) hx hb dL_law__1774 (by decide) ?_
    exact ih (it + 1) (by omega) (by omega) O K g M H locs ls cells slots hR hw (lv_sub hl [1, 2, 3, 4, 0] rfl) hc1 hc2
