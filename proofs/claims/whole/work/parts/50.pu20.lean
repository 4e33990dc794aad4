/-! the pure part: revel -/
def FE (M M2 : MS) : Prop := (∀ k, 119 ≤ k → M2.1 0 k = M.1 0 k) ∧ M2.1 1 = M.1 1 ∧ ∀ q, q < 4 → M2.1 3 q = M.1 3 q
theorem FE.trans {M M2 M3 : MS} (h : FE M M2) (h2 : FE M2 M3) : FE M M3 := ⟨fun k hk => by rw [h2.1 k hk, h.1 k hk], by rw [h2.2.1, h.2.1], fun q hq => by rw [h2.2.2 q hq, h.2.2 q hq]⟩
theorem EE.fe {M M2 : MS} (h : EE M M2) : FE M M2 := ⟨fun k _ => by rw [h.1 0 (by omega)], h.1 1 (by omega), h.2.2⟩
theorem FQ.fe {M M2 : MS} (h : FQ M M2) : FE M M2 := ⟨fun k hk => h.1 k (Or.inl hk), h.2.1, fun q _ => by rw [h.2.2]⟩
theorem TX.fq {S : Nat → Nat} {T i : Nat} {M M2 : MS} (h : TX S T i M) (hf : FQ M M2) : TX S T i M2 := by
  obtain ⟨h1, h2, h3, h4, h5, h6⟩ := h
  refine ⟨h1, h2, by rw [hf.2.2, h3], by rw [hf.2.2, h4], ?_, h6⟩
  rw [hf.2.1]
  exact h5
theorem PD.ns {S : Nat → Nat} {i j : Nat} {M : MS} (h : PD S i j M) : i < j ∧ ∀ q, i ≤ q → q < j → S q ≠ 59 := by
  rcases h with ⟨w, hm⟩ | ⟨w, g, t, hg, ht, g1, g6, g7, hm⟩ | ⟨w, g, hg, g1, g6, hm⟩ | ⟨w, g, o, hg, ho, ho3, g1, g2, g3, g6, g7, hm⟩
  · refine ⟨by omega, fun q q1 q2 e => ?_⟩
    have : q = i := by omega
    subst this
    omega
  · rcases hm with ⟨w1, w2, w3⟩ | ⟨w1, w2, w3, w4, w5⟩ | ⟨w1, w2, w3, w4, w5⟩
    · refine ⟨by omega, fun q q1 q2 e => ?_⟩
      rcases (show q = i ∨ q = i + 1 by omega) with z | z <;> subst z <;> omega
    · refine ⟨by omega, fun q q1 q2 e => ?_⟩
      rcases (show q = i ∨ q = i + 1 ∨ q = i + 2 ∨ q = i + 3 by omega) with z | z | z | z <;> subst z <;> omega
    · refine ⟨by omega, fun q q1 q2 e => ?_⟩
      rcases (show q = i ∨ q = i + 1 ∨ q = i + 2 ∨ q = i + 3 ∨ q = i + 4 by omega) with z | z | z | z | z <;> subst z <;> omega
  · refine ⟨by omega, fun q q1 q2 e => ?_⟩
    rcases (show q = i ∨ q = i + 1 by omega) with z | z <;> subst z <;> omega
  · refine ⟨by omega, fun q q1 q2 e => ?_⟩
    rcases (show q = i ∨ q = i + 1 ∨ q = i + 2 ∨ q = i + 3 by omega) with z | z | z | z <;> subst z <;> omega
theorem t_isPart {S : Nat → Nat} {T i : Nat} {O : XO} (h : TC S T O) (hi : i < 2 ^ 31) : f_X4_isPartAt O (nI i) = some (if i = 0 ∨ S (i - 1) = 59 then nI 1 else nI 0) := by
  unfold f_X4_isPartAt
  by_cases q : i = 0
  · subst q
    rw [if_pos (show nI 0 = 0 from rfl), if_pos (Or.inl rfl)]
    rfl
  · have hs := h.2.2.2.2 (i - 1)
    rw [if_neg (by rw [pu_i0, nI_eq (by omega) (by omega)]; exact q), pu_i1, pk_sub (by omega), t_sign h (by omega), pu_bnd]
    by_cases q2 : S (i - 1) = 59
    · rw [if_pos (by rw [q2]; rfl), if_pos (Or.inr q2)]
    · rw [if_neg (by rw [pu_i59, nI_eq (by omega) (by omega)]; exact q2), if_neg (by omega)]
      rfl
theorem rv_skip {S : Nat → Nat} {T : Nat} {O : XO} (h : TC S T O) (K : RK) (x : Int32) : ∀ (d p F : Nat), d ≤ F → p + d ≤ T → (∀ q, p ≤ q → q < p + d → 0 < q ∧ S (q - 1) ≠ 59) → f_X5_revel_l34 F O K x (nI p) = f_X5_revel_l34 (F - d) O K x (nI (p + d)) := by
  have hT := h.1
  intro d
  induction d with
  | zero =>
    intro p F hF hp hq
    rfl
  | succ d ih =>
    intro p F hF hp hq
    obtain ⟨F, rfl⟩ : ∃ q, F = q + 1 := ⟨F - 1, by omega⟩
    obtain ⟨q1, q2⟩ := hq p (by omega) (by omega)
    rw [show f_X5_revel_l34 (F + 1) O K x (nI p) = _ from by unfold f_X5_revel_l34; rfl]
    rw [h.2.1, if_neg (nI_ge (by omega) (by omega)), t_isPart h (by omega), pu_bnd, if_neg (show ¬ (p = 0 ∨ S (p - 1) = 59) by omega), if_pos (show nI 0 = 0 from rfl)]
    unfold f_X5_revel_b84
    rw [pu_nm, pu_i1, nI_add, ih (p + 1) F (by omega) (by omega) (fun q a b => hq q (by omega) (by omega)), show F + 1 - (d + 1) = F - d from by omega, show p + 1 + d = p + (d + 1) from by omega]
theorem rv_end {S : Nat → Nat} {T F : Nat} {O : XO} (h : TC S T O) (K : RK) (x : Int32) : f_X5_revel_l34 (F + 1) O K x (nI T) = some (.inr (x, upOS O 0 3 0, K)) := by
  have hT := h.1
  rw [show f_X5_revel_l34 (F + 1) O K x (nI T) = _ from by unfold f_X5_revel_l34; rfl]
  rw [h.2.1, if_pos (nI_le (by omega) (by omega))]
  rfl
theorem rv {S : Nat → Nat} {T B0 : Nat} {O : XO} (hT : TC S T O) (hB : 360 * (B0 + 610) < 2 ^ 30 - 360) : ∀ (k i x F F2 n : Nat) (l : Nat → Nat) (K : RK) (M : MS), T - i ≤ k → T - i < F → k < F2 → x ≤ i → TX S T i M → (i = 0 ∨ S (i - 1) = 59) → okk S (T - i) 1 i = true → Rel (B0 + 10 * i) n l K (M.1 0) → M.1 0 8 = mI → ∃ (r : Nat) (K2 : RK) (M2 : MS), f_X5_revel_l34 F O K (nI x) (nI i) = some (.inr (nI r, upOS O 0 3 0, K2)) ∧ f_X6_revel_l48 F2 M (nI x) = some (nI r, upMS M2 3 3 0) ∧ RW (B0 + 600) K2 (M2.1 0) ∧ FE M M2 := by
  have hT60 := hT.1
  intro k
  induction k with
  | zero =>
    intro i x F F2 n l K M hk hF hF2 hx h hst hok hr h8
    exfalso
    rw [show T - i = 0 from by omega] at hok
    have := of_decide_eq_true (show decide (1 = 12 ∨ 1 = 6 ∨ 1 = 8) = true from hok)
    omega
  | succ k ih =>
    intro i x F F2 n l K M hk hF hF2 hx h hst hok hr h8
    have hi := h.1
    have hiT : i < T := by
      rcases Nat.lt_or_ge i T with q | q
      · exact q
      · exfalso
        rw [show T - i = 0 from by omega] at hok
        have := of_decide_eq_true (show decide (1 = 12 ∨ 1 = 6 ∨ 1 = 8) = true from hok)
        omega
    obtain ⟨F, rfl⟩ : ∃ q, F = q + 1 := ⟨F - 1, by omega⟩
    obtain ⟨F2, rfl⟩ : ∃ q, F2 = q + 1 := ⟨F2 - 1, by omega⟩
    rcases r_part h with ⟨j, M2, b1, b2, b3, b4⟩ | ⟨j, a, M2, b1, b2, b3, b4, b5, b6, b7, b8⟩
    · rw [b4.2] at hok
      exact absurd hok (by decide)
    have hjT := b2.1
    obtain ⟨hij, hns⟩ := b8.ns
    rw [b5.2] at hok
    have hend : S j = 59 ∨ j = T := by
      by_cases q : j = T
      · exact Or.inr q
      · by_cases q2 : S j = 59
        · exact Or.inl q2
        · have := (fw_fail (S := S) (T := T) hjT (b6 q2) (Or.inr (show j < T by omega))).2
          rw [this] at hok
          exact absurd hok (by decide)
    have hr2 : Rel (B0 + 10 * i) n l K (M2.1 0) := by
      rw [b3.1 0 (by omega)]
      exact hr
    have c1 : f_X5_revel_l34 (F + 1) O K (nI x) (nI i) = bnd2 (f_X5_happenPart O K (nI i)) (fun r2 K3 => (if r2 = 0 then nm (nI x + 1) (fun v4 => f_X5_revel_b84 (f_X5_revel_l34 F) O K3 v4 (nI i)) else bnd (f_X0_noteStop K3 (nI x) r2) (fun K5 => f_X5_revel_b90 O K5 (nI x)))) := by
      rw [show f_X5_revel_l34 (F + 1) O K (nI x) (nI i) = _ from by unfold f_X5_revel_l34; rfl]
      rw [hT.2.1, if_neg (nI_ge hiT (by omega)), t_isPart hT (by omega), pu_bnd, if_pos hst, if_neg n10]
    have z8 : (8 : Int32).toNatClampNeg = 8 := nI_clamp (n := 8) (by omega)
    have i8 : inb 8 952 = true := pu_inb (a := 8) (N := 952) (by omega) (by omega)
    have i9 : inb 9 952 = true := pu_inb (a := 9) (N := 952) (by omega) (by omega)
    have z9 : (9 : Int32).toNatClampNeg = 9 := nI_clamp (n := 9) (by omega)
    have c2 : f_X6_revel_l48 (F2 + 1) M (nI x) = bnd (f_X6_stops M2) (fun r4 => (if r4 ≤ 0 then bnd (f_X6_happens M2) (fun M5 => nm (nI x + 1) (fun v6 => bnd2 (f_X6_takes M5 59) (fun r7 M8 => f_X6_revel_b108 (f_X6_revel_l48 F2) M8 v6))) else gd (inb 8 952) (nm (upM M2 0 (upd (M2.1 0) (8 : Int32).toNatClampNeg (nI x))) (fun M9 => gd (inb 9 952) (nm (upM M9 0 (upd (M9.1 0) (9 : Int32).toNatClampNeg r4)) (fun M10 => f_X6_revel_b108 (f_X6_revel_l48 F2) M10 (nI x))))))) := by
      rw [show f_X6_revel_l48 (F2 + 1) M (nI x) = _ from by unfold f_X6_revel_l48; rfl]
      rw [i8, pu_gd, pu_nm, z8, h8, pu_m1, if_pos rfl, b1, pu_bnd2, if_neg n10]
    rcases o_part hr2 (by omega) hT (by omega) b7 b8 hend with ⟨r, r0, r10, u1, u2⟩ | ⟨K2, M3, l2, u1, u2, u3, u4, u5⟩
    · obtain ⟨K5, v1, v2, v3⟩ := o_note hr2 (nI x) (nI r)
      obtain ⟨F3, rfl⟩ : ∃ q, F2 = q + 1 := ⟨F2 - 1, by omega⟩
      refine ⟨x, K5, upM M2 0 (upd (upd (M2.1 0) 8 (nI x)) 9 (nI r)), ?_, ?_, ?_, ?_⟩
      · rw [c1, u1, pu_bnd2, if_neg (show ¬ nI r = 0 from by rw [pu_i0, nI_eq (by omega) (by omega)]; omega), v1, pu_bnd]
        rfl
      · rw [c2, u2, pu_bnd, if_neg (show ¬ nI r ≤ 0 from nI_ge (a := 0) (b := r) r0 (by omega)), i8, pu_gd, pu_nm, i9, pu_gd, pu_nm, z8, z9, pu_MM, pu_M1, pu_Rs]
        unfold f_X6_revel_b108
        rw [show f_X6_revel_l48 (F3 + 1) (upM M2 0 (upd (upd (M2.1 0) 8 (nI x)) 9 (nI r))) (nI x) = _ from by unfold f_X6_revel_l48; rfl]
        rw [i8, pu_gd, pu_nm, z8, pu_M1, pu_Rs, pu_un (by omega), pu_us rfl, pu_m1, if_neg (nI_nm (by omega))]
        rfl
      · rw [pu_M1, pu_Rs]
        exact ⟨n, l, v2.mono (by omega)⟩
      · refine b3.fe.trans ⟨?_, ?_, ?_⟩
        · intro q hq
          rw [pu_M1, pu_Rs, pu_un (by omega), pu_un (by omega)]
        · rw [pu_M1, pu_Rn (by omega)]
        · intro q hq
          rw [pu_M1, pu_Rn (by omega)]
    · have h38 : M3.1 0 8 = mI := by rw [u5.1 8 (Or.inr rfl), b3.1 0 (by omega), h8]
      have t3 := b2.fq u5
      have c3 : f_X5_revel_l34 (F + 1) O K (nI x) (nI i) = f_X5_revel_l34 F O K2 (nI (x + 1)) (nI (i + 1)) := by
        rw [c1, u1, pu_bnd2, if_pos (show nI 0 = 0 from rfl), pu_nm, pu_i1, nI_add]
        unfold f_X5_revel_b84
        rw [pu_nm, pu_i1, nI_add]
      have c4 : f_X6_revel_l48 (F2 + 1) M (nI x) = bnd2 (f_X6_takes M3 59) (fun r7 M8 => f_X6_revel_b108 (f_X6_revel_l48 F2) M8 (nI (x + 1))) := by
        rw [c2, u2, pu_bnd, if_pos (show nI 0 ≤ 0 from nI_le (a := 0) (b := 0) (by omega) (by omega)), u3, pu_bnd, pu_nm, pu_i1, nI_add]
      rcases hend with e | e
      · have hjlt : j < T := h.lt (j := j) (by omega)
        have ge : eb a (S j) = 1 := by
          rw [e]
          rcases b4 with w | w | w <;> subst w <;> rfl
        have g := GO.one (S := S) (T := T) b2.2.2.2.2.2.1 hjT ge (by omega)
        rw [g.2] at hok
        have y : f_X6_takes M3 59 = some (nI 1, upMS M3 3 4 (nI (j + 1))) := r_yes t3 e
        have sk := rv_skip hT K2 (nI (x + 1)) (j - i) (i + 1) F (by omega) (by omega) (fun q q1 q2 => ⟨by omega, hns (q - 1) (by omega) (by omega)⟩)
        rw [show i + 1 + (j - i) = j + 1 from by omega] at sk
        obtain ⟨r, K4, M4, w1, w2, w3, w4⟩ := ih (j + 1) (x + 1) (F - (j - i)) F2 n l2 K2 (upMS M3 3 4 (nI (j + 1))) (by omega) (by omega) (by omega) (by omega) (t3.nx (by omega)) (Or.inr e) hok (by
          rw [(EE.up M3 (q := 4) (by omega) (nI (j + 1))).1 0 (by omega)]
          exact u4.mono (by omega)) (by
          rw [(EE.up M3 (q := 4) (by omega) (nI (j + 1))).1 0 (by omega)]
          exact h38)
        refine ⟨r, K4, M4, ?_, ?_, w3, b3.fe.trans (u5.fe.trans ((EE.up M3 (q := 4) (by omega) _).fe.trans w4))⟩
        · rw [c3, sk, w1]
        · rw [c4, y, pu_bnd2]
          exact w2
      · subst e
        have hz := h.2.2.2.2.2.1 j (Nat.le_refl _)
        have y : f_X6_takes M3 59 = some (nI 0, M3) := r_no t3 (c := 59) (by omega) (by omega)
        have sk := rv_skip hT K2 (nI (x + 1)) (j - (i + 1)) (i + 1) F (by omega) (by omega) (fun q q1 q2 => ⟨by omega, hns (q - 1) (by omega) (by omega)⟩)
        rw [show i + 1 + (j - (i + 1)) = j from by omega] at sk
        obtain ⟨F3, rfl⟩ : ∃ q, F2 = q + 1 := ⟨F2 - 1, by omega⟩
        obtain ⟨F4, hF4⟩ : ∃ q, F - (j - (i + 1)) = q + 1 := ⟨F - (j - (i + 1)) - 1, by omega⟩
        rcases r_part t3 with ⟨j2, M4, d1, d2, d3, d4⟩ | ⟨j2, a2, M4, d1, d2, d3, d4, d5, d6, d7, d8⟩
        · refine ⟨x + 1, K2, M4, ?_, ?_, ?_, b3.fe.trans (u5.fe.trans d3.fe)⟩
          · rw [c3, sk, hF4]
            exact rv_end hT K2 _
          · rw [c4, y, pu_bnd2]
            unfold f_X6_revel_b108
            rw [show f_X6_revel_l48 (F3 + 1) M3 (nI (x + 1)) = _ from by unfold f_X6_revel_l48; rfl]
            rw [i8, pu_gd, pu_nm, z8, h38, pu_m1, if_pos rfl, d1, pu_bnd2, if_pos (show nI 0 = 0 from rfl)]
            rfl
          · rw [d3.1 0 (by omega)]
            exact ⟨n, l2, u4.mono (by omega)⟩
        · exfalso
          rcases d8 with ⟨w, -⟩ | ⟨w, -⟩ | ⟨w, -⟩ | ⟨w, -⟩ <;> omega
theorem z_revel : Sim_revel RR := by
  intro c O K M hc hR
  obtain ⟨S, T, t1, t2, t3⟩ := hR.2.2.2.S
  have hT := t1.1
  obtain ⟨Ma, b1, b2, b3, b4⟩ := s_carn hR t1 t2 t3
  have f1 := (t_fw t1 T 0 1 fuelN (by omega) (by omega) (by unfold fuelN; omega)).2
  have f2 : f_X4_isComplete O = some (if okk S T 1 0 = true then nI 1 else nI 0) := f1
  unfold f_X5_revel f_X6_revel
  rw [b1, pu_bnd2, f2, pu_bnd]
  by_cases q : okk S T 1 0 = true
  · rw [if_pos q, if_neg n10]
    obtain ⟨M', a1, a2, a3, a4, a5, a6, a7⟩ := bgn b4
    obtain ⟨O2, M2, s1, s2, s3, s4, s5, s6, s7, s8, s9, s10, s11⟩ := s_save a2
    obtain ⟨⟨n, l, h2⟩, hring, hsnap, htxt⟩ := id s3
    obtain ⟨K4, v1, v2, v3⟩ := o_note h2 mI mI
    have t1' : TC S T O2 := ⟨t1.1, by rw [s8]; exact t1.2.1, by rw [s9]; exact t1.2.2.1, t1.2.2.2⟩
    have m3 : M2.1 3 3 = nI T := by rw [s11, a6 3 (by omega), b3.2.2 3 (by omega)]; exact t2
    have m1 : ∀ j, j < T → M2.1 1 j = nI (S j) := by
      rw [s10, a5, b3.1 1 (by omega)]
      exact t3
    obtain ⟨M5, hM5⟩ : ∃ M5, M5 = upM M2 0 (upd (upd (M2.1 0) 8 mI) 9 mI) := ⟨_, rfl⟩
    have e5 : FE M2 M5 := by
      rw [hM5]
      refine ⟨?_, ?_, ?_⟩
      · intro q hq
        rw [pu_M1, pu_Rs, pu_un (by omega), pu_un (by omega)]
      · rw [pu_M1, pu_Rn (by omega)]
      · intro q hq
        rw [pu_M1, pu_Rn (by omega)]
    have r5 : Rel (600 * c) n l K4 (M5.1 0) := by
      rw [hM5, pu_M1, pu_Rs]
      exact v2
    have x5 : TX S T 0 (upMS M5 3 4 (nI 0)) := TX.mk0 t1' (by rw [e5.2.2 3 (by omega)]; exact m3) (by rw [e5.2.1]; exact m1)
    have c5 := (EE.up M5 (q := 4) (by omega) (nI 0)).1 0 (by omega)
    obtain ⟨r, K6, M6, w1, w2, w3, w4⟩ := rv (B0 := 600 * c) t1' (by omega) T 0 0 fuelN fuelN n l K4 (upMS M5 3 4 (nI 0)) (by omega) (by unfold fuelN; omega) (by unfold fuelN; omega) (by omega) x5 (Or.inl rfl) q (by rw [c5]; exact r5) (by rw [c5, hM5, pu_M1, pu_Rs, pu_un (by omega), pu_us rfl])
    have e6 : FE M2 M6 := e5.trans ((EE.up M5 (q := 4) (by omega) (nI 0)).fe.trans w4)
    have fr6 : FR M2 M6 := ⟨e6.1, e6.2.1, fun q _ q4 => e6.2.2 q q4⟩
    have hR6 : RR (c + 1) O2 K6 M6 := s3.op fr6 (w3.mono (by omega))
    have hR7 : RR (c + 1) (upOS O2 0 3 0) K6 (upMS M6 3 3 0) := by
      refine hR6.ring ?_ ?_ ?_ ?_ ⟨0, by omega, ?_, ?_, fun i hi => absurd hi (by omega)⟩
      · intro q hq
        rw [upOS_n q (by omega)]
      · intro q hq
        rw [upOS_8, if_neg (by omega)]
      · rw [pu_MS, pu_M1, pu_Rn (by omega)]
      · intro q q0 q3
        rw [up_n (by omega)]
      · rw [upOS_8, if_pos ⟨rfl, rfl⟩]
        rfl
      · rw [up_s]
        rfl
    refine ⟨nI r, nI 0, upMS M6 3 3 0, ?_, ?_, Or.inr ⟨(nI r, upOS O2 0 3 0, K6), ?_, rfl, rfl, hR7⟩⟩
    · unfold f_X6_revel_b13
      have i8 : inb 8 952 = true := pu_inb (a := 8) (N := 952) (by omega) (by omega)
      have i9 : inb 9 952 = true := pu_inb (a := 9) (N := 952) (by omega) (by omega)
      have z8 : (8 : Int32).toNatClampNeg = 8 := nI_clamp (n := 8) (by omega)
      have z9 : (9 : Int32).toNatClampNeg = 9 := nI_clamp (n := 9) (by omega)
      rw [show f_X6_holds Ma 0 = _ from a1, pu_bnd2, if_neg n10, s2, pu_bnd, i8, pu_gd, pu_nm, i9, pu_gd, pu_nm, z8, z9, pu_MM, pu_M1, pu_Rs, pu_m1, ← hM5, pu_nm]
      exact w2
    · unfold f_X6_thrown
      rw [up_n (by omega), e6.2.2 0 (by omega), s4, a3]
    · unfold f_need
      rw [if_neg n10, pu_bxr, s1, pu_bnd, pu_m1, v1, pu_bnd]
      exact w1
  · obtain ⟨M1', e1, hR1, ht1⟩ := rfu (t := 1) b4 (Or.inl rfl)
    rw [if_neg q, if_pos (show nI 0 = 0 from rfl)]
    refine ⟨nI 0, nI 1, M1', ?_, ht1, Or.inl ⟨2, rfl, ?_, rfl, hR1⟩⟩
    · unfold f_X6_revel_b13
      rw [show f_X6_holds Ma 1 = _ from e1, pu_bnd2, if_pos (show nI 0 = 0 from rfl)]
      rfl
    · unfold f_need
      rw [if_pos (show nI 0 = 0 from rfl)]
      rfl
