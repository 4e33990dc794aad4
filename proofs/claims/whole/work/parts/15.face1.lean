def f_X5_revel_b90    (Ob : XO) (Kb : RK) (x1 : Int32) : Option (Nat ⊕ (Int32 × XO × RK)) := nm (upOS Ob 0 3 0) (fun O1 => some (.inr (x1, O1, Kb)))
def f_X5_revel_b84 (k34 : XO → RK → Int32 → Int32 → Option (Nat ⊕ (Int32 × XO × RK)))   (Ob : XO) (Kb : RK) (x1 : Int32) (x2 : Int32) : Option (Nat ⊕ (Int32 × XO × RK)) := nm (x2 + 1) (fun v1 => k34 Ob Kb x1 v1)
def f_X5_revel_l34    : Nat → XO → RK → Int32 → Int32 → Option (Nat ⊕ (Int32 × XO × RK))
  | 0, _, _, _, _ => none
  | n34 + 1, Ob, Kb, x1, x2 => (if (Ob 8 0 3) ≤ x2 then f_X5_revel_b90 Ob Kb x1 else bnd (f_X4_isPartAt Ob x2) (fun r1 => (if r1 = 0 then f_X5_revel_b84 (f_X5_revel_l34 n34) Ob Kb x1 x2 else bnd2 (f_X5_happenPart Ob Kb x2) (fun r2 K3 => (if r2 = 0 then nm (x1 + 1) (fun v4 => f_X5_revel_b84 (f_X5_revel_l34 n34) Ob K3 v4 x2) else bnd (f_X0_noteStop K3 x1 r2) (fun K5 => f_X5_revel_b90 Ob K5 x1))))))
def f_X5_revel (O : XO) (K : RK)   : Option (Nat ⊕ (Int32 × XO × RK)) := bnd (f_X4_isComplete O) (fun r1 => bx (f_need 2 r1) (fun _ => bnd (f_X2_save O K) (fun O3 => bnd (f_X0_noteStop K (-1) (-1)) (fun K4 => f_X5_revel_l34 fuelN O3 K4 0 0))))
set_option maxHeartbeats 4000000 in
set_option maxRecDepth 100000 in
theorem c_X5_revel {l : Launch} {D : va_G} {cI cR : ClassId} {ad : Nat → Nat} {A : Nat → Prop} {O : XO} {K : RK}  {res : Nat ⊕ (Int32 × XO × RK)} (htr : l.stackTraces = false) (hf : f_X5_revel O K = some res) : MX l yX5_revel wsX5_revel 7 138 1 6 D cI cR A [.ref (ad 0)] (xws cI cR ad O K) res (fun u : (Int32 × XO × RK) => some (.int u.1)) (fun u : (Int32 × XO × RK) => (xws cI cR ad u.2.1 u.2.2)) := by
  refine vx_ofW (cc := cX5_revel) (maxL := 4) (ret := (some .int)) (by decide) rfl ?_
  intro p e s m args below meth c s₁ B hml hno hv
  obtain ⟨rfl, hw, hO, hA⟩ := x_start hv
  have hx := B.exec
  have hb := B.bytes
  have hr := B.returns
  have hts := atoms_spec (ws := wsX5_revel) B.pre
  have hown : s.vm.findClass RX5 = some m.cls := findClass_of_methodNamed B.named
  have hlocks := B.notSynchronized
  have hiX4 : ∀ w ∈ wsX40, w ∈ wsX5_revel := by decide +kernel
  have hiX5 : ∀ w ∈ wsX50, w ∈ wsX5_revel := by decide +kernel
  have hl := lv_entry ([.ref (ad 0)]) (n := 4) (Nat.le_of_ble_eq_true rfl)
  rw [lg_entry_eq]
  generalize (lg_sl ([.ref (ad 0)]) ++ List.replicate (4 - (lg_sl ([.ref (ad 0)])).length) Slot.unset).toArray = ls at hl ⊢
  have hl : lv_has ls 4 [(0, .ref (ad 0))] := hl
  unfold f_X5_revel at hf
  obtain ⟨H, eH⟩ : ∃ H, H = s.heap := ⟨_, rfl⟩
  obtain ⟨locs, eL⟩ : ∃ L : List Loc, L = [] := ⟨_, rfl⟩
  rw [← eH, ← eL] at hw ⊢
  clear eH eL
  have B90 : ∀ (Ob : XO) (Kb : RK) (x1 : Int32) (H : Heap) (locs : List Loc) (ls : Array Slot), f_X5_revel_b90 Ob Kb x1 = some res → WH D cI cR A (xws cI cR ad Ob Kb) s H locs → lv_has ls 4 [(0, .ref (ad 0)), (1, .int x1)] → W p l e (headSpec wsX5_revel ({ frames := 7, cells := 1, slots := 6, locals := 138 })).room s m ([.ref (ad 0)] : List Value).toArray below meth c H locs 1 6 (vx_MQ below (QX res (fun u : (Int32 × XO × RK) => some (.int u.1)) (fun u : (Int32 × XO × RK) => (xws cI cR ad u.2.1 u.2.2)) D A) (XX res (xws cI cR ad O K) D A) (([.ref (ad 0)] : List Value)).toArray s 1 6 A) (F0 m 90 ls []) := by
    intro Ob Kb x1 H locs ls hf hw hl
    unfold f_X5_revel_b90 at hf
    refine lv_aload_n hx hb dX5_revel_90 rfl (lv_at hl 0 rfl) ?_
    refine q_get hx hb hts hiX5 hown hw 0 xa_0 rfl 3 (by decide) (hts (.fieldLink RX5 29 "LaceRanks" "text" "LLaceRanks$Text;") (by decide +kernel)) rfl dX5_revel_91 ?_
    refine lv_iconst (v := 0) hx hb dX5_revel_94 (by decide) ?_
    obtain ⟨O1, hO1, hf⟩ := nmE hf
    refine q_putN (ty := .int) hx hb hts hiX4 tyX4 tyX4_ok nmX4 hown hw 115 xa_115 rfl 1 (by decide) (nw_X5_159 hw.2.2.2.2) rfl (by decide +kernel) rfl rfl (Nat.le_of_ble_eq_true rfl) dX5_revel_95 (xs_115_1.trans (congrArg (fun z => (xws cI cR ad z Kb)) hO1.symm)) (fun H locs hw => ?_)
    refine lv_iload_n hx hb dX5_revel_98 rfl (lv_at hl 1 rfl) ?_
    cases hf
    refine x_ret (Nat.le_of_ble_eq_true rfl) (Nat.le_of_ble_eq_true rfl) ?_
    exact x_iret (u := (x1, O1, Kb)) rfl rfl hx hb hr hlocks hw dX5_revel_99
  have L34 : ∀ (n34 : Nat) (Ob : XO) (Kb : RK) (x1 : Int32) (x2 : Int32) (H : Heap) (locs : List Loc) (ls : Array Slot), f_X5_revel_l34 n34 Ob Kb x1 x2 = some res → WH D cI cR A (xws cI cR ad Ob Kb) s H locs → lv_has ls 4 [(0, .ref (ad 0)), (1, .int x1), (2, .int x2)] → W p l e (headSpec wsX5_revel ({ frames := 7, cells := 1, slots := 6, locals := 138 })).room s m ([.ref (ad 0)] : List Value).toArray below meth c H locs 1 6 (vx_MQ below (QX res (fun u : (Int32 × XO × RK) => some (.int u.1)) (fun u : (Int32 × XO × RK) => (xws cI cR ad u.2.1 u.2.2)) D A) (XX res (xws cI cR ad O K) D A) (([.ref (ad 0)] : List Value)).toArray s 1 6 A) (F0 m 34 ls []) := by
    intro n34
    induction n34 with
    | zero => intro Ob Kb x1 x2 H locs ls hf; cases hf
    | succ n34 ih =>
      have ih34 := ih
      have B84 : ∀ (Ob : XO) (Kb : RK) (x1 : Int32) (x2 : Int32) (H : Heap) (locs : List Loc) (ls : Array Slot), f_X5_revel_b84 (f_X5_revel_l34 n34) Ob Kb x1 x2 = some res → WH D cI cR A (xws cI cR ad Ob Kb) s H locs → lv_has ls 4 [(0, .ref (ad 0)), (1, .int x1), (2, .int x2)] → W p l e (headSpec wsX5_revel ({ frames := 7, cells := 1, slots := 6, locals := 138 })).room s m ([.ref (ad 0)] : List Value).toArray below meth c H locs 1 6 (vx_MQ below (QX res (fun u : (Int32 × XO × RK) => some (.int u.1)) (fun u : (Int32 × XO × RK) => (xws cI cR ad u.2.1 u.2.2)) D A) (XX res (xws cI cR ad O K) D A) (([.ref (ad 0)] : List Value)).toArray s 1 6 A) (F0 m 84 ls []) := by
        intro Ob Kb x1 x2 H locs ls hf hw hl
        unfold f_X5_revel_b84 at hf
        obtain ⟨v1, hv1, hf⟩ := nmE hf
        refine lv_iinc (v := v1) (lv' := [(2, .int v1), (0, .ref (ad 0)), (1, .int x1)]) hx hb dX5_revel_84 hl (k := 2) rfl (by rw [hv1]; rfl) (by decide) rfl (fun ls hl => ?_)
        refine lv_goto (tgt := 34) hx hb dX5_revel_87 (by decide) ?_
        exact ih34 Ob Kb x1 v1 H locs ls hf hw (lv_sub hl [1, 2, 0] rfl)
      intro Ob Kb x1 x2 H locs ls hf hw hl
      simp only [f_X5_revel_l34] at hf
      refine lv_iload_n hx hb dX5_revel_34 rfl (lv_at hl 2 rfl) ?_
      refine lv_aload_n hx hb dX5_revel_35 rfl (lv_at hl 0 rfl) ?_
      refine q_get hx hb hts hiX5 hown hw 0 xa_0 rfl 3 (by decide) (hts (.fieldLink RX5 29 "LaceRanks" "text" "LLaceRanks$Text;") (by decide +kernel)) rfl dX5_revel_36 ?_
      refine q_getN hx hb hts hiX4 hown hw 115 xa_115 rfl 1 (by decide) (nw_X5_159 hw.2.2.2.2) rfl dX5_revel_39 ?_
      refine lv_icmp_ge (tgt := 90) hx hb dX5_revel_42 (by decide) (fun hc => ?_) (fun hc => ?_)
      · have hf := iteT hf hc
        exact B90 Ob Kb x1 H locs ls hf hw (lv_sub hl [0, 1] rfl)
      · have hf := iteF hf hc
        refine lv_aload_n hx hb dX5_revel_45 rfl (lv_at hl 0 rfl) ?_
        refine q_get hx hb hts hiX5 hown hw 0 xa_0 rfl 3 (by decide) (hts (.fieldLink RX5 29 "LaceRanks" "text" "LLaceRanks$Text;") (by decide +kernel)) rfl dX5_revel_46 ?_
        refine lv_iload_n hx hb dX5_revel_49 rfl (lv_at hl 2 rfl) ?_
        obtain ⟨r1, hr1, hf⟩ := bndS hf
        refine q_callVN (rest := []) (st1 := [.int r1]) [.int x2] ⟨hx, hb, hml, hown, hts⟩ (c_X4_isPartAt hr1) ⟨va_cnB 1 hts gX5_revel_X4_isPartAt_n175 rfl rfl rfl (nw_X5_175 hw.2.2.2.2) (hts (.initialized RX4) (by decide +kernel)) (by decide +kernel) ⟨Nat.le_of_ble_eq_true rfl, Nat.le_of_ble_eq_true rfl⟩, (hts (.instanceMethod yX4_isPartAt) (by decide +kernel)), (hts (.selects RX4 yX4_isPartAt yX4_isPartAt) (by decide +kernel))⟩ hw xa_115 rfl rfl hl.1 rfl (Nat.le_of_ble_eq_true rfl) dX5_revel_50 ⟨Nat.le_of_ble_eq_true rfl, Nat.le_of_ble_eq_true rfl⟩ rfl (fun H locs hw => ?_)
        refine lv_if_ne (tgt := 59) hx hb dX5_revel_53 (by decide) (fun hc => ?_) (fun hc => ?_)
        · have hf := iteF hf hc
          refine lv_aload_n hx hb dX5_revel_59 rfl (lv_at hl 0 rfl) ?_
          refine lv_iload_n hx hb dX5_revel_60 rfl (lv_at hl 2 rfl) ?_
          obtain ⟨r2, K3, hr3, hf⟩ := bnd2S hf
          refine q_callV (rest := []) (st1 := [.int r2]) [.int x2] ⟨hx, hb, hml, hown, hts⟩ (c_X5_happenPart hr3) (cwV 1 hts gX5_revel_X5_happenPart rfl rfl rfl (by decide +kernel) ⟨Nat.le_of_ble_eq_true rfl, Nat.le_of_ble_eq_true rfl⟩) hw xa_0 rfl rfl hl.1 rfl (Nat.le_of_ble_eq_true rfl) dX5_revel_61 ⟨Nat.le_of_ble_eq_true rfl, Nat.le_of_ble_eq_true rfl⟩ rfl (fun H locs hw => ?_)
          refine lv_istore_n (lv' := [(3, .int r2), (0, .ref (ad 0)), (1, .int x1), (2, .int x2)]) hx hb dX5_revel_64 rfl hl (by decide) rfl (fun ls hl => ?_)
          refine lv_iload_n hx hb dX5_revel_65 rfl (lv_at hl 0 rfl) ?_
          refine lv_if_eq (tgt := 81) hx hb dX5_revel_66 (by decide) (fun hc => ?_) (fun hc => ?_)
          · have hf := iteT hf hc
            obtain ⟨v4, hv4, hf⟩ := nmE hf
            refine lv_iinc (v := v4) (lv' := [(1, .int v4), (3, .int r2), (0, .ref (ad 0)), (2, .int x2)]) hx hb dX5_revel_81 hl (k := 2) rfl (by rw [hv4]; rfl) (by decide) rfl (fun ls hl => ?_)
            exact B84 Ob K3 v4 x2 H locs ls hf hw (lv_sub hl [2, 0, 3] rfl)
          · have hf := iteF hf hc
            refine lv_aload_n hx hb dX5_revel_69 rfl (lv_at hl 1 rfl) ?_
            refine q_get hx hb hts hiX5 hown hw 0 xa_0 rfl 0 (by decide) (hts (.fieldLink RX5 10 "LaceRanks" "now" "LLaceRanks$Carnival;") (by decide +kernel)) rfl dX5_revel_70 ?_
            refine lv_iload_n hx hb dX5_revel_73 rfl (lv_at hl 2 rfl) ?_
            refine lv_iload_n hx hb dX5_revel_74 rfl (lv_at hl 0 rfl) ?_
            obtain ⟨K5, hr5, hf⟩ := bndS hf
            refine q_callVN (rest := []) (st1 := []) [.int x1, .int r2] ⟨hx, hb, hml, hown, hts⟩ (c_X0_noteStop hr5) ⟨va_cnB 2 hts gX5_revel_X0_noteStop_n172 rfl rfl rfl (nw_X5_172 hw.2.2.2.2) (hts (.initialized RX0) (by decide +kernel)) (by decide +kernel) ⟨Nat.le_of_ble_eq_true rfl, Nat.le_of_ble_eq_true rfl⟩, (hts (.instanceMethod yX0_noteStop) (by decide +kernel)), (hts (.selects RX0 yX0_noteStop yX0_noteStop) (by decide +kernel))⟩ hw xa_1 rfl rfl hl.1 rfl (Nat.le_of_ble_eq_true rfl) dX5_revel_75 ⟨Nat.le_of_ble_eq_true rfl, Nat.le_of_ble_eq_true rfl⟩ rfl (fun H locs hw => ?_)
            refine lv_goto (tgt := 90) hx hb dX5_revel_78 (by decide) ?_
            exact B90 Ob K5 x1 H locs ls hf hw (lv_sub hl [1, 2] rfl)
        · have hf := iteT hf hc
          refine lv_goto (tgt := 84) hx hb dX5_revel_56 (by decide) ?_
          exact B84 Ob Kb x1 x2 H locs ls hf hw (lv_sub hl [0, 1, 2] rfl)
  refine lv_aload_n hx hb dX5_revel_0 rfl (lv_at hl 0 rfl) ?_
  refine q_get hx hb hts hiX5 hown hw 0 xa_0 rfl 3 (by decide) (hts (.fieldLink RX5 29 "LaceRanks" "text" "LLaceRanks$Text;") (by decide +kernel)) rfl dX5_revel_1 ?_
  obtain ⟨r1, hr1, hf⟩ := bndS hf
  refine q_callVN (rest := []) (st1 := [.int r1]) [] ⟨hx, hb, hml, hown, hts⟩ (c_X4_isComplete hr1) ⟨va_cnB 0 hts gX5_revel_X4_isComplete_n168 rfl rfl rfl (nw_X5_168 hw.2.2.2.2) (hts (.initialized RX4) (by decide +kernel)) (by decide +kernel) ⟨Nat.le_of_ble_eq_true rfl, Nat.le_of_ble_eq_true rfl⟩, (hts (.instanceMethod yX4_isComplete) (by decide +kernel)), (hts (.selects RX4 yX4_isComplete yX4_isComplete) (by decide +kernel))⟩ hw xa_115 rfl rfl hl.1 rfl (Nat.le_of_ble_eq_true rfl) dX5_revel_4 ⟨Nat.le_of_ble_eq_true rfl, Nat.le_of_ble_eq_true rfl⟩ rfl (fun H locs hw => ?_)
  refine x_run (vx_runS (As := [.int r1]) (rest := []) ⟨hx, hb, hml, hown, hts⟩ (c_X5_needArgument htr) (va_cwS 1 hts gX5_revel_X5_needArgument rfl rfl rfl (by decide +kernel) ⟨Nat.le_of_ble_eq_true rfl, Nat.le_of_ble_eq_true rfl⟩) (x_preS hw hO hA) rfl rfl hl.1 rfl (lv_room (Nat.le_of_ble_eq_true rfl)) dX5_revel_7 ⟨Nat.le_of_ble_eq_true rfl, Nat.le_of_ble_eq_true rfl⟩) hw (fun k hk H locs q9 ce hw hq1 hq2 hq3 => ?_) (fun u9 hu H locs hw => ?_)
  · exact x_out (bxL hk hf) hno hlocks hw hq1 hq2 hq3 (Nat.le_of_ble_eq_true rfl) (Nat.le_of_ble_eq_true rfl)
  have hf := bxR hu hf
  refine W.eq (g2 := F0 m 10 ls []) rfl ?_
  refine lv_aload_n hx hb dX5_revel_10 rfl (lv_at hl 0 rfl) ?_
  refine q_get hx hb hts hiX5 hown hw 0 xa_0 rfl 2 (by decide) (hts (.fieldLink RX5 22 "LaceRanks" "history" "LLaceRanks$History;") (by decide +kernel)) rfl dX5_revel_11 ?_
  refine lv_aload_n hx hb dX5_revel_14 rfl (lv_at hl 0 rfl) ?_
  refine q_get hx hb hts hiX5 hown hw 0 xa_0 rfl 0 (by decide) (hts (.fieldLink RX5 10 "LaceRanks" "now" "LLaceRanks$Carnival;") (by decide +kernel)) rfl dX5_revel_15 ?_
  obtain ⟨O3, hr3, hf⟩ := bndS hf
  refine q_callVN (rest := []) (st1 := []) [.ref (ad 1)] ⟨hx, hb, hml, hown, hts⟩ (c_X2_save hr3) ⟨va_cnB 1 hts gX5_revel_X2_save_n58 rfl rfl rfl (nw_X5_58 hw.2.2.2.2) (hts (.initialized RX2) (by decide +kernel)) (by decide +kernel) ⟨Nat.le_of_ble_eq_true rfl, Nat.le_of_ble_eq_true rfl⟩, (hts (.instanceMethod yX2_save) (by decide +kernel)), (hts (.selects RX2 yX2_save yX2_save) (by decide +kernel))⟩ hw xa_29 rfl rfl hl.1 rfl (Nat.le_of_ble_eq_true rfl) dX5_revel_18 ⟨Nat.le_of_ble_eq_true rfl, Nat.le_of_ble_eq_true rfl⟩ rfl (fun H locs hw => ?_)
  refine lv_aload_n hx hb dX5_revel_21 rfl (lv_at hl 0 rfl) ?_
  refine q_get hx hb hts hiX5 hown hw 0 xa_0 rfl 0 (by decide) (hts (.fieldLink RX5 10 "LaceRanks" "now" "LLaceRanks$Carnival;") (by decide +kernel)) rfl dX5_revel_22 ?_
  refine lv_iconst (v := (-1)) hx hb dX5_revel_25 (by decide) ?_
  refine lv_iconst (v := (-1)) hx hb dX5_revel_26 (by decide) ?_
  obtain ⟨K4, hr4, hf⟩ := bndS hf
  refine q_callVN (rest := []) (st1 := []) [.int (-1), .int (-1)] ⟨hx, hb, hml, hown, hts⟩ (c_X0_noteStop hr4) ⟨va_cnB 2 hts gX5_revel_X0_noteStop_n172 rfl rfl rfl (nw_X5_172 hw.2.2.2.2) (hts (.initialized RX0) (by decide +kernel)) (by decide +kernel) ⟨Nat.le_of_ble_eq_true rfl, Nat.le_of_ble_eq_true rfl⟩, (hts (.instanceMethod yX0_noteStop) (by decide +kernel)), (hts (.selects RX0 yX0_noteStop yX0_noteStop) (by decide +kernel))⟩ hw xa_1 rfl rfl hl.1 rfl (Nat.le_of_ble_eq_true rfl) dX5_revel_27 ⟨Nat.le_of_ble_eq_true rfl, Nat.le_of_ble_eq_true rfl⟩ rfl (fun H locs hw => ?_)
  refine lv_iconst (v := 0) hx hb dX5_revel_30 (by decide) ?_
  refine lv_istore_n (lv' := [(1, .int 0), (0, .ref (ad 0))]) hx hb dX5_revel_31 rfl hl (by decide) rfl (fun ls hl => ?_)
  refine lv_iconst (v := 0) hx hb dX5_revel_32 (by decide) ?_
  refine lv_istore_n (lv' := [(2, .int 0), (1, .int 0), (0, .ref (ad 0))]) hx hb dX5_revel_33 rfl hl (by decide) rfl (fun ls hl => ?_)
  exact L34 fuelN O3 K4 0 0 H locs ls hf hw (lv_sub hl [2, 1, 0] rfl)

def f_X5_stopped (K : RK)  (a1 : Int32) : Option (Nat ⊕ Int32) := bnd (f_X5_isWithin a1 0 1) (fun r1 => bx (f_need 2 r1) (fun _ => bnd (f_X0_stopNumber K a1) (fun r3 => some (.inr r3))))
set_option maxHeartbeats 4000000 in
set_option maxRecDepth 100000 in
theorem c_X5_stopped {l : Launch} {D : va_G} {cI cR : ClassId} {ad : Nat → Nat} {A : Nat → Prop} {O : XO} {K : RK} {a1 : Int32} {res : Nat ⊕ Int32} (htr : l.stackTraces = false) (hf : f_X5_stopped K a1 = some res) : MX l yX5_stopped wsX5_stopped 7 115 1 6 D cI cR A [.ref (ad 0), .int a1] (xws cI cR ad O K) res (fun u : Int32 => some (.int u)) (fun _ : Int32 => (xws cI cR ad O K)) := by
  refine vx_ofW (cc := cX5_stopped) (maxL := 2) (ret := (some .int)) (by decide) rfl ?_
  intro p e s m args below meth c s₁ B hml hno hv
  obtain ⟨rfl, hw, hO, hA⟩ := x_start hv
  have hx := B.exec
  have hb := B.bytes
  have hr := B.returns
  have hts := atoms_spec (ws := wsX5_stopped) B.pre
  have hown : s.vm.findClass RX5 = some m.cls := findClass_of_methodNamed B.named
  have hlocks := B.notSynchronized
  have hiX5 : ∀ w ∈ wsX50, w ∈ wsX5_stopped := by decide +kernel
  have hl := lv_entry ([.ref (ad 0), .int a1]) (n := 2) (Nat.le_of_ble_eq_true rfl)
  rw [lg_entry_eq]
  generalize (lg_sl ([.ref (ad 0), .int a1]) ++ List.replicate (2 - (lg_sl ([.ref (ad 0), .int a1])).length) Slot.unset).toArray = ls at hl ⊢
  have hl : lv_has ls 2 [(0, .ref (ad 0)), (1, .int a1)] := hl
  unfold f_X5_stopped at hf
  obtain ⟨H, eH⟩ : ∃ H, H = s.heap := ⟨_, rfl⟩
  obtain ⟨locs, eL⟩ : ∃ L : List Loc, L = [] := ⟨_, rfl⟩
  rw [← eH, ← eL] at hw ⊢
  clear eH eL
  refine lv_iload_n hx hb dX5_stopped_0 rfl (lv_at hl 1 rfl) ?_
  refine lv_iconst (v := 0) hx hb dX5_stopped_1 (by decide) ?_
  refine lv_iconst (v := 1) hx hb dX5_stopped_2 (by decide) ?_
  obtain ⟨r1, hr1, hf⟩ := bndS hf
  refine q_callS (rest := []) (st1 := [.int r1]) [.int a1, .int 0, .int 1] ⟨hx, hb, hml, hown, hts⟩ (c_X5_isWithin hr1) (va_cwS 3 hts gX5_stopped_X5_isWithin rfl rfl rfl (by decide +kernel) ⟨Nat.le_of_ble_eq_true rfl, Nat.le_of_ble_eq_true rfl⟩) hw rfl hl.1 rfl (Nat.le_of_ble_eq_true rfl) dX5_stopped_3 ⟨Nat.le_of_ble_eq_true rfl, Nat.le_of_ble_eq_true rfl⟩ rfl (fun H locs hw => ?_)
  refine x_run (vx_runS (As := [.int r1]) (rest := []) ⟨hx, hb, hml, hown, hts⟩ (c_X5_needArgument htr) (va_cwS 1 hts gX5_stopped_X5_needArgument rfl rfl rfl (by decide +kernel) ⟨Nat.le_of_ble_eq_true rfl, Nat.le_of_ble_eq_true rfl⟩) (x_preS hw hO hA) rfl rfl hl.1 rfl (lv_room (Nat.le_of_ble_eq_true rfl)) dX5_stopped_6 ⟨Nat.le_of_ble_eq_true rfl, Nat.le_of_ble_eq_true rfl⟩) hw (fun k hk H locs q9 ce hw hq1 hq2 hq3 => ?_) (fun u9 hu H locs hw => ?_)
  · exact x_out (bxL hk hf) hno hlocks hw hq1 hq2 hq3 (Nat.le_of_ble_eq_true rfl) (Nat.le_of_ble_eq_true rfl)
  have hf := bxR hu hf
  refine W.eq (g2 := F0 m 9 ls []) rfl ?_
  refine lv_aload_n hx hb dX5_stopped_9 rfl (lv_at hl 0 rfl) ?_
  refine q_get hx hb hts hiX5 hown hw 0 xa_0 rfl 0 (by decide) (hts (.fieldLink RX5 10 "LaceRanks" "now" "LLaceRanks$Carnival;") (by decide +kernel)) rfl dX5_stopped_10 ?_
  refine lv_iload_n hx hb dX5_stopped_13 rfl (lv_at hl 1 rfl) ?_
  obtain ⟨r3, hr3, hf⟩ := bndS hf
  refine q_callVN (rest := []) (st1 := [.int r3]) [.int a1] ⟨hx, hb, hml, hown, hts⟩ (c_X0_stopNumber hr3) ⟨va_cnB 1 hts gX5_stopped_X0_stopNumber_n181 rfl rfl rfl (nw_X5_181 hw.2.2.2.2) (hts (.initialized RX0) (by decide +kernel)) (by decide +kernel) ⟨Nat.le_of_ble_eq_true rfl, Nat.le_of_ble_eq_true rfl⟩, (hts (.instanceMethod yX0_stopNumber) (by decide +kernel)), (hts (.selects RX0 yX0_stopNumber yX0_stopNumber) (by decide +kernel))⟩ hw xa_1 rfl rfl hl.1 rfl (Nat.le_of_ble_eq_true rfl) dX5_stopped_14 ⟨Nat.le_of_ble_eq_true rfl, Nat.le_of_ble_eq_true rfl⟩ rfl (fun H locs hw => ?_)
  cases hf
  refine x_ret (Nat.le_of_ble_eq_true rfl) (Nat.le_of_ble_eq_true rfl) ?_
  exact x_iret (u := r3) rfl rfl hx hb hr hlocks hw dX5_stopped_17

def f_X5_undo_b15  (O : XO) (K : RK)  (y0 : Int32) : Option (Nat ⊕ (Int32 × XO × RK)) := bx (f_need 3 y0) (fun _ => bnd2 (f_X2_bringBack O K) (fun O2 K3 => some (.inr (O2 8 0 2, O2, K3))))
def f_X5_undo (O : XO) (K : RK)   : Option (Nat ⊕ (Int32 × XO × RK)) := (if (O 8 0 2) ≤ 0 then f_X5_undo_b15 O K 0 else f_X5_undo_b15 O K 1)
set_option maxHeartbeats 4000000 in
set_option maxRecDepth 100000 in
theorem c_X5_undo {l : Launch} {D : va_G} {cI cR : ClassId} {ad : Nat → Nat} {A : Nat → Prop} {O : XO} {K : RK}  {res : Nat ⊕ (Int32 × XO × RK)} (htr : l.stackTraces = false) (hf : f_X5_undo O K = some res) : MX l yX5_undo wsX5_undo 7 115 1 6 D cI cR A [.ref (ad 0)] (xws cI cR ad O K) res (fun u : (Int32 × XO × RK) => some (.int u.1)) (fun u : (Int32 × XO × RK) => (xws cI cR ad u.2.1 u.2.2)) := by
  refine vx_ofW (cc := cX5_undo) (maxL := 1) (ret := (some .int)) (by decide) rfl ?_
  intro p e s m args below meth c s₁ B hml hno hv
  obtain ⟨rfl, hw, hO, hA⟩ := x_start hv
  have hx := B.exec
  have hb := B.bytes
  have hr := B.returns
  have hts := atoms_spec (ws := wsX5_undo) B.pre
  have hown : s.vm.findClass RX5 = some m.cls := findClass_of_methodNamed B.named
  have hlocks := B.notSynchronized
  have hiX2 : ∀ w ∈ wsX20, w ∈ wsX5_undo := by decide +kernel
  have hiX5 : ∀ w ∈ wsX50, w ∈ wsX5_undo := by decide +kernel
  have hl := lv_entry ([.ref (ad 0)]) (n := 1) (Nat.le_of_ble_eq_true rfl)
  rw [lg_entry_eq]
  generalize (lg_sl ([.ref (ad 0)]) ++ List.replicate (1 - (lg_sl ([.ref (ad 0)])).length) Slot.unset).toArray = ls at hl ⊢
  have hl : lv_has ls 1 [(0, .ref (ad 0))] := hl
  unfold f_X5_undo at hf
  obtain ⟨H, eH⟩ : ∃ H, H = s.heap := ⟨_, rfl⟩
  obtain ⟨locs, eL⟩ : ∃ L : List Loc, L = [] := ⟨_, rfl⟩
  rw [← eH, ← eL] at hw ⊢
  clear eH eL
  have B15 : ∀ (y0 : Int32) (H : Heap) (locs : List Loc) (ls : Array Slot), f_X5_undo_b15 O K y0 = some res → WH D cI cR A (xws cI cR ad O K) s H locs → lv_has ls 1 [(0, .ref (ad 0))] → W p l e (headSpec wsX5_undo ({ frames := 7, cells := 1, slots := 6, locals := 115 })).room s m ([.ref (ad 0)] : List Value).toArray below meth c H locs 0 0 (vx_MQ below (QX res (fun u : (Int32 × XO × RK) => some (.int u.1)) (fun u : (Int32 × XO × RK) => (xws cI cR ad u.2.1 u.2.2)) D A) (XX res (xws cI cR ad O K) D A) (([.ref (ad 0)] : List Value)).toArray s 1 6 A) (F0 m 15 ls [.int y0]) := by
    intro y0 H locs ls hf hw hl
    unfold f_X5_undo_b15 at hf
    refine x_run (vx_runS (As := [.int y0]) (rest := []) ⟨hx, hb, hml, hown, hts⟩ (c_X5_needState htr) (va_cwS 1 hts gX5_undo_X5_needState rfl rfl rfl (by decide +kernel) ⟨Nat.le_of_ble_eq_true rfl, Nat.le_of_ble_eq_true rfl⟩) (x_preS hw hO hA) rfl rfl hl.1 rfl (lv_room (Nat.le_of_ble_eq_true rfl)) dX5_undo_15 ⟨Nat.le_of_ble_eq_true rfl, Nat.le_of_ble_eq_true rfl⟩) hw (fun k hk H locs q9 ce hw hq1 hq2 hq3 => ?_) (fun u9 hu H locs hw => ?_)
    · exact x_out (bxL hk hf) hno hlocks hw hq1 hq2 hq3 (Nat.le_of_ble_eq_true rfl) (Nat.le_of_ble_eq_true rfl)
    have hf := bxR hu hf
    refine W.eq (g2 := F0 m 18 ls []) rfl ?_
    refine lv_aload_n hx hb dX5_undo_18 rfl (lv_at hl 0 rfl) ?_
    refine q_get hx hb hts hiX5 hown hw 0 xa_0 rfl 2 (by decide) (hts (.fieldLink RX5 22 "LaceRanks" "history" "LLaceRanks$History;") (by decide +kernel)) rfl dX5_undo_19 ?_
    refine lv_aload_n hx hb dX5_undo_22 rfl (lv_at hl 0 rfl) ?_
    refine q_get hx hb hts hiX5 hown hw 0 xa_0 rfl 0 (by decide) (hts (.fieldLink RX5 10 "LaceRanks" "now" "LLaceRanks$Carnival;") (by decide +kernel)) rfl dX5_undo_23 ?_
    obtain ⟨O2, K3, hr3, hf⟩ := bnd2S hf
    refine q_callVN (rest := []) (st1 := []) [.ref (ad 1)] ⟨hx, hb, hml, hown, hts⟩ (c_X2_bringBack hr3) ⟨va_cnB 1 hts gX5_undo_X2_bringBack_n185 rfl rfl rfl (nw_X5_185 hw.2.2.2.2) (hts (.initialized RX2) (by decide +kernel)) (by decide +kernel) ⟨Nat.le_of_ble_eq_true rfl, Nat.le_of_ble_eq_true rfl⟩, (hts (.instanceMethod yX2_bringBack) (by decide +kernel)), (hts (.selects RX2 yX2_bringBack yX2_bringBack) (by decide +kernel))⟩ hw xa_29 rfl rfl hl.1 rfl (Nat.le_of_ble_eq_true rfl) dX5_undo_26 ⟨Nat.le_of_ble_eq_true rfl, Nat.le_of_ble_eq_true rfl⟩ rfl (fun H locs hw => ?_)
    refine lv_aload_n hx hb dX5_undo_29 rfl (lv_at hl 0 rfl) ?_
    refine q_get hx hb hts hiX5 hown hw 0 xa_0 rfl 2 (by decide) (hts (.fieldLink RX5 22 "LaceRanks" "history" "LLaceRanks$History;") (by decide +kernel)) rfl dX5_undo_30 ?_
    refine q_getN hx hb hts hiX2 hown hw 29 xa_29 rfl 2 (by decide) (nw_X5_184 hw.2.2.2.2) rfl dX5_undo_33 ?_
    cases hf
    refine x_ret (Nat.le_of_ble_eq_true rfl) (Nat.le_of_ble_eq_true rfl) ?_
    exact x_iret (u := (O2 8 0 2, O2, K3)) rfl rfl hx hb hr hlocks hw dX5_undo_36
  refine lv_aload_n hx hb dX5_undo_0 rfl (lv_at hl 0 rfl) ?_
  refine q_get hx hb hts hiX5 hown hw 0 xa_0 rfl 2 (by decide) (hts (.fieldLink RX5 22 "LaceRanks" "history" "LLaceRanks$History;") (by decide +kernel)) rfl dX5_undo_1 ?_
  refine q_getN hx hb hts hiX2 hown hw 29 xa_29 rfl 2 (by decide) (nw_X5_184 hw.2.2.2.2) rfl dX5_undo_4 ?_
  refine lv_if_le (tgt := 14) hx hb dX5_undo_7 (by decide) (fun hc => ?_) (fun hc => ?_)
  · have hf := iteT hf hc
    refine lv_iconst (v := 0) hx hb dX5_undo_14 (by decide) ?_
    exact B15 0 H locs ls hf hw (lv_sub hl [0] rfl)
  · have hf := iteF hf hc
    refine lv_iconst (v := 1) hx hb dX5_undo_10 (by decide) ?_
    refine lv_goto (tgt := 15) hx hb dX5_undo_11 (by decide) ?_
    exact B15 1 H locs ls hf hw (lv_sub hl [0] rfl)

def f_X5_restore (O : XO) (K : RK)   : Option (Nat ⊕ (Int32 × XO × RK)) := bx (f_need 3 (O 8 0 0)) (fun _ => bnd (f_X2_save O K) (fun O2 => nm (O2 1) (fun K3 => some (.inr (K3 11 0, O2, K3)))))
set_option maxHeartbeats 4000000 in
set_option maxRecDepth 100000 in
theorem c_X5_restore {l : Launch} {D : va_G} {cI cR : ClassId} {ad : Nat → Nat} {A : Nat → Prop} {O : XO} {K : RK}  {res : Nat ⊕ (Int32 × XO × RK)} (htr : l.stackTraces = false) (hf : f_X5_restore O K = some res) : MX l yX5_restore wsX5_restore 7 115 1 6 D cI cR A [.ref (ad 0)] (xws cI cR ad O K) res (fun u : (Int32 × XO × RK) => some (.int u.1)) (fun u : (Int32 × XO × RK) => (xws cI cR ad u.2.1 u.2.2)) := by
  refine vx_ofW (cc := cX5_restore) (maxL := 1) (ret := (some .int)) (by decide) rfl ?_
  intro p e s m args below meth c s₁ B hml hno hv
  obtain ⟨rfl, hw, hO, hA⟩ := x_start hv
  have hx := B.exec
  have hb := B.bytes
  have hr := B.returns
  have hts := atoms_spec (ws := wsX5_restore) B.pre
  have hown : s.vm.findClass RX5 = some m.cls := findClass_of_methodNamed B.named
  have hlocks := B.notSynchronized
  have hiX0 : ∀ w ∈ wsX00, w ∈ wsX5_restore := by decide +kernel
  have hiX5 : ∀ w ∈ wsX50, w ∈ wsX5_restore := by decide +kernel
  have hl := lv_entry ([.ref (ad 0)]) (n := 1) (Nat.le_of_ble_eq_true rfl)
  rw [lg_entry_eq]
  generalize (lg_sl ([.ref (ad 0)]) ++ List.replicate (1 - (lg_sl ([.ref (ad 0)])).length) Slot.unset).toArray = ls at hl ⊢
  have hl : lv_has ls 1 [(0, .ref (ad 0))] := hl
  unfold f_X5_restore at hf
  obtain ⟨H, eH⟩ : ∃ H, H = s.heap := ⟨_, rfl⟩
  obtain ⟨locs, eL⟩ : ∃ L : List Loc, L = [] := ⟨_, rfl⟩
  rw [← eH, ← eL] at hw ⊢
  clear eH eL
  refine lv_aload_n hx hb dX5_restore_0 rfl (lv_at hl 0 rfl) ?_
  refine q_get hx hb hts hiX5 hown hw 0 xa_0 rfl 4 (by decide) (hts (.fieldLink RX5 33 "LaceRanks" "hasSnapshot" "Z") (by decide +kernel)) rfl dX5_restore_1 ?_
  refine x_run (vx_runS (As := [.int (O 8 0 0)]) (rest := []) ⟨hx, hb, hml, hown, hts⟩ (c_X5_needState htr) (va_cwS 1 hts gX5_restore_X5_needState rfl rfl rfl (by decide +kernel) ⟨Nat.le_of_ble_eq_true rfl, Nat.le_of_ble_eq_true rfl⟩) (x_preS hw hO hA) rfl rfl hl.1 rfl (lv_room (Nat.le_of_ble_eq_true rfl)) dX5_restore_4 ⟨Nat.le_of_ble_eq_true rfl, Nat.le_of_ble_eq_true rfl⟩) hw (fun k hk H locs q9 ce hw hq1 hq2 hq3 => ?_) (fun u9 hu H locs hw => ?_)
  · exact x_out (bxL hk hf) hno hlocks hw hq1 hq2 hq3 (Nat.le_of_ble_eq_true rfl) (Nat.le_of_ble_eq_true rfl)
  have hf := bxR hu hf
  refine W.eq (g2 := F0 m 7 ls []) rfl ?_
  refine lv_aload_n hx hb dX5_restore_7 rfl (lv_at hl 0 rfl) ?_
  refine q_get hx hb hts hiX5 hown hw 0 xa_0 rfl 2 (by decide) (hts (.fieldLink RX5 22 "LaceRanks" "history" "LLaceRanks$History;") (by decide +kernel)) rfl dX5_restore_8 ?_
  refine lv_aload_n hx hb dX5_restore_11 rfl (lv_at hl 0 rfl) ?_
  refine q_get hx hb hts hiX5 hown hw 0 xa_0 rfl 0 (by decide) (hts (.fieldLink RX5 10 "LaceRanks" "now" "LLaceRanks$Carnival;") (by decide +kernel)) rfl dX5_restore_12 ?_
  obtain ⟨O2, hr2, hf⟩ := bndS hf
  refine q_callVN (rest := []) (st1 := []) [.ref (ad 1)] ⟨hx, hb, hml, hown, hts⟩ (c_X2_save hr2) ⟨va_cnB 1 hts gX5_restore_X2_save_n58 rfl rfl rfl (nw_X5_58 hw.2.2.2.2) (hts (.initialized RX2) (by decide +kernel)) (by decide +kernel) ⟨Nat.le_of_ble_eq_true rfl, Nat.le_of_ble_eq_true rfl⟩, (hts (.instanceMethod yX2_save) (by decide +kernel)), (hts (.selects RX2 yX2_save yX2_save) (by decide +kernel))⟩ hw xa_29 rfl rfl hl.1 rfl (Nat.le_of_ble_eq_true rfl) dX5_restore_15 ⟨Nat.le_of_ble_eq_true rfl, Nat.le_of_ble_eq_true rfl⟩ rfl (fun H locs hw => ?_)
  refine lv_aload_n hx hb dX5_restore_18 rfl (lv_at hl 0 rfl) ?_
  refine q_get hx hb hts hiX5 hown hw 0 xa_0 rfl 0 (by decide) (hts (.fieldLink RX5 10 "LaceRanks" "now" "LLaceRanks$Carnival;") (by decide +kernel)) rfl dX5_restore_19 ?_
  refine lv_aload_n hx hb dX5_restore_22 rfl (lv_at hl 0 rfl) ?_
  refine q_get hx hb hts hiX5 hown hw 0 xa_0 rfl 1 (by decide) (hts (.fieldLink RX5 16 "LaceRanks" "snapshot" "LLaceRanks$Carnival;") (by decide +kernel)) rfl dX5_restore_23 ?_
  obtain ⟨K3, hK3, hf⟩ := nmE hf
  refine q_copyDS (w := xws cI cR ad O2 K) (w' := xws cI cR ad O2 K3) (od := 1) (os := 15) (rest := []) ⟨hx, hb, hml, hown, hts⟩ ⟨va_cnB 1 hts gX5_restore_X0_copyState_n188 rfl rfl rfl (nw_X5_188 hw.2.2.2.2) (hts (.initialized RX0) (by decide +kernel)) (by decide +kernel) ⟨Nat.le_of_ble_eq_true rfl, Nat.le_of_ble_eq_true rfl⟩, (hts (.instanceMethod yX0_copyState) (by decide +kernel)), (hts (.selects RX0 yX0_copyState yX0_copyState) (by decide +kernel))⟩ (by have h := xw_snap (cI := cI) (cR := cR) (ad := ad) (O := O2) (K := K) (B := O2 1); rw [upB_id] at h; exact h) (by have h := xw_snap (cI := cI) (cR := cR) (ad := ad) (O := O2) (K := K3) (B := O2 1); rw [upB_id] at h; rw [h, hK3]) hw hl.1 rfl (Nat.le_of_ble_eq_true rfl) dX5_restore_26 ⟨Nat.le_of_ble_eq_true rfl, Nat.le_of_ble_eq_true rfl⟩ (fun H locs hw => ?_)
  refine lv_aload_n hx hb dX5_restore_29 rfl (lv_at hl 0 rfl) ?_
  refine q_get hx hb hts hiX5 hown hw 0 xa_0 rfl 0 (by decide) (hts (.fieldLink RX5 10 "LaceRanks" "now" "LLaceRanks$Carnival;") (by decide +kernel)) rfl dX5_restore_30 ?_
  refine q_getN hx hb hts hiX0 hown hw 1 xa_1 rfl 3 (by decide) (nw_X5_191 hw.2.2.2.2) rfl dX5_restore_33 ?_
  cases hf
  refine x_ret (Nat.le_of_ble_eq_true rfl) (Nat.le_of_ble_eq_true rfl) ?_
  exact x_iret (u := (K3 11 0, O2, K3)) rfl rfl hx hb hr hlocks hw dX5_restore_36

def f_X5_guest (K : RK)  (a1 : Int32) (a2 : Int32) : Option (Nat ⊕ Int32) := bx (f_needG K a1) (fun _ => bnd (f_X5_isWithin a2 0 10) (fun r2 => bx (f_need 2 r2) (fun _ => bnd (f_X0_guestNumber K a1 a2) (fun r4 => some (.inr r4)))))
set_option maxHeartbeats 4000000 in
set_option maxRecDepth 100000 in
theorem c_X5_guest {l : Launch} {D : va_G} {cI cR : ClassId} {ad : Nat → Nat} {A : Nat → Prop} {O : XO} {K : RK} {a1 : Int32} {a2 : Int32} {res : Nat ⊕ Int32} (htr : l.stackTraces = false) (hf : f_X5_guest K a1 a2 = some res) : MX l yX5_guest wsX5_guest 7 116 2 12 D cI cR A [.ref (ad 0), .int a1, .int a2] (xws cI cR ad O K) res (fun u : Int32 => some (.int u)) (fun _ : Int32 => (xws cI cR ad O K)) := by
  refine vx_ofW (cc := cX5_guest) (maxL := 3) (ret := (some .int)) (by decide) rfl ?_
  intro p e s m args below meth c s₁ B hml hno hv
  obtain ⟨rfl, hw, hO, hA⟩ := x_start hv
  have hx := B.exec
  have hb := B.bytes
  have hr := B.returns
  have hts := atoms_spec (ws := wsX5_guest) B.pre
  have hown : s.vm.findClass RX5 = some m.cls := findClass_of_methodNamed B.named
  have hlocks := B.notSynchronized
  have hiX5 : ∀ w ∈ wsX50, w ∈ wsX5_guest := by decide +kernel
  have hl := lv_entry ([.ref (ad 0), .int a1, .int a2]) (n := 3) (Nat.le_of_ble_eq_true rfl)
  rw [lg_entry_eq]
  generalize (lg_sl ([.ref (ad 0), .int a1, .int a2]) ++ List.replicate (3 - (lg_sl ([.ref (ad 0), .int a1, .int a2])).length) Slot.unset).toArray = ls at hl ⊢
  have hl : lv_has ls 3 [(0, .ref (ad 0)), (1, .int a1), (2, .int a2)] := hl
  unfold f_X5_guest at hf
  obtain ⟨H, eH⟩ : ∃ H, H = s.heap := ⟨_, rfl⟩
  obtain ⟨locs, eL⟩ : ∃ L : List Loc, L = [] := ⟨_, rfl⟩
  rw [← eH, ← eL] at hw ⊢
  clear eH eL
  refine lv_aload_n hx hb dX5_guest_0 rfl (lv_at hl 0 rfl) ?_
  refine lv_iload_n hx hb dX5_guest_1 rfl (lv_at hl 1 rfl) ?_
  refine x_run (vx_runV (As := [.int a1]) (rest := []) ⟨hx, hb, hml, hown, hts⟩ (c_X5_needGuest htr) (cwV 1 hts gX5_guest_X5_needGuest rfl rfl rfl (by decide +kernel) ⟨Nat.le_of_ble_eq_true rfl, Nat.le_of_ble_eq_true rfl⟩) (x_preV hw hO hA xa_0 rfl) rfl rfl hl.1 rfl (lv_room (Nat.le_of_ble_eq_true rfl)) dX5_guest_2 ⟨Nat.le_of_ble_eq_true rfl, Nat.le_of_ble_eq_true rfl⟩) hw (fun k hk H locs q9 ce hw hq1 hq2 hq3 => ?_) (fun u9 hu H locs hw => ?_)
  · exact x_out (bxL hk hf) hno hlocks hw hq1 hq2 hq3 (Nat.le_of_ble_eq_true rfl) (Nat.le_of_ble_eq_true rfl)
  have hf := bxR hu hf
  refine W.eq (g2 := F0 m 5 ls []) rfl ?_
  refine lv_iload_n hx hb dX5_guest_5 rfl (lv_at hl 2 rfl) ?_
  refine lv_iconst (v := 0) hx hb dX5_guest_6 (by decide) ?_
  refine lv_bipush (v := 10) hx hb dX5_guest_7 (by decide) ?_
  obtain ⟨r2, hr2, hf⟩ := bndS hf
  refine q_callS (rest := []) (st1 := [.int r2]) [.int a2, .int 0, .int 10] ⟨hx, hb, hml, hown, hts⟩ (c_X5_isWithin hr2) (va_cwS 3 hts gX5_guest_X5_isWithin rfl rfl rfl (by decide +kernel) ⟨Nat.le_of_ble_eq_true rfl, Nat.le_of_ble_eq_true rfl⟩) hw rfl hl.1 rfl (Nat.le_of_ble_eq_true rfl) dX5_guest_9 ⟨Nat.le_of_ble_eq_true rfl, Nat.le_of_ble_eq_true rfl⟩ rfl (fun H locs hw => ?_)
  refine x_run (vx_runS (As := [.int r2]) (rest := []) ⟨hx, hb, hml, hown, hts⟩ (c_X5_needArgument htr) (va_cwS 1 hts gX5_guest_X5_needArgument rfl rfl rfl (by decide +kernel) ⟨Nat.le_of_ble_eq_true rfl, Nat.le_of_ble_eq_true rfl⟩) (x_preS hw hO hA) rfl rfl hl.1 rfl (lv_room (Nat.le_of_ble_eq_true rfl)) dX5_guest_12 ⟨Nat.le_of_ble_eq_true rfl, Nat.le_of_ble_eq_true rfl⟩) hw (fun k hk H locs q9 ce hw hq1 hq2 hq3 => ?_) (fun u9 hu H locs hw => ?_)
  · exact x_out (bxL hk hf) hno hlocks hw hq1 hq2 hq3 (Nat.le_of_ble_eq_true rfl) (Nat.le_of_ble_eq_true rfl)
  have hf := bxR hu hf
  refine W.eq (g2 := F0 m 15 ls []) rfl ?_
  refine lv_aload_n hx hb dX5_guest_15 rfl (lv_at hl 0 rfl) ?_
  refine q_get hx hb hts hiX5 hown hw 0 xa_0 rfl 0 (by decide) (hts (.fieldLink RX5 10 "LaceRanks" "now" "LLaceRanks$Carnival;") (by decide +kernel)) rfl dX5_guest_16 ?_
  refine lv_iload_n hx hb dX5_guest_19 rfl (lv_at hl 1 rfl) ?_
  refine lv_iload_n hx hb dX5_guest_20 rfl (lv_at hl 2 rfl) ?_
  obtain ⟨r4, hr4, hf⟩ := bndS hf
  refine q_callVN (rest := []) (st1 := [.int r4]) [.int a1, .int a2] ⟨hx, hb, hml, hown, hts⟩ (c_X0_guestNumber hr4) ⟨va_cnB 2 hts gX5_guest_X0_guestNumber_n194 rfl rfl rfl (nw_X5_194 hw.2.2.2.2) (hts (.initialized RX0) (by decide +kernel)) (by decide +kernel) ⟨Nat.le_of_ble_eq_true rfl, Nat.le_of_ble_eq_true rfl⟩, (hts (.instanceMethod yX0_guestNumber) (by decide +kernel)), (hts (.selects RX0 yX0_guestNumber yX0_guestNumber) (by decide +kernel))⟩ hw xa_1 rfl rfl hl.1 rfl (Nat.le_of_ble_eq_true rfl) dX5_guest_21 ⟨Nat.le_of_ble_eq_true rfl, Nat.le_of_ble_eq_true rfl⟩ rfl (fun H locs hw => ?_)
  cases hf
  refine x_ret (Nat.le_of_ble_eq_true rfl) (Nat.le_of_ble_eq_true rfl) ?_
  exact x_iret (u := r4) rfl rfl hx hb hr hlocks hw dX5_guest_24

def f_X5_law_b25  (K : RK)  (x1 : Int32) (x2 : Int32) (x3 : Int32) (y0 : Int32) : Option (Nat ⊕ Int32) := bx (f_need 2 y0) (fun _ => bnd (f_X0_allowedElls K x1 x2 x3) (fun r2 => some (.inr r2)))
def f_X5_law (K : RK)  (a1 : Int32) (a2 : Int32) (a3 : Int32) : Option (Nat ⊕ Int32) := bnd (f_X5_isGate a1) (fun r1 => bx (f_need 1 r1) (fun _ => bnd (f_X5_isWithin a2 0 4) (fun r3 => bx (f_need 2 r3) (fun _ => (if a3 < 0 then f_X5_law_b25 K a1 a2 a3 0 else f_X5_law_b25 K a1 a2 a3 1)))))
set_option maxHeartbeats 4000000 in
set_option maxRecDepth 100000 in
theorem c_X5_law {l : Launch} {D : va_G} {cI cR : ClassId} {ad : Nat → Nat} {A : Nat → Prop} {O : XO} {K : RK} {a1 : Int32} {a2 : Int32} {a3 : Int32} {res : Nat ⊕ Int32} (htr : l.stackTraces = false) (hf : f_X5_law K a1 a2 a3 = some res) : MX l yX5_law wsX5_law 7 115 3 18 D cI cR A [.ref (ad 0), .int a1, .int a2, .int a3] (xws cI cR ad O K) res (fun u : Int32 => some (.int u)) (fun _ : Int32 => (xws cI cR ad O K)) := by
  refine vx_ofW (cc := cX5_law) (maxL := 4) (ret := (some .int)) (by decide) rfl ?_
  intro p e s m args below meth c s₁ B hml hno hv
  obtain ⟨rfl, hw, hO, hA⟩ := x_start hv
  have hx := B.exec
  have hb := B.bytes
  have hr := B.returns
  have hts := atoms_spec (ws := wsX5_law) B.pre
  have hown : s.vm.findClass RX5 = some m.cls := findClass_of_methodNamed B.named
  have hlocks := B.notSynchronized
  have hiX5 : ∀ w ∈ wsX50, w ∈ wsX5_law := by decide +kernel
  have hl := lv_entry ([.ref (ad 0), .int a1, .int a2, .int a3]) (n := 4) (Nat.le_of_ble_eq_true rfl)
  rw [lg_entry_eq]
  generalize (lg_sl ([.ref (ad 0), .int a1, .int a2, .int a3]) ++ List.replicate (4 - (lg_sl ([.ref (ad 0), .int a1, .int a2, .int a3])).length) Slot.unset).toArray = ls at hl ⊢
  have hl : lv_has ls 4 [(0, .ref (ad 0)), (1, .int a1), (2, .int a2), (3, .int a3)] := hl
  unfold f_X5_law at hf
  obtain ⟨H, eH⟩ : ∃ H, H = s.heap := ⟨_, rfl⟩
  obtain ⟨locs, eL⟩ : ∃ L : List Loc, L = [] := ⟨_, rfl⟩
  rw [← eH, ← eL] at hw ⊢
  clear eH eL
  have B25 : ∀ (x1 : Int32) (x2 : Int32) (x3 : Int32) (y0 : Int32) (H : Heap) (locs : List Loc) (ls : Array Slot), f_X5_law_b25 K x1 x2 x3 y0 = some res → WH D cI cR A (xws cI cR ad O K) s H locs → lv_has ls 4 [(0, .ref (ad 0)), (1, .int x1), (2, .int x2), (3, .int x3)] → W p l e (headSpec wsX5_law ({ frames := 7, cells := 3, slots := 18, locals := 115 })).room s m ([.ref (ad 0), .int a1, .int a2, .int a3] : List Value).toArray below meth c H locs 2 12 (vx_MQ below (QX res (fun u : Int32 => some (.int u)) (fun _ : Int32 => (xws cI cR ad O K)) D A) (XX res (xws cI cR ad O K) D A) (([.ref (ad 0), .int a1, .int a2, .int a3] : List Value)).toArray s 3 18 A) (F0 m 25 ls [.int y0]) := by
    intro x1 x2 x3 y0 H locs ls hf hw hl
    unfold f_X5_law_b25 at hf
    refine x_run (vx_runS (As := [.int y0]) (rest := []) ⟨hx, hb, hml, hown, hts⟩ (c_X5_needArgument htr) (va_cwS 1 hts gX5_law_X5_needArgument rfl rfl rfl (by decide +kernel) ⟨Nat.le_of_ble_eq_true rfl, Nat.le_of_ble_eq_true rfl⟩) (x_preS hw hO hA) rfl rfl hl.1 rfl (lv_room (Nat.le_of_ble_eq_true rfl)) dX5_law_25 ⟨Nat.le_of_ble_eq_true rfl, Nat.le_of_ble_eq_true rfl⟩) hw (fun k hk H locs q9 ce hw hq1 hq2 hq3 => ?_) (fun u9 hu H locs hw => ?_)
    · exact x_out (bxL hk hf) hno hlocks hw hq1 hq2 hq3 (Nat.le_of_ble_eq_true rfl) (Nat.le_of_ble_eq_true rfl)
    have hf := bxR hu hf
    refine W.eq (g2 := F0 m 28 ls []) rfl ?_
    refine lv_aload_n hx hb dX5_law_28 rfl (lv_at hl 0 rfl) ?_
    refine q_get hx hb hts hiX5 hown hw 0 xa_0 rfl 0 (by decide) (hts (.fieldLink RX5 10 "LaceRanks" "now" "LLaceRanks$Carnival;") (by decide +kernel)) rfl dX5_law_29 ?_
    refine lv_iload_n hx hb dX5_law_32 rfl (lv_at hl 1 rfl) ?_
    refine lv_iload_n hx hb dX5_law_33 rfl (lv_at hl 2 rfl) ?_
    refine lv_iload_n hx hb dX5_law_34 rfl (lv_at hl 3 rfl) ?_
    obtain ⟨r2, hr2, hf⟩ := bndS hf
    refine q_callVN (rest := []) (st1 := [.int r2]) [.int x1, .int x2, .int x3] ⟨hx, hb, hml, hown, hts⟩ (c_X0_allowedElls hr2) ⟨va_cnB 3 hts gX5_law_X0_allowedElls_n197 rfl rfl rfl (nw_X5_197 hw.2.2.2.2) (hts (.initialized RX0) (by decide +kernel)) (by decide +kernel) ⟨Nat.le_of_ble_eq_true rfl, Nat.le_of_ble_eq_true rfl⟩, (hts (.instanceMethod yX0_allowedElls) (by decide +kernel)), (hts (.selects RX0 yX0_allowedElls yX0_allowedElls) (by decide +kernel))⟩ hw xa_1 rfl rfl hl.1 rfl (Nat.le_of_ble_eq_true rfl) dX5_law_35 ⟨Nat.le_of_ble_eq_true rfl, Nat.le_of_ble_eq_true rfl⟩ rfl (fun H locs hw => ?_)
    cases hf
    refine x_ret (Nat.le_of_ble_eq_true rfl) (Nat.le_of_ble_eq_true rfl) ?_
    exact x_iret (u := r2) rfl rfl hx hb hr hlocks hw dX5_law_38
  refine lv_iload_n hx hb dX5_law_0 rfl (lv_at hl 1 rfl) ?_
  obtain ⟨r1, hr1, hf⟩ := bndS hf
  refine q_callS (rest := []) (st1 := [.int r1]) [.int a1] ⟨hx, hb, hml, hown, hts⟩ (c_X5_isGate hr1) (va_cwS 1 hts gX5_law_X5_isGate rfl rfl rfl (by decide +kernel) ⟨Nat.le_of_ble_eq_true rfl, Nat.le_of_ble_eq_true rfl⟩) hw rfl hl.1 rfl (Nat.le_of_ble_eq_true rfl) dX5_law_1 ⟨Nat.le_of_ble_eq_true rfl, Nat.le_of_ble_eq_true rfl⟩ rfl (fun H locs hw => ?_)
  refine x_run (vx_runS (As := [.int r1]) (rest := []) ⟨hx, hb, hml, hown, hts⟩ (c_X5_needIndex htr) (va_cwS 1 hts gX5_law_X5_needIndex rfl rfl rfl (by decide +kernel) ⟨Nat.le_of_ble_eq_true rfl, Nat.le_of_ble_eq_true rfl⟩) (x_preS hw hO hA) rfl rfl hl.1 rfl (lv_room (Nat.le_of_ble_eq_true rfl)) dX5_law_4 ⟨Nat.le_of_ble_eq_true rfl, Nat.le_of_ble_eq_true rfl⟩) hw (fun k hk H locs q9 ce hw hq1 hq2 hq3 => ?_) (fun u9 hu H locs hw => ?_)
  · exact x_out (bxL hk hf) hno hlocks hw hq1 hq2 hq3 (Nat.le_of_ble_eq_true rfl) (Nat.le_of_ble_eq_true rfl)
  have hf := bxR hu hf
  refine W.eq (g2 := F0 m 7 ls []) rfl ?_
  refine lv_iload_n hx hb dX5_law_7 rfl (lv_at hl 2 rfl) ?_
  refine lv_iconst (v := 0) hx hb dX5_law_8 (by decide) ?_
  refine lv_iconst (v := 4) hx hb dX5_law_9 (by decide) ?_
  obtain ⟨r3, hr3, hf⟩ := bndS hf
  refine q_callS (rest := []) (st1 := [.int r3]) [.int a2, .int 0, .int 4] ⟨hx, hb, hml, hown, hts⟩ (c_X5_isWithin hr3) (va_cwS 3 hts gX5_law_X5_isWithin rfl rfl rfl (by decide +kernel) ⟨Nat.le_of_ble_eq_true rfl, Nat.le_of_ble_eq_true rfl⟩) hw rfl hl.1 rfl (Nat.le_of_ble_eq_true rfl) dX5_law_10 ⟨Nat.le_of_ble_eq_true rfl, Nat.le_of_ble_eq_true rfl⟩ rfl (fun H locs hw => ?_)
  refine x_run (vx_runS (As := [.int r3]) (rest := []) ⟨hx, hb, hml, hown, hts⟩ (c_X5_needArgument htr) (va_cwS 1 hts gX5_law_X5_needArgument rfl rfl rfl (by decide +kernel) ⟨Nat.le_of_ble_eq_true rfl, Nat.le_of_ble_eq_true rfl⟩) (x_preS hw hO hA) rfl rfl hl.1 rfl (lv_room (Nat.le_of_ble_eq_true rfl)) dX5_law_13 ⟨Nat.le_of_ble_eq_true rfl, Nat.le_of_ble_eq_true rfl⟩) hw (fun k hk H locs q9 ce hw hq1 hq2 hq3 => ?_) (fun u9 hu H locs hw => ?_)
  · exact x_out (bxL hk hf) hno hlocks hw hq1 hq2 hq3 (Nat.le_of_ble_eq_true rfl) (Nat.le_of_ble_eq_true rfl)
  have hf := bxR hu hf
  refine W.eq (g2 := F0 m 16 ls []) rfl ?_
  refine lv_iload_n hx hb dX5_law_16 rfl (lv_at hl 3 rfl) ?_
  refine lv_if_lt (tgt := 24) hx hb dX5_law_17 (by decide) (fun hc => ?_) (fun hc => ?_)
  · have hf := iteT hf hc
    refine lv_iconst (v := 0) hx hb dX5_law_24 (by decide) ?_
    exact B25 a1 a2 a3 0 H locs ls hf hw (lv_sub hl [0, 1, 2, 3] rfl)
  · have hf := iteF hf hc
    refine lv_iconst (v := 1) hx hb dX5_law_20 (by decide) ?_
    refine lv_goto (tgt := 25) hx hb dX5_law_21 (by decide) ?_
    exact B25 a1 a2 a3 1 H locs ls hf hw (lv_sub hl [0, 1, 2, 3] rfl)

def f_X5_count (O : XO) (K : RK)  (a1 : Int32) : Option (Nat ⊕ Int32) := bnd (f_X5_isWithin a1 0 21) (fun r1 => bx (f_need 2 r1) (fun _ => bnd (f_X5_numberOf O K a1) (fun r3 => some (.inr r3))))
set_option maxHeartbeats 4000000 in
set_option maxRecDepth 100000 in
theorem c_X5_count {l : Launch} {D : va_G} {cI cR : ClassId} {ad : Nat → Nat} {A : Nat → Prop} {O : XO} {K : RK} {a1 : Int32} {res : Nat ⊕ Int32} (htr : l.stackTraces = false) (hf : f_X5_count O K a1 = some res) : MX l yX5_count wsX5_count 7 115 1 6 D cI cR A [.ref (ad 0), .int a1] (xws cI cR ad O K) res (fun u : Int32 => some (.int u)) (fun _ : Int32 => (xws cI cR ad O K)) := by
  refine vx_ofW (cc := cX5_count) (maxL := 2) (ret := (some .int)) (by decide) rfl ?_
  intro p e s m args below meth c s₁ B hml hno hv
  obtain ⟨rfl, hw, hO, hA⟩ := x_start hv
  have hx := B.exec
  have hb := B.bytes
  have hr := B.returns
  have hts := atoms_spec (ws := wsX5_count) B.pre
  have hown : s.vm.findClass RX5 = some m.cls := findClass_of_methodNamed B.named
  have hlocks := B.notSynchronized
  have hl := lv_entry ([.ref (ad 0), .int a1]) (n := 2) (Nat.le_of_ble_eq_true rfl)
  rw [lg_entry_eq]
  generalize (lg_sl ([.ref (ad 0), .int a1]) ++ List.replicate (2 - (lg_sl ([.ref (ad 0), .int a1])).length) Slot.unset).toArray = ls at hl ⊢
  have hl : lv_has ls 2 [(0, .ref (ad 0)), (1, .int a1)] := hl
  unfold f_X5_count at hf
  obtain ⟨H, eH⟩ : ∃ H, H = s.heap := ⟨_, rfl⟩
  obtain ⟨locs, eL⟩ : ∃ L : List Loc, L = [] := ⟨_, rfl⟩
  rw [← eH, ← eL] at hw ⊢
  clear eH eL
  refine lv_iload_n hx hb dX5_count_0 rfl (lv_at hl 1 rfl) ?_
  refine lv_iconst (v := 0) hx hb dX5_count_1 (by decide) ?_
  refine lv_bipush (v := 21) hx hb dX5_count_2 (by decide) ?_
  obtain ⟨r1, hr1, hf⟩ := bndS hf
  refine q_callS (rest := []) (st1 := [.int r1]) [.int a1, .int 0, .int 21] ⟨hx, hb, hml, hown, hts⟩ (c_X5_isWithin hr1) (va_cwS 3 hts gX5_count_X5_isWithin rfl rfl rfl (by decide +kernel) ⟨Nat.le_of_ble_eq_true rfl, Nat.le_of_ble_eq_true rfl⟩) hw rfl hl.1 rfl (Nat.le_of_ble_eq_true rfl) dX5_count_4 ⟨Nat.le_of_ble_eq_true rfl, Nat.le_of_ble_eq_true rfl⟩ rfl (fun H locs hw => ?_)
  refine x_run (vx_runS (As := [.int r1]) (rest := []) ⟨hx, hb, hml, hown, hts⟩ (c_X5_needArgument htr) (va_cwS 1 hts gX5_count_X5_needArgument rfl rfl rfl (by decide +kernel) ⟨Nat.le_of_ble_eq_true rfl, Nat.le_of_ble_eq_true rfl⟩) (x_preS hw hO hA) rfl rfl hl.1 rfl (lv_room (Nat.le_of_ble_eq_true rfl)) dX5_count_7 ⟨Nat.le_of_ble_eq_true rfl, Nat.le_of_ble_eq_true rfl⟩) hw (fun k hk H locs q9 ce hw hq1 hq2 hq3 => ?_) (fun u9 hu H locs hw => ?_)
  · exact x_out (bxL hk hf) hno hlocks hw hq1 hq2 hq3 (Nat.le_of_ble_eq_true rfl) (Nat.le_of_ble_eq_true rfl)
  have hf := bxR hu hf
  refine W.eq (g2 := F0 m 10 ls []) rfl ?_
  refine lv_aload_n hx hb dX5_count_10 rfl (lv_at hl 0 rfl) ?_
  refine lv_iload_n hx hb dX5_count_11 rfl (lv_at hl 1 rfl) ?_
  obtain ⟨r3, hr3, hf⟩ := bndS hf
  refine q_callV (rest := []) (st1 := [.int r3]) [.int a1] ⟨hx, hb, hml, hown, hts⟩ (c_X5_numberOf hr3) (cwV 1 hts gX5_count_X5_numberOf rfl rfl rfl (by decide +kernel) ⟨Nat.le_of_ble_eq_true rfl, Nat.le_of_ble_eq_true rfl⟩) hw xa_0 rfl rfl hl.1 rfl (Nat.le_of_ble_eq_true rfl) dX5_count_12 ⟨Nat.le_of_ble_eq_true rfl, Nat.le_of_ble_eq_true rfl⟩ rfl (fun H locs hw => ?_)
  cases hf
  refine x_ret (Nat.le_of_ble_eq_true rfl) (Nat.le_of_ble_eq_true rfl) ?_
  exact x_iret (u := r3) rfl rfl hx hb hr hlocks hw dX5_count_15

def f_X5_line (K : RK)  (a1 : Int32) : Option (Nat ⊕ Int32) := bnd (f_X5_isGate a1) (fun r1 => bx (f_need 1 r1) (fun _ => nm (at_ 3 (K 9) a1) (fun r3 => some (.inr r3))))
set_option maxHeartbeats 4000000 in
set_option maxRecDepth 100000 in
theorem c_X5_line {l : Launch} {D : va_G} {cI cR : ClassId} {ad : Nat → Nat} {A : Nat → Prop} {O : XO} {K : RK} {a1 : Int32} {res : Nat ⊕ Int32} (htr : l.stackTraces = false) (hf : f_X5_line K a1 = some res) : MX l yX5_line wsX5_line 7 115 1 6 D cI cR A [.ref (ad 0), .int a1] (xws cI cR ad O K) res (fun u : Int32 => some (.int u)) (fun _ : Int32 => (xws cI cR ad O K)) := by
  refine vx_ofW (cc := cX5_line) (maxL := 2) (ret := (some .int)) (by decide) rfl ?_
  intro p e s m args below meth c s₁ B hml hno hv
  obtain ⟨rfl, hw, hO, hA⟩ := x_start hv
  have hx := B.exec
  have hb := B.bytes
  have hr := B.returns
  have hts := atoms_spec (ws := wsX5_line) B.pre
  have hown : s.vm.findClass RX5 = some m.cls := findClass_of_methodNamed B.named
  have hlocks := B.notSynchronized
  have hiX0 : ∀ w ∈ wsX00, w ∈ wsX5_line := by decide +kernel
  have hiX3 : ∀ w ∈ wsX30, w ∈ wsX5_line := by decide +kernel
  have hiX5 : ∀ w ∈ wsX50, w ∈ wsX5_line := by decide +kernel
  have hl := lv_entry ([.ref (ad 0), .int a1]) (n := 2) (Nat.le_of_ble_eq_true rfl)
  rw [lg_entry_eq]
  generalize (lg_sl ([.ref (ad 0), .int a1]) ++ List.replicate (2 - (lg_sl ([.ref (ad 0), .int a1])).length) Slot.unset).toArray = ls at hl ⊢
  have hl : lv_has ls 2 [(0, .ref (ad 0)), (1, .int a1)] := hl
  unfold f_X5_line at hf
  obtain ⟨H, eH⟩ : ∃ H, H = s.heap := ⟨_, rfl⟩
  obtain ⟨locs, eL⟩ : ∃ L : List Loc, L = [] := ⟨_, rfl⟩
  rw [← eH, ← eL] at hw ⊢
  clear eH eL
  refine lv_iload_n hx hb dX5_line_0 rfl (lv_at hl 1 rfl) ?_
  obtain ⟨r1, hr1, hf⟩ := bndS hf
  refine q_callS (rest := []) (st1 := [.int r1]) [.int a1] ⟨hx, hb, hml, hown, hts⟩ (c_X5_isGate hr1) (va_cwS 1 hts gX5_line_X5_isGate rfl rfl rfl (by decide +kernel) ⟨Nat.le_of_ble_eq_true rfl, Nat.le_of_ble_eq_true rfl⟩) hw rfl hl.1 rfl (Nat.le_of_ble_eq_true rfl) dX5_line_1 ⟨Nat.le_of_ble_eq_true rfl, Nat.le_of_ble_eq_true rfl⟩ rfl (fun H locs hw => ?_)
  refine x_run (vx_runS (As := [.int r1]) (rest := []) ⟨hx, hb, hml, hown, hts⟩ (c_X5_needIndex htr) (va_cwS 1 hts gX5_line_X5_needIndex rfl rfl rfl (by decide +kernel) ⟨Nat.le_of_ble_eq_true rfl, Nat.le_of_ble_eq_true rfl⟩) (x_preS hw hO hA) rfl rfl hl.1 rfl (lv_room (Nat.le_of_ble_eq_true rfl)) dX5_line_4 ⟨Nat.le_of_ble_eq_true rfl, Nat.le_of_ble_eq_true rfl⟩) hw (fun k hk H locs q9 ce hw hq1 hq2 hq3 => ?_) (fun u9 hu H locs hw => ?_)
  · exact x_out (bxL hk hf) hno hlocks hw hq1 hq2 hq3 (Nat.le_of_ble_eq_true rfl) (Nat.le_of_ble_eq_true rfl)
  have hf := bxR hu hf
  refine W.eq (g2 := F0 m 7 ls []) rfl ?_
  refine lv_aload_n hx hb dX5_line_7 rfl (lv_at hl 0 rfl) ?_
  refine q_get hx hb hts hiX5 hown hw 0 xa_0 rfl 0 (by decide) (hts (.fieldLink RX5 10 "LaceRanks" "now" "LLaceRanks$Carnival;") (by decide +kernel)) rfl dX5_line_8 ?_
  refine q_getN hx hb hts hiX0 hown hw 1 xa_1 rfl 1 (by decide) (nw_X5_127 hw.2.2.2.2) rfl dX5_line_11 ?_
  refine q_getN hx hb hts hiX3 hown hw 11 xa_11 rfl 1 (by decide) (nw_X5_136 hw.2.2.2.2) rfl dX5_line_14 ?_
  refine lv_iload_n hx hb dX5_line_17 rfl (lv_at hl 1 rfl) ?_
  obtain ⟨r3, hr3, hf⟩ := nmE hf
  refine q_callS (rest := []) (st1 := [.int r3]) [.ref (ad 13), .int a1] ⟨hx, hb, hml, hown, hts⟩ (c_X5_at (q0 := 13) xa_13 hr3) (va_cwS 2 hts gX5_line_X5_at rfl rfl rfl (by decide +kernel) ⟨Nat.le_of_ble_eq_true rfl, Nat.le_of_ble_eq_true rfl⟩) hw rfl hl.1 rfl (Nat.le_of_ble_eq_true rfl) dX5_line_18 ⟨Nat.le_of_ble_eq_true rfl, Nat.le_of_ble_eq_true rfl⟩ rfl (fun H locs hw => ?_)
  cases hf
  refine x_ret (Nat.le_of_ble_eq_true rfl) (Nat.le_of_ble_eq_true rfl) ?_
  exact x_iret (u := r3) rfl rfl hx hb hr hlocks hw dX5_line_21

def f_X5_noLoan (K : RK)  (a1 : Int32) (a2 : Int32) : Option (Nat ⊕ Int32) := bx (f_needG K a1) (fun _ => bx (f_needG K a2) (fun _ => bnd (f_X1_reasonNoLoan K a1 a2) (fun r3 => some (.inr r3))))
set_option maxHeartbeats 4000000 in
set_option maxRecDepth 100000 in
theorem c_X5_noLoan {l : Launch} {D : va_G} {cI cR : ClassId} {ad : Nat → Nat} {A : Nat → Prop} {O : XO} {K : RK} {a1 : Int32} {a2 : Int32} {res : Nat ⊕ Int32} (htr : l.stackTraces = false) (hf : f_X5_noLoan K a1 a2 = some res) : MX l yX5_noLoan wsX5_noLoan 7 116 2 12 D cI cR A [.ref (ad 0), .int a1, .int a2] (xws cI cR ad O K) res (fun u : Int32 => some (.int u)) (fun _ : Int32 => (xws cI cR ad O K)) := by
  refine vx_ofW (cc := cX5_noLoan) (maxL := 3) (ret := (some .int)) (by decide) rfl ?_
  intro p e s m args below meth c s₁ B hml hno hv
  obtain ⟨rfl, hw, hO, hA⟩ := x_start hv
  have hx := B.exec
  have hb := B.bytes
  have hr := B.returns
  have hts := atoms_spec (ws := wsX5_noLoan) B.pre
  have hown : s.vm.findClass RX5 = some m.cls := findClass_of_methodNamed B.named
  have hlocks := B.notSynchronized
  have hiX0 : ∀ w ∈ wsX00, w ∈ wsX5_noLoan := by decide +kernel
  have hiX5 : ∀ w ∈ wsX50, w ∈ wsX5_noLoan := by decide +kernel
  have hl := lv_entry ([.ref (ad 0), .int a1, .int a2]) (n := 3) (Nat.le_of_ble_eq_true rfl)
  rw [lg_entry_eq]
  generalize (lg_sl ([.ref (ad 0), .int a1, .int a2]) ++ List.replicate (3 - (lg_sl ([.ref (ad 0), .int a1, .int a2])).length) Slot.unset).toArray = ls at hl ⊢
  have hl : lv_has ls 3 [(0, .ref (ad 0)), (1, .int a1), (2, .int a2)] := hl
  unfold f_X5_noLoan at hf
  obtain ⟨H, eH⟩ : ∃ H, H = s.heap := ⟨_, rfl⟩
  obtain ⟨locs, eL⟩ : ∃ L : List Loc, L = [] := ⟨_, rfl⟩
  rw [← eH, ← eL] at hw ⊢
  clear eH eL
  refine lv_aload_n hx hb dX5_noLoan_0 rfl (lv_at hl 0 rfl) ?_
  refine lv_iload_n hx hb dX5_noLoan_1 rfl (lv_at hl 1 rfl) ?_
  refine x_run (vx_runV (As := [.int a1]) (rest := []) ⟨hx, hb, hml, hown, hts⟩ (c_X5_needGuest htr) (cwV 1 hts gX5_noLoan_X5_needGuest rfl rfl rfl (by decide +kernel) ⟨Nat.le_of_ble_eq_true rfl, Nat.le_of_ble_eq_true rfl⟩) (x_preV hw hO hA xa_0 rfl) rfl rfl hl.1 rfl (lv_room (Nat.le_of_ble_eq_true rfl)) dX5_noLoan_2 ⟨Nat.le_of_ble_eq_true rfl, Nat.le_of_ble_eq_true rfl⟩) hw (fun k hk H locs q9 ce hw hq1 hq2 hq3 => ?_) (fun u9 hu H locs hw => ?_)
  · exact x_out (bxL hk hf) hno hlocks hw hq1 hq2 hq3 (Nat.le_of_ble_eq_true rfl) (Nat.le_of_ble_eq_true rfl)
  have hf := bxR hu hf
  refine W.eq (g2 := F0 m 5 ls []) rfl ?_
  refine lv_aload_n hx hb dX5_noLoan_5 rfl (lv_at hl 0 rfl) ?_
  refine lv_iload_n hx hb dX5_noLoan_6 rfl (lv_at hl 2 rfl) ?_
  refine x_run (vx_runV (As := [.int a2]) (rest := []) ⟨hx, hb, hml, hown, hts⟩ (c_X5_needGuest htr) (cwV 1 hts gX5_noLoan_X5_needGuest rfl rfl rfl (by decide +kernel) ⟨Nat.le_of_ble_eq_true rfl, Nat.le_of_ble_eq_true rfl⟩) (x_preV hw hO hA xa_0 rfl) rfl rfl hl.1 rfl (lv_room (Nat.le_of_ble_eq_true rfl)) dX5_noLoan_7 ⟨Nat.le_of_ble_eq_true rfl, Nat.le_of_ble_eq_true rfl⟩) hw (fun k hk H locs q9 ce hw hq1 hq2 hq3 => ?_) (fun u9 hu H locs hw => ?_)
  · exact x_out (bxL hk hf) hno hlocks hw hq1 hq2 hq3 (Nat.le_of_ble_eq_true rfl) (Nat.le_of_ble_eq_true rfl)
  have hf := bxR hu hf
  refine W.eq (g2 := F0 m 10 ls []) rfl ?_
  refine lv_aload_n hx hb dX5_noLoan_10 rfl (lv_at hl 0 rfl) ?_
  refine q_get hx hb hts hiX5 hown hw 0 xa_0 rfl 0 (by decide) (hts (.fieldLink RX5 10 "LaceRanks" "now" "LLaceRanks$Carnival;") (by decide +kernel)) rfl dX5_noLoan_11 ?_
  refine q_getN hx hb hts hiX0 hown hw 1 xa_1 rfl 0 (by decide) (nw_X5_45 hw.2.2.2.2) rfl dX5_noLoan_14 ?_
  refine lv_iload_n hx hb dX5_noLoan_17 rfl (lv_at hl 1 rfl) ?_
  refine lv_iload_n hx hb dX5_noLoan_18 rfl (lv_at hl 2 rfl) ?_
  obtain ⟨r3, hr3, hf⟩ := bndS hf
  refine q_callVN (rest := []) (st1 := [.int r3]) [.int a1, .int a2] ⟨hx, hb, hml, hown, hts⟩ (c_X1_reasonNoLoan hr3) ⟨va_cnB 2 hts gX5_noLoan_X1_reasonNoLoan_n82 rfl rfl rfl (nw_X5_82 hw.2.2.2.2) (hts (.initialized RX1) (by decide +kernel)) (by decide +kernel) ⟨Nat.le_of_ble_eq_true rfl, Nat.le_of_ble_eq_true rfl⟩, (hts (.instanceMethod yX1_reasonNoLoan) (by decide +kernel)), (hts (.selects RX1 yX1_reasonNoLoan yX1_reasonNoLoan) (by decide +kernel))⟩ hw xa_2 rfl rfl hl.1 rfl (Nat.le_of_ble_eq_true rfl) dX5_noLoan_19 ⟨Nat.le_of_ble_eq_true rfl, Nat.le_of_ble_eq_true rfl⟩ rfl (fun H locs hw => ?_)
  cases hf
  refine x_ret (Nat.le_of_ble_eq_true rfl) (Nat.le_of_ble_eq_true rfl) ?_
  exact x_iret (u := r3) rfl rfl hx hb hr hlocks hw dX5_noLoan_22

def f_X5_whyNot (K : RK)  (a1 : Int32) (a2 : Int32) : Option (Nat ⊕ Int32) := bx (f_needG K a1) (fun _ => (if a2 = 0 then bnd (f_X0_reasonNoLine K a1) (fun r2 => some (.inr r2)) else bnd (f_X0_reasonNoMask K a1) (fun r3 => some (.inr r3))))
set_option maxHeartbeats 4000000 in
set_option maxRecDepth 100000 in
theorem c_X5_whyNot {l : Launch} {D : va_G} {cI cR : ClassId} {ad : Nat → Nat} {A : Nat → Prop} {O : XO} {K : RK} {a1 : Int32} {a2 : Int32} {res : Nat ⊕ Int32} (htr : l.stackTraces = false) (hf : f_X5_whyNot K a1 a2 = some res) : MX l yX5_whyNot wsX5_whyNot 7 116 1 6 D cI cR A [.ref (ad 0), .int a1, .int a2] (xws cI cR ad O K) res (fun u : Int32 => some (.int u)) (fun _ : Int32 => (xws cI cR ad O K)) := by
  refine vx_ofW (cc := cX5_whyNot) (maxL := 3) (ret := (some .int)) (by decide) rfl ?_
  intro p e s m args below meth c s₁ B hml hno hv
  obtain ⟨rfl, hw, hO, hA⟩ := x_start hv
  have hx := B.exec
  have hb := B.bytes
  have hr := B.returns
  have hts := atoms_spec (ws := wsX5_whyNot) B.pre
  have hown : s.vm.findClass RX5 = some m.cls := findClass_of_methodNamed B.named
  have hlocks := B.notSynchronized
  have hiX5 : ∀ w ∈ wsX50, w ∈ wsX5_whyNot := by decide +kernel
  have hl := lv_entry ([.ref (ad 0), .int a1, .int a2]) (n := 3) (Nat.le_of_ble_eq_true rfl)
  rw [lg_entry_eq]
  generalize (lg_sl ([.ref (ad 0), .int a1, .int a2]) ++ List.replicate (3 - (lg_sl ([.ref (ad 0), .int a1, .int a2])).length) Slot.unset).toArray = ls at hl ⊢
  have hl : lv_has ls 3 [(0, .ref (ad 0)), (1, .int a1), (2, .int a2)] := hl
  unfold f_X5_whyNot at hf
  obtain ⟨H, eH⟩ : ∃ H, H = s.heap := ⟨_, rfl⟩
  obtain ⟨locs, eL⟩ : ∃ L : List Loc, L = [] := ⟨_, rfl⟩
  rw [← eH, ← eL] at hw ⊢
  clear eH eL
  refine lv_aload_n hx hb dX5_whyNot_0 rfl (lv_at hl 0 rfl) ?_
  refine lv_iload_n hx hb dX5_whyNot_1 rfl (lv_at hl 1 rfl) ?_
  refine x_run (vx_runV (As := [.int a1]) (rest := []) ⟨hx, hb, hml, hown, hts⟩ (c_X5_needGuest htr) (cwV 1 hts gX5_whyNot_X5_needGuest rfl rfl rfl (by decide +kernel) ⟨Nat.le_of_ble_eq_true rfl, Nat.le_of_ble_eq_true rfl⟩) (x_preV hw hO hA xa_0 rfl) rfl rfl hl.1 rfl (lv_room (Nat.le_of_ble_eq_true rfl)) dX5_whyNot_2 ⟨Nat.le_of_ble_eq_true rfl, Nat.le_of_ble_eq_true rfl⟩) hw (fun k hk H locs q9 ce hw hq1 hq2 hq3 => ?_) (fun u9 hu H locs hw => ?_)
  · exact x_out (bxL hk hf) hno hlocks hw hq1 hq2 hq3 (Nat.le_of_ble_eq_true rfl) (Nat.le_of_ble_eq_true rfl)
  have hf := bxR hu hf
  refine W.eq (g2 := F0 m 5 ls []) rfl ?_
  refine lv_iload_n hx hb dX5_whyNot_5 rfl (lv_at hl 2 rfl) ?_
  refine lv_if_eq (tgt := 20) hx hb dX5_whyNot_6 (by decide) (fun hc => ?_) (fun hc => ?_)
  · have hf := iteT hf hc
    refine lv_aload_n hx hb dX5_whyNot_20 rfl (lv_at hl 0 rfl) ?_
    refine q_get hx hb hts hiX5 hown hw 0 xa_0 rfl 0 (by decide) (hts (.fieldLink RX5 10 "LaceRanks" "now" "LLaceRanks$Carnival;") (by decide +kernel)) rfl dX5_whyNot_21 ?_
    refine lv_iload_n hx hb dX5_whyNot_24 rfl (lv_at hl 1 rfl) ?_
    obtain ⟨r2, hr2, hf⟩ := bndS hf
    refine q_callVN (rest := []) (st1 := [.int r2]) [.int a1] ⟨hx, hb, hml, hown, hts⟩ (c_X0_reasonNoLine hr2) ⟨va_cnB 1 hts gX5_whyNot_X0_reasonNoLine_n124 rfl rfl rfl (nw_X5_124 hw.2.2.2.2) (hts (.initialized RX0) (by decide +kernel)) (by decide +kernel) ⟨Nat.le_of_ble_eq_true rfl, Nat.le_of_ble_eq_true rfl⟩, (hts (.instanceMethod yX0_reasonNoLine) (by decide +kernel)), (hts (.selects RX0 yX0_reasonNoLine yX0_reasonNoLine) (by decide +kernel))⟩ hw xa_1 rfl rfl hl.1 rfl (Nat.le_of_ble_eq_true rfl) dX5_whyNot_25 ⟨Nat.le_of_ble_eq_true rfl, Nat.le_of_ble_eq_true rfl⟩ rfl (fun H locs hw => ?_)
    cases hf
    refine x_ret (Nat.le_of_ble_eq_true rfl) (Nat.le_of_ble_eq_true rfl) ?_
    exact x_iret (u := r2) rfl rfl hx hb hr hlocks hw dX5_whyNot_28
  · have hf := iteF hf hc
    refine lv_aload_n hx hb dX5_whyNot_9 rfl (lv_at hl 0 rfl) ?_
    refine q_get hx hb hts hiX5 hown hw 0 xa_0 rfl 0 (by decide) (hts (.fieldLink RX5 10 "LaceRanks" "now" "LLaceRanks$Carnival;") (by decide +kernel)) rfl dX5_whyNot_10 ?_
    refine lv_iload_n hx hb dX5_whyNot_13 rfl (lv_at hl 1 rfl) ?_
    obtain ⟨r3, hr3, hf⟩ := bndS hf
    refine q_callVN (rest := []) (st1 := [.int r3]) [.int a1] ⟨hx, hb, hml, hown, hts⟩ (c_X0_reasonNoMask hr3) ⟨va_cnB 1 hts gX5_whyNot_X0_reasonNoMask_n103 rfl rfl rfl (nw_X5_103 hw.2.2.2.2) (hts (.initialized RX0) (by decide +kernel)) (by decide +kernel) ⟨Nat.le_of_ble_eq_true rfl, Nat.le_of_ble_eq_true rfl⟩, (hts (.instanceMethod yX0_reasonNoMask) (by decide +kernel)), (hts (.selects RX0 yX0_reasonNoMask yX0_reasonNoMask) (by decide +kernel))⟩ hw xa_1 rfl rfl hl.1 rfl (Nat.le_of_ble_eq_true rfl) dX5_whyNot_14 ⟨Nat.le_of_ble_eq_true rfl, Nat.le_of_ble_eq_true rfl⟩ rfl (fun H locs hw => ?_)
    refine lv_goto (tgt := 28) hx hb dX5_whyNot_17 (by decide) ?_
    cases hf
    refine x_ret (Nat.le_of_ble_eq_true rfl) (Nat.le_of_ble_eq_true rfl) ?_
    exact x_iret (u := r3) rfl rfl hx hb hr hlocks hw dX5_whyNot_28

def f_X5_ifOpened (K : RK)  (a1 : Int32) (a2 : Int32) (a3 : Int32) : Option (Nat ⊕ Int32) := bx (f_needG K a1) (fun _ => bnd (f_X5_isGate a2) (fun r2 => bx (f_need 1 r2) (fun _ => bnd (f_X5_isWithin a3 0 3) (fun r4 => bx (f_need 2 r4) (fun _ => bnd (f_X0_gateNumber K a1 a2 a3) (fun r6 => some (.inr r6)))))))
set_option maxHeartbeats 4000000 in
set_option maxRecDepth 100000 in
theorem c_X5_ifOpened {l : Launch} {D : va_G} {cI cR : ClassId} {ad : Nat → Nat} {A : Nat → Prop} {O : XO} {K : RK} {a1 : Int32} {a2 : Int32} {a3 : Int32} {res : Nat ⊕ Int32} (htr : l.stackTraces = false) (hf : f_X5_ifOpened K a1 a2 a3 = some res) : MX l yX5_ifOpened wsX5_ifOpened 7 116 3 18 D cI cR A [.ref (ad 0), .int a1, .int a2, .int a3] (xws cI cR ad O K) res (fun u : Int32 => some (.int u)) (fun _ : Int32 => (xws cI cR ad O K)) := by
  refine vx_ofW (cc := cX5_ifOpened) (maxL := 4) (ret := (some .int)) (by decide) rfl ?_
  intro p e s m args below meth c s₁ B hml hno hv
  obtain ⟨rfl, hw, hO, hA⟩ := x_start hv
  have hx := B.exec
  have hb := B.bytes
  have hr := B.returns
  have hts := atoms_spec (ws := wsX5_ifOpened) B.pre
  have hown : s.vm.findClass RX5 = some m.cls := findClass_of_methodNamed B.named
  have hlocks := B.notSynchronized
  have hiX5 : ∀ w ∈ wsX50, w ∈ wsX5_ifOpened := by decide +kernel
  have hl := lv_entry ([.ref (ad 0), .int a1, .int a2, .int a3]) (n := 4) (Nat.le_of_ble_eq_true rfl)
  rw [lg_entry_eq]
  generalize (lg_sl ([.ref (ad 0), .int a1, .int a2, .int a3]) ++ List.replicate (4 - (lg_sl ([.ref (ad 0), .int a1, .int a2, .int a3])).length) Slot.unset).toArray = ls at hl ⊢
  have hl : lv_has ls 4 [(0, .ref (ad 0)), (1, .int a1), (2, .int a2), (3, .int a3)] := hl
  unfold f_X5_ifOpened at hf
  obtain ⟨H, eH⟩ : ∃ H, H = s.heap := ⟨_, rfl⟩
  obtain ⟨locs, eL⟩ : ∃ L : List Loc, L = [] := ⟨_, rfl⟩
  rw [← eH, ← eL] at hw ⊢
  clear eH eL
  refine lv_aload_n hx hb dX5_ifOpened_0 rfl (lv_at hl 0 rfl) ?_
  refine lv_iload_n hx hb dX5_ifOpened_1 rfl (lv_at hl 1 rfl) ?_
  refine x_run (vx_runV (As := [.int a1]) (rest := []) ⟨hx, hb, hml, hown, hts⟩ (c_X5_needGuest htr) (cwV 1 hts gX5_ifOpened_X5_needGuest rfl rfl rfl (by decide +kernel) ⟨Nat.le_of_ble_eq_true rfl, Nat.le_of_ble_eq_true rfl⟩) (x_preV hw hO hA xa_0 rfl) rfl rfl hl.1 rfl (lv_room (Nat.le_of_ble_eq_true rfl)) dX5_ifOpened_2 ⟨Nat.le_of_ble_eq_true rfl, Nat.le_of_ble_eq_true rfl⟩) hw (fun k hk H locs q9 ce hw hq1 hq2 hq3 => ?_) (fun u9 hu H locs hw => ?_)
  · exact x_out (bxL hk hf) hno hlocks hw hq1 hq2 hq3 (Nat.le_of_ble_eq_true rfl) (Nat.le_of_ble_eq_true rfl)
  have hf := bxR hu hf
  refine W.eq (g2 := F0 m 5 ls []) rfl ?_
  refine lv_iload_n hx hb dX5_ifOpened_5 rfl (lv_at hl 2 rfl) ?_
  obtain ⟨r2, hr2, hf⟩ := bndS hf
  refine q_callS (rest := []) (st1 := [.int r2]) [.int a2] ⟨hx, hb, hml, hown, hts⟩ (c_X5_isGate hr2) (va_cwS 1 hts gX5_ifOpened_X5_isGate rfl rfl rfl (by decide +kernel) ⟨Nat.le_of_ble_eq_true rfl, Nat.le_of_ble_eq_true rfl⟩) hw rfl hl.1 rfl (Nat.le_of_ble_eq_true rfl) dX5_ifOpened_6 ⟨Nat.le_of_ble_eq_true rfl, Nat.le_of_ble_eq_true rfl⟩ rfl (fun H locs hw => ?_)
  refine x_run (vx_runS (As := [.int r2]) (rest := []) ⟨hx, hb, hml, hown, hts⟩ (c_X5_needIndex htr) (va_cwS 1 hts gX5_ifOpened_X5_needIndex rfl rfl rfl (by decide +kernel) ⟨Nat.le_of_ble_eq_true rfl, Nat.le_of_ble_eq_true rfl⟩) (x_preS hw hO hA) rfl rfl hl.1 rfl (lv_room (Nat.le_of_ble_eq_true rfl)) dX5_ifOpened_9 ⟨Nat.le_of_ble_eq_true rfl, Nat.le_of_ble_eq_true rfl⟩) hw (fun k hk H locs q9 ce hw hq1 hq2 hq3 => ?_) (fun u9 hu H locs hw => ?_)
  · exact x_out (bxL hk hf) hno hlocks hw hq1 hq2 hq3 (Nat.le_of_ble_eq_true rfl) (Nat.le_of_ble_eq_true rfl)
  have hf := bxR hu hf
  refine W.eq (g2 := F0 m 12 ls []) rfl ?_
  refine lv_iload_n hx hb dX5_ifOpened_12 rfl (lv_at hl 3 rfl) ?_
  refine lv_iconst (v := 0) hx hb dX5_ifOpened_13 (by decide) ?_
  refine lv_iconst (v := 3) hx hb dX5_ifOpened_14 (by decide) ?_
  obtain ⟨r4, hr4, hf⟩ := bndS hf
  refine q_callS (rest := []) (st1 := [.int r4]) [.int a3, .int 0, .int 3] ⟨hx, hb, hml, hown, hts⟩ (c_X5_isWithin hr4) (va_cwS 3 hts gX5_ifOpened_X5_isWithin rfl rfl rfl (by decide +kernel) ⟨Nat.le_of_ble_eq_true rfl, Nat.le_of_ble_eq_true rfl⟩) hw rfl hl.1 rfl (Nat.le_of_ble_eq_true rfl) dX5_ifOpened_15 ⟨Nat.le_of_ble_eq_true rfl, Nat.le_of_ble_eq_true rfl⟩ rfl (fun H locs hw => ?_)
  refine x_run (vx_runS (As := [.int r4]) (rest := []) ⟨hx, hb, hml, hown, hts⟩ (c_X5_needArgument htr) (va_cwS 1 hts gX5_ifOpened_X5_needArgument rfl rfl rfl (by decide +kernel) ⟨Nat.le_of_ble_eq_true rfl, Nat.le_of_ble_eq_true rfl⟩) (x_preS hw hO hA) rfl rfl hl.1 rfl (lv_room (Nat.le_of_ble_eq_true rfl)) dX5_ifOpened_18 ⟨Nat.le_of_ble_eq_true rfl, Nat.le_of_ble_eq_true rfl⟩) hw (fun k hk H locs q9 ce hw hq1 hq2 hq3 => ?_) (fun u9 hu H locs hw => ?_)
  · exact x_out (bxL hk hf) hno hlocks hw hq1 hq2 hq3 (Nat.le_of_ble_eq_true rfl) (Nat.le_of_ble_eq_true rfl)
  have hf := bxR hu hf
  refine W.eq (g2 := F0 m 21 ls []) rfl ?_
  refine lv_aload_n hx hb dX5_ifOpened_21 rfl (lv_at hl 0 rfl) ?_
  refine q_get hx hb hts hiX5 hown hw 0 xa_0 rfl 0 (by decide) (hts (.fieldLink RX5 10 "LaceRanks" "now" "LLaceRanks$Carnival;") (by decide +kernel)) rfl dX5_ifOpened_22 ?_
  refine lv_iload_n hx hb dX5_ifOpened_25 rfl (lv_at hl 1 rfl) ?_
  refine lv_iload_n hx hb dX5_ifOpened_26 rfl (lv_at hl 2 rfl) ?_
  refine lv_iload_n hx hb dX5_ifOpened_27 rfl (lv_at hl 3 rfl) ?_
  obtain ⟨r6, hr6, hf⟩ := bndS hf
  refine q_callVN (rest := []) (st1 := [.int r6]) [.int a1, .int a2, .int a3] ⟨hx, hb, hml, hown, hts⟩ (c_X0_gateNumber hr6) ⟨va_cnB 3 hts gX5_ifOpened_X0_gateNumber_n203 rfl rfl rfl (nw_X5_203 hw.2.2.2.2) (hts (.initialized RX0) (by decide +kernel)) (by decide +kernel) ⟨Nat.le_of_ble_eq_true rfl, Nat.le_of_ble_eq_true rfl⟩, (hts (.instanceMethod yX0_gateNumber) (by decide +kernel)), (hts (.selects RX0 yX0_gateNumber yX0_gateNumber) (by decide +kernel))⟩ hw xa_1 rfl rfl hl.1 rfl (Nat.le_of_ble_eq_true rfl) dX5_ifOpened_28 ⟨Nat.le_of_ble_eq_true rfl, Nat.le_of_ble_eq_true rfl⟩ rfl (fun H locs hw => ?_)
  cases hf
  refine x_ret (Nat.le_of_ble_eq_true rfl) (Nat.le_of_ble_eq_true rfl) ?_
  exact x_iret (u := r6) rfl rfl hx hb hr hlocks hw dX5_ifOpened_31

def f_X5_bestGate (K : RK)  (a1 : Int32) : Option (Nat ⊕ Int32) := bx (f_needG K a1) (fun _ => bnd (f_X0_gateOfFewestElls K a1) (fun r2 => some (.inr r2)))
set_option maxHeartbeats 4000000 in
set_option maxRecDepth 100000 in
theorem c_X5_bestGate {l : Launch} {D : va_G} {cI cR : ClassId} {ad : Nat → Nat} {A : Nat → Prop} {O : XO} {K : RK} {a1 : Int32} {res : Nat ⊕ Int32} (htr : l.stackTraces = false) (hf : f_X5_bestGate K a1 = some res) : MX l yX5_bestGate wsX5_bestGate 7 116 1 6 D cI cR A [.ref (ad 0), .int a1] (xws cI cR ad O K) res (fun u : Int32 => some (.int u)) (fun _ : Int32 => (xws cI cR ad O K)) := by
  refine vx_ofW (cc := cX5_bestGate) (maxL := 2) (ret := (some .int)) (by decide) rfl ?_
  intro p e s m args below meth c s₁ B hml hno hv
  obtain ⟨rfl, hw, hO, hA⟩ := x_start hv
  have hx := B.exec
  have hb := B.bytes
  have hr := B.returns
  have hts := atoms_spec (ws := wsX5_bestGate) B.pre
  have hown : s.vm.findClass RX5 = some m.cls := findClass_of_methodNamed B.named
  have hlocks := B.notSynchronized
  have hiX5 : ∀ w ∈ wsX50, w ∈ wsX5_bestGate := by decide +kernel
  have hl := lv_entry ([.ref (ad 0), .int a1]) (n := 2) (Nat.le_of_ble_eq_true rfl)
  rw [lg_entry_eq]
  generalize (lg_sl ([.ref (ad 0), .int a1]) ++ List.replicate (2 - (lg_sl ([.ref (ad 0), .int a1])).length) Slot.unset).toArray = ls at hl ⊢
  have hl : lv_has ls 2 [(0, .ref (ad 0)), (1, .int a1)] := hl
  unfold f_X5_bestGate at hf
  obtain ⟨H, eH⟩ : ∃ H, H = s.heap := ⟨_, rfl⟩
  obtain ⟨locs, eL⟩ : ∃ L : List Loc, L = [] := ⟨_, rfl⟩
  rw [← eH, ← eL] at hw ⊢
  clear eH eL
  refine lv_aload_n hx hb dX5_bestGate_0 rfl (lv_at hl 0 rfl) ?_
  refine lv_iload_n hx hb dX5_bestGate_1 rfl (lv_at hl 1 rfl) ?_
  refine x_run (vx_runV (As := [.int a1]) (rest := []) ⟨hx, hb, hml, hown, hts⟩ (c_X5_needGuest htr) (cwV 1 hts gX5_bestGate_X5_needGuest rfl rfl rfl (by decide +kernel) ⟨Nat.le_of_ble_eq_true rfl, Nat.le_of_ble_eq_true rfl⟩) (x_preV hw hO hA xa_0 rfl) rfl rfl hl.1 rfl (lv_room (Nat.le_of_ble_eq_true rfl)) dX5_bestGate_2 ⟨Nat.le_of_ble_eq_true rfl, Nat.le_of_ble_eq_true rfl⟩) hw (fun k hk H locs q9 ce hw hq1 hq2 hq3 => ?_) (fun u9 hu H locs hw => ?_)
  · exact x_out (bxL hk hf) hno hlocks hw hq1 hq2 hq3 (Nat.le_of_ble_eq_true rfl) (Nat.le_of_ble_eq_true rfl)
  have hf := bxR hu hf
  refine W.eq (g2 := F0 m 5 ls []) rfl ?_
  refine lv_aload_n hx hb dX5_bestGate_5 rfl (lv_at hl 0 rfl) ?_
  refine q_get hx hb hts hiX5 hown hw 0 xa_0 rfl 0 (by decide) (hts (.fieldLink RX5 10 "LaceRanks" "now" "LLaceRanks$Carnival;") (by decide +kernel)) rfl dX5_bestGate_6 ?_
  refine lv_iload_n hx hb dX5_bestGate_9 rfl (lv_at hl 1 rfl) ?_
  obtain ⟨r2, hr2, hf⟩ := bndS hf
  refine q_callVN (rest := []) (st1 := [.int r2]) [.int a1] ⟨hx, hb, hml, hown, hts⟩ (c_X0_gateOfFewestElls hr2) ⟨va_cnB 1 hts gX5_bestGate_X0_gateOfFewestElls_n206 rfl rfl rfl (nw_X5_206 hw.2.2.2.2) (hts (.initialized RX0) (by decide +kernel)) (by decide +kernel) ⟨Nat.le_of_ble_eq_true rfl, Nat.le_of_ble_eq_true rfl⟩, (hts (.instanceMethod yX0_gateOfFewestElls) (by decide +kernel)), (hts (.selects RX0 yX0_gateOfFewestElls yX0_gateOfFewestElls) (by decide +kernel))⟩ hw xa_1 rfl rfl hl.1 rfl (Nat.le_of_ble_eq_true rfl) dX5_bestGate_10 ⟨Nat.le_of_ble_eq_true rfl, Nat.le_of_ble_eq_true rfl⟩ rfl (fun H locs hw => ?_)
  cases hf
  refine x_ret (Nat.le_of_ble_eq_true rfl) (Nat.le_of_ble_eq_true rfl) ?_
  exact x_iret (u := r2) rfl rfl hx hb hr hlocks hw dX5_bestGate_13

def f_X5_freeIn (K : RK)  (a1 : Int32) (a2 : Int32) : Option (Nat ⊕ Int32) := bx (f_needG K a1) (fun _ => bnd (f_X5_isGate a2) (fun r2 => bx (f_need 1 r2) (fun _ => bnd (f_X0_nightsUntilAllowed K a1 a2) (fun r4 => some (.inr r4)))))
set_option maxHeartbeats 4000000 in
set_option maxRecDepth 100000 in
theorem c_X5_freeIn {l : Launch} {D : va_G} {cI cR : ClassId} {ad : Nat → Nat} {A : Nat → Prop} {O : XO} {K : RK} {a1 : Int32} {a2 : Int32} {res : Nat ⊕ Int32} (htr : l.stackTraces = false) (hf : f_X5_freeIn K a1 a2 = some res) : MX l yX5_freeIn wsX5_freeIn 7 116 2 12 D cI cR A [.ref (ad 0), .int a1, .int a2] (xws cI cR ad O K) res (fun u : Int32 => some (.int u)) (fun _ : Int32 => (xws cI cR ad O K)) := by
  refine vx_ofW (cc := cX5_freeIn) (maxL := 3) (ret := (some .int)) (by decide) rfl ?_
  intro p e s m args below meth c s₁ B hml hno hv
  obtain ⟨rfl, hw, hO, hA⟩ := x_start hv
  have hx := B.exec
  have hb := B.bytes
  have hr := B.returns
  have hts := atoms_spec (ws := wsX5_freeIn) B.pre
  have hown : s.vm.findClass RX5 = some m.cls := findClass_of_methodNamed B.named
  have hlocks := B.notSynchronized
  have hiX5 : ∀ w ∈ wsX50, w ∈ wsX5_freeIn := by decide +kernel
  have hl := lv_entry ([.ref (ad 0), .int a1, .int a2]) (n := 3) (Nat.le_of_ble_eq_true rfl)
  rw [lg_entry_eq]
  generalize (lg_sl ([.ref (ad 0), .int a1, .int a2]) ++ List.replicate (3 - (lg_sl ([.ref (ad 0), .int a1, .int a2])).length) Slot.unset).toArray = ls at hl ⊢
  have hl : lv_has ls 3 [(0, .ref (ad 0)), (1, .int a1), (2, .int a2)] := hl
  unfold f_X5_freeIn at hf
  obtain ⟨H, eH⟩ : ∃ H, H = s.heap := ⟨_, rfl⟩
  obtain ⟨locs, eL⟩ : ∃ L : List Loc, L = [] := ⟨_, rfl⟩
  rw [← eH, ← eL] at hw ⊢
  clear eH eL
  refine lv_aload_n hx hb dX5_freeIn_0 rfl (lv_at hl 0 rfl) ?_
  refine lv_iload_n hx hb dX5_freeIn_1 rfl (lv_at hl 1 rfl) ?_
  refine x_run (vx_runV (As := [.int a1]) (rest := []) ⟨hx, hb, hml, hown, hts⟩ (c_X5_needGuest htr) (cwV 1 hts gX5_freeIn_X5_needGuest rfl rfl rfl (by decide +kernel) ⟨Nat.le_of_ble_eq_true rfl, Nat.le_of_ble_eq_true rfl⟩) (x_preV hw hO hA xa_0 rfl) rfl rfl hl.1 rfl (lv_room (Nat.le_of_ble_eq_true rfl)) dX5_freeIn_2 ⟨Nat.le_of_ble_eq_true rfl, Nat.le_of_ble_eq_true rfl⟩) hw (fun k hk H locs q9 ce hw hq1 hq2 hq3 => ?_) (fun u9 hu H locs hw => ?_)
  · exact x_out (bxL hk hf) hno hlocks hw hq1 hq2 hq3 (Nat.le_of_ble_eq_true rfl) (Nat.le_of_ble_eq_true rfl)
  have hf := bxR hu hf
  refine W.eq (g2 := F0 m 5 ls []) rfl ?_
  refine lv_iload_n hx hb dX5_freeIn_5 rfl (lv_at hl 2 rfl) ?_
  obtain ⟨r2, hr2, hf⟩ := bndS hf
  refine q_callS (rest := []) (st1 := [.int r2]) [.int a2] ⟨hx, hb, hml, hown, hts⟩ (c_X5_isGate hr2) (va_cwS 1 hts gX5_freeIn_X5_isGate rfl rfl rfl (by decide +kernel) ⟨Nat.le_of_ble_eq_true rfl, Nat.le_of_ble_eq_true rfl⟩) hw rfl hl.1 rfl (Nat.le_of_ble_eq_true rfl) dX5_freeIn_6 ⟨Nat.le_of_ble_eq_true rfl, Nat.le_of_ble_eq_true rfl⟩ rfl (fun H locs hw => ?_)
  refine x_run (vx_runS (As := [.int r2]) (rest := []) ⟨hx, hb, hml, hown, hts⟩ (c_X5_needIndex htr) (va_cwS 1 hts gX5_freeIn_X5_needIndex rfl rfl rfl (by decide +kernel) ⟨Nat.le_of_ble_eq_true rfl, Nat.le_of_ble_eq_true rfl⟩) (x_preS hw hO hA) rfl rfl hl.1 rfl (lv_room (Nat.le_of_ble_eq_true rfl)) dX5_freeIn_9 ⟨Nat.le_of_ble_eq_true rfl, Nat.le_of_ble_eq_true rfl⟩) hw (fun k hk H locs q9 ce hw hq1 hq2 hq3 => ?_) (fun u9 hu H locs hw => ?_)
  · exact x_out (bxL hk hf) hno hlocks hw hq1 hq2 hq3 (Nat.le_of_ble_eq_true rfl) (Nat.le_of_ble_eq_true rfl)
  have hf := bxR hu hf
  refine W.eq (g2 := F0 m 12 ls []) rfl ?_
  refine lv_aload_n hx hb dX5_freeIn_12 rfl (lv_at hl 0 rfl) ?_
  refine q_get hx hb hts hiX5 hown hw 0 xa_0 rfl 0 (by decide) (hts (.fieldLink RX5 10 "LaceRanks" "now" "LLaceRanks$Carnival;") (by decide +kernel)) rfl dX5_freeIn_13 ?_
  refine lv_iload_n hx hb dX5_freeIn_16 rfl (lv_at hl 1 rfl) ?_
  refine lv_iload_n hx hb dX5_freeIn_17 rfl (lv_at hl 2 rfl) ?_
  obtain ⟨r4, hr4, hf⟩ := bndS hf
  refine q_callVN (rest := []) (st1 := [.int r4]) [.int a1, .int a2] ⟨hx, hb, hml, hown, hts⟩ (c_X0_nightsUntilAllowed hr4) ⟨va_cnB 2 hts gX5_freeIn_X0_nightsUntilAllowed_n209 rfl rfl rfl (nw_X5_209 hw.2.2.2.2) (hts (.initialized RX0) (by decide +kernel)) (by decide +kernel) ⟨Nat.le_of_ble_eq_true rfl, Nat.le_of_ble_eq_true rfl⟩, (hts (.instanceMethod yX0_nightsUntilAllowed) (by decide +kernel)), (hts (.selects RX0 yX0_nightsUntilAllowed yX0_nightsUntilAllowed) (by decide +kernel))⟩ hw xa_1 rfl rfl hl.1 rfl (Nat.le_of_ble_eq_true rfl) dX5_freeIn_18 ⟨Nat.le_of_ble_eq_true rfl, Nat.le_of_ble_eq_true rfl⟩ rfl (fun H locs hw => ?_)
  cases hf
  refine x_ret (Nat.le_of_ble_eq_true rfl) (Nat.le_of_ble_eq_true rfl) ?_
  exact x_iret (u := r4) rfl rfl hx hb hr hlocks hw dX5_freeIn_21
