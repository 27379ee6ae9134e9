theorem kE_up2 (F : Rows) (k : Nat) (v : Int32) : (.inr (1, [.int (nI k), .int (F 0 k), .int (F 1 k), .int v, .int (F 3 k), .int (F 4 k), .int (F 5 k), .int (F 6 k), .int (F 7 k)]) : va_E) = kE (up F 2 k v) k := by unfold kE; rw [up_ss]; rfl
theorem kE_up3 (F : Rows) (k : Nat) (v : Int32) : (.inr (1, [.int (nI k), .int (F 0 k), .int (F 1 k), .int (F 2 k), .int v, .int (F 4 k), .int (F 5 k), .int (F 6 k), .int (F 7 k)]) : va_E) = kE (up F 3 k v) k := by unfold kE; rw [up_ss]; rfl
theorem kE_up4 (F : Rows) (k : Nat) (v : Int32) : (.inr (1, [.int (nI k), .int (F 0 k), .int (F 1 k), .int (F 2 k), .int (F 3 k), .int v, .int (F 5 k), .int (F 6 k), .int (F 7 k)]) : va_E) = kE (up F 4 k v) k := by unfold kE; rw [up_ss]; rfl
theorem kE_up5 (F : Rows) (k : Nat) (v : Int32) : (.inr (1, [.int (nI k), .int (F 0 k), .int (F 1 k), .int (F 2 k), .int (F 3 k), .int (F 4 k), .int v, .int (F 6 k), .int (F 7 k)]) : va_E) = kE (up F 5 k v) k := by unfold kE; rw [up_ss]; rfl
theorem kE_up6 (F : Rows) (k : Nat) (v : Int32) : (.inr (1, [.int (nI k), .int (F 0 k), .int (F 1 k), .int (F 2 k), .int (F 3 k), .int (F 4 k), .int (F 5 k), .int v, .int (F 7 k)]) : va_E) = kE (up F 6 k v) k := by unfold kE; rw [up_ss]; rfl
theorem kE_up7 (F : Rows) (k : Nat) (v : Int32) : (.inr (1, [.int (nI k), .int (F 0 k), .int (F 1 k), .int (F 2 k), .int (F 3 k), .int (F 4 k), .int (F 5 k), .int (F 6 k), .int v]) : va_E) = kE (up F 7 k v) k := by unfold kE; rw [up_ss]; rfl
def la (kd ar st : Int32) : Int32 := if kd = 0 then 5 * ar * (2 * st - 1) else if kd = 1 then 60 * ar else if st ≤ 10 then 80 * ar else 0
theorem lift_2 (ar sp : Int32) : lift 2 ar sp = 80 * ar * (if sp ≤ 10 then sp else 10) := rfl
theorem la_2 (ar st : Int32) : la 2 ar st = if st ≤ 10 then 80 * ar else 0 := rfl
theorem la_lift {kd : Int32} (hk : kd = 0 ∨ kd = 1 ∨ kd = 2) (ar : Int32) {i : Nat} (hi : i < 1000) : lift kd ar (nI i) + la kd ar (nI (i + 1)) = lift kd ar (nI (i + 1)) := by
  rw [← nI_1 i]
  rcases hk with hk | hk | hk
  · subst hk
    rw [lift, lift, la, if_pos rfl, if_pos rfl, if_pos rfl]
    generalize nI i = x
    grind
  · subst hk
    rw [lift, lift, la, if_neg (by decide), if_pos rfl, if_neg (by decide), if_pos rfl, if_neg (by decide), if_pos rfl]
    generalize nI i = x
    grind
  · subst hk
    rw [lift_2, lift_2, la_2, nI_1 i]
    have h1 : nI i ≤ 10 ↔ i ≤ 10 := nI_leI (a := i) (b := 10) (by omega) (by omega)
    have h2 : nI (i + 1) ≤ 10 ↔ i + 1 ≤ 10 := nI_leI (a := i + 1) (b := 10) (by omega) (by omega)
    by_cases q : i + 1 ≤ 10
    · rw [if_pos (h1.mpr (by omega)), if_pos (h2.mpr q), if_pos (h2.mpr q), ← nI_1 i]
      generalize nI i = x
      grind
    · by_cases q2 : i = 10
      · subst q2
        rw [if_pos (h1.mpr (by omega)), if_neg (fun z => q (h2.mp z)), if_neg (fun z => q (h2.mp z))]
        show 80 * ar * 10 + 0 = 80 * ar * 10
        grind
      · rw [if_neg (fun z => absurd (h1.mp z) (by omega)), if_neg (fun z => q (h2.mp z)), if_neg (fun z => q (h2.mp z))]
        grind
theorem la_pl {F : Rows} {k : Nat} (hk : F 0 k = 0 ∨ F 0 k = 1 ∨ F 0 k = 2) {i : Nat} (hi : i < 1000) : pl F k (nI i) + la (F 0 k) (F 1 k) (nI (i + 1)) = pl F k (nI (i + 1)) := by
  rw [pl, pl, ← la_lift hk (F 1 k) hi]
  generalize lift (F 0 k) (F 1 k) (nI i) = x
  generalize la (F 0 k) (F 1 k) (nI (i + 1)) = y
  grind
theorem pl_0 {F : Rows} {k : Nat} (hk : F 0 k = 0 ∨ F 0 k = 1 ∨ F 0 k = 2) : (-100) * F 2 k = pl F k (nI 0) := by
  rw [pl, nI_0, lift]
  rcases hk with hk | hk | hk
  · rw [hk, if_pos rfl]; grind
  · rw [hk, if_neg (by decide), if_pos rfl]; grind
  · rw [hk, if_neg (by decide), if_neg (by decide), if_pos (by decide)]; grind

set_option maxHeartbeats 4000000 in
set_option maxRecDepth 100000 in
theorem c_X1_liftAddedBy (l : Launch) (dC : Nat → ClassId) (dI : Nat → Nat → Nat) (q k : Nat) (F : Rows) (st : Int32) (hk : F 0 k = 0 ∨ F 0 k = 1 ∨ F 0 k = 2) : Met l yX1_liftAddedBy wsX1_liftAddedBy ({ frames := 0, cells := 0, slots := 0, locals := 0 }) (va_Pc [.ref q, .int st] (PRo dC dI [] [(q, kE F k)])) (vp_Si (fun r9 => r9 = la (F 0 k) (F 1 k) st)) 0 0 (fun _ => False) := by
  refine Met.ofW (cc := cX1_liftAddedBy) (maxL := 2) (ret := (some .int)) (by decide) rfl ?_
  intro p e s m args below meth c s₁ B hml hv
  obtain ⟨rfl, hP, hK, hE⟩ := hv
  have hx := B.exec
  have hb := B.bytes
  have hr := B.returns
  have hts := atoms_spec (ws := wsX1_liftAddedBy) B.pre
  have hown : s.vm.findClass RX1 = some m.cls := findClass_of_methodNamed B.named
  have hlocks := B.notSynchronized
  have hP : va_P (dC, dI) vwCl [(q, kE F k)] s.heap := hP
  have hi1 : ∀ w ∈ u_ws RX1 TX1 9, w ∈ wsX1_liftAddedBy := by decide +kernel
  have lk15 := hts (.fieldLink RX1 15 "Windlane$Kite" "kind" "I") (by decide +kernel)
  have lk18 := hts (.fieldLink RX1 18 "Windlane$Kite" "area" "I") (by decide +kernel)
  have hl := lv_entry ([.ref q, .int st]) (n := 2) (Nat.le_of_ble_eq_true rfl)
  rw [lg_entry_eq]
  generalize (lg_sl ([.ref q, .int st]) ++ List.replicate (2 - (lg_sl ([.ref q, .int st])).length) Slot.unset).toArray = ls at hl ⊢
  have hl : lv_has ls 2 [(0, .ref q), (1, .int st)] := hl
  rcases hk with hk | hk | hk
  · skip
    refine lv_aload_n hx hb dX1_liftAddedBy_0 rfl (lv_at hl 0 rfl) ?_
    refine va_get (D := (dC, dI)) (ci := 1) (v := .int (F 0 k)) (C := RX1) (T := TX1) (N := 9) hx hb hts hi1 hown hK hP 0 rfl rfl 1 (by decide) lk15 (fun _ h9 => h9) rfl dX1_liftAddedBy_1 ?_
    refine W_top (y := .int 0) (congrArg Value.int hk) ?_
    refine lv_lookup (off := 28) (tgt := 32) hx hb dX1_liftAddedBy_4 (by decide) (by decide +kernel) (by decide) ?_
    refine lv_iconst (v := 5) hx hb dX1_liftAddedBy_32 (by decide) ?_
    refine lv_aload_n hx hb dX1_liftAddedBy_33 rfl (lv_at hl 0 rfl) ?_
    refine va_get (D := (dC, dI)) (ci := 1) (v := .int (F 1 k)) (C := RX1) (T := TX1) (N := 9) hx hb hts hi1 hown hK hP 0 rfl rfl 2 (by decide) lk18 (fun _ h9 => h9) rfl dX1_liftAddedBy_34 ?_
    refine lv_imul hx hb dX1_liftAddedBy_37 ?_
    refine lv_iconst (v := 2) hx hb dX1_liftAddedBy_38 (by decide) ?_
    refine lv_iload_n hx hb dX1_liftAddedBy_39 rfl (lv_at hl 1 rfl) ?_
    refine lv_imul hx hb dX1_liftAddedBy_40 ?_
    refine lv_iconst (v := 1) hx hb dX1_liftAddedBy_41 (by decide) ?_
    refine lv_isub hx hb dX1_liftAddedBy_42 ?_
    refine lv_imul hx hb dX1_liftAddedBy_43 ?_
    exact W.iret (v := (5 * (F 1 k)) * ((2 * st) - 1)) hx hb hr (fun t ht _ => ⟨_, rfl, by rw [la, hk]; rfl, ht⟩) (fun q hq => absurd hq List.not_mem_nil) dX1_liftAddedBy_44
  · skip
    refine lv_aload_n hx hb dX1_liftAddedBy_0 rfl (lv_at hl 0 rfl) ?_
    refine va_get (D := (dC, dI)) (ci := 1) (v := .int (F 0 k)) (C := RX1) (T := TX1) (N := 9) hx hb hts hi1 hown hK hP 0 rfl rfl 1 (by decide) lk15 (fun _ h9 => h9) rfl dX1_liftAddedBy_1 ?_
    refine W_top (y := .int 1) (congrArg Value.int hk) ?_
    refine lv_lookup (off := 41) (tgt := 45) hx hb dX1_liftAddedBy_4 (by decide) (by decide +kernel) (by decide) ?_
    refine lv_bipush (v := 60) hx hb dX1_liftAddedBy_45 (by decide) ?_
    refine lv_aload_n hx hb dX1_liftAddedBy_47 rfl (lv_at hl 0 rfl) ?_
    refine va_get (D := (dC, dI)) (ci := 1) (v := .int (F 1 k)) (C := RX1) (T := TX1) (N := 9) hx hb hts hi1 hown hK hP 0 rfl rfl 2 (by decide) lk18 (fun _ h9 => h9) rfl dX1_liftAddedBy_48 ?_
    refine lv_imul hx hb dX1_liftAddedBy_51 ?_
    exact W.iret (v := 60 * (F 1 k)) hx hb hr (fun t ht _ => ⟨_, rfl, by rw [la, hk]; rfl, ht⟩) (fun q hq => absurd hq List.not_mem_nil) dX1_liftAddedBy_52
  · skip
    refine lv_aload_n hx hb dX1_liftAddedBy_0 rfl (lv_at hl 0 rfl) ?_
    refine va_get (D := (dC, dI)) (ci := 1) (v := .int (F 0 k)) (C := RX1) (T := TX1) (N := 9) hx hb hts hi1 hown hK hP 0 rfl rfl 1 (by decide) lk15 (fun _ h9 => h9) rfl dX1_liftAddedBy_1 ?_
    refine W_top (y := .int 2) (congrArg Value.int hk) ?_
    refine lv_lookup (off := 49) (tgt := 53) hx hb dX1_liftAddedBy_4 (by decide) (by decide +kernel) (by decide) ?_
    refine lv_iload_n hx hb dX1_liftAddedBy_53 rfl (lv_at hl 1 rfl) ?_
    refine lv_bipush (v := 10) hx hb dX1_liftAddedBy_54 (by decide) ?_
    refine lv_icmp_gt (tgt := 69) hx hb dX1_liftAddedBy_56 (by decide) (fun c_56 => ?_) (fun c_56 => ?_)
    · skip
      refine lv_iconst (v := 0) hx hb dX1_liftAddedBy_69 (by decide) ?_
      exact W.iret (v := 0) hx hb hr (fun t ht _ => ⟨_, rfl, by rw [la, hk, if_neg (by decide), if_neg (by decide), if_neg (fun q => by rw [i32_lt] at c_56; rw [i32_le] at q; omega)], ht⟩) (fun q hq => absurd hq List.not_mem_nil) dX1_liftAddedBy_70
    · skip
      refine lv_bipush (v := 80) hx hb dX1_liftAddedBy_59 (by decide) ?_
      refine lv_aload_n hx hb dX1_liftAddedBy_61 rfl (lv_at hl 0 rfl) ?_
      refine va_get (D := (dC, dI)) (ci := 1) (v := .int (F 1 k)) (C := RX1) (T := TX1) (N := 9) hx hb hts hi1 hown hK hP 0 rfl rfl 2 (by decide) lk18 (fun _ h9 => h9) rfl dX1_liftAddedBy_62 ?_
      refine lv_imul hx hb dX1_liftAddedBy_65 ?_
      refine lv_goto (tgt := 70) hx hb dX1_liftAddedBy_66 (by decide) ?_
      exact W.iret (v := 80 * (F 1 k)) hx hb hr (fun t ht _ => ⟨_, rfl, by rw [la, hk, if_neg (by decide), if_neg (by decide), if_pos (by rw [i32_lt] at c_56; rw [i32_le]; omega)], ht⟩) (fun q hq => absurd hq List.not_mem_nil) dX1_liftAddedBy_70

set_option maxHeartbeats 4000000 in
set_option maxRecDepth 100000 in
theorem c_X1_pullByStepsTo (l : Launch) (dC : Nat → ClassId) (dI : Nat → Nat → Nat) (q k : Nat) (F : Rows) (m0 : Nat) (hk : F 0 k = 0 ∨ F 0 k = 1 ∨ F 0 k = 2) (hm : m0 ≤ 30) : Met l yX1_pullByStepsTo wsX1_pullByStepsTo ({ frames := 1, cells := 0, slots := 0, locals := 21 }) (va_Pc [.ref q, .int (nI m0)] (PRo dC dI [] [(q, kE F k)])) (vp_Si (fun r9 => r9 = pl F k (nI m0))) 0 0 (fun _ => False) := by
  refine Met.ofW (cc := cX1_pullByStepsTo) (maxL := 4) (ret := (some .int)) (by decide) rfl ?_
  intro p e s m args below meth c s₁ B hml hv
  obtain ⟨rfl, hP, hK, hE⟩ := hv
  have hx := B.exec
  have hb := B.bytes
  have hr := B.returns
  have hts := atoms_spec (ws := wsX1_pullByStepsTo) B.pre
  have hown : s.vm.findClass RX1 = some m.cls := findClass_of_methodNamed B.named
  have hlocks := B.notSynchronized
  have hP : va_P (dC, dI) vwCl [(q, kE F k)] s.heap := hP
  have hi1 : ∀ w ∈ u_ws RX1 TX1 9, w ∈ wsX1_pullByStepsTo := by decide +kernel
  have lk21 := hts (.fieldLink RX1 21 "Windlane$Kite" "weight" "I") (by decide +kernel)
  have hl := lv_entry ([.ref q, .int (nI m0)]) (n := 4) (Nat.le_of_ble_eq_true rfl)
  rw [lg_entry_eq]
  generalize (lg_sl ([.ref q, .int (nI m0)]) ++ List.replicate (4 - (lg_sl ([.ref q, .int (nI m0)])).length) Slot.unset).toArray = ls at hl ⊢
  have hl : lv_has ls 4 [(0, .ref q), (1, .int (nI m0))] := hl
  refine lv_bipush (v := (-100)) hx hb dX1_pullByStepsTo_0 (by decide) ?_
  refine lv_aload_n hx hb dX1_pullByStepsTo_2 rfl (lv_at hl 0 rfl) ?_
  refine va_get (D := (dC, dI)) (ci := 1) (v := .int (F 2 k)) (C := RX1) (T := TX1) (N := 9) hx hb hts hi1 hown hK hP 0 rfl rfl 3 (by decide) lk21 (fun _ h9 => h9) rfl dX1_pullByStepsTo_3 ?_
  refine lv_imul hx hb dX1_pullByStepsTo_6 ?_
  refine lv_istore_n (lv' := [(2, .int ((-100) * (F 2 k))), (0, .ref q), (1, .int (nI m0))]) hx hb dX1_pullByStepsTo_7 rfl hl (by decide) rfl (fun ls hl => ?_)
  refine lv_iconst (v := 1) hx hb dX1_pullByStepsTo_8 (by decide) ?_
  refine lv_istore_n (lv' := [(3, .int 1), (2, .int ((-100) * (F 2 k))), (0, .ref q), (1, .int (nI m0))]) hx hb dX1_pullByStepsTo_9 rfl hl (by decide) rfl (fun ls hl => ?_)
  refine W_loopR (nL := 4) (fun i : Nat => [(2, .int (pl F k (nI i))), (3, .int (nI (i + 1))), (0, .ref q), (1, .int (nI m0))]) (fun i => i ≤ m0) (fun i => m0 - i) ?_ 0 (Nat.zero_le _) ?_
  · intro i ls hi hl ih
    have hl : lv_has ls 4 [(2, .int (pl F k (nI i))), (3, .int (nI (i + 1))), (0, .ref q), (1, .int (nI m0))] := hl
    refine lv_iload_n hx hb dX1_pullByStepsTo_10 rfl (lv_at hl 1 rfl) ?_
    refine lv_iload_n hx hb dX1_pullByStepsTo_11 rfl (lv_at hl 3 rfl) ?_
    refine lv_icmp_gt (tgt := 29) hx hb dX1_pullByStepsTo_12 (by decide) (fun c_12 => ?_) (fun c_12 => ?_)
    · skip
      have hii : i = m0 := by have q := (nI_ltI (a := m0) (b := i + 1) (by omega) (by omega)).mp c_12; omega
      subst hii
      refine lv_iload_n hx hb dX1_pullByStepsTo_29 rfl (lv_at hl 0 rfl) ?_
      exact W.iret (v := pl F k (nI i)) hx hb hr (fun t ht _ => ⟨_, rfl, rfl, ht⟩) (fun q hq => absurd hq List.not_mem_nil) dX1_pullByStepsTo_30
    · skip
      have hii : i < m0 := Nat.not_le.mp (fun q => c_12 ((nI_ltI (a := m0) (b := i + 1) (by omega) (by omega)).mpr (by omega)))
      refine lv_iload_n hx hb dX1_pullByStepsTo_15 rfl (lv_at hl 0 rfl) ?_
      refine lv_aload_n hx hb dX1_pullByStepsTo_16 rfl (lv_at hl 2 rfl) ?_
      refine lv_iload_n hx hb dX1_pullByStepsTo_17 rfl (lv_at hl 1 rfl) ?_
      refine vp_callSi (va_Run.run (va_runV (As := [.int (nI (i + 1))]) (rest := [.int (pl F k (nI i))]) ⟨hx, hb, hml, hown, hts⟩ (c_X1_liftAddedBy l dC dI q k F (nI (i + 1)) hk) (cwV 1 hts gX1_pullByStepsTo_X1_liftAddedBy rfl rfl rfl (by decide +kernel) ⟨Nat.le_of_ble_eq_true rfl, Nat.le_of_ble_eq_true rfl⟩) ⟨PRo.blind, va_recv hK hP (ci := 1) (q0 := 0) rfl rfl, PRo.pre hP hK hE⟩ rfl rfl hl.1 rfl (lv_room (Nat.le_of_ble_eq_true rfl)) dX1_pullByStepsTo_18 ⟨Nat.le_of_ble_eq_true rfl, Nat.le_of_ble_eq_true rfl⟩)) (fun r hr => ?_)
      subst hr
      refine lv_iadd hx hb dX1_pullByStepsTo_21 ?_
      refine W_top (y := .int (pl F k (nI (i + 1)))) (congrArg Value.int (la_pl hk (by omega))) ?_
      refine lv_istore_n (lv' := [(2, .int (pl F k (nI (i + 1)))), (3, .int (nI (i + 1))), (0, .ref q), (1, .int (nI m0))]) hx hb dX1_pullByStepsTo_22 rfl hl (by decide) rfl (fun ls hl => ?_)
      refine lv_iinc (v := nI ((i + 1) + 1)) (lv' := [(3, .int (nI ((i + 1) + 1))), (2, .int (pl F k (nI (i + 1)))), (0, .ref q), (1, .int (nI m0))]) hx hb dX1_pullByStepsTo_23 hl (k := 1) rfl (nI_1 _) (by decide) rfl (fun ls hl => ?_)
      refine lv_goto (tgt := 10) hx hb dX1_pullByStepsTo_26 (by decide) ?_
      exact ih (i + 1) ls (by omega) (by omega) (lv_sub hl [1, 0, 2, 3] rfl)
  · rw [← pl_0 hk]
    exact lv_sub hl [1, 0, 2, 3] rfl

set_option maxHeartbeats 4000000 in
set_option maxRecDepth 100000 in
theorem c_X1_spendHour (l : Launch) (dC : Nat → ClassId) (dI : Nat → Nat → Nat) (sz : Nat) (q k : Nat) (F : Rows) (b : Int32) : Met l yX1_spendHour wsX1_spendHour ({ frames := 1, cells := 0, slots := 0, locals := 20 }) (va_Pc [.ref q, .int b] (PWr dC dI [] ([(q, kE F k)]) sz)) (va_Qv (fun _ : Unit => True) (fun _ t => va_P (dC, dI) vwCl [(q, kE (up F 4 k (if ¬ b = 0 ∧ ¬ F 6 k = -1 then 6 else if 0 < F 4 k then F 4 k - 1 else F 4 k)) k)] t.heap) (va_A ([(q, kE F k)]) sz)) 0 0 (va_A ([(q, kE F k)]) sz) := by
  refine Met.ofW (cc := cX1_spendHour) (maxL := 2) (ret := none) (by decide) rfl ?_
  intro p e s m args below meth c s₁ B hml hv
  obtain ⟨rfl, hsz, hP, hK, hD0, hE, hH⟩ := hv
  have hx := B.exec
  have hb := B.bytes
  have hr := B.returns
  have hts := atoms_spec (ws := wsX1_spendHour) B.pre
  have hown : s.vm.findClass RX1 = some m.cls := findClass_of_methodNamed B.named
  have hlocks := B.notSynchronized
  have hi1 : ∀ w ∈ u_ws RX1 TX1 9, w ∈ wsX1_spendHour := by decide +kernel
  have lk34 := hts (.fieldLink RX1 34 "Windlane$Kite" "wetHours" "I") (by decide +kernel)
  subst hsz
  have hD := hD0.self (sz := s.heap.size)
  generalize hAe : va_A ([(q, kE F k)]) s.heap.size = A at hD hH ⊢
  have hA : ∀ q : Nat, s.heap.size ≤ q → A q := fun q h => by rw [← hAe]; exact Or.inr h
  have hS : va_S A s.heap s.heap [] := va_S.rf
  have hP : va_P (dC, dI) vwCl ([(q, kE F k)]) s.heap := hP
  have hl := lv_entry ([.ref q, .int b]) (n := 2) (Nat.le_of_ble_eq_true rfl)
  rw [lg_entry_eq]
  generalize (lg_sl ([.ref q, .int b]) ++ List.replicate (2 - (lg_sl ([.ref q, .int b])).length) Slot.unset).toArray = ls at hl ⊢
  have hl : lv_has ls 2 [(0, .ref q), (1, .int b)] := hl
  refine lv_iload_n hx hb dX1_spendHour_0 rfl (lv_at hl 1 rfl) ?_
  refine lv_if_eq (tgt := 20) hx hb dX1_spendHour_1 (by decide) (fun c_1 => ?_) (fun c_1 => ?_)
  · skip
    refine lv_aload_n hx hb dX1_spendHour_20 rfl (lv_at hl 0 rfl) ?_
    refine va_get (D := (dC, dI)) (ci := 1) (v := .int (F 4 k)) (C := RX1) (T := TX1) (N := 9) hx hb hts hi1 hown hK hP 0 rfl rfl 5 (by decide) lk34 (fun _ h9 => h9) rfl dX1_spendHour_21 ?_
    refine lv_if_le (tgt := 37) hx hb dX1_spendHour_24 (by decide) (fun c_24 => ?_) (fun c_24 => ?_)
    · skip
      have hP : va_P (dC, dI) vwCl [(q, kE (up F 4 k (F 4 k)) k)] s.heap := by rw [← kE_up4]; exact hP
      have ev : (if ¬ b = 0 ∧ ¬ F 6 k = -1 then 6 else if 0 < F 4 k then F 4 k - 1 else F 4 k) = F 4 k := by rw [if_neg (fun h => h.1 c_1), if_neg (by rw [i32_lt]; rw [i32_le] at c_24; omega)]
      rw [ev]
      exact W.vret hx hb hr (fun t ht hW => ⟨⟨(), rfl, trivial, by show va_P _ _ _ t.heap; rw [ht]; exact hP⟩, hS.F ht⟩) hS.2.2 dX1_spendHour_37
    · skip
      refine lv_aload_n hx hb dX1_spendHour_27 rfl (lv_at hl 0 rfl) ?_
      refine lv_dup hx hb dX1_spendHour_28 rfl ?_
      refine va_get (D := (dC, dI)) (ci := 1) (v := .int (F 4 k)) (C := RX1) (T := TX1) (N := 9) hx hb hts hi1 hown hK hP 0 rfl rfl 5 (by decide) lk34 (fun _ h9 => h9) rfl dX1_spendHour_29 ?_
      refine lv_iconst (v := 1) hx hb dX1_spendHour_32 (by decide) ?_
      refine lv_isub hx hb dX1_spendHour_33 ?_
      refine va_put (D := (dC, dI)) (ci := 1) (v := .int ((F 4 k) - 1)) (ty := .int) (C := RX1) (T := TX1) (N := 9) hx hb hts hi1 tyX1 tyX1_ok nmX1 hown hK hP hD hS 0 rfl rfl 5 (by decide) lk34 (fun _ h9 => h9) rfl (by decide +kernel) rfl rfl (Nat.le_of_ble_eq_true rfl) dX1_spendHour_34 (fun H locs hP hD hS => ?_)
      have hP : va_P (dC, dI) vwCl [(q, kE (up F 4 k ((F 4 k) - 1)) k)] H := by rw [← kE_up4]; exact hP
      have hD : va_D A [(q, kE (up F 4 k ((F 4 k) - 1)) k)] := by rw [← kE_up4]; exact hD
      have ev : (if ¬ b = 0 ∧ ¬ F 6 k = -1 then 6 else if 0 < F 4 k then F 4 k - 1 else F 4 k) = (F 4 k) - 1 := by rw [if_neg (fun h => h.1 c_1), if_pos (by rw [i32_lt]; rw [i32_le] at c_24; omega)]
      rw [ev]
      exact W.vret hx hb hr (fun t ht hW => ⟨⟨(), rfl, trivial, by show va_P _ _ _ t.heap; rw [ht]; exact hP⟩, hS.F ht⟩) hS.2.2 dX1_spendHour_37
  · skip
    refine lv_aload_n hx hb dX1_spendHour_4 rfl (lv_at hl 0 rfl) ?_
    refine vp_callSi (va_Run.run (va_runV (As := []) (rest := []) ⟨hx, hb, hml, hown, hts⟩ (c_X1_isFlying l dC dI q k F) (cwV 0 hts gX1_spendHour_X1_isFlying rfl rfl rfl (by decide +kernel) ⟨Nat.le_of_ble_eq_true rfl, Nat.le_of_ble_eq_true rfl⟩) ⟨PRo.blind, va_recv hK hP (ci := 1) (q0 := 0) rfl rfl, PRo.pre hP hK hE⟩ rfl rfl hl.1 rfl (lv_room (Nat.le_of_ble_eq_true rfl)) dX1_spendHour_5 ⟨Nat.le_of_ble_eq_true rfl, Nat.le_of_ble_eq_true rfl⟩)) (fun r hr => ?_)
    subst hr
    refine lv_if_eq (tgt := 20) hx hb dX1_spendHour_8 (by decide) (fun c_8 => ?_) (fun c_8 => ?_)
    · skip
      have c_8 := bi_z.mp c_8
      refine lv_aload_n hx hb dX1_spendHour_20 rfl (lv_at hl 0 rfl) ?_
      refine va_get (D := (dC, dI)) (ci := 1) (v := .int (F 4 k)) (C := RX1) (T := TX1) (N := 9) hx hb hts hi1 hown hK hP 0 rfl rfl 5 (by decide) lk34 (fun _ h9 => h9) rfl dX1_spendHour_21 ?_
      refine lv_if_le (tgt := 37) hx hb dX1_spendHour_24 (by decide) (fun c_24 => ?_) (fun c_24 => ?_)
      · skip
        have hP : va_P (dC, dI) vwCl [(q, kE (up F 4 k (F 4 k)) k)] s.heap := by rw [← kE_up4]; exact hP
        have ev : (if ¬ b = 0 ∧ ¬ F 6 k = -1 then 6 else if 0 < F 4 k then F 4 k - 1 else F 4 k) = F 4 k := by rw [if_neg (fun h => c_8 h.2), if_neg (by rw [i32_lt]; rw [i32_le] at c_24; omega)]
        rw [ev]
        exact W.vret hx hb hr (fun t ht hW => ⟨⟨(), rfl, trivial, by show va_P _ _ _ t.heap; rw [ht]; exact hP⟩, hS.F ht⟩) hS.2.2 dX1_spendHour_37
      · skip
        refine lv_aload_n hx hb dX1_spendHour_27 rfl (lv_at hl 0 rfl) ?_
        refine lv_dup hx hb dX1_spendHour_28 rfl ?_
        refine va_get (D := (dC, dI)) (ci := 1) (v := .int (F 4 k)) (C := RX1) (T := TX1) (N := 9) hx hb hts hi1 hown hK hP 0 rfl rfl 5 (by decide) lk34 (fun _ h9 => h9) rfl dX1_spendHour_29 ?_
        refine lv_iconst (v := 1) hx hb dX1_spendHour_32 (by decide) ?_
        refine lv_isub hx hb dX1_spendHour_33 ?_
        refine va_put (D := (dC, dI)) (ci := 1) (v := .int ((F 4 k) - 1)) (ty := .int) (C := RX1) (T := TX1) (N := 9) hx hb hts hi1 tyX1 tyX1_ok nmX1 hown hK hP hD hS 0 rfl rfl 5 (by decide) lk34 (fun _ h9 => h9) rfl (by decide +kernel) rfl rfl (Nat.le_of_ble_eq_true rfl) dX1_spendHour_34 (fun H locs hP hD hS => ?_)
        have hP : va_P (dC, dI) vwCl [(q, kE (up F 4 k ((F 4 k) - 1)) k)] H := by rw [← kE_up4]; exact hP
        have hD : va_D A [(q, kE (up F 4 k ((F 4 k) - 1)) k)] := by rw [← kE_up4]; exact hD
        have ev : (if ¬ b = 0 ∧ ¬ F 6 k = -1 then 6 else if 0 < F 4 k then F 4 k - 1 else F 4 k) = (F 4 k) - 1 := by rw [if_neg (fun h => c_8 h.2), if_pos (by rw [i32_lt]; rw [i32_le] at c_24; omega)]
        rw [ev]
        exact W.vret hx hb hr (fun t ht hW => ⟨⟨(), rfl, trivial, by show va_P _ _ _ t.heap; rw [ht]; exact hP⟩, hS.F ht⟩) hS.2.2 dX1_spendHour_37
    · skip
      have c_8 := bi_nz.mp c_8
      refine lv_aload_n hx hb dX1_spendHour_11 rfl (lv_at hl 0 rfl) ?_
      refine lv_bipush (v := 6) hx hb dX1_spendHour_12 (by decide) ?_
      refine va_put (D := (dC, dI)) (ci := 1) (v := .int 6) (ty := .int) (C := RX1) (T := TX1) (N := 9) hx hb hts hi1 tyX1 tyX1_ok nmX1 hown hK hP hD hS 0 rfl rfl 5 (by decide) lk34 (fun _ h9 => h9) rfl (by decide +kernel) rfl rfl (Nat.le_of_ble_eq_true rfl) dX1_spendHour_14 (fun H locs hP hD hS => ?_)
      have hP : va_P (dC, dI) vwCl [(q, kE (up F 4 k (6)) k)] H := by rw [← kE_up4]; exact hP
      have hD : va_D A [(q, kE (up F 4 k (6)) k)] := by rw [← kE_up4]; exact hD
      refine lv_goto (tgt := 37) hx hb dX1_spendHour_17 (by decide) ?_
      have ev : (if ¬ b = 0 ∧ ¬ F 6 k = -1 then 6 else if 0 < F 4 k then F 4 k - 1 else F 4 k) = 6 := by rw [if_pos ⟨c_1, c_8⟩]
      rw [ev]
      exact W.vret hx hb hr (fun t ht hW => ⟨⟨(), rfl, trivial, by show va_P _ _ _ t.heap; rw [ht]; exact hP⟩, hS.F ht⟩) hS.2.2 dX1_spendHour_37

set_option maxHeartbeats 4000000 in
set_option maxRecDepth 100000 in
theorem c_X1_init (l : Launch) (dC : Nat → ClassId) (dI : Nat → Nat → Nat) (sz : Nat) (q : Nat) (nu kd ar wt : Int32) : Met l yX1_init wsX1_init ({ frames := 1, cells := 0, slots := 0, locals := 12 }) (va_Pc [.ref q, .int nu, .int kd, .int ar, .int wt] (PWr dC dI [] ([(q, .inr (1, [.int 0, .int 0, .int 0, .int 0, .int 0, .int 0, .int 0, .int 0, .int 0]))]) sz)) (va_Qv (fun _ : Unit => True) (fun _ t => va_P (dC, dI) vwCl [(q, .inr (1, [.int nu, .int kd, .int ar, .int wt, .int 0, .int 0, .int (-1), .int (-1), .int 0]))] t.heap) (va_A ([(q, .inr (1, [.int 0, .int 0, .int 0, .int 0, .int 0, .int 0, .int 0, .int 0, .int 0]))]) sz)) 0 0 (va_A ([(q, .inr (1, [.int 0, .int 0, .int 0, .int 0, .int 0, .int 0, .int 0, .int 0, .int 0]))]) sz) := by
  refine Met.ofW (cc := cX1_init) (maxL := 5) (ret := none) (by decide) rfl ?_
  intro p e s m args below meth c s₁ B hml hv
  obtain ⟨rfl, hsz, hP, hK, hD0, hE, hH⟩ := hv
  have hx := B.exec
  have hb := B.bytes
  have hr := B.returns
  have hts := atoms_spec (ws := wsX1_init) B.pre
  have hown : s.vm.findClass RX1 = some m.cls := findClass_of_methodNamed B.named
  have hlocks := B.notSynchronized
  have hin : meth.name = "<init>" := (name_of_methodNamed B.named B.method).1
  have hi1 : ∀ w ∈ u_ws RX1 TX1 9, w ∈ wsX1_init := by decide +kernel
  have lk9 := hts (.fieldLink RX1 9 "Windlane$Kite" "number" "I") (by decide +kernel)
  have lk15 := hts (.fieldLink RX1 15 "Windlane$Kite" "kind" "I") (by decide +kernel)
  have lk18 := hts (.fieldLink RX1 18 "Windlane$Kite" "area" "I") (by decide +kernel)
  have lk21 := hts (.fieldLink RX1 21 "Windlane$Kite" "weight" "I") (by decide +kernel)
  have lk24 := hts (.fieldLink RX1 24 "Windlane$Kite" "borrower" "I") (by decide +kernel)
  have lk27 := hts (.fieldLink RX1 27 "Windlane$Kite" "lane" "I") (by decide +kernel)
  subst hsz
  have hD := hD0.self (sz := s.heap.size)
  generalize hAe : va_A ([(q, .inr (1, [.int 0, .int 0, .int 0, .int 0, .int 0, .int 0, .int 0, .int 0, .int 0]))]) s.heap.size = A at hD hH ⊢
  have hA : ∀ q : Nat, s.heap.size ≤ q → A q := fun q h => by rw [← hAe]; exact Or.inr h
  have hS : va_S A s.heap s.heap [] := va_S.rf
  have hP : va_P (dC, dI) vwCl ([(q, .inr (1, [.int 0, .int 0, .int 0, .int 0, .int 0, .int 0, .int 0, .int 0, .int 0]))]) s.heap := hP
  have hl := lv_entry ([.ref q, .int nu, .int kd, .int ar, .int wt]) (n := 5) (Nat.le_of_ble_eq_true rfl)
  rw [lg_entry_eq]
  generalize (lg_sl ([.ref q, .int nu, .int kd, .int ar, .int wt]) ++ List.replicate (5 - (lg_sl ([.ref q, .int nu, .int kd, .int ar, .int wt])).length) Slot.unset).toArray = ls at hl ⊢
  have hl : lv_has ls 5 [(0, .ref q), (1, .int nu), (2, .int kd), (3, .int ar), (4, .int wt)] := hl
  refine lv_aload_n hx hb dX1_init_0 rfl (lv_at hl 0 rfl) ?_
  refine W.objInit hx hb hown (hts (.methodLink RX1 3 objectInit) (by decide +kernel)) (hts (.instanceMethod objectInit) (by decide +kernel)) (hts _ (List.mem_cons_of_mem _ (List.mem_append_left _ (List.mem_of_getElem? (i := 2) rfl)))) rfl (by rw [hml]; exact hl.1) rfl dX1_init_1 (Nat.le_of_ble_eq_true rfl) (Nat.le_of_ble_eq_true rfl) ?_
  refine W.eq (g2 := F0 m 4 ls []) rfl ?_
  refine lv_aload_n hx hb dX1_init_4 rfl (lv_at hl 0 rfl) ?_
  refine lv_iload_n hx hb dX1_init_5 rfl (lv_at hl 1 rfl) ?_
  refine va_putF (D := (dC, dI)) (ci := 1) (v := .int nu) (ty := .int) (C := RX1) (T := TX1) (N := 9) hx hb hts hi1 tyX1 tyX1_ok nmX1 hown hK hP hD hS 0 rfl rfl 0 (by decide) lk9 (fun _ h9 => h9) rfl hin rfl (by decide +kernel) rfl rfl (Nat.le_of_ble_eq_true rfl) dX1_init_6 (fun H locs hP hD hS => ?_)
  have hP : va_P (dC, dI) vwCl [(q, .inr (1, [.int nu, .int 0, .int 0, .int 0, .int 0, .int 0, .int 0, .int 0, .int 0]))] H := hP
  have hD : va_D A [(q, .inr (1, [.int nu, .int 0, .int 0, .int 0, .int 0, .int 0, .int 0, .int 0, .int 0]))] := hD
  refine lv_aload_n hx hb dX1_init_9 rfl (lv_at hl 0 rfl) ?_
  refine lv_iload_n hx hb dX1_init_10 rfl (lv_at hl 2 rfl) ?_
  refine va_putF (D := (dC, dI)) (ci := 1) (v := .int kd) (ty := .int) (C := RX1) (T := TX1) (N := 9) hx hb hts hi1 tyX1 tyX1_ok nmX1 hown hK hP hD hS 0 rfl rfl 1 (by decide) lk15 (fun _ h9 => h9) rfl hin rfl (by decide +kernel) rfl rfl (Nat.le_of_ble_eq_true rfl) dX1_init_11 (fun H locs hP hD hS => ?_)
  have hP : va_P (dC, dI) vwCl [(q, .inr (1, [.int nu, .int kd, .int 0, .int 0, .int 0, .int 0, .int 0, .int 0, .int 0]))] H := hP
  have hD : va_D A [(q, .inr (1, [.int nu, .int kd, .int 0, .int 0, .int 0, .int 0, .int 0, .int 0, .int 0]))] := hD
  refine lv_aload_n hx hb dX1_init_14 rfl (lv_at hl 0 rfl) ?_
  refine lv_iload_n hx hb dX1_init_15 rfl (lv_at hl 3 rfl) ?_
  refine va_putF (D := (dC, dI)) (ci := 1) (v := .int ar) (ty := .int) (C := RX1) (T := TX1) (N := 9) hx hb hts hi1 tyX1 tyX1_ok nmX1 hown hK hP hD hS 0 rfl rfl 2 (by decide) lk18 (fun _ h9 => h9) rfl hin rfl (by decide +kernel) rfl rfl (Nat.le_of_ble_eq_true rfl) dX1_init_16 (fun H locs hP hD hS => ?_)
  have hP : va_P (dC, dI) vwCl [(q, .inr (1, [.int nu, .int kd, .int ar, .int 0, .int 0, .int 0, .int 0, .int 0, .int 0]))] H := hP
  have hD : va_D A [(q, .inr (1, [.int nu, .int kd, .int ar, .int 0, .int 0, .int 0, .int 0, .int 0, .int 0]))] := hD
  refine lv_aload_n hx hb dX1_init_19 rfl (lv_at hl 0 rfl) ?_
  refine lv_iload hx hb dX1_init_20 (lv_at hl 4 rfl) ?_
  refine va_put (D := (dC, dI)) (ci := 1) (v := .int wt) (ty := .int) (C := RX1) (T := TX1) (N := 9) hx hb hts hi1 tyX1 tyX1_ok nmX1 hown hK hP hD hS 0 rfl rfl 3 (by decide) lk21 (fun _ h9 => h9) rfl (by decide +kernel) rfl rfl (Nat.le_of_ble_eq_true rfl) dX1_init_22 (fun H locs hP hD hS => ?_)
  have hP : va_P (dC, dI) vwCl [(q, .inr (1, [.int nu, .int kd, .int ar, .int wt, .int 0, .int 0, .int 0, .int 0, .int 0]))] H := hP
  have hD : va_D A [(q, .inr (1, [.int nu, .int kd, .int ar, .int wt, .int 0, .int 0, .int 0, .int 0, .int 0]))] := hD
  refine lv_aload_n hx hb dX1_init_25 rfl (lv_at hl 0 rfl) ?_
  refine lv_iconst (v := (-1)) hx hb dX1_init_26 (by decide) ?_
  refine va_put (D := (dC, dI)) (ci := 1) (v := .int (-1)) (ty := .int) (C := RX1) (T := TX1) (N := 9) hx hb hts hi1 tyX1 tyX1_ok nmX1 hown hK hP hD hS 0 rfl rfl 6 (by decide) lk24 (fun _ h9 => h9) rfl (by decide +kernel) rfl rfl (Nat.le_of_ble_eq_true rfl) dX1_init_27 (fun H locs hP hD hS => ?_)
  have hP : va_P (dC, dI) vwCl [(q, .inr (1, [.int nu, .int kd, .int ar, .int wt, .int 0, .int 0, .int (-1), .int 0, .int 0]))] H := hP
  have hD : va_D A [(q, .inr (1, [.int nu, .int kd, .int ar, .int wt, .int 0, .int 0, .int (-1), .int 0, .int 0]))] := hD
  refine lv_aload_n hx hb dX1_init_30 rfl (lv_at hl 0 rfl) ?_
  refine lv_iconst (v := (-1)) hx hb dX1_init_31 (by decide) ?_
  refine va_put (D := (dC, dI)) (ci := 1) (v := .int (-1)) (ty := .int) (C := RX1) (T := TX1) (N := 9) hx hb hts hi1 tyX1 tyX1_ok nmX1 hown hK hP hD hS 0 rfl rfl 7 (by decide) lk27 (fun _ h9 => h9) rfl (by decide +kernel) rfl rfl (Nat.le_of_ble_eq_true rfl) dX1_init_32 (fun H locs hP hD hS => ?_)
  have hP : va_P (dC, dI) vwCl [(q, .inr (1, [.int nu, .int kd, .int ar, .int wt, .int 0, .int 0, .int (-1), .int (-1), .int 0]))] H := hP
  have hD : va_D A [(q, .inr (1, [.int nu, .int kd, .int ar, .int wt, .int 0, .int 0, .int (-1), .int (-1), .int 0]))] := hD
  exact W.vret hx hb hr (fun t ht hW => ⟨⟨(), rfl, trivial, by show va_P _ _ _ t.heap; rw [ht]; exact hP⟩, hS.F ht⟩) hS.2.2 dX1_init_35

set_option maxHeartbeats 4000000 in
set_option maxRecDepth 100000 in
theorem c_X0_init (l : Launch) (dC : Nat → ClassId) (dI : Nat → Nat → Nat) (sz : Nat) (q : Nat) (sk : Int32) : Met l yX0_init wsX0_init ({ frames := 1, cells := 0, slots := 0, locals := 12 }) (va_Pc [.ref q, .int sk] (PWr dC dI [] ([(q, .inr (0, [.int 0, .null]))]) sz)) (va_Qv (fun _ : Unit => True) (fun _ t => va_P (dC, dI) vwCl [(q, .inr (0, [.int sk, .null]))] t.heap) (va_A ([(q, .inr (0, [.int 0, .null]))]) sz)) 0 0 (va_A ([(q, .inr (0, [.int 0, .null]))]) sz) := by
  refine Met.ofW (cc := cX0_init) (maxL := 2) (ret := none) (by decide) rfl ?_
  intro p e s m args below meth c s₁ B hml hv
  obtain ⟨rfl, hsz, hP, hK, hD0, hE, hH⟩ := hv
  have hx := B.exec
  have hb := B.bytes
  have hr := B.returns
  have hts := atoms_spec (ws := wsX0_init) B.pre
  have hown : s.vm.findClass RX0 = some m.cls := findClass_of_methodNamed B.named
  have hlocks := B.notSynchronized
  have hin : meth.name = "<init>" := (name_of_methodNamed B.named B.method).1
  have hi0 : ∀ w ∈ u_ws RX0 TX0 2, w ∈ wsX0_init := by decide +kernel
  have lk7 := hts (.fieldLink RX0 7 "Windlane$Borrower" "skill" "I") (by decide +kernel)
  subst hsz
  have hD := hD0.self (sz := s.heap.size)
  generalize hAe : va_A ([(q, .inr (0, [.int 0, .null]))]) s.heap.size = A at hD hH ⊢
  have hA : ∀ q : Nat, s.heap.size ≤ q → A q := fun q h => by rw [← hAe]; exact Or.inr h
  have hS : va_S A s.heap s.heap [] := va_S.rf
  have hP : va_P (dC, dI) vwCl ([(q, .inr (0, [.int 0, .null]))]) s.heap := hP
  have hl := lv_entry ([.ref q, .int sk]) (n := 2) (Nat.le_of_ble_eq_true rfl)
  rw [lg_entry_eq]
  generalize (lg_sl ([.ref q, .int sk]) ++ List.replicate (2 - (lg_sl ([.ref q, .int sk])).length) Slot.unset).toArray = ls at hl ⊢
  have hl : lv_has ls 2 [(0, .ref q), (1, .int sk)] := hl
  refine lv_aload_n hx hb dX0_init_0 rfl (lv_at hl 0 rfl) ?_
  refine W.objInit hx hb hown (hts (.methodLink RX0 1 objectInit) (by decide +kernel)) (hts (.instanceMethod objectInit) (by decide +kernel)) (hts _ (List.mem_cons_of_mem _ (List.mem_append_left _ (List.mem_of_getElem? (i := 2) rfl)))) rfl (by rw [hml]; exact hl.1) rfl dX0_init_1 (Nat.le_of_ble_eq_true rfl) (Nat.le_of_ble_eq_true rfl) ?_
  refine W.eq (g2 := F0 m 4 ls []) rfl ?_
  refine lv_aload_n hx hb dX0_init_4 rfl (lv_at hl 0 rfl) ?_
  refine lv_iload_n hx hb dX0_init_5 rfl (lv_at hl 1 rfl) ?_
  refine va_putF (D := (dC, dI)) (ci := 0) (v := .int sk) (ty := .int) (C := RX0) (T := TX0) (N := 2) hx hb hts hi0 tyX0 tyX0_ok nmX0 hown hK hP hD hS 0 rfl rfl 0 (by decide) lk7 (fun _ h9 => h9) rfl hin rfl (by decide +kernel) rfl rfl (Nat.le_of_ble_eq_true rfl) dX0_init_6 (fun H locs hP hD hS => ?_)
  have hP : va_P (dC, dI) vwCl [(q, .inr (0, [.int sk, .null]))] H := hP
  have hD : va_D A [(q, .inr (0, [.int sk, .null]))] := hD
  exact W.vret hx hb hr (fun t ht hW => ⟨⟨(), rfl, trivial, by show va_P _ _ _ t.heap; rw [ht]; exact hP⟩, hS.F ht⟩) hS.2.2 dX0_init_9

set_option maxHeartbeats 4000000 in
set_option maxRecDepth 100000 in
theorem c_X0_canTake (l : Launch) (dC : Nat → ClassId) (dI : Nat → Nat → Nat) (b q k : Nat) (F : Rows) (sk : Int32) (o : Option Nat) : Met l yX0_canTake wsX0_canTake ({ frames := 0, cells := 0, slots := 0, locals := 0 }) (va_Pc [.ref b, .ref q] (PRo dC dI [] [(b, .inr (0, [.int sk, va_rf o])), (q, kE F k)])) (vp_Si (fun r9 => r9 = bi (o = none ∧ F 0 k < sk))) 0 0 (fun _ => False) := by
  refine Met.ofW (cc := cX0_canTake) (maxL := 2) (ret := (some .boolean)) (by decide) rfl ?_
  intro p e s m args below meth c s₁ B hml hv
  obtain ⟨rfl, hP, hK, hE⟩ := hv
  have hx := B.exec
  have hb := B.bytes
  have hr := B.returns
  have hts := atoms_spec (ws := wsX0_canTake) B.pre
  have hown : s.vm.findClass RX0 = some m.cls := findClass_of_methodNamed B.named
  have hlocks := B.notSynchronized
  have hP : va_P (dC, dI) vwCl [(b, .inr (0, [.int sk, va_rf o])), (q, kE F k)] s.heap := hP
  have hi0 : ∀ w ∈ u_ws RX0 TX0 2, w ∈ wsX0_canTake := by decide +kernel
  have hi1 : ∀ w ∈ u_ws RX1 TX1 9, w ∈ wsX0_canTake := by decide +kernel
  have lk7 := hts (.fieldLink RX0 7 "Windlane$Borrower" "skill" "I") (by decide +kernel)
  have lk13 := hts (.fieldLink RX0 13 "Windlane$Borrower" "held" "LWindlane$Kite;") (by decide +kernel)
  have lk17 := hts (.fieldLink RX0 17 "Windlane$Kite" "kind" "I") (by decide +kernel)
  have hl := lv_entry ([.ref b, .ref q]) (n := 2) (Nat.le_of_ble_eq_true rfl)
  rw [lg_entry_eq]
  generalize (lg_sl ([.ref b, .ref q]) ++ List.replicate (2 - (lg_sl ([.ref b, .ref q])).length) Slot.unset).toArray = ls at hl ⊢
  have hl : lv_has ls 2 [(0, .ref b), (1, .ref q)] := hl
  rcases o with _ | a
  · skip
    refine lv_aload_n hx hb dX0_canTake_0 rfl (lv_at hl 0 rfl) ?_
    refine va_get (D := (dC, dI)) (ci := 0) (v := .null) (C := RX0) (T := TX0) (N := 2) hx hb hts hi0 hown hK hP 0 rfl rfl 1 (by decide) lk13 (fun _ h9 => h9) rfl dX0_canTake_1 ?_
    refine lv_ifnonnullN hx hb dX0_canTake_4 ?_
    refine lv_aload_n hx hb dX0_canTake_7 rfl (lv_at hl 0 rfl) ?_
    refine va_get (D := (dC, dI)) (ci := 0) (v := .int sk) (C := RX0) (T := TX0) (N := 2) hx hb hts hi0 hown hK hP 0 rfl rfl 0 (by decide) lk7 (fun _ h9 => h9) rfl dX0_canTake_8 ?_
    refine lv_aload_n hx hb dX0_canTake_11 rfl (lv_at hl 1 rfl) ?_
    refine va_get (D := (dC, dI)) (ci := 1) (v := .int (F 0 k)) (C := RX1) (T := TX1) (N := 9) hx hb hts hi1 hown hK hP 1 rfl rfl 1 (by decide) lk17 (fun _ h9 => h9) rfl dX0_canTake_12 ?_
    refine lv_icmp_le (tgt := 22) hx hb dX0_canTake_15 (by decide) (fun c_15 => ?_) (fun c_15 => ?_)
    · skip
      refine lv_iconst (v := 0) hx hb dX0_canTake_22 (by decide) ?_
      exact W.zret (v := 0) hx hb hr rfl (fun t ht _ => ⟨_, rfl, (bi_f (fun h => by have h2 := h.2; rw [i32_lt] at h2; rw [i32_le] at c_15; omega)).symm, ht⟩) (fun q hq => absurd hq List.not_mem_nil) dX0_canTake_23
    · skip
      refine lv_iconst (v := 1) hx hb dX0_canTake_18 (by decide) ?_
      refine lv_goto (tgt := 23) hx hb dX0_canTake_19 (by decide) ?_
      exact W.zret (v := 1) hx hb hr rfl (fun t ht _ => ⟨_, rfl, (bi_t ⟨rfl, by rw [i32_lt]; rw [i32_le] at c_15; omega⟩).symm, ht⟩) (fun q hq => absurd hq List.not_mem_nil) dX0_canTake_23
  · skip
    refine lv_aload_n hx hb dX0_canTake_0 rfl (lv_at hl 0 rfl) ?_
    refine va_get (D := (dC, dI)) (ci := 0) (v := .ref a) (C := RX0) (T := TX0) (N := 2) hx hb hts hi0 hown hK hP 0 rfl rfl 1 (by decide) lk13 (fun _ h9 => h9) rfl dX0_canTake_1 ?_
    refine lv_ifnonnull (tgt := 22) hx hb dX0_canTake_4 (by decide) ?_
    refine lv_iconst (v := 0) hx hb dX0_canTake_22 (by decide) ?_
    exact W.zret (v := 0) hx hb hr rfl (fun t ht _ => ⟨_, rfl, (bi_f (fun h => by cases h.1)).symm, ht⟩) (fun q hq => absurd hq List.not_mem_nil) dX0_canTake_23
