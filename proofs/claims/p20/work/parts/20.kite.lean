theorem bw_1 {v lo hi : Int32} (h : v < lo) : (0 : Int32) = bi (lo ≤ v ∧ v ≤ hi) := (bi_f (fun q => by rw [i32_lt] at h; rw [i32_le] at q; omega)).symm
theorem bw_2 {v lo hi : Int32} (h : hi < v) : (0 : Int32) = bi (lo ≤ v ∧ v ≤ hi) := (bi_f (fun q => by rw [i32_lt] at h; rw [i32_le, i32_le] at q; omega)).symm
theorem bw_3 {v lo hi : Int32} (h1 : ¬ v < lo) (h2 : ¬ hi < v) : (1 : Int32) = bi (lo ≤ v ∧ v ≤ hi) := (bi_t (by rw [i32_lt] at h1 h2; rw [i32_le, i32_le]; omega)).symm

set_option maxHeartbeats 4000000 in
set_option maxRecDepth 100000 in
/-- isWithin -/
theorem c_X2_isWithin (l : Launch) (v lo hi : Int32) : Met l yX2_isWithin wsX2_isWithin ({ frames := 0, cells := 0, slots := 0, locals := 0 }) (va_Pc [.int v, .int lo, .int hi] (fun _ => True)) (vp_Si (fun r9 => r9 = bi (lo ≤ v ∧ v ≤ hi))) 0 0 (fun _ => False) := by
  refine Met.ofW (cc := cX2_isWithin) (maxL := 3) (ret := (some .boolean)) (by decide) rfl ?_
  intro p e s m args below meth c s₁ B hml hv
  obtain ⟨rfl, -⟩ := hv
  have hx := B.exec
  have hb := B.bytes
  have hr := B.returns
  have hts := atoms_spec (ws := wsX2_isWithin) B.pre
  have hown : s.vm.findClass RX2 = some m.cls := findClass_of_methodNamed B.named
  have hlocks := B.notSynchronized
  have hl := lv_entry ([.int v, .int lo, .int hi]) (n := 3) (Nat.le_of_ble_eq_true rfl)
  rw [lg_entry_eq]
  generalize (lg_sl ([.int v, .int lo, .int hi]) ++ List.replicate (3 - (lg_sl ([.int v, .int lo, .int hi])).length) Slot.unset).toArray = ls at hl ⊢
  have hl : lv_has ls 3 [(0, .int v), (1, .int lo), (2, .int hi)] := hl
  refine lv_iload_n hx hb dX2_isWithin_0 rfl (lv_at hl 0 rfl) ?_
  refine lv_iload_n hx hb dX2_isWithin_1 rfl (lv_at hl 1 rfl) ?_
  refine lv_icmp_lt (tgt := 14) hx hb dX2_isWithin_2 (by decide) (fun c_2 => ?_) (fun c_2 => ?_)
  · skip
    refine lv_iconst (v := 0) hx hb dX2_isWithin_14 (by decide) ?_
    exact W.zret (v := 0) hx hb hr rfl (fun t ht _ => ⟨_, rfl, bw_1 c_2, ht⟩) (fun q hq => absurd hq List.not_mem_nil) dX2_isWithin_15
  · skip
    refine lv_iload_n hx hb dX2_isWithin_5 rfl (lv_at hl 0 rfl) ?_
    refine lv_iload_n hx hb dX2_isWithin_6 rfl (lv_at hl 2 rfl) ?_
    refine lv_icmp_gt (tgt := 14) hx hb dX2_isWithin_7 (by decide) (fun c_7 => ?_) (fun c_7 => ?_)
    · skip
      refine lv_iconst (v := 0) hx hb dX2_isWithin_14 (by decide) ?_
      exact W.zret (v := 0) hx hb hr rfl (fun t ht _ => ⟨_, rfl, bw_2 c_7, ht⟩) (fun q hq => absurd hq List.not_mem_nil) dX2_isWithin_15
    · skip
      refine lv_iconst (v := 1) hx hb dX2_isWithin_10 (by decide) ?_
      refine lv_goto (tgt := 15) hx hb dX2_isWithin_11 (by decide) ?_
      exact W.zret (v := 1) hx hb hr rfl (fun t ht _ => ⟨_, rfl, bw_3 c_2 c_7, ht⟩) (fun q hq => absurd hq List.not_mem_nil) dX2_isWithin_15

set_option maxHeartbeats 4000000 in
set_option maxRecDepth 100000 in
theorem c_X2_isSpeed (l : Launch) (v : Int32) : Met l yX2_isSpeed wsX2_isSpeed ({ frames := 1, cells := 0, slots := 0, locals := 22 }) (va_Pc [.int v] (fun _ => True)) (vp_Si (fun r9 => r9 = bi (0 ≤ v ∧ v ≤ 30))) 0 0 (fun _ => False) := by
  refine Met.ofW (cc := cX2_isSpeed) (maxL := 1) (ret := (some .boolean)) (by decide) rfl ?_
  intro p e s m args below meth c s₁ B hml hv
  obtain ⟨rfl, -⟩ := hv
  have hx := B.exec
  have hb := B.bytes
  have hr := B.returns
  have hts := atoms_spec (ws := wsX2_isSpeed) B.pre
  have hown : s.vm.findClass RX2 = some m.cls := findClass_of_methodNamed B.named
  have hlocks := B.notSynchronized
  have hl := lv_entry ([.int v]) (n := 1) (Nat.le_of_ble_eq_true rfl)
  rw [lg_entry_eq]
  generalize (lg_sl ([.int v]) ++ List.replicate (1 - (lg_sl ([.int v])).length) Slot.unset).toArray = ls at hl ⊢
  have hl : lv_has ls 1 [(0, .int v)] := hl
  refine lv_iload_n hx hb dX2_isSpeed_0 rfl (lv_at hl 0 rfl) ?_
  refine lv_iconst (v := 0) hx hb dX2_isSpeed_1 (by decide) ?_
  refine lv_bipush (v := 30) hx hb dX2_isSpeed_2 (by decide) ?_
  refine vp_callSi (va_Run.run (va_runS (As := [.int v, .int 0, .int 30]) (rest := []) ⟨hx, hb, hml, hown, hts⟩ (c_X2_isWithin l v 0 30) (va_cwS 3 hts gX2_isSpeed_X2_isWithin rfl rfl rfl (by decide +kernel) ⟨Nat.le_of_ble_eq_true rfl, Nat.le_of_ble_eq_true rfl⟩) ⟨fun a U g mk q => q, fun U hU hW => ⟨rfl, trivial⟩⟩ rfl rfl hl.1 rfl (lv_room (Nat.le_of_ble_eq_true rfl)) dX2_isSpeed_4 ⟨Nat.le_of_ble_eq_true rfl, Nat.le_of_ble_eq_true rfl⟩)) (fun r hr => ?_)
  subst hr
  exact W.zret (v := bi (0 ≤ v ∧ v ≤ 30)) hx hb hr (nar_01 (bi_01 _)) (fun t ht _ => ⟨_, rfl, rfl, ht⟩) (fun q hq => absurd hq List.not_mem_nil) dX2_isSpeed_7

set_option maxHeartbeats 4000000 in
set_option maxRecDepth 100000 in
theorem c_X2_isLane (l : Launch) (v : Int32) : Met l yX2_isLane wsX2_isLane ({ frames := 1, cells := 0, slots := 0, locals := 22 }) (va_Pc [.int v] (fun _ => True)) (vp_Si (fun r9 => r9 = bi (inR 10 v))) 0 0 (fun _ => False) := by
  refine Met.ofW (cc := cX2_isLane) (maxL := 1) (ret := (some .boolean)) (by decide) rfl ?_
  intro p e s m args below meth c s₁ B hml hv
  obtain ⟨rfl, -⟩ := hv
  have hx := B.exec
  have hb := B.bytes
  have hr := B.returns
  have hts := atoms_spec (ws := wsX2_isLane) B.pre
  have hown : s.vm.findClass RX2 = some m.cls := findClass_of_methodNamed B.named
  have hlocks := B.notSynchronized
  have hl := lv_entry ([.int v]) (n := 1) (Nat.le_of_ble_eq_true rfl)
  rw [lg_entry_eq]
  generalize (lg_sl ([.int v]) ++ List.replicate (1 - (lg_sl ([.int v])).length) Slot.unset).toArray = ls at hl ⊢
  have hl : lv_has ls 1 [(0, .int v)] := hl
  refine lv_iload_n hx hb dX2_isLane_0 rfl (lv_at hl 0 rfl) ?_
  refine lv_iconst (v := 0) hx hb dX2_isLane_1 (by decide) ?_
  refine lv_bipush (v := 9) hx hb dX2_isLane_2 (by decide) ?_
  refine vp_callSi (va_Run.run (va_runS (As := [.int v, .int 0, .int 9]) (rest := []) ⟨hx, hb, hml, hown, hts⟩ (c_X2_isWithin l v 0 9) (va_cwS 3 hts gX2_isLane_X2_isWithin rfl rfl rfl (by decide +kernel) ⟨Nat.le_of_ble_eq_true rfl, Nat.le_of_ble_eq_true rfl⟩) ⟨fun a U g mk q => q, fun U hU hW => ⟨rfl, trivial⟩⟩ rfl rfl hl.1 rfl (lv_room (Nat.le_of_ble_eq_true rfl)) dX2_isLane_4 ⟨Nat.le_of_ble_eq_true rfl, Nat.le_of_ble_eq_true rfl⟩)) (fun r hr => ?_)
  subst hr
  exact W.zret (v := bi (0 ≤ v ∧ v ≤ 9)) hx hb hr (nar_01 (bi_01 _)) (fun t ht _ => ⟨_, rfl, bi_iff (inR_lit (by decide) v), ht⟩) (fun q hq => absurd hq List.not_mem_nil) dX2_isLane_7

set_option maxHeartbeats 4000000 in
set_option maxRecDepth 100000 in
theorem c_X1_isFlying (l : Launch) (dC : Nat → ClassId) (dI : Nat → Nat → Nat) (q k : Nat) (F : Rows) : Met l yX1_isFlying wsX1_isFlying ({ frames := 0, cells := 0, slots := 0, locals := 0 }) (va_Pc [.ref q] (PRo dC dI [] [(q, kE F k)])) (vp_Si (fun r9 => r9 = bi (¬ F 6 k = -1))) 0 0 (fun _ => False) := by
  refine Met.ofW (cc := cX1_isFlying) (maxL := 1) (ret := (some .boolean)) (by decide) rfl ?_
  intro p e s m args below meth c s₁ B hml hv
  obtain ⟨rfl, hP, hK, hE⟩ := hv
  have hx := B.exec
  have hb := B.bytes
  have hr := B.returns
  have hts := atoms_spec (ws := wsX1_isFlying) B.pre
  have hown : s.vm.findClass RX1 = some m.cls := findClass_of_methodNamed B.named
  have hlocks := B.notSynchronized
  have hP : va_P (dC, dI) vwCl [(q, kE F k)] s.heap := hP
  have hi1 : ∀ w ∈ u_ws RX1 TX1 9, w ∈ wsX1_isFlying := by decide +kernel
  have lk27 := hts (.fieldLink RX1 27 "Windlane$Kite" "lane" "I") (by decide +kernel)
  have hl := lv_entry ([.ref q]) (n := 1) (Nat.le_of_ble_eq_true rfl)
  rw [lg_entry_eq]
  generalize (lg_sl ([.ref q]) ++ List.replicate (1 - (lg_sl ([.ref q])).length) Slot.unset).toArray = ls at hl ⊢
  have hl : lv_has ls 1 [(0, .ref q)] := hl
  refine lv_aload_n hx hb dX1_isFlying_0 rfl (lv_at hl 0 rfl) ?_
  refine va_get (D := (dC, dI)) (ci := 1) (v := .int (F 6 k)) (C := RX1) (T := TX1) (N := 9) hx hb hts hi1 hown hK hP 0 rfl rfl 7 (by decide) lk27 (fun _ h9 => h9) rfl dX1_isFlying_1 ?_
  refine lv_iconst (v := (-1)) hx hb dX1_isFlying_4 (by decide) ?_
  refine lv_icmp_eq (tgt := 12) hx hb dX1_isFlying_5 (by decide) (fun c_5 => ?_) (fun c_5 => ?_)
  · skip
    refine lv_iconst (v := 0) hx hb dX1_isFlying_12 (by decide) ?_
    exact W.zret (v := 0) hx hb hr rfl (fun t ht _ => ⟨_, rfl, (bi_f (fun h => h c_5)).symm, ht⟩) (fun q hq => absurd hq List.not_mem_nil) dX1_isFlying_13
  · skip
    refine lv_iconst (v := 1) hx hb dX1_isFlying_8 (by decide) ?_
    refine lv_goto (tgt := 13) hx hb dX1_isFlying_9 (by decide) ?_
    exact W.zret (v := 1) hx hb hr rfl (fun t ht _ => ⟨_, rfl, (bi_t c_5).symm, ht⟩) (fun q hq => absurd hq List.not_mem_nil) dX1_isFlying_13

set_option maxHeartbeats 4000000 in
set_option maxRecDepth 100000 in
theorem c_X1_isLendable (l : Launch) (dC : Nat → ClassId) (dI : Nat → Nat → Nat) (q k : Nat) (F : Rows) : Met l yX1_isLendable wsX1_isLendable ({ frames := 0, cells := 0, slots := 0, locals := 0 }) (va_Pc [.ref q] (PRo dC dI [] [(q, kE F k)])) (vp_Si (fun r9 => r9 = bi (F 5 k = -1 ∧ F 3 k = 0 ∧ F 4 k = 0))) 0 0 (fun _ => False) := by
  refine Met.ofW (cc := cX1_isLendable) (maxL := 1) (ret := (some .boolean)) (by decide) rfl ?_
  intro p e s m args below meth c s₁ B hml hv
  obtain ⟨rfl, hP, hK, hE⟩ := hv
  have hx := B.exec
  have hb := B.bytes
  have hr := B.returns
  have hts := atoms_spec (ws := wsX1_isLendable) B.pre
  have hown : s.vm.findClass RX1 = some m.cls := findClass_of_methodNamed B.named
  have hlocks := B.notSynchronized
  have hP : va_P (dC, dI) vwCl [(q, kE F k)] s.heap := hP
  have hi1 : ∀ w ∈ u_ws RX1 TX1 9, w ∈ wsX1_isLendable := by decide +kernel
  have lk24 := hts (.fieldLink RX1 24 "Windlane$Kite" "borrower" "I") (by decide +kernel)
  have lk30 := hts (.fieldLink RX1 30 "Windlane$Kite" "isTorn" "Z") (by decide +kernel)
  have lk34 := hts (.fieldLink RX1 34 "Windlane$Kite" "wetHours" "I") (by decide +kernel)
  have hl := lv_entry ([.ref q]) (n := 1) (Nat.le_of_ble_eq_true rfl)
  rw [lg_entry_eq]
  generalize (lg_sl ([.ref q]) ++ List.replicate (1 - (lg_sl ([.ref q])).length) Slot.unset).toArray = ls at hl ⊢
  have hl : lv_has ls 1 [(0, .ref q)] := hl
  refine lv_aload_n hx hb dX1_isLendable_0 rfl (lv_at hl 0 rfl) ?_
  refine va_get (D := (dC, dI)) (ci := 1) (v := .int (F 5 k)) (C := RX1) (T := TX1) (N := 9) hx hb hts hi1 hown hK hP 0 rfl rfl 6 (by decide) lk24 (fun _ h9 => h9) rfl dX1_isLendable_1 ?_
  refine lv_iconst (v := (-1)) hx hb dX1_isLendable_4 (by decide) ?_
  refine lv_icmp_ne (tgt := 26) hx hb dX1_isLendable_5 (by decide) (fun c_5 => ?_) (fun c_5 => ?_)
  · skip
    refine lv_iconst (v := 0) hx hb dX1_isLendable_26 (by decide) ?_
    exact W.zret (v := 0) hx hb hr rfl (fun t ht _ => ⟨_, rfl, (bi_f (fun h => c_5 h.1)).symm, ht⟩) (fun q hq => absurd hq List.not_mem_nil) dX1_isLendable_27
  · skip
    refine lv_aload_n hx hb dX1_isLendable_8 rfl (lv_at hl 0 rfl) ?_
    refine va_get (D := (dC, dI)) (ci := 1) (v := .int (F 3 k)) (C := RX1) (T := TX1) (N := 9) hx hb hts hi1 hown hK hP 0 rfl rfl 4 (by decide) lk30 (fun _ h9 => h9) rfl dX1_isLendable_9 ?_
    refine lv_if_ne (tgt := 26) hx hb dX1_isLendable_12 (by decide) (fun c_12 => ?_) (fun c_12 => ?_)
    · skip
      refine lv_iconst (v := 0) hx hb dX1_isLendable_26 (by decide) ?_
      exact W.zret (v := 0) hx hb hr rfl (fun t ht _ => ⟨_, rfl, (bi_f (fun h => c_12 h.2.1)).symm, ht⟩) (fun q hq => absurd hq List.not_mem_nil) dX1_isLendable_27
    · skip
      refine lv_aload_n hx hb dX1_isLendable_15 rfl (lv_at hl 0 rfl) ?_
      refine va_get (D := (dC, dI)) (ci := 1) (v := .int (F 4 k)) (C := RX1) (T := TX1) (N := 9) hx hb hts hi1 hown hK hP 0 rfl rfl 5 (by decide) lk34 (fun _ h9 => h9) rfl dX1_isLendable_16 ?_
      refine lv_if_ne (tgt := 26) hx hb dX1_isLendable_19 (by decide) (fun c_19 => ?_) (fun c_19 => ?_)
      · skip
        refine lv_iconst (v := 0) hx hb dX1_isLendable_26 (by decide) ?_
        exact W.zret (v := 0) hx hb hr rfl (fun t ht _ => ⟨_, rfl, (bi_f (fun h => c_19 h.2.2)).symm, ht⟩) (fun q hq => absurd hq List.not_mem_nil) dX1_isLendable_27
      · skip
        refine lv_iconst (v := 1) hx hb dX1_isLendable_22 (by decide) ?_
        refine lv_goto (tgt := 27) hx hb dX1_isLendable_23 (by decide) ?_
        exact W.zret (v := 1) hx hb hr rfl (fun t ht _ => ⟨_, rfl, (bi_t ⟨c_5, c_12, c_19⟩).symm, ht⟩) (fun q hq => absurd hq List.not_mem_nil) dX1_isLendable_27

set_option maxHeartbeats 4000000 in
set_option maxRecDepth 100000 in
theorem c_X1_liftIn (l : Launch) (dC : Nat → ClassId) (dI : Nat → Nat → Nat) (q k : Nat) (F : Rows) (sp : Int32) (hk : F 0 k = 0 ∨ F 0 k = 1 ∨ F 0 k = 2) : Met l yX1_liftIn wsX1_liftIn ({ frames := 0, cells := 0, slots := 0, locals := 0 }) (va_Pc [.ref q, .int sp] (PRo dC dI [] [(q, kE F k)])) (vp_Si (fun r9 => r9 = lift (F 0 k) (F 1 k) sp)) 0 0 (fun _ => False) := by
  refine Met.ofW (cc := cX1_liftIn) (maxL := 2) (ret := (some .int)) (by decide) rfl ?_
  intro p e s m args below meth c s₁ B hml hv
  obtain ⟨rfl, hP, hK, hE⟩ := hv
  have hx := B.exec
  have hb := B.bytes
  have hr := B.returns
  have hts := atoms_spec (ws := wsX1_liftIn) B.pre
  have hown : s.vm.findClass RX1 = some m.cls := findClass_of_methodNamed B.named
  have hlocks := B.notSynchronized
  have hP : va_P (dC, dI) vwCl [(q, kE F k)] s.heap := hP
  have hi1 : ∀ w ∈ u_ws RX1 TX1 9, w ∈ wsX1_liftIn := by decide +kernel
  have lk15 := hts (.fieldLink RX1 15 "Windlane$Kite" "kind" "I") (by decide +kernel)
  have lk18 := hts (.fieldLink RX1 18 "Windlane$Kite" "area" "I") (by decide +kernel)
  have hl := lv_entry ([.ref q, .int sp]) (n := 2) (Nat.le_of_ble_eq_true rfl)
  rw [lg_entry_eq]
  generalize (lg_sl ([.ref q, .int sp]) ++ List.replicate (2 - (lg_sl ([.ref q, .int sp])).length) Slot.unset).toArray = ls at hl ⊢
  have hl : lv_has ls 2 [(0, .ref q), (1, .int sp)] := hl
  rcases hk with hk | hk | hk
  · skip
    refine lv_aload_n hx hb dX1_liftIn_0 rfl (lv_at hl 0 rfl) ?_
    refine va_get (D := (dC, dI)) (ci := 1) (v := .int (F 0 k)) (C := RX1) (T := TX1) (N := 9) hx hb hts hi1 hown hK hP 0 rfl rfl 1 (by decide) lk15 (fun _ h9 => h9) rfl dX1_liftIn_1 ?_
    refine W_top (y := .int 0) (congrArg Value.int hk) ?_
    refine lv_lookup (off := 28) (tgt := 32) hx hb dX1_liftIn_4 (by decide) (by decide +kernel) (by decide) ?_
    refine lv_iconst (v := 5) hx hb dX1_liftIn_32 (by decide) ?_
    refine lv_aload_n hx hb dX1_liftIn_33 rfl (lv_at hl 0 rfl) ?_
    refine va_get (D := (dC, dI)) (ci := 1) (v := .int (F 1 k)) (C := RX1) (T := TX1) (N := 9) hx hb hts hi1 hown hK hP 0 rfl rfl 2 (by decide) lk18 (fun _ h9 => h9) rfl dX1_liftIn_34 ?_
    refine lv_imul hx hb dX1_liftIn_37 ?_
    refine lv_iload_n hx hb dX1_liftIn_38 rfl (lv_at hl 1 rfl) ?_
    refine lv_imul hx hb dX1_liftIn_39 ?_
    refine lv_iload_n hx hb dX1_liftIn_40 rfl (lv_at hl 1 rfl) ?_
    refine lv_imul hx hb dX1_liftIn_41 ?_
    exact W.iret (v := ((5 * (F 1 k)) * sp) * sp) hx hb hr (fun t ht _ => ⟨_, rfl, by rw [lift, hk]; rfl, ht⟩) (fun q hq => absurd hq List.not_mem_nil) dX1_liftIn_42
  · skip
    refine lv_aload_n hx hb dX1_liftIn_0 rfl (lv_at hl 0 rfl) ?_
    refine va_get (D := (dC, dI)) (ci := 1) (v := .int (F 0 k)) (C := RX1) (T := TX1) (N := 9) hx hb hts hi1 hown hK hP 0 rfl rfl 1 (by decide) lk15 (fun _ h9 => h9) rfl dX1_liftIn_1 ?_
    refine W_top (y := .int 1) (congrArg Value.int hk) ?_
    refine lv_lookup (off := 39) (tgt := 43) hx hb dX1_liftIn_4 (by decide) (by decide +kernel) (by decide) ?_
    refine lv_bipush (v := 60) hx hb dX1_liftIn_43 (by decide) ?_
    refine lv_aload_n hx hb dX1_liftIn_45 rfl (lv_at hl 0 rfl) ?_
    refine va_get (D := (dC, dI)) (ci := 1) (v := .int (F 1 k)) (C := RX1) (T := TX1) (N := 9) hx hb hts hi1 hown hK hP 0 rfl rfl 2 (by decide) lk18 (fun _ h9 => h9) rfl dX1_liftIn_46 ?_
    refine lv_imul hx hb dX1_liftIn_49 ?_
    refine lv_iload_n hx hb dX1_liftIn_50 rfl (lv_at hl 1 rfl) ?_
    refine lv_imul hx hb dX1_liftIn_51 ?_
    exact W.iret (v := (60 * (F 1 k)) * sp) hx hb hr (fun t ht _ => ⟨_, rfl, by rw [lift, hk]; rfl, ht⟩) (fun q hq => absurd hq List.not_mem_nil) dX1_liftIn_52
  · skip
    refine lv_aload_n hx hb dX1_liftIn_0 rfl (lv_at hl 0 rfl) ?_
    refine va_get (D := (dC, dI)) (ci := 1) (v := .int (F 0 k)) (C := RX1) (T := TX1) (N := 9) hx hb hts hi1 hown hK hP 0 rfl rfl 1 (by decide) lk15 (fun _ h9 => h9) rfl dX1_liftIn_1 ?_
    refine W_top (y := .int 2) (congrArg Value.int hk) ?_
    refine lv_lookup (off := 49) (tgt := 53) hx hb dX1_liftIn_4 (by decide) (by decide +kernel) (by decide) ?_
    refine lv_bipush (v := 80) hx hb dX1_liftIn_53 (by decide) ?_
    refine lv_aload_n hx hb dX1_liftIn_55 rfl (lv_at hl 0 rfl) ?_
    refine va_get (D := (dC, dI)) (ci := 1) (v := .int (F 1 k)) (C := RX1) (T := TX1) (N := 9) hx hb hts hi1 hown hK hP 0 rfl rfl 2 (by decide) lk18 (fun _ h9 => h9) rfl dX1_liftIn_56 ?_
    refine lv_imul hx hb dX1_liftIn_59 ?_
    refine lv_iload_n hx hb dX1_liftIn_60 rfl (lv_at hl 1 rfl) ?_
    refine lv_bipush (v := 10) hx hb dX1_liftIn_61 (by decide) ?_
    refine lv_icmp_le (tgt := 71) hx hb dX1_liftIn_63 (by decide) (fun c_63 => ?_) (fun c_63 => ?_)
    · skip
      refine lv_iload_n hx hb dX1_liftIn_71 rfl (lv_at hl 1 rfl) ?_
      refine lv_imul hx hb dX1_liftIn_72 ?_
      exact W.iret (v := (80 * (F 1 k)) * sp) hx hb hr (fun t ht _ => ⟨_, rfl, by rw [lift, hk, if_neg (by decide), if_neg (by decide), if_pos c_63], ht⟩) (fun q hq => absurd hq List.not_mem_nil) dX1_liftIn_73
    · skip
      refine lv_bipush (v := 10) hx hb dX1_liftIn_66 (by decide) ?_
      refine lv_goto (tgt := 72) hx hb dX1_liftIn_68 (by decide) ?_
      refine lv_imul hx hb dX1_liftIn_72 ?_
      exact W.iret (v := (80 * (F 1 k)) * 10) hx hb hr (fun t ht _ => ⟨_, rfl, by rw [lift, hk, if_neg (by decide), if_neg (by decide), if_neg c_63], ht⟩) (fun q hq => absurd hq List.not_mem_nil) dX1_liftIn_73

set_option maxHeartbeats 4000000 in
set_option maxRecDepth 100000 in
theorem c_X1_pullIn (l : Launch) (dC : Nat → ClassId) (dI : Nat → Nat → Nat) (q k : Nat) (F : Rows) (sp : Int32) (hk : F 0 k = 0 ∨ F 0 k = 1 ∨ F 0 k = 2) : Met l yX1_pullIn wsX1_pullIn ({ frames := 1, cells := 0, slots := 0, locals := 21 }) (va_Pc [.ref q, .int sp] (PRo dC dI [] [(q, kE F k)])) (vp_Si (fun r9 => r9 = pl F k sp)) 0 0 (fun _ => False) := by
  refine Met.ofW (cc := cX1_pullIn) (maxL := 2) (ret := (some .int)) (by decide) rfl ?_
  intro p e s m args below meth c s₁ B hml hv
  obtain ⟨rfl, hP, hK, hE⟩ := hv
  have hx := B.exec
  have hb := B.bytes
  have hr := B.returns
  have hts := atoms_spec (ws := wsX1_pullIn) B.pre
  have hown : s.vm.findClass RX1 = some m.cls := findClass_of_methodNamed B.named
  have hlocks := B.notSynchronized
  have hP : va_P (dC, dI) vwCl [(q, kE F k)] s.heap := hP
  have hi1 : ∀ w ∈ u_ws RX1 TX1 9, w ∈ wsX1_pullIn := by decide +kernel
  have lk21 := hts (.fieldLink RX1 21 "Windlane$Kite" "weight" "I") (by decide +kernel)
  have hl := lv_entry ([.ref q, .int sp]) (n := 2) (Nat.le_of_ble_eq_true rfl)
  rw [lg_entry_eq]
  generalize (lg_sl ([.ref q, .int sp]) ++ List.replicate (2 - (lg_sl ([.ref q, .int sp])).length) Slot.unset).toArray = ls at hl ⊢
  have hl : lv_has ls 2 [(0, .ref q), (1, .int sp)] := hl
  refine lv_aload_n hx hb dX1_pullIn_0 rfl (lv_at hl 0 rfl) ?_
  refine lv_iload_n hx hb dX1_pullIn_1 rfl (lv_at hl 1 rfl) ?_
  refine vp_callSi (va_Run.run (va_runV (As := [.int sp]) (rest := []) ⟨hx, hb, hml, hown, hts⟩ (c_X1_liftIn l dC dI q k F sp hk) (cwV 1 hts gX1_pullIn_X1_liftIn rfl rfl rfl (by decide +kernel) ⟨Nat.le_of_ble_eq_true rfl, Nat.le_of_ble_eq_true rfl⟩) ⟨PRo.blind, va_recv hK hP (ci := 1) (q0 := 0) rfl rfl, PRo.pre hP hK hE⟩ rfl rfl hl.1 rfl (lv_room (Nat.le_of_ble_eq_true rfl)) dX1_pullIn_2 ⟨Nat.le_of_ble_eq_true rfl, Nat.le_of_ble_eq_true rfl⟩)) (fun r hr => ?_)
  subst hr
  refine lv_bipush (v := 100) hx hb dX1_pullIn_5 (by decide) ?_
  refine lv_aload_n hx hb dX1_pullIn_7 rfl (lv_at hl 0 rfl) ?_
  refine va_get (D := (dC, dI)) (ci := 1) (v := .int (F 2 k)) (C := RX1) (T := TX1) (N := 9) hx hb hts hi1 hown hK hP 0 rfl rfl 3 (by decide) lk21 (fun _ h9 => h9) rfl dX1_pullIn_8 ?_
  refine lv_imul hx hb dX1_pullIn_11 ?_
  refine lv_isub hx hb dX1_pullIn_12 ?_
  exact W.iret (v := (lift (F 0 k) (F 1 k) sp) - (100 * (F 2 k))) hx hb hr (fun t ht _ => ⟨_, rfl, rfl, ht⟩) (fun q hq => absurd hq List.not_mem_nil) dX1_pullIn_13

set_option maxHeartbeats 4000000 in
set_option maxRecDepth 100000 in
theorem c_X1_holdsIn (l : Launch) (dC : Nat → ClassId) (dI : Nat → Nat → Nat) (q k : Nat) (F : Rows) (sp : Int32) (hk : F 0 k = 0 ∨ F 0 k = 1 ∨ F 0 k = 2) : Met l yX1_holdsIn wsX1_holdsIn ({ frames := 2, cells := 0, slots := 0, locals := 42 }) (va_Pc [.ref q, .int sp] (PRo dC dI [] [(q, kE F k)])) (vp_Si (fun r9 => r9 = bi (held F k sp))) 0 0 (fun _ => False) := by
  refine Met.ofW (cc := cX1_holdsIn) (maxL := 2) (ret := (some .boolean)) (by decide) rfl ?_
  intro p e s m args below meth c s₁ B hml hv
  obtain ⟨rfl, hP, hK, hE⟩ := hv
  have hx := B.exec
  have hb := B.bytes
  have hr := B.returns
  have hts := atoms_spec (ws := wsX1_holdsIn) B.pre
  have hown : s.vm.findClass RX1 = some m.cls := findClass_of_methodNamed B.named
  have hlocks := B.notSynchronized
  have hP : va_P (dC, dI) vwCl [(q, kE F k)] s.heap := hP
  have hl := lv_entry ([.ref q, .int sp]) (n := 2) (Nat.le_of_ble_eq_true rfl)
  rw [lg_entry_eq]
  generalize (lg_sl ([.ref q, .int sp]) ++ List.replicate (2 - (lg_sl ([.ref q, .int sp])).length) Slot.unset).toArray = ls at hl ⊢
  have hl : lv_has ls 2 [(0, .ref q), (1, .int sp)] := hl
  refine lv_aload_n hx hb dX1_holdsIn_0 rfl (lv_at hl 0 rfl) ?_
  refine lv_iload_n hx hb dX1_holdsIn_1 rfl (lv_at hl 1 rfl) ?_
  refine vp_callSi (va_Run.run (va_runV (As := [.int sp]) (rest := []) ⟨hx, hb, hml, hown, hts⟩ (c_X1_pullIn l dC dI q k F sp hk) (cwV 1 hts gX1_holdsIn_X1_pullIn rfl rfl rfl (by decide +kernel) ⟨Nat.le_of_ble_eq_true rfl, Nat.le_of_ble_eq_true rfl⟩) ⟨PRo.blind, va_recv hK hP (ci := 1) (q0 := 0) rfl rfl, PRo.pre hP hK hE⟩ rfl rfl hl.1 rfl (lv_room (Nat.le_of_ble_eq_true rfl)) dX1_holdsIn_2 ⟨Nat.le_of_ble_eq_true rfl, Nat.le_of_ble_eq_true rfl⟩)) (fun r hr => ?_)
  subst hr
  refine lv_bipush (v := 100) hx hb dX1_holdsIn_5 (by decide) ?_
  refine lv_sipush (v := 6000) hx hb dX1_holdsIn_7 (by decide) ?_
  refine vp_callSi (va_Run.run (va_runSN (As := [.int (pl F k sp), .int 100, .int 6000]) (rest := []) ⟨hx, hb, hml, hown, hts⟩ (c_X2_isWithin l (pl F k sp) 100 6000) ⟨va_cnB 3 hts (goodIn_of _ (by decide +kernel)) rfl rfl rfl hE.1.1 (hts (.initialized RX2) (by decide +kernel)) (by decide +kernel) ⟨Nat.le_of_ble_eq_true rfl, Nat.le_of_ble_eq_true rfl⟩, hts (.static yX2_isWithin) (by decide +kernel), trivial⟩ ⟨fun a U g mk q => q, fun U hU hW => ⟨rfl, trivial⟩⟩ rfl rfl hl.1 rfl (lv_room (Nat.le_of_ble_eq_true rfl)) dX1_holdsIn_10 ⟨Nat.le_of_ble_eq_true rfl, Nat.le_of_ble_eq_true rfl⟩)) (fun r hr => ?_)
  subst hr
  exact W.zret (v := bi (held F k sp)) hx hb hr (nar_01 (bi_01 _)) (fun t ht _ => ⟨_, rfl, rfl, ht⟩) (fun q hq => absurd hq List.not_mem_nil) dX1_holdsIn_13

set_option maxHeartbeats 4000000 in
set_option maxRecDepth 100000 in
theorem c_X1_isReadyIn (l : Launch) (dC : Nat → ClassId) (dI : Nat → Nat → Nat) (q k : Nat) (F : Rows) (sp : Int32) (hk : F 0 k = 0 ∨ F 0 k = 1 ∨ F 0 k = 2) : Met l yX1_isReadyIn wsX1_isReadyIn ({ frames := 3, cells := 0, slots := 0, locals := 63 }) (va_Pc [.ref q, .int sp] (PRo dC dI [] [(q, kE F k)])) (vp_Si (fun r9 => r9 = bi (¬ F 5 k = -1 ∧ F 3 k = 0 ∧ F 6 k = -1 ∧ held F k sp))) 0 0 (fun _ => False) := by
  refine Met.ofW (cc := cX1_isReadyIn) (maxL := 2) (ret := (some .boolean)) (by decide) rfl ?_
  intro p e s m args below meth c s₁ B hml hv
  obtain ⟨rfl, hP, hK, hE⟩ := hv
  have hx := B.exec
  have hb := B.bytes
  have hr := B.returns
  have hts := atoms_spec (ws := wsX1_isReadyIn) B.pre
  have hown : s.vm.findClass RX1 = some m.cls := findClass_of_methodNamed B.named
  have hlocks := B.notSynchronized
  have hP : va_P (dC, dI) vwCl [(q, kE F k)] s.heap := hP
  have hi1 : ∀ w ∈ u_ws RX1 TX1 9, w ∈ wsX1_isReadyIn := by decide +kernel
  have lk24 := hts (.fieldLink RX1 24 "Windlane$Kite" "borrower" "I") (by decide +kernel)
  have lk30 := hts (.fieldLink RX1 30 "Windlane$Kite" "isTorn" "Z") (by decide +kernel)
  have hl := lv_entry ([.ref q, .int sp]) (n := 2) (Nat.le_of_ble_eq_true rfl)
  rw [lg_entry_eq]
  generalize (lg_sl ([.ref q, .int sp]) ++ List.replicate (2 - (lg_sl ([.ref q, .int sp])).length) Slot.unset).toArray = ls at hl ⊢
  have hl : lv_has ls 2 [(0, .ref q), (1, .int sp)] := hl
  refine lv_aload_n hx hb dX1_isReadyIn_0 rfl (lv_at hl 0 rfl) ?_
  refine va_get (D := (dC, dI)) (ci := 1) (v := .int (F 5 k)) (C := RX1) (T := TX1) (N := 9) hx hb hts hi1 hown hK hP 0 rfl rfl 6 (by decide) lk24 (fun _ h9 => h9) rfl dX1_isReadyIn_1 ?_
  refine lv_iconst (v := (-1)) hx hb dX1_isReadyIn_4 (by decide) ?_
  refine lv_icmp_eq (tgt := 34) hx hb dX1_isReadyIn_5 (by decide) (fun c_5 => ?_) (fun c_5 => ?_)
  · skip
    refine lv_iconst (v := 0) hx hb dX1_isReadyIn_34 (by decide) ?_
    exact W.zret (v := 0) hx hb hr rfl (fun t ht _ => ⟨_, rfl, (bi_f (fun h => h.1 c_5)).symm, ht⟩) (fun q hq => absurd hq List.not_mem_nil) dX1_isReadyIn_35
  · skip
    refine lv_aload_n hx hb dX1_isReadyIn_8 rfl (lv_at hl 0 rfl) ?_
    refine va_get (D := (dC, dI)) (ci := 1) (v := .int (F 3 k)) (C := RX1) (T := TX1) (N := 9) hx hb hts hi1 hown hK hP 0 rfl rfl 4 (by decide) lk30 (fun _ h9 => h9) rfl dX1_isReadyIn_9 ?_
    refine lv_if_ne (tgt := 34) hx hb dX1_isReadyIn_12 (by decide) (fun c_12 => ?_) (fun c_12 => ?_)
    · skip
      refine lv_iconst (v := 0) hx hb dX1_isReadyIn_34 (by decide) ?_
      exact W.zret (v := 0) hx hb hr rfl (fun t ht _ => ⟨_, rfl, (bi_f (fun h => c_12 h.2.1)).symm, ht⟩) (fun q hq => absurd hq List.not_mem_nil) dX1_isReadyIn_35
    · skip
      refine lv_aload_n hx hb dX1_isReadyIn_15 rfl (lv_at hl 0 rfl) ?_
      refine vp_callSi (va_Run.run (va_runV (As := []) (rest := []) ⟨hx, hb, hml, hown, hts⟩ (c_X1_isFlying l dC dI q k F) (cwV 0 hts gX1_isReadyIn_X1_isFlying rfl rfl rfl (by decide +kernel) ⟨Nat.le_of_ble_eq_true rfl, Nat.le_of_ble_eq_true rfl⟩) ⟨PRo.blind, va_recv hK hP (ci := 1) (q0 := 0) rfl rfl, PRo.pre hP hK hE⟩ rfl rfl hl.1 rfl (lv_room (Nat.le_of_ble_eq_true rfl)) dX1_isReadyIn_16 ⟨Nat.le_of_ble_eq_true rfl, Nat.le_of_ble_eq_true rfl⟩)) (fun r hr => ?_)
      subst hr
      refine lv_if_ne (tgt := 34) hx hb dX1_isReadyIn_19 (by decide) (fun c_19 => ?_) (fun c_19 => ?_)
      · skip
        have c_19 := bi_nz.mp c_19
        refine lv_iconst (v := 0) hx hb dX1_isReadyIn_34 (by decide) ?_
        exact W.zret (v := 0) hx hb hr rfl (fun t ht _ => ⟨_, rfl, (bi_f (fun h => c_19 h.2.2.1)).symm, ht⟩) (fun q hq => absurd hq List.not_mem_nil) dX1_isReadyIn_35
      · skip
        have c_19 := bi_z.mp c_19
        refine lv_aload_n hx hb dX1_isReadyIn_22 rfl (lv_at hl 0 rfl) ?_
        refine lv_iload_n hx hb dX1_isReadyIn_23 rfl (lv_at hl 1 rfl) ?_
        refine vp_callSi (va_Run.run (va_runV (As := [.int sp]) (rest := []) ⟨hx, hb, hml, hown, hts⟩ (c_X1_holdsIn l dC dI q k F sp hk) (cwV 1 hts gX1_isReadyIn_X1_holdsIn rfl rfl rfl (by decide +kernel) ⟨Nat.le_of_ble_eq_true rfl, Nat.le_of_ble_eq_true rfl⟩) ⟨PRo.blind, va_recv hK hP (ci := 1) (q0 := 0) rfl rfl, PRo.pre hP hK hE⟩ rfl rfl hl.1 rfl (lv_room (Nat.le_of_ble_eq_true rfl)) dX1_isReadyIn_24 ⟨Nat.le_of_ble_eq_true rfl, Nat.le_of_ble_eq_true rfl⟩)) (fun r hr => ?_)
        subst hr
        refine lv_if_eq (tgt := 34) hx hb dX1_isReadyIn_27 (by decide) (fun c_27 => ?_) (fun c_27 => ?_)
        · skip
          have c_27 := bi_z.mp c_27
          refine lv_iconst (v := 0) hx hb dX1_isReadyIn_34 (by decide) ?_
          exact W.zret (v := 0) hx hb hr rfl (fun t ht _ => ⟨_, rfl, (bi_f (fun h => c_27 h.2.2.2)).symm, ht⟩) (fun q hq => absurd hq List.not_mem_nil) dX1_isReadyIn_35
        · skip
          have c_27 := bi_nz.mp c_27
          refine lv_iconst (v := 1) hx hb dX1_isReadyIn_30 (by decide) ?_
          refine lv_goto (tgt := 35) hx hb dX1_isReadyIn_31 (by decide) ?_
          exact W.zret (v := 1) hx hb hr rfl (fun t ht _ => ⟨_, rfl, (bi_t ⟨c_5, c_12, Decidable.not_not.mp c_19, c_27⟩).symm, ht⟩) (fun q hq => absurd hq List.not_mem_nil) dX1_isReadyIn_35

set_option maxHeartbeats 4000000 in
set_option maxRecDepth 100000 in
theorem c_X1_endAt (l : Launch) (dC : Nat → ClassId) (dI : Nat → Nat → Nat) (q k : Nat) (F : Rows) (ln len sp sd : Int32) (hk : F 0 k = 0 ∨ F 0 k = 1 ∨ F 0 k = 2) (hst : ¬ 1000 + pl F k sp ≤ 0) : Met l yX1_endAt wsX1_endAt ({ frames := 2, cells := 0, slots := 0, locals := 42 }) (va_Pc [.ref q, .int ln, .int len, .int sp, .int sd] (PRo dC dI [] [(q, kE F k)])) (vp_Si (fun r9 => r9 = 100 * ln + sd * len * 1000 / (1000 + pl F k sp))) 0 0 (fun _ => False) := by
  refine Met.ofW (cc := cX1_endAt) (maxL := 7) (ret := (some .int)) (by decide) rfl ?_
  intro p e s m args below meth c s₁ B hml hv
  obtain ⟨rfl, hP, hK, hE⟩ := hv
  have hx := B.exec
  have hb := B.bytes
  have hr := B.returns
  have hts := atoms_spec (ws := wsX1_endAt) B.pre
  have hown : s.vm.findClass RX1 = some m.cls := findClass_of_methodNamed B.named
  have hlocks := B.notSynchronized
  have hP : va_P (dC, dI) vwCl [(q, kE F k)] s.heap := hP
  have hl := lv_entry ([.ref q, .int ln, .int len, .int sp, .int sd]) (n := 7) (Nat.le_of_ble_eq_true rfl)
  rw [lg_entry_eq]
  generalize (lg_sl ([.ref q, .int ln, .int len, .int sp, .int sd]) ++ List.replicate (7 - (lg_sl ([.ref q, .int ln, .int len, .int sp, .int sd])).length) Slot.unset).toArray = ls at hl ⊢
  have hl : lv_has ls 7 [(0, .ref q), (1, .int ln), (2, .int len), (3, .int sp), (4, .int sd)] := hl
  refine lv_sipush (v := 1000) hx hb dX1_endAt_0 (by decide) ?_
  refine lv_aload_n hx hb dX1_endAt_3 rfl (lv_at hl 0 rfl) ?_
  refine lv_iload_n hx hb dX1_endAt_4 rfl (lv_at hl 3 rfl) ?_
  refine vp_callSi (va_Run.run (va_runV (As := [.int sp]) (rest := [.int 1000]) ⟨hx, hb, hml, hown, hts⟩ (c_X1_pullIn l dC dI q k F sp hk) (cwV 1 hts gX1_endAt_X1_pullIn rfl rfl rfl (by decide +kernel) ⟨Nat.le_of_ble_eq_true rfl, Nat.le_of_ble_eq_true rfl⟩) ⟨PRo.blind, va_recv hK hP (ci := 1) (q0 := 0) rfl rfl, PRo.pre hP hK hE⟩ rfl rfl hl.1 rfl (lv_room (Nat.le_of_ble_eq_true rfl)) dX1_endAt_5 ⟨Nat.le_of_ble_eq_true rfl, Nat.le_of_ble_eq_true rfl⟩)) (fun r hr => ?_)
  subst hr
  refine lv_iadd hx hb dX1_endAt_8 ?_
  refine lv_istore (lv' := [(5, .int (1000 + (pl F k sp))), (0, .ref q), (1, .int ln), (2, .int len), (3, .int sp), (4, .int sd)]) hx hb dX1_endAt_9 hl (by decide) rfl (fun ls hl => ?_)
  refine lv_iload hx hb dX1_endAt_11 (lv_at hl 0 rfl) ?_
  refine lv_if_le (tgt := 30) hx hb dX1_endAt_13 (by decide) (fun c_13 => absurd c_13 (hst)) (fun _ => ?_)
  refine lv_iload hx hb dX1_endAt_16 (lv_at hl 5 rfl) ?_
  refine lv_iload_n hx hb dX1_endAt_18 rfl (lv_at hl 3 rfl) ?_
  refine lv_imul hx hb dX1_endAt_19 ?_
  refine lv_sipush (v := 1000) hx hb dX1_endAt_20 (by decide) ?_
  refine lv_imul hx hb dX1_endAt_23 ?_
  refine lv_iload hx hb dX1_endAt_24 (lv_at hl 0 rfl) ?_
  refine lv_idiv hx hb dX1_endAt_26 (fun h => by rw [h] at hst; exact hst (by decide)) ?_
  refine lv_goto (tgt := 31) hx hb dX1_endAt_27 (by decide) ?_
  refine lv_istore (lv' := [(6, .int (((sd * len) * 1000) / (1000 + (pl F k sp)))), (5, .int (1000 + (pl F k sp))), (0, .ref q), (1, .int ln), (2, .int len), (3, .int sp), (4, .int sd)]) hx hb dX1_endAt_31 hl (by decide) rfl (fun ls hl => ?_)
  refine lv_bipush (v := 100) hx hb dX1_endAt_33 (by decide) ?_
  refine lv_iload_n hx hb dX1_endAt_35 rfl (lv_at hl 3 rfl) ?_
  refine lv_imul hx hb dX1_endAt_36 ?_
  refine lv_iload hx hb dX1_endAt_37 (lv_at hl 0 rfl) ?_
  refine lv_iadd hx hb dX1_endAt_39 ?_
  exact W.iret (v := (100 * ln) + (((sd * len) * 1000) / (1000 + (pl F k sp)))) hx hb hr (fun t ht _ => ⟨_, rfl, rfl, ht⟩) (fun q hq => absurd hq List.not_mem_nil) dX1_endAt_40

set_option maxHeartbeats 4000000 in
set_option maxRecDepth 100000 in
theorem c_X1_endIn (l : Launch) (dC : Nat → ClassId) (dI : Nat → Nat → Nat) (q k : Nat) (F : Rows) (sp sd : Int32) (hk : F 0 k = 0 ∨ F 0 k = 1 ∨ F 0 k = 2) (hst : ¬ 1000 + pl F k sp ≤ 0) : Met l yX1_endIn wsX1_endIn ({ frames := 3, cells := 0, slots := 0, locals := 68 }) (va_Pc [.ref q, .int sp, .int sd] (PRo dC dI [] [(q, kE F k)])) (vp_Si (fun r9 => r9 = 100 * F 6 k + sd * F 7 k * 1000 / (1000 + pl F k sp))) 0 0 (fun _ => False) := by
  refine Met.ofW (cc := cX1_endIn) (maxL := 3) (ret := (some .int)) (by decide) rfl ?_
  intro p e s m args below meth c s₁ B hml hv
  obtain ⟨rfl, hP, hK, hE⟩ := hv
  have hx := B.exec
  have hb := B.bytes
  have hr := B.returns
  have hts := atoms_spec (ws := wsX1_endIn) B.pre
  have hown : s.vm.findClass RX1 = some m.cls := findClass_of_methodNamed B.named
  have hlocks := B.notSynchronized
  have hP : va_P (dC, dI) vwCl [(q, kE F k)] s.heap := hP
  have hi1 : ∀ w ∈ u_ws RX1 TX1 9, w ∈ wsX1_endIn := by decide +kernel
  have lk27 := hts (.fieldLink RX1 27 "Windlane$Kite" "lane" "I") (by decide +kernel)
  have lk60 := hts (.fieldLink RX1 60 "Windlane$Kite" "length" "I") (by decide +kernel)
  have hl := lv_entry ([.ref q, .int sp, .int sd]) (n := 3) (Nat.le_of_ble_eq_true rfl)
  rw [lg_entry_eq]
  generalize (lg_sl ([.ref q, .int sp, .int sd]) ++ List.replicate (3 - (lg_sl ([.ref q, .int sp, .int sd])).length) Slot.unset).toArray = ls at hl ⊢
  have hl : lv_has ls 3 [(0, .ref q), (1, .int sp), (2, .int sd)] := hl
  refine lv_aload_n hx hb dX1_endIn_0 rfl (lv_at hl 0 rfl) ?_
  refine lv_aload_n hx hb dX1_endIn_1 rfl (lv_at hl 0 rfl) ?_
  refine va_get (D := (dC, dI)) (ci := 1) (v := .int (F 6 k)) (C := RX1) (T := TX1) (N := 9) hx hb hts hi1 hown hK hP 0 rfl rfl 7 (by decide) lk27 (fun _ h9 => h9) rfl dX1_endIn_2 ?_
  refine lv_aload_n hx hb dX1_endIn_5 rfl (lv_at hl 0 rfl) ?_
  refine va_get (D := (dC, dI)) (ci := 1) (v := .int (F 7 k)) (C := RX1) (T := TX1) (N := 9) hx hb hts hi1 hown hK hP 0 rfl rfl 8 (by decide) lk60 (fun _ h9 => h9) rfl dX1_endIn_6 ?_
  refine lv_iload_n hx hb dX1_endIn_9 rfl (lv_at hl 1 rfl) ?_
  refine lv_iload_n hx hb dX1_endIn_10 rfl (lv_at hl 2 rfl) ?_
  refine vp_callSi (va_Run.run (va_runV (As := [.int (F 6 k), .int (F 7 k), .int sp, .int sd]) (rest := []) ⟨hx, hb, hml, hown, hts⟩ (c_X1_endAt l dC dI q k F (F 6 k) (F 7 k) sp sd hk hst) (cwV 4 hts gX1_endIn_X1_endAt rfl rfl rfl (by decide +kernel) ⟨Nat.le_of_ble_eq_true rfl, Nat.le_of_ble_eq_true rfl⟩) ⟨PRo.blind, va_recv hK hP (ci := 1) (q0 := 0) rfl rfl, PRo.pre hP hK hE⟩ rfl rfl hl.1 rfl (lv_room (Nat.le_of_ble_eq_true rfl)) dX1_endIn_11 ⟨Nat.le_of_ble_eq_true rfl, Nat.le_of_ble_eq_true rfl⟩)) (fun r hr => ?_)
  subst hr
  exact W.iret (v := 100 * F 6 k + sd * F 7 k * 1000 / (1000 + pl F k sp)) hx hb hr (fun t ht _ => ⟨_, rfl, rfl, ht⟩) (fun q hq => absurd hq List.not_mem_nil) dX1_endIn_14
