/-! ===== the reference: what it asks of itself ===== -/
set_option maxHeartbeats 4000000 in
set_option maxRecDepth 100000 in
theorem c_X3_isIn (l9 : Launch) (v lo hi : Int32) : Met l9 yX3_isIn wsX3_isIn ({ frames := 0, cells := 0, slots := 0, locals := 0 }) (va_Pc [.int v, .int lo, .int hi] (fun _ => True)) (vp_Si (fun r9 => r9 = bi (lo ≤ v ∧ v ≤ hi))) 0 0 (fun _ => False) := by
  refine Met.ofW (cc := cX3_isIn) (maxL := 3) (ret := (some .boolean)) (by decide) rfl ?_
  intro p e s m args below meth c s₁ B hml hv
  obtain ⟨rfl, -⟩ := hv
  have hx := B.exec
  have hb := B.bytes
  have hr := B.returns
  have hts := atoms_spec (ws := wsX3_isIn) B.pre
  have hown : s.vm.findClass RX3 = some m.cls := findClass_of_methodNamed B.named
  have hlocks := B.notSynchronized
  have hl := lv_entry ([.int v, .int lo, .int hi]) (n := 3) (Nat.le_of_ble_eq_true rfl)
  rw [lg_entry_eq]
  generalize (lg_sl ([.int v, .int lo, .int hi]) ++ List.replicate (3 - (lg_sl ([.int v, .int lo, .int hi])).length) Slot.unset).toArray = ls at hl ⊢
  have hl : lv_has ls 3 [(0, .int v), (1, .int lo), (2, .int hi)] := hl
  refine lv_iload_n hx hb dX3_isIn_0 rfl (lv_at hl 0 rfl) ?_
  refine lv_iload_n hx hb dX3_isIn_1 rfl (lv_at hl 1 rfl) ?_
  refine lv_icmp_lt (tgt := 14) hx hb dX3_isIn_2 (by decide) (fun c_2 => ?_) (fun c_2 => ?_)
  · skip
    refine lv_iconst (v := 0) hx hb dX3_isIn_14 (by decide) ?_
    exact W.zret (v := 0) hx hb hr rfl (fun t ht _ => ⟨_, rfl, (bi_f (fun q => by rw [i32_lt] at c_2; have := q.1; rw [i32_le] at this; omega)).symm, ht⟩) (fun q hq => absurd hq List.not_mem_nil) dX3_isIn_15
  · skip
    refine lv_iload_n hx hb dX3_isIn_5 rfl (lv_at hl 0 rfl) ?_
    refine lv_iload_n hx hb dX3_isIn_6 rfl (lv_at hl 2 rfl) ?_
    refine lv_icmp_gt (tgt := 14) hx hb dX3_isIn_7 (by decide) (fun c_7 => ?_) (fun c_7 => ?_)
    · skip
      refine lv_iconst (v := 0) hx hb dX3_isIn_14 (by decide) ?_
      exact W.zret (v := 0) hx hb hr rfl (fun t ht _ => ⟨_, rfl, (bi_f (fun q => by rw [i32_lt] at c_7; have := q.2; rw [i32_le] at this; omega)).symm, ht⟩) (fun q hq => absurd hq List.not_mem_nil) dX3_isIn_15
    · skip
      refine lv_iconst (v := 1) hx hb dX3_isIn_10 (by decide) ?_
      refine lv_goto (tgt := 15) hx hb dX3_isIn_11 (by decide) ?_
      exact W.zret (v := 1) hx hb hr rfl (fun t ht _ => ⟨_, rfl, (bi_t ⟨by rw [i32_le]; rw [i32_lt] at c_2; omega, by rw [i32_le]; rw [i32_lt] at c_7; omega⟩).symm, ht⟩) (fun q hq => absurd hq List.not_mem_nil) dX3_isIn_15

set_option maxHeartbeats 4000000 in
set_option maxRecDepth 100000 in
theorem c_X3_isLane (l9 : Launch) (v : Int32) : Met l9 yX3_isLane wsX3_isLane ({ frames := 1, cells := 0, slots := 0, locals := 22 }) (va_Pc [.int v] (fun _ => True)) (vp_Si (fun r9 => r9 = bi (inR 10 v))) 0 0 (fun _ => False) := by
  refine Met.ofW (cc := cX3_isLane) (maxL := 1) (ret := (some .boolean)) (by decide) rfl ?_
  intro p e s m args below meth c s₁ B hml hv
  obtain ⟨rfl, -⟩ := hv
  have hx := B.exec
  have hb := B.bytes
  have hr := B.returns
  have hts := atoms_spec (ws := wsX3_isLane) B.pre
  have hown : s.vm.findClass RX3 = some m.cls := findClass_of_methodNamed B.named
  have hlocks := B.notSynchronized
  have hl := lv_entry ([.int v]) (n := 1) (Nat.le_of_ble_eq_true rfl)
  rw [lg_entry_eq]
  generalize (lg_sl ([.int v]) ++ List.replicate (1 - (lg_sl ([.int v])).length) Slot.unset).toArray = ls at hl ⊢
  have hl : lv_has ls 1 [(0, .int v)] := hl
  refine lv_iload_n hx hb dX3_isLane_0 rfl (lv_at hl 0 rfl) ?_
  refine lv_iconst (v := 0) hx hb dX3_isLane_1 (by decide) ?_
  refine lv_bipush (v := 9) hx hb dX3_isLane_2 (by decide) ?_
  refine vp_callSi (va_Run.run (va_runS (As := [.int v, .int 0, .int 9]) (rest := []) ⟨hx, hb, hml, hown, hts⟩ (c_X3_isIn l9 v 0 9) (va_cwS 3 hts gX3_isLane_X3_isIn rfl rfl rfl (by decide +kernel) ⟨Nat.le_of_ble_eq_true rfl, Nat.le_of_ble_eq_true rfl⟩) ⟨fun a U g mk q => q, fun U hU hW => ⟨rfl, trivial⟩⟩ rfl rfl hl.1 rfl (lv_room (Nat.le_of_ble_eq_true rfl)) dX3_isLane_4 ⟨Nat.le_of_ble_eq_true rfl, Nat.le_of_ble_eq_true rfl⟩)) (fun r hr => ?_)
  subst hr
  exact W.zret (v := bi (0 ≤ v ∧ v ≤ 9)) hx hb hr (nar_01 (bi_01 _)) (fun t ht _ => ⟨_, rfl, bi_iff (inR_lit (by decide) v), ht⟩) (fun q hq => absurd hq List.not_mem_nil) dX3_isLane_7

set_option maxHeartbeats 4000000 in
set_option maxRecDepth 100000 in
theorem c_X3_isKite (l9 : Launch) (dC : Nat → ClassId) (dI : Nat → Nat → Nat) {cI cZ : ClassId} (h : Nat) (a : Nat → Nat) (th : Int32) (n p : Nat) (F : Rows) (x : Int32) (hc8 : n ≤ 8) : Met l9 yX3_isKite wsX3_isKite ({ frames := 1, cells := 0, slots := 0, locals := 22 }) (va_Pc [.ref h, .int x] (PRo dC dI [(cI, .int), (cZ, .boolean)] (rW cI cZ h a th n p F))) (vp_Si (fun r9 => r9 = bi (inR n x))) 0 0 (fun _ => False) := by
  refine Met.ofW (cc := cX3_isKite) (maxL := 2) (ret := (some .boolean)) (by decide) rfl ?_
  intro p9 e9 s m args below meth c s₁ B hml hv
  obtain ⟨rfl, hP, hK, hE⟩ := hv
  have hx := B.exec
  have hb := B.bytes
  have hr := B.returns
  have hts := atoms_spec (ws := wsX3_isKite) B.pre
  have hown : s.vm.findClass RX3 = some m.cls := findClass_of_methodNamed B.named
  have hlocks := B.notSynchronized
  have hi3 : ∀ w ∈ u_ws RX3 TX3 16, w ∈ wsX3_isKite := by decide +kernel
  have lk42 := hts (.fieldLink RX3 42 "WindlaneModel" "kites" "I") (by decide +kernel)
  have hP : va_P (dC, dI) vwCl (rW cI cZ h a th n p F) s.heap := hP
  have hl := lv_entry ([.ref h, .int x]) (n := 2) (Nat.le_of_ble_eq_true rfl)
  rw [lg_entry_eq]
  generalize (lg_sl ([.ref h, .int x]) ++ List.replicate (2 - (lg_sl ([.ref h, .int x])).length) Slot.unset).toArray = ls at hl ⊢
  have hl : lv_has ls 2 [(0, .ref h), (1, .int x)] := hl
  refine lv_iload_n hx hb dX3_isKite_0 rfl (lv_at hl 1 rfl) ?_
  refine lv_iconst (v := 0) hx hb dX3_isKite_1 (by decide) ?_
  refine lv_aload_n hx hb dX3_isKite_2 rfl (lv_at hl 0 rfl) ?_
  refine va_get (D := (dC, dI)) (ci := 3) (v := .int (nI n)) (C := RX3) (T := TX3) (N := 16) hx hb hts hi3 hown hK hP 0 rfl rfl 1 (by decide) lk42 (fun _ h9 => h9) rfl dX3_isKite_3 ?_
  refine lv_iconst (v := 1) hx hb dX3_isKite_6 (by decide) ?_
  refine lv_isub hx hb dX3_isKite_7 ?_
  refine vp_callSi (va_Run.run (va_runS (As := [.int x, .int 0, .int ((nI n) - 1)]) (rest := []) ⟨hx, hb, hml, hown, hts⟩ (c_X3_isIn l9 x 0 ((nI n) - 1)) (va_cwS 3 hts gX3_isKite_X3_isIn rfl rfl rfl (by decide +kernel) ⟨Nat.le_of_ble_eq_true rfl, Nat.le_of_ble_eq_true rfl⟩) ⟨fun a U g mk q => q, fun U hU hW => ⟨rfl, trivial⟩⟩ rfl rfl hl.1 rfl (lv_room (Nat.le_of_ble_eq_true rfl)) dX3_isKite_8 ⟨Nat.le_of_ble_eq_true rfl, Nat.le_of_ble_eq_true rfl⟩)) (fun r hr => ?_)
  subst hr
  exact W.zret (v := bi (0 ≤ x ∧ x ≤ (nI n) - 1)) hx hb hr (nar_01 (bi_01 _)) (fun t ht _ => ⟨_, rfl, bi_iff (inR_iff (by omega) x), ht⟩) (fun q hq => absurd hq List.not_mem_nil) dX3_isKite_11

set_option maxHeartbeats 4000000 in
set_option maxRecDepth 100000 in
theorem c_X3_isPerson (l9 : Launch) (dC : Nat → ClassId) (dI : Nat → Nat → Nat) {cI cZ : ClassId} (h : Nat) (a : Nat → Nat) (th : Int32) (n p : Nat) (F : Rows) (x : Int32) (hc8 : p ≤ 8) : Met l9 yX3_isPerson wsX3_isPerson ({ frames := 1, cells := 0, slots := 0, locals := 22 }) (va_Pc [.ref h, .int x] (PRo dC dI [(cI, .int), (cZ, .boolean)] (rW cI cZ h a th n p F))) (vp_Si (fun r9 => r9 = bi (inR p x))) 0 0 (fun _ => False) := by
  refine Met.ofW (cc := cX3_isPerson) (maxL := 2) (ret := (some .boolean)) (by decide) rfl ?_
  intro p9 e9 s m args below meth c s₁ B hml hv
  obtain ⟨rfl, hP, hK, hE⟩ := hv
  have hx := B.exec
  have hb := B.bytes
  have hr := B.returns
  have hts := atoms_spec (ws := wsX3_isPerson) B.pre
  have hown : s.vm.findClass RX3 = some m.cls := findClass_of_methodNamed B.named
  have hlocks := B.notSynchronized
  have hi3 : ∀ w ∈ u_ws RX3 TX3 16, w ∈ wsX3_isPerson := by decide +kernel
  have lk49 := hts (.fieldLink RX3 49 "WindlaneModel" "people" "I") (by decide +kernel)
  have hP : va_P (dC, dI) vwCl (rW cI cZ h a th n p F) s.heap := hP
  have hl := lv_entry ([.ref h, .int x]) (n := 2) (Nat.le_of_ble_eq_true rfl)
  rw [lg_entry_eq]
  generalize (lg_sl ([.ref h, .int x]) ++ List.replicate (2 - (lg_sl ([.ref h, .int x])).length) Slot.unset).toArray = ls at hl ⊢
  have hl : lv_has ls 2 [(0, .ref h), (1, .int x)] := hl
  refine lv_iload_n hx hb dX3_isPerson_0 rfl (lv_at hl 1 rfl) ?_
  refine lv_iconst (v := 0) hx hb dX3_isPerson_1 (by decide) ?_
  refine lv_aload_n hx hb dX3_isPerson_2 rfl (lv_at hl 0 rfl) ?_
  refine va_get (D := (dC, dI)) (ci := 3) (v := .int (nI p)) (C := RX3) (T := TX3) (N := 16) hx hb hts hi3 hown hK hP 0 rfl rfl 10 (by decide) lk49 (fun _ h9 => h9) rfl dX3_isPerson_3 ?_
  refine lv_iconst (v := 1) hx hb dX3_isPerson_6 (by decide) ?_
  refine lv_isub hx hb dX3_isPerson_7 ?_
  refine vp_callSi (va_Run.run (va_runS (As := [.int x, .int 0, .int ((nI p) - 1)]) (rest := []) ⟨hx, hb, hml, hown, hts⟩ (c_X3_isIn l9 x 0 ((nI p) - 1)) (va_cwS 3 hts gX3_isPerson_X3_isIn rfl rfl rfl (by decide +kernel) ⟨Nat.le_of_ble_eq_true rfl, Nat.le_of_ble_eq_true rfl⟩) ⟨fun a U g mk q => q, fun U hU hW => ⟨rfl, trivial⟩⟩ rfl rfl hl.1 rfl (lv_room (Nat.le_of_ble_eq_true rfl)) dX3_isPerson_8 ⟨Nat.le_of_ble_eq_true rfl, Nat.le_of_ble_eq_true rfl⟩)) (fun r hr => ?_)
  subst hr
  exact W.zret (v := bi (0 ≤ x ∧ x ≤ (nI p) - 1)) hx hb hr (nar_01 (bi_01 _)) (fun t ht _ => ⟨_, rfl, bi_iff (inR_iff (by omega) x), ht⟩) (fun q hq => absurd hq List.not_mem_nil) dX3_isPerson_11

set_option maxHeartbeats 4000000 in
set_option maxRecDepth 100000 in
theorem c_X3_pullIn (l9 : Launch) (dC : Nat → ClassId) (dI : Nat → Nat → Nat) {cI cZ : ClassId} (h : Nat) (a : Nat → Nat) (th : Int32) (n p : Nat) (F : Rows) (k : Nat) (sp : Int32) (hk8 : k < 8) (hkd : F 0 k = 0 ∨ F 0 k = 1 ∨ F 0 k = 2) : Met l9 yX3_pullIn wsX3_pullIn ({ frames := 0, cells := 0, slots := 0, locals := 0 }) (va_Pc [.ref h, .int (nI k), .int sp] (PRo dC dI [(cI, .int), (cZ, .boolean)] (rW cI cZ h a th n p F))) (vp_Si (fun r9 => r9 = pl F k sp)) 0 0 (fun _ => False) := by
  refine Met.ofW (cc := cX3_pullIn) (maxL := 4) (ret := (some .int)) (by decide) rfl ?_
  intro p9 e9 s m args below meth c s₁ B hml hv
  obtain ⟨rfl, hP, hK, hE⟩ := hv
  have hx := B.exec
  have hb := B.bytes
  have hr := B.returns
  have hts := atoms_spec (ws := wsX3_pullIn) B.pre
  have hown : s.vm.findClass RX3 = some m.cls := findClass_of_methodNamed B.named
  have hlocks := B.notSynchronized
  have hi3 : ∀ w ∈ u_ws RX3 TX3 16, w ∈ wsX3_pullIn := by decide +kernel
  have lk7 := hts (.fieldLink RX3 7 "WindlaneModel" "kind" "[I") (by decide +kernel)
  have lk13 := hts (.fieldLink RX3 13 "WindlaneModel" "area" "[I") (by decide +kernel)
  have lk16 := hts (.fieldLink RX3 16 "WindlaneModel" "weight" "[I") (by decide +kernel)
  have hP : va_P (dC, dI) vwCl (rW cI cZ h a th n p F) s.heap := hP
  have hl := lv_entry ([.ref h, .int (nI k), .int sp]) (n := 4) (Nat.le_of_ble_eq_true rfl)
  rw [lg_entry_eq]
  generalize (lg_sl ([.ref h, .int (nI k), .int sp]) ++ List.replicate (4 - (lg_sl ([.ref h, .int (nI k), .int sp])).length) Slot.unset).toArray = ls at hl ⊢
  have hl : lv_has ls 4 [(0, .ref h), (1, .int (nI k)), (2, .int sp)] := hl
  rcases hkd with hkd | hkd | hkd
  · skip
    refine lv_bipush (v := 60) hx hb dX3_pullIn_0 (by decide) ?_
    refine lv_aload_n hx hb dX3_pullIn_2 rfl (lv_at hl 0 rfl) ?_
    refine va_get (D := (dC, dI)) (ci := 3) (v := .ref (a 1)) (C := RX3) (T := TX3) (N := 16) hx hb hts hi3 hown hK hP 0 rfl rfl 3 (by decide) lk13 (fun _ h9 => h9) rfl dX3_pullIn_3 ?_
    refine lv_iload_n hx hb dX3_pullIn_6 rfl (lv_at hl 1 rfl) ?_
    refine my_iald hx hb hK hP 2 0 rfl rfl hk8 (Nat.le_of_ble_eq_true rfl) dX3_pullIn_7 ?_
    refine W_top (y := .int (F 1 k)) (rfl) ?_
    refine lv_imul hx hb dX3_pullIn_8 ?_
    refine lv_iload_n hx hb dX3_pullIn_9 rfl (lv_at hl 2 rfl) ?_
    refine lv_imul hx hb dX3_pullIn_10 ?_
    refine lv_istore_n (lv' := [(3, .int ((60 * (F 1 k)) * sp)), (0, .ref h), (1, .int (nI k)), (2, .int sp)]) hx hb dX3_pullIn_11 rfl hl (by decide) rfl (fun ls hl => ?_)
    refine lv_aload_n hx hb dX3_pullIn_12 rfl (lv_at hl 1 rfl) ?_
    refine va_get (D := (dC, dI)) (ci := 3) (v := .ref (a 0)) (C := RX3) (T := TX3) (N := 16) hx hb hts hi3 hown hK hP 0 rfl rfl 2 (by decide) lk7 (fun _ h9 => h9) rfl dX3_pullIn_13 ?_
    refine lv_iload_n hx hb dX3_pullIn_16 rfl (lv_at hl 2 rfl) ?_
    refine my_iald hx hb hK hP 1 0 rfl rfl hk8 (Nat.le_of_ble_eq_true rfl) dX3_pullIn_17 ?_
    refine W_top (y := .int (F 0 k)) (rfl) ?_
    refine W_top (y := .int 0) (congrArg Value.int hkd) ?_
    refine lv_if_ne (tgt := 34) hx hb dX3_pullIn_18 (by decide) (fun c_18 => absurd (by decide) c_18) (fun _ => ?_)
    refine lv_iconst (v := 5) hx hb dX3_pullIn_21 (by decide) ?_
    refine lv_aload_n hx hb dX3_pullIn_22 rfl (lv_at hl 1 rfl) ?_
    refine va_get (D := (dC, dI)) (ci := 3) (v := .ref (a 1)) (C := RX3) (T := TX3) (N := 16) hx hb hts hi3 hown hK hP 0 rfl rfl 3 (by decide) lk13 (fun _ h9 => h9) rfl dX3_pullIn_23 ?_
    refine lv_iload_n hx hb dX3_pullIn_26 rfl (lv_at hl 2 rfl) ?_
    refine my_iald hx hb hK hP 2 0 rfl rfl hk8 (Nat.le_of_ble_eq_true rfl) dX3_pullIn_27 ?_
    refine W_top (y := .int (F 1 k)) (rfl) ?_
    refine lv_imul hx hb dX3_pullIn_28 ?_
    refine lv_iload_n hx hb dX3_pullIn_29 rfl (lv_at hl 3 rfl) ?_
    refine lv_imul hx hb dX3_pullIn_30 ?_
    refine lv_iload_n hx hb dX3_pullIn_31 rfl (lv_at hl 3 rfl) ?_
    refine lv_imul hx hb dX3_pullIn_32 ?_
    refine lv_istore_n (lv' := [(3, .int (((5 * (F 1 k)) * sp) * sp)), (0, .ref h), (1, .int (nI k)), (2, .int sp)]) hx hb dX3_pullIn_33 rfl hl (by decide) rfl (fun ls hl => ?_)
    refine lv_aload_n hx hb dX3_pullIn_34 rfl (lv_at hl 1 rfl) ?_
    refine va_get (D := (dC, dI)) (ci := 3) (v := .ref (a 0)) (C := RX3) (T := TX3) (N := 16) hx hb hts hi3 hown hK hP 0 rfl rfl 2 (by decide) lk7 (fun _ h9 => h9) rfl dX3_pullIn_35 ?_
    refine lv_iload_n hx hb dX3_pullIn_38 rfl (lv_at hl 2 rfl) ?_
    refine my_iald hx hb hK hP 1 0 rfl rfl hk8 (Nat.le_of_ble_eq_true rfl) dX3_pullIn_39 ?_
    refine W_top (y := .int (F 0 k)) (rfl) ?_
    refine W_top (y := .int 0) (congrArg Value.int hkd) ?_
    refine lv_iconst (v := 2) hx hb dX3_pullIn_40 (by decide) ?_
    refine lv_icmp_ne (tgt := 67) hx hb dX3_pullIn_41 (by decide) (fun _ => ?_) (fun c_41 => absurd c_41 (by decide))
    refine lv_iload_n hx hb dX3_pullIn_67 rfl (lv_at hl 0 rfl) ?_
    refine lv_bipush (v := 100) hx hb dX3_pullIn_68 (by decide) ?_
    refine lv_aload_n hx hb dX3_pullIn_70 rfl (lv_at hl 1 rfl) ?_
    refine va_get (D := (dC, dI)) (ci := 3) (v := .ref (a 2)) (C := RX3) (T := TX3) (N := 16) hx hb hts hi3 hown hK hP 0 rfl rfl 4 (by decide) lk16 (fun _ h9 => h9) rfl dX3_pullIn_71 ?_
    refine lv_iload_n hx hb dX3_pullIn_74 rfl (lv_at hl 2 rfl) ?_
    refine my_iald hx hb hK hP 3 0 rfl rfl hk8 (Nat.le_of_ble_eq_true rfl) dX3_pullIn_75 ?_
    refine W_top (y := .int (F 2 k)) (rfl) ?_
    refine lv_imul hx hb dX3_pullIn_76 ?_
    refine lv_isub hx hb dX3_pullIn_77 ?_
    exact W.iret (v := (((5 * (F 1 k)) * sp) * sp) - (100 * (F 2 k))) hx hb hr (fun t ht _ => ⟨_, rfl, by unfold pl; rw [lift, if_pos hkd], ht⟩) (fun q hq => absurd hq List.not_mem_nil) dX3_pullIn_78
  · skip
    refine lv_bipush (v := 60) hx hb dX3_pullIn_0 (by decide) ?_
    refine lv_aload_n hx hb dX3_pullIn_2 rfl (lv_at hl 0 rfl) ?_
    refine va_get (D := (dC, dI)) (ci := 3) (v := .ref (a 1)) (C := RX3) (T := TX3) (N := 16) hx hb hts hi3 hown hK hP 0 rfl rfl 3 (by decide) lk13 (fun _ h9 => h9) rfl dX3_pullIn_3 ?_
    refine lv_iload_n hx hb dX3_pullIn_6 rfl (lv_at hl 1 rfl) ?_
    refine my_iald hx hb hK hP 2 0 rfl rfl hk8 (Nat.le_of_ble_eq_true rfl) dX3_pullIn_7 ?_
    refine W_top (y := .int (F 1 k)) (rfl) ?_
    refine lv_imul hx hb dX3_pullIn_8 ?_
    refine lv_iload_n hx hb dX3_pullIn_9 rfl (lv_at hl 2 rfl) ?_
    refine lv_imul hx hb dX3_pullIn_10 ?_
    refine lv_istore_n (lv' := [(3, .int ((60 * (F 1 k)) * sp)), (0, .ref h), (1, .int (nI k)), (2, .int sp)]) hx hb dX3_pullIn_11 rfl hl (by decide) rfl (fun ls hl => ?_)
    refine lv_aload_n hx hb dX3_pullIn_12 rfl (lv_at hl 1 rfl) ?_
    refine va_get (D := (dC, dI)) (ci := 3) (v := .ref (a 0)) (C := RX3) (T := TX3) (N := 16) hx hb hts hi3 hown hK hP 0 rfl rfl 2 (by decide) lk7 (fun _ h9 => h9) rfl dX3_pullIn_13 ?_
    refine lv_iload_n hx hb dX3_pullIn_16 rfl (lv_at hl 2 rfl) ?_
    refine my_iald hx hb hK hP 1 0 rfl rfl hk8 (Nat.le_of_ble_eq_true rfl) dX3_pullIn_17 ?_
    refine W_top (y := .int (F 0 k)) (rfl) ?_
    refine W_top (y := .int 1) (congrArg Value.int hkd) ?_
    refine lv_if_ne (tgt := 34) hx hb dX3_pullIn_18 (by decide) (fun _ => ?_) (fun c_18 => absurd c_18 (by decide))
    refine lv_aload_n hx hb dX3_pullIn_34 rfl (lv_at hl 1 rfl) ?_
    refine va_get (D := (dC, dI)) (ci := 3) (v := .ref (a 0)) (C := RX3) (T := TX3) (N := 16) hx hb hts hi3 hown hK hP 0 rfl rfl 2 (by decide) lk7 (fun _ h9 => h9) rfl dX3_pullIn_35 ?_
    refine lv_iload_n hx hb dX3_pullIn_38 rfl (lv_at hl 2 rfl) ?_
    refine my_iald hx hb hK hP 1 0 rfl rfl hk8 (Nat.le_of_ble_eq_true rfl) dX3_pullIn_39 ?_
    refine W_top (y := .int (F 0 k)) (rfl) ?_
    refine W_top (y := .int 1) (congrArg Value.int hkd) ?_
    refine lv_iconst (v := 2) hx hb dX3_pullIn_40 (by decide) ?_
    refine lv_icmp_ne (tgt := 67) hx hb dX3_pullIn_41 (by decide) (fun _ => ?_) (fun c_41 => absurd c_41 (by decide))
    refine lv_iload_n hx hb dX3_pullIn_67 rfl (lv_at hl 0 rfl) ?_
    refine lv_bipush (v := 100) hx hb dX3_pullIn_68 (by decide) ?_
    refine lv_aload_n hx hb dX3_pullIn_70 rfl (lv_at hl 1 rfl) ?_
    refine va_get (D := (dC, dI)) (ci := 3) (v := .ref (a 2)) (C := RX3) (T := TX3) (N := 16) hx hb hts hi3 hown hK hP 0 rfl rfl 4 (by decide) lk16 (fun _ h9 => h9) rfl dX3_pullIn_71 ?_
    refine lv_iload_n hx hb dX3_pullIn_74 rfl (lv_at hl 2 rfl) ?_
    refine my_iald hx hb hK hP 3 0 rfl rfl hk8 (Nat.le_of_ble_eq_true rfl) dX3_pullIn_75 ?_
    refine W_top (y := .int (F 2 k)) (rfl) ?_
    refine lv_imul hx hb dX3_pullIn_76 ?_
    refine lv_isub hx hb dX3_pullIn_77 ?_
    exact W.iret (v := ((60 * (F 1 k)) * sp) - (100 * (F 2 k))) hx hb hr (fun t ht _ => ⟨_, rfl, by unfold pl; rw [lift, hkd]; rfl, ht⟩) (fun q hq => absurd hq List.not_mem_nil) dX3_pullIn_78
  · skip
    refine lv_bipush (v := 60) hx hb dX3_pullIn_0 (by decide) ?_
    refine lv_aload_n hx hb dX3_pullIn_2 rfl (lv_at hl 0 rfl) ?_
    refine va_get (D := (dC, dI)) (ci := 3) (v := .ref (a 1)) (C := RX3) (T := TX3) (N := 16) hx hb hts hi3 hown hK hP 0 rfl rfl 3 (by decide) lk13 (fun _ h9 => h9) rfl dX3_pullIn_3 ?_
    refine lv_iload_n hx hb dX3_pullIn_6 rfl (lv_at hl 1 rfl) ?_
    refine my_iald hx hb hK hP 2 0 rfl rfl hk8 (Nat.le_of_ble_eq_true rfl) dX3_pullIn_7 ?_
    refine W_top (y := .int (F 1 k)) (rfl) ?_
    refine lv_imul hx hb dX3_pullIn_8 ?_
    refine lv_iload_n hx hb dX3_pullIn_9 rfl (lv_at hl 2 rfl) ?_
    refine lv_imul hx hb dX3_pullIn_10 ?_
    refine lv_istore_n (lv' := [(3, .int ((60 * (F 1 k)) * sp)), (0, .ref h), (1, .int (nI k)), (2, .int sp)]) hx hb dX3_pullIn_11 rfl hl (by decide) rfl (fun ls hl => ?_)
    refine lv_aload_n hx hb dX3_pullIn_12 rfl (lv_at hl 1 rfl) ?_
    refine va_get (D := (dC, dI)) (ci := 3) (v := .ref (a 0)) (C := RX3) (T := TX3) (N := 16) hx hb hts hi3 hown hK hP 0 rfl rfl 2 (by decide) lk7 (fun _ h9 => h9) rfl dX3_pullIn_13 ?_
    refine lv_iload_n hx hb dX3_pullIn_16 rfl (lv_at hl 2 rfl) ?_
    refine my_iald hx hb hK hP 1 0 rfl rfl hk8 (Nat.le_of_ble_eq_true rfl) dX3_pullIn_17 ?_
    refine W_top (y := .int (F 0 k)) (rfl) ?_
    refine W_top (y := .int 2) (congrArg Value.int hkd) ?_
    refine lv_if_ne (tgt := 34) hx hb dX3_pullIn_18 (by decide) (fun _ => ?_) (fun c_18 => absurd c_18 (by decide))
    refine lv_aload_n hx hb dX3_pullIn_34 rfl (lv_at hl 1 rfl) ?_
    refine va_get (D := (dC, dI)) (ci := 3) (v := .ref (a 0)) (C := RX3) (T := TX3) (N := 16) hx hb hts hi3 hown hK hP 0 rfl rfl 2 (by decide) lk7 (fun _ h9 => h9) rfl dX3_pullIn_35 ?_
    refine lv_iload_n hx hb dX3_pullIn_38 rfl (lv_at hl 2 rfl) ?_
    refine my_iald hx hb hK hP 1 0 rfl rfl hk8 (Nat.le_of_ble_eq_true rfl) dX3_pullIn_39 ?_
    refine W_top (y := .int (F 0 k)) (rfl) ?_
    refine W_top (y := .int 2) (congrArg Value.int hkd) ?_
    refine lv_iconst (v := 2) hx hb dX3_pullIn_40 (by decide) ?_
    refine lv_icmp_ne (tgt := 67) hx hb dX3_pullIn_41 (by decide) (fun c_41 => absurd (by decide) c_41) (fun _ => ?_)
    refine lv_bipush (v := 80) hx hb dX3_pullIn_44 (by decide) ?_
    refine lv_aload_n hx hb dX3_pullIn_46 rfl (lv_at hl 1 rfl) ?_
    refine va_get (D := (dC, dI)) (ci := 3) (v := .ref (a 1)) (C := RX3) (T := TX3) (N := 16) hx hb hts hi3 hown hK hP 0 rfl rfl 3 (by decide) lk13 (fun _ h9 => h9) rfl dX3_pullIn_47 ?_
    refine lv_iload_n hx hb dX3_pullIn_50 rfl (lv_at hl 2 rfl) ?_
    refine my_iald hx hb hK hP 2 0 rfl rfl hk8 (Nat.le_of_ble_eq_true rfl) dX3_pullIn_51 ?_
    refine W_top (y := .int (F 1 k)) (rfl) ?_
    refine lv_imul hx hb dX3_pullIn_52 ?_
    refine lv_iload_n hx hb dX3_pullIn_53 rfl (lv_at hl 3 rfl) ?_
    refine lv_bipush (v := 10) hx hb dX3_pullIn_54 (by decide) ?_
    refine lv_icmp_le (tgt := 64) hx hb dX3_pullIn_56 (by decide) (fun c_56 => ?_) (fun c_56 => ?_)
    · skip
      refine lv_iload_n hx hb dX3_pullIn_64 rfl (lv_at hl 3 rfl) ?_
      refine lv_imul hx hb dX3_pullIn_65 ?_
      refine lv_istore_n (lv' := [(3, .int ((80 * (F 1 k)) * sp)), (0, .ref h), (1, .int (nI k)), (2, .int sp)]) hx hb dX3_pullIn_66 rfl hl (by decide) rfl (fun ls hl => ?_)
      refine lv_iload_n hx hb dX3_pullIn_67 rfl (lv_at hl 0 rfl) ?_
      refine lv_bipush (v := 100) hx hb dX3_pullIn_68 (by decide) ?_
      refine lv_aload_n hx hb dX3_pullIn_70 rfl (lv_at hl 1 rfl) ?_
      refine va_get (D := (dC, dI)) (ci := 3) (v := .ref (a 2)) (C := RX3) (T := TX3) (N := 16) hx hb hts hi3 hown hK hP 0 rfl rfl 4 (by decide) lk16 (fun _ h9 => h9) rfl dX3_pullIn_71 ?_
      refine lv_iload_n hx hb dX3_pullIn_74 rfl (lv_at hl 2 rfl) ?_
      refine my_iald hx hb hK hP 3 0 rfl rfl hk8 (Nat.le_of_ble_eq_true rfl) dX3_pullIn_75 ?_
      refine W_top (y := .int (F 2 k)) (rfl) ?_
      refine lv_imul hx hb dX3_pullIn_76 ?_
      refine lv_isub hx hb dX3_pullIn_77 ?_
      exact W.iret (v := ((80 * (F 1 k)) * sp) - (100 * (F 2 k))) hx hb hr (fun t ht _ => ⟨_, rfl, by unfold pl; rw [lift, hkd, if_neg (by decide), if_neg (by decide), if_pos c_56], ht⟩) (fun q hq => absurd hq List.not_mem_nil) dX3_pullIn_78
    · skip
      refine lv_bipush (v := 10) hx hb dX3_pullIn_59 (by decide) ?_
      refine lv_goto (tgt := 65) hx hb dX3_pullIn_61 (by decide) ?_
      refine lv_imul hx hb dX3_pullIn_65 ?_
      refine lv_istore_n (lv' := [(3, .int ((80 * (F 1 k)) * 10)), (0, .ref h), (1, .int (nI k)), (2, .int sp)]) hx hb dX3_pullIn_66 rfl hl (by decide) rfl (fun ls hl => ?_)
      refine lv_iload_n hx hb dX3_pullIn_67 rfl (lv_at hl 0 rfl) ?_
      refine lv_bipush (v := 100) hx hb dX3_pullIn_68 (by decide) ?_
      refine lv_aload_n hx hb dX3_pullIn_70 rfl (lv_at hl 1 rfl) ?_
      refine va_get (D := (dC, dI)) (ci := 3) (v := .ref (a 2)) (C := RX3) (T := TX3) (N := 16) hx hb hts hi3 hown hK hP 0 rfl rfl 4 (by decide) lk16 (fun _ h9 => h9) rfl dX3_pullIn_71 ?_
      refine lv_iload_n hx hb dX3_pullIn_74 rfl (lv_at hl 2 rfl) ?_
      refine my_iald hx hb hK hP 3 0 rfl rfl hk8 (Nat.le_of_ble_eq_true rfl) dX3_pullIn_75 ?_
      refine W_top (y := .int (F 2 k)) (rfl) ?_
      refine lv_imul hx hb dX3_pullIn_76 ?_
      refine lv_isub hx hb dX3_pullIn_77 ?_
      exact W.iret (v := ((80 * (F 1 k)) * 10) - (100 * (F 2 k))) hx hb hr (fun t ht _ => ⟨_, rfl, by unfold pl; rw [lift, hkd, if_neg (by decide), if_neg (by decide), if_neg c_56], ht⟩) (fun q hq => absurd hq List.not_mem_nil) dX3_pullIn_78

set_option maxHeartbeats 4000000 in
set_option maxRecDepth 100000 in
theorem c_X3_isHeld (l9 : Launch) (dC : Nat → ClassId) (dI : Nat → Nat → Nat) {cI cZ : ClassId} (h : Nat) (a : Nat → Nat) (th : Int32) (n p : Nat) (F : Rows) (k : Nat) (sp : Int32) (hk8 : k < 8) (hkd : F 0 k = 0 ∨ F 0 k = 1 ∨ F 0 k = 2) : Met l9 yX3_isHeld wsX3_isHeld ({ frames := 1, cells := 0, slots := 0, locals := 23 }) (va_Pc [.ref h, .int (nI k), .int sp] (PRo dC dI [(cI, .int), (cZ, .boolean)] (rW cI cZ h a th n p F))) (vp_Si (fun r9 => r9 = bi (held F k sp))) 0 0 (fun _ => False) := by
  refine Met.ofW (cc := cX3_isHeld) (maxL := 3) (ret := (some .boolean)) (by decide) rfl ?_
  intro p9 e9 s m args below meth c s₁ B hml hv
  obtain ⟨rfl, hP, hK, hE⟩ := hv
  have hx := B.exec
  have hb := B.bytes
  have hr := B.returns
  have hts := atoms_spec (ws := wsX3_isHeld) B.pre
  have hown : s.vm.findClass RX3 = some m.cls := findClass_of_methodNamed B.named
  have hlocks := B.notSynchronized
  have hP : va_P (dC, dI) vwCl (rW cI cZ h a th n p F) s.heap := hP
  have hl := lv_entry ([.ref h, .int (nI k), .int sp]) (n := 3) (Nat.le_of_ble_eq_true rfl)
  rw [lg_entry_eq]
  generalize (lg_sl ([.ref h, .int (nI k), .int sp]) ++ List.replicate (3 - (lg_sl ([.ref h, .int (nI k), .int sp])).length) Slot.unset).toArray = ls at hl ⊢
  have hl : lv_has ls 3 [(0, .ref h), (1, .int (nI k)), (2, .int sp)] := hl
  refine lv_aload_n hx hb dX3_isHeld_0 rfl (lv_at hl 0 rfl) ?_
  refine lv_iload_n hx hb dX3_isHeld_1 rfl (lv_at hl 1 rfl) ?_
  refine lv_iload_n hx hb dX3_isHeld_2 rfl (lv_at hl 2 rfl) ?_
  refine vp_callSi (va_Run.run (va_runV (As := [.int (nI k), .int sp]) (rest := []) ⟨hx, hb, hml, hown, hts⟩ (c_X3_pullIn l9 dC dI h a th n p F k sp hk8 hkd) (cwV 2 hts gX3_isHeld_X3_pullIn rfl rfl rfl (by decide +kernel) ⟨Nat.le_of_ble_eq_true rfl, Nat.le_of_ble_eq_true rfl⟩) ⟨PRo.blind, va_recv hK hP (ci := 3) (q0 := 0) rfl rfl, PRo.pre hP hK hE⟩ rfl rfl hl.1 rfl (lv_room (Nat.le_of_ble_eq_true rfl)) dX3_isHeld_3 ⟨Nat.le_of_ble_eq_true rfl, Nat.le_of_ble_eq_true rfl⟩)) (fun r hr => ?_)
  subst hr
  refine lv_bipush (v := 100) hx hb dX3_isHeld_6 (by decide) ?_
  refine lv_sipush (v := 6000) hx hb dX3_isHeld_8 (by decide) ?_
  refine vp_callSi (va_Run.run (va_runS (As := [.int (pl F k sp), .int 100, .int 6000]) (rest := []) ⟨hx, hb, hml, hown, hts⟩ (c_X3_isIn l9 (pl F k sp) 100 6000) (va_cwS 3 hts gX3_isHeld_X3_isIn rfl rfl rfl (by decide +kernel) ⟨Nat.le_of_ble_eq_true rfl, Nat.le_of_ble_eq_true rfl⟩) ⟨fun a U g mk q => q, fun U hU hW => ⟨rfl, trivial⟩⟩ rfl rfl hl.1 rfl (lv_room (Nat.le_of_ble_eq_true rfl)) dX3_isHeld_11 ⟨Nat.le_of_ble_eq_true rfl, Nat.le_of_ble_eq_true rfl⟩)) (fun r hr => ?_)
  subst hr
  exact W.zret (v := bi (100 ≤ pl F k sp ∧ pl F k sp ≤ 6000)) hx hb hr (nar_01 (bi_01 _)) (fun t ht _ => ⟨_, rfl, rfl, ht⟩) (fun q hq => absurd hq List.not_mem_nil) dX3_isHeld_14

set_option maxHeartbeats 4000000 in
set_option maxRecDepth 100000 in
theorem c_X3_endOf (l9 : Launch) (dC : Nat → ClassId) (dI : Nat → Nat → Nat) {cI cZ : ClassId} (h : Nat) (a : Nat → Nat) (th : Int32) (n p : Nat) (F : Rows) (k : Nat) (ln len : Int32) (hk8 : k < 8) (hkd : F 0 k = 0 ∨ F 0 k = 1 ∨ F 0 k = 2) (hst : ¬ 1000 + pl F k (F 9 0) ≤ 0) : Met l9 yX3_endOf wsX3_endOf ({ frames := 1, cells := 0, slots := 0, locals := 23 }) (va_Pc [.ref h, .int (nI k), .int ln, .int len] (PRo dC dI [(cI, .int), (cZ, .boolean)] (rW cI cZ h a th n p F))) (vp_Si (fun r9 => r9 = en F k ln len)) 0 0 (fun _ => False) := by
  refine Met.ofW (cc := cX3_endOf) (maxL := 4) (ret := (some .int)) (by decide) rfl ?_
  intro p9 e9 s m args below meth c s₁ B hml hv
  obtain ⟨rfl, hP, hK, hE⟩ := hv
  have hx := B.exec
  have hb := B.bytes
  have hr := B.returns
  have hts := atoms_spec (ws := wsX3_endOf) B.pre
  have hown : s.vm.findClass RX3 = some m.cls := findClass_of_methodNamed B.named
  have hlocks := B.notSynchronized
  have hi3 : ∀ w ∈ u_ws RX3 TX3 16, w ∈ wsX3_endOf := by decide +kernel
  have lk56 := hts (.fieldLink RX3 56 "WindlaneModel" "side" "I") (by decide +kernel)
  have lk59 := hts (.fieldLink RX3 59 "WindlaneModel" "speed" "I") (by decide +kernel)
  have hP : va_P (dC, dI) vwCl (rW cI cZ h a th n p F) s.heap := hP
  have hl := lv_entry ([.ref h, .int (nI k), .int ln, .int len]) (n := 4) (Nat.le_of_ble_eq_true rfl)
  rw [lg_entry_eq]
  generalize (lg_sl ([.ref h, .int (nI k), .int ln, .int len]) ++ List.replicate (4 - (lg_sl ([.ref h, .int (nI k), .int ln, .int len])).length) Slot.unset).toArray = ls at hl ⊢
  have hl : lv_has ls 4 [(0, .ref h), (1, .int (nI k)), (2, .int ln), (3, .int len)] := hl
  refine lv_bipush (v := 100) hx hb dX3_endOf_0 (by decide) ?_
  refine lv_iload_n hx hb dX3_endOf_2 rfl (lv_at hl 2 rfl) ?_
  refine lv_imul hx hb dX3_endOf_3 ?_
  refine lv_aload_n hx hb dX3_endOf_4 rfl (lv_at hl 0 rfl) ?_
  refine va_get (D := (dC, dI)) (ci := 3) (v := .int (F 9 1)) (C := RX3) (T := TX3) (N := 16) hx hb hts hi3 hown hK hP 0 rfl rfl 13 (by decide) lk56 (fun _ h9 => h9) rfl dX3_endOf_5 ?_
  refine lv_iload_n hx hb dX3_endOf_8 rfl (lv_at hl 3 rfl) ?_
  refine lv_imul hx hb dX3_endOf_9 ?_
  refine lv_sipush (v := 1000) hx hb dX3_endOf_10 (by decide) ?_
  refine lv_imul hx hb dX3_endOf_13 ?_
  refine lv_sipush (v := 1000) hx hb dX3_endOf_14 (by decide) ?_
  refine lv_aload_n hx hb dX3_endOf_17 rfl (lv_at hl 0 rfl) ?_
  refine lv_iload_n hx hb dX3_endOf_18 rfl (lv_at hl 1 rfl) ?_
  refine lv_aload_n hx hb dX3_endOf_19 rfl (lv_at hl 0 rfl) ?_
  refine va_get (D := (dC, dI)) (ci := 3) (v := .int (F 9 0)) (C := RX3) (T := TX3) (N := 16) hx hb hts hi3 hown hK hP 0 rfl rfl 12 (by decide) lk59 (fun _ h9 => h9) rfl dX3_endOf_20 ?_
  refine vp_callSi (va_Run.run (va_runV (As := [.int (nI k), .int (F 9 0)]) (rest := [.int 1000, .int (((F 9 1) * len) * 1000), .int (100 * ln)]) ⟨hx, hb, hml, hown, hts⟩ (c_X3_pullIn l9 dC dI h a th n p F k (F 9 0) hk8 hkd) (cwV 2 hts gX3_endOf_X3_pullIn rfl rfl rfl (by decide +kernel) ⟨Nat.le_of_ble_eq_true rfl, Nat.le_of_ble_eq_true rfl⟩) ⟨PRo.blind, va_recv hK hP (ci := 3) (q0 := 0) rfl rfl, PRo.pre hP hK hE⟩ rfl rfl hl.1 rfl (lv_room (Nat.le_of_ble_eq_true rfl)) dX3_endOf_23 ⟨Nat.le_of_ble_eq_true rfl, Nat.le_of_ble_eq_true rfl⟩)) (fun r hr => ?_)
  subst hr
  refine lv_iadd hx hb dX3_endOf_26 ?_
  refine lv_idiv hx hb dX3_endOf_27 (fun q => by rw [q] at hst; exact hst (by decide)) ?_
  refine lv_iadd hx hb dX3_endOf_28 ?_
  exact W.iret (v := (100 * ln) + ((((F 9 1) * len) * 1000) / (1000 + (pl F k (F 9 0))))) hx hb hr (fun t ht _ => ⟨_, rfl, rfl, ht⟩) (fun q hq => absurd hq List.not_mem_nil) dX3_endOf_29

set_option maxHeartbeats 4000000 in
set_option maxRecDepth 100000 in
theorem c_X3_end (l9 : Launch) (dC : Nat → ClassId) (dI : Nat → Nat → Nat) {cI cZ : ClassId} (h : Nat) (a : Nat → Nat) (th : Int32) (n p : Nat) (F : Rows) (k : Nat) (hk8 : k < 8) (hkd : F 0 k = 0 ∨ F 0 k = 1 ∨ F 0 k = 2) (hst : ¬ 1000 + pl F k (F 9 0) ≤ 0) : Met l9 yX3_end wsX3_end ({ frames := 2, cells := 0, slots := 0, locals := 46 }) (va_Pc [.ref h, .int (nI k)] (PRo dC dI [(cI, .int), (cZ, .boolean)] (rW cI cZ h a th n p F))) (vp_Si (fun r9 => r9 = ed F k)) 0 0 (fun _ => False) := by
  refine Met.ofW (cc := cX3_end) (maxL := 2) (ret := (some .int)) (by decide) rfl ?_
  intro p9 e9 s m args below meth c s₁ B hml hv
  obtain ⟨rfl, hP, hK, hE⟩ := hv
  have hx := B.exec
  have hb := B.bytes
  have hr := B.returns
  have hts := atoms_spec (ws := wsX3_end) B.pre
  have hown : s.vm.findClass RX3 = some m.cls := findClass_of_methodNamed B.named
  have hlocks := B.notSynchronized
  have hi3 : ∀ w ∈ u_ws RX3 TX3 16, w ∈ wsX3_end := by decide +kernel
  have lk29 := hts (.fieldLink RX3 29 "WindlaneModel" "laneOf" "[I") (by decide +kernel)
  have lk32 := hts (.fieldLink RX3 32 "WindlaneModel" "length" "[I") (by decide +kernel)
  have hP : va_P (dC, dI) vwCl (rW cI cZ h a th n p F) s.heap := hP
  have hl := lv_entry ([.ref h, .int (nI k)]) (n := 2) (Nat.le_of_ble_eq_true rfl)
  rw [lg_entry_eq]
  generalize (lg_sl ([.ref h, .int (nI k)]) ++ List.replicate (2 - (lg_sl ([.ref h, .int (nI k)])).length) Slot.unset).toArray = ls at hl ⊢
  have hl : lv_has ls 2 [(0, .ref h), (1, .int (nI k))] := hl
  refine lv_aload_n hx hb dX3_end_0 rfl (lv_at hl 0 rfl) ?_
  refine lv_iload_n hx hb dX3_end_1 rfl (lv_at hl 1 rfl) ?_
  refine lv_aload_n hx hb dX3_end_2 rfl (lv_at hl 0 rfl) ?_
  refine va_get (D := (dC, dI)) (ci := 3) (v := .ref (a 6)) (C := RX3) (T := TX3) (N := 16) hx hb hts hi3 hown hK hP 0 rfl rfl 8 (by decide) lk29 (fun _ h9 => h9) rfl dX3_end_3 ?_
  refine lv_iload_n hx hb dX3_end_6 rfl (lv_at hl 1 rfl) ?_
  refine my_iald hx hb hK hP 7 0 rfl rfl hk8 (Nat.le_of_ble_eq_true rfl) dX3_end_7 ?_
  refine W_top (y := .int (F 6 k)) (rfl) ?_
  refine lv_aload_n hx hb dX3_end_8 rfl (lv_at hl 0 rfl) ?_
  refine va_get (D := (dC, dI)) (ci := 3) (v := .ref (a 7)) (C := RX3) (T := TX3) (N := 16) hx hb hts hi3 hown hK hP 0 rfl rfl 9 (by decide) lk32 (fun _ h9 => h9) rfl dX3_end_9 ?_
  refine lv_iload_n hx hb dX3_end_12 rfl (lv_at hl 1 rfl) ?_
  refine my_iald hx hb hK hP 8 0 rfl rfl hk8 (Nat.le_of_ble_eq_true rfl) dX3_end_13 ?_
  refine W_top (y := .int (F 7 k)) (rfl) ?_
  refine vp_callSi (va_Run.run (va_runV (As := [.int (nI k), .int (F 6 k), .int (F 7 k)]) (rest := []) ⟨hx, hb, hml, hown, hts⟩ (c_X3_endOf l9 dC dI h a th n p F k (F 6 k) (F 7 k) hk8 hkd hst) (cwV 3 hts gX3_end_X3_endOf rfl rfl rfl (by decide +kernel) ⟨Nat.le_of_ble_eq_true rfl, Nat.le_of_ble_eq_true rfl⟩) ⟨PRo.blind, va_recv hK hP (ci := 3) (q0 := 0) rfl rfl, PRo.pre hP hK hE⟩ rfl rfl hl.1 rfl (lv_room (Nat.le_of_ble_eq_true rfl)) dX3_end_14 ⟨Nat.le_of_ble_eq_true rfl, Nat.le_of_ble_eq_true rfl⟩)) (fun r hr => ?_)
  subst hr
  exact W.iret (v := en F k (F 6 k) (F 7 k)) hx hb hr (fun t ht _ => ⟨_, rfl, rfl, ht⟩) (fun q hq => absurd hq List.not_mem_nil) dX3_end_17

set_option maxHeartbeats 4000000 in
set_option maxRecDepth 100000 in
theorem c_X3_inLane (l9 : Launch) (dC : Nat → ClassId) (dI : Nat → Nat → Nat) {cI cZ : ClassId} (h : Nat) (a : Nat → Nat) (th : Int32) (n p : Nat) (F : Rows) (v : Int32) (hn8 : n ≤ 8) : Met l9 yX3_inLane wsX3_inLane ({ frames := 0, cells := 0, slots := 0, locals := 0 }) (va_Pc [.ref h, .int v] (PRo dC dI [(cI, .int), (cZ, .boolean)] (rW cI cZ h a th n p F))) (vp_Si (fun r9 => r9 = oI (lk (F 6) n v))) 0 0 (fun _ => False) := by
  refine Met.ofW (cc := cX3_inLane) (maxL := 4) (ret := (some .int)) (by decide) rfl ?_
  intro p9 e9 s m args below meth c s₁ B hml hv
  obtain ⟨rfl, hP, hK, hE⟩ := hv
  have hx := B.exec
  have hb := B.bytes
  have hr := B.returns
  have hts := atoms_spec (ws := wsX3_inLane) B.pre
  have hown : s.vm.findClass RX3 = some m.cls := findClass_of_methodNamed B.named
  have hlocks := B.notSynchronized
  have hi3 : ∀ w ∈ u_ws RX3 TX3 16, w ∈ wsX3_inLane := by decide +kernel
  have lk29 := hts (.fieldLink RX3 29 "WindlaneModel" "laneOf" "[I") (by decide +kernel)
  have lk42 := hts (.fieldLink RX3 42 "WindlaneModel" "kites" "I") (by decide +kernel)
  have hP : va_P (dC, dI) vwCl (rW cI cZ h a th n p F) s.heap := hP
  have hl := lv_entry ([.ref h, .int v]) (n := 4) (Nat.le_of_ble_eq_true rfl)
  rw [lg_entry_eq]
  generalize (lg_sl ([.ref h, .int v]) ++ List.replicate (4 - (lg_sl ([.ref h, .int v])).length) Slot.unset).toArray = ls at hl ⊢
  have hl : lv_has ls 4 [(0, .ref h), (1, .int v)] := hl
  refine lv_iconst (v := (-1)) hx hb dX3_inLane_0 (by decide) ?_
  refine lv_istore_n (lv' := [(2, .int (-1)), (0, .ref h), (1, .int v)]) hx hb dX3_inLane_1 rfl hl (by decide) rfl (fun ls hl => ?_)
  refine lv_iconst (v := 0) hx hb dX3_inLane_2 (by decide) ?_
  refine lv_istore_n (lv' := [(3, .int 0), (2, .int (-1)), (0, .ref h), (1, .int v)]) hx hb dX3_inLane_3 rfl hl (by decide) rfl (fun ls hl => ?_)
  refine W_loopR (nL := 4) (fun i : Nat => [(2, .int (oI (lk (F 6) i v))), (3, .int (nI i)), (0, .ref h), (1, .int v)]) (fun i => i ≤ n) (fun i => n - i) ?_ 0 (Nat.zero_le _) (lv_sub hl [1, 0, 2, 3] rfl)
  intro i ls hI hl ih
  have hl : lv_has ls 4 [(2, .int (oI (lk (F 6) i v))), (3, .int (nI i)), (0, .ref h), (1, .int v)] := hl
  refine lv_iload_n hx hb dX3_inLane_4 rfl (lv_at hl 1 rfl) ?_
  refine lv_aload_n hx hb dX3_inLane_5 rfl (lv_at hl 2 rfl) ?_
  refine va_get (D := (dC, dI)) (ci := 3) (v := .int (nI n)) (C := RX3) (T := TX3) (N := 16) hx hb hts hi3 hown hK hP 0 rfl rfl 1 (by decide) lk42 (fun _ h9 => h9) rfl dX3_inLane_6 ?_
  refine lv_icmp_ge (tgt := 34) hx hb dX3_inLane_9 (by decide) (fun c_9 => ?_) (fun c_9 => ?_)
  · skip
    have he : i = n := by have q := (nI_leI (a := n) (b := i) (by omega) (by omega)).mp c_9; omega
    subst he
    refine lv_iload_n hx hb dX3_inLane_34 rfl (lv_at hl 0 rfl) ?_
    exact W.iret (v := oI (lk (F 6) i v)) hx hb hr (fun t ht _ => ⟨_, rfl, rfl, ht⟩) (fun q hq => absurd hq List.not_mem_nil) dX3_inLane_35
  · skip
    have hlt9 : i < n := Nat.not_le.mp (fun q => c_9 ((nI_leI (a := n) (b := i) (by omega) (by omega)).mpr q))
    refine lv_aload_n hx hb dX3_inLane_12 rfl (lv_at hl 2 rfl) ?_
    refine va_get (D := (dC, dI)) (ci := 3) (v := .ref (a 6)) (C := RX3) (T := TX3) (N := 16) hx hb hts hi3 hown hK hP 0 rfl rfl 8 (by decide) lk29 (fun _ h9 => h9) rfl dX3_inLane_13 ?_
    refine lv_iload_n hx hb dX3_inLane_16 rfl (lv_at hl 1 rfl) ?_
    refine my_iald hx hb hK hP 7 0 rfl rfl (Nat.lt_of_lt_of_le hlt9 hn8) (Nat.le_of_ble_eq_true rfl) dX3_inLane_17 ?_
    refine W_top (y := .int (F 6 i)) (rfl) ?_
    refine lv_iload_n hx hb dX3_inLane_18 rfl (lv_at hl 3 rfl) ?_
    refine lv_icmp_ne (tgt := 26) hx hb dX3_inLane_19 (by decide) (fun c_19 => ?_) (fun c_19 => ?_)
    · skip
      refine lv_iload_n hx hb dX3_inLane_26 rfl (lv_at hl 0 rfl) ?_
      refine W_top (y := .int (oI (lk (F 6) (i + 1) v))) (by rw [lk, if_neg c_19]) ?_
      refine lv_istore_n (lv' := [(2, .int (oI (lk (F 6) (i + 1) v))), (3, .int (nI i)), (0, .ref h), (1, .int v)]) hx hb dX3_inLane_27 rfl hl (by decide) rfl (fun ls hl => ?_)
      refine lv_iinc (v := nI (i + 1)) (lv' := [(3, .int (nI (i + 1))), (2, .int (oI (lk (F 6) (i + 1) v))), (0, .ref h), (1, .int v)]) hx hb dX3_inLane_28 hl (k := 1) rfl (nI_1 _) (by decide) rfl (fun ls hl => ?_)
      refine lv_goto (tgt := 4) hx hb dX3_inLane_31 (by decide) ?_
      exact ih (i + 1) ls (by omega) (by omega) (lv_sub hl [1, 0, 2, 3] rfl)
    · skip
      refine lv_iload_n hx hb dX3_inLane_22 rfl (lv_at hl 1 rfl) ?_
      refine lv_goto (tgt := 27) hx hb dX3_inLane_23 (by decide) ?_
      refine W_top (y := .int (oI (lk (F 6) (i + 1) v))) (by rw [lk, if_pos c_19]; rfl) ?_
      refine lv_istore_n (lv' := [(2, .int (oI (lk (F 6) (i + 1) v))), (3, .int (nI i)), (0, .ref h), (1, .int v)]) hx hb dX3_inLane_27 rfl hl (by decide) rfl (fun ls hl => ?_)
      refine lv_iinc (v := nI (i + 1)) (lv' := [(3, .int (nI (i + 1))), (2, .int (oI (lk (F 6) (i + 1) v))), (0, .ref h), (1, .int v)]) hx hb dX3_inLane_28 hl (k := 1) rfl (nI_1 _) (by decide) rfl (fun ls hl => ?_)
      refine lv_goto (tgt := 4) hx hb dX3_inLane_31 (by decide) ?_
      exact ih (i + 1) ls (by omega) (by omega) (lv_sub hl [1, 0, 2, 3] rfl)

set_option maxHeartbeats 4000000 in
set_option maxRecDepth 100000 in
theorem c_X3_heldBy (l9 : Launch) (dC : Nat → ClassId) (dI : Nat → Nat → Nat) {cI cZ : ClassId} (h : Nat) (a : Nat → Nat) (th : Int32) (n p : Nat) (F : Rows) (v : Int32) (hn8 : n ≤ 8) : Met l9 yX3_heldBy wsX3_heldBy ({ frames := 0, cells := 0, slots := 0, locals := 0 }) (va_Pc [.ref h, .int v] (PRo dC dI [(cI, .int), (cZ, .boolean)] (rW cI cZ h a th n p F))) (vp_Si (fun r9 => r9 = oI (lk (F 5) n v))) 0 0 (fun _ => False) := by
  refine Met.ofW (cc := cX3_heldBy) (maxL := 4) (ret := (some .int)) (by decide) rfl ?_
  intro p9 e9 s m args below meth c s₁ B hml hv
  obtain ⟨rfl, hP, hK, hE⟩ := hv
  have hx := B.exec
  have hb := B.bytes
  have hr := B.returns
  have hts := atoms_spec (ws := wsX3_heldBy) B.pre
  have hown : s.vm.findClass RX3 = some m.cls := findClass_of_methodNamed B.named
  have hlocks := B.notSynchronized
  have hi3 : ∀ w ∈ u_ws RX3 TX3 16, w ∈ wsX3_heldBy := by decide +kernel
  have lk26 := hts (.fieldLink RX3 26 "WindlaneModel" "holder" "[I") (by decide +kernel)
  have lk42 := hts (.fieldLink RX3 42 "WindlaneModel" "kites" "I") (by decide +kernel)
  have hP : va_P (dC, dI) vwCl (rW cI cZ h a th n p F) s.heap := hP
  have hl := lv_entry ([.ref h, .int v]) (n := 4) (Nat.le_of_ble_eq_true rfl)
  rw [lg_entry_eq]
  generalize (lg_sl ([.ref h, .int v]) ++ List.replicate (4 - (lg_sl ([.ref h, .int v])).length) Slot.unset).toArray = ls at hl ⊢
  have hl : lv_has ls 4 [(0, .ref h), (1, .int v)] := hl
  refine lv_iconst (v := (-1)) hx hb dX3_heldBy_0 (by decide) ?_
  refine lv_istore_n (lv' := [(2, .int (-1)), (0, .ref h), (1, .int v)]) hx hb dX3_heldBy_1 rfl hl (by decide) rfl (fun ls hl => ?_)
  refine lv_iconst (v := 0) hx hb dX3_heldBy_2 (by decide) ?_
  refine lv_istore_n (lv' := [(3, .int 0), (2, .int (-1)), (0, .ref h), (1, .int v)]) hx hb dX3_heldBy_3 rfl hl (by decide) rfl (fun ls hl => ?_)
  refine W_loopR (nL := 4) (fun i : Nat => [(2, .int (oI (lk (F 5) i v))), (3, .int (nI i)), (0, .ref h), (1, .int v)]) (fun i => i ≤ n) (fun i => n - i) ?_ 0 (Nat.zero_le _) (lv_sub hl [1, 0, 2, 3] rfl)
  intro i ls hI hl ih
  have hl : lv_has ls 4 [(2, .int (oI (lk (F 5) i v))), (3, .int (nI i)), (0, .ref h), (1, .int v)] := hl
  refine lv_iload_n hx hb dX3_heldBy_4 rfl (lv_at hl 1 rfl) ?_
  refine lv_aload_n hx hb dX3_heldBy_5 rfl (lv_at hl 2 rfl) ?_
  refine va_get (D := (dC, dI)) (ci := 3) (v := .int (nI n)) (C := RX3) (T := TX3) (N := 16) hx hb hts hi3 hown hK hP 0 rfl rfl 1 (by decide) lk42 (fun _ h9 => h9) rfl dX3_heldBy_6 ?_
  refine lv_icmp_ge (tgt := 34) hx hb dX3_heldBy_9 (by decide) (fun c_9 => ?_) (fun c_9 => ?_)
  · skip
    have he : i = n := by have q := (nI_leI (a := n) (b := i) (by omega) (by omega)).mp c_9; omega
    subst he
    refine lv_iload_n hx hb dX3_heldBy_34 rfl (lv_at hl 0 rfl) ?_
    exact W.iret (v := oI (lk (F 5) i v)) hx hb hr (fun t ht _ => ⟨_, rfl, rfl, ht⟩) (fun q hq => absurd hq List.not_mem_nil) dX3_heldBy_35
  · skip
    have hlt9 : i < n := Nat.not_le.mp (fun q => c_9 ((nI_leI (a := n) (b := i) (by omega) (by omega)).mpr q))
    refine lv_aload_n hx hb dX3_heldBy_12 rfl (lv_at hl 2 rfl) ?_
    refine va_get (D := (dC, dI)) (ci := 3) (v := .ref (a 5)) (C := RX3) (T := TX3) (N := 16) hx hb hts hi3 hown hK hP 0 rfl rfl 7 (by decide) lk26 (fun _ h9 => h9) rfl dX3_heldBy_13 ?_
    refine lv_iload_n hx hb dX3_heldBy_16 rfl (lv_at hl 1 rfl) ?_
    refine my_iald hx hb hK hP 6 0 rfl rfl (Nat.lt_of_lt_of_le hlt9 hn8) (Nat.le_of_ble_eq_true rfl) dX3_heldBy_17 ?_
    refine W_top (y := .int (F 5 i)) (rfl) ?_
    refine lv_iload_n hx hb dX3_heldBy_18 rfl (lv_at hl 3 rfl) ?_
    refine lv_icmp_ne (tgt := 26) hx hb dX3_heldBy_19 (by decide) (fun c_19 => ?_) (fun c_19 => ?_)
    · skip
      refine lv_iload_n hx hb dX3_heldBy_26 rfl (lv_at hl 0 rfl) ?_
      refine W_top (y := .int (oI (lk (F 5) (i + 1) v))) (by rw [lk, if_neg c_19]) ?_
      refine lv_istore_n (lv' := [(2, .int (oI (lk (F 5) (i + 1) v))), (3, .int (nI i)), (0, .ref h), (1, .int v)]) hx hb dX3_heldBy_27 rfl hl (by decide) rfl (fun ls hl => ?_)
      refine lv_iinc (v := nI (i + 1)) (lv' := [(3, .int (nI (i + 1))), (2, .int (oI (lk (F 5) (i + 1) v))), (0, .ref h), (1, .int v)]) hx hb dX3_heldBy_28 hl (k := 1) rfl (nI_1 _) (by decide) rfl (fun ls hl => ?_)
      refine lv_goto (tgt := 4) hx hb dX3_heldBy_31 (by decide) ?_
      exact ih (i + 1) ls (by omega) (by omega) (lv_sub hl [1, 0, 2, 3] rfl)
    · skip
      refine lv_iload_n hx hb dX3_heldBy_22 rfl (lv_at hl 1 rfl) ?_
      refine lv_goto (tgt := 27) hx hb dX3_heldBy_23 (by decide) ?_
      refine W_top (y := .int (oI (lk (F 5) (i + 1) v))) (by rw [lk, if_pos c_19]; rfl) ?_
      refine lv_istore_n (lv' := [(2, .int (oI (lk (F 5) (i + 1) v))), (3, .int (nI i)), (0, .ref h), (1, .int v)]) hx hb dX3_heldBy_27 rfl hl (by decide) rfl (fun ls hl => ?_)
      refine lv_iinc (v := nI (i + 1)) (lv' := [(3, .int (nI (i + 1))), (2, .int (oI (lk (F 5) (i + 1) v))), (0, .ref h), (1, .int v)]) hx hb dX3_heldBy_28 hl (k := 1) rfl (nI_1 _) (by decide) rfl (fun ls hl => ?_)
      refine lv_goto (tgt := 4) hx hb dX3_heldBy_31 (by decide) ?_
      exact ih (i + 1) ls (by omega) (by omega) (lv_sub hl [1, 0, 2, 3] rfl)

set_option maxHeartbeats 4000000 in
set_option maxRecDepth 100000 in
theorem c_X3_holds (l9 : Launch) (dC : Nat → ClassId) (dI : Nat → Nat → Nat) (sz : Nat) {cI cZ : ClassId} (h : Nat) (a : Nat → Nat) (th : Int32) (n p : Nat) (F : Rows) (pl9 : Int32)  : Met l9 yX3_holds wsX3_holds ({ frames := 0, cells := 0, slots := 0, locals := 0 }) (va_Pc [.ref h, .int pl9] (PWr dC dI [(cI, .int), (cZ, .boolean)] (rW cI cZ h a th n p F) sz)) (va_Qi (fun r9 (_ : Unit) => r9 = bi (pl9 = 0)) (fun _ t => va_P (dC, dI) vwCl (rW cI cZ h a pl9 n p F) t.heap) (va_A (rW cI cZ h a th n p F) sz)) 0 0 (va_A (rW cI cZ h a th n p F) sz) := by
  refine Met.ofW (cc := cX3_holds) (maxL := 2) (ret := (some .boolean)) (by decide) rfl ?_
  intro p9 e9 s m args below meth c s₁ B hml hv
  obtain ⟨rfl, hsz, hP, hK, hD0, hE, hH⟩ := hv
  have hx := B.exec
  have hb := B.bytes
  have hr := B.returns
  have hts := atoms_spec (ws := wsX3_holds) B.pre
  have hown : s.vm.findClass RX3 = some m.cls := findClass_of_methodNamed B.named
  have hlocks := B.notSynchronized
  have hi3 : ∀ w ∈ u_ws RX3 TX3 16, w ∈ wsX3_holds := by decide +kernel
  have lk38 := hts (.fieldLink RX3 38 "WindlaneModel" "thrown" "I") (by decide +kernel)
  subst hsz
  have hD := hD0.self (sz := s.heap.size)
  generalize hAe : va_A (rW cI cZ h a th n p F) s.heap.size = A at hD hH ⊢
  have hA : ∀ q : Nat, s.heap.size ≤ q → A q := fun q h => by rw [← hAe]; exact Or.inr h
  have hS : va_S A s.heap s.heap [] := va_S.rf
  have hP : va_P (dC, dI) vwCl (rW cI cZ h a th n p F) s.heap := hP
  have hl := lv_entry ([.ref h, .int pl9]) (n := 2) (Nat.le_of_ble_eq_true rfl)
  rw [lg_entry_eq]
  generalize (lg_sl ([.ref h, .int pl9]) ++ List.replicate (2 - (lg_sl ([.ref h, .int pl9])).length) Slot.unset).toArray = ls at hl ⊢
  have hl : lv_has ls 2 [(0, .ref h), (1, .int pl9)] := hl
  refine lv_aload_n hx hb dX3_holds_0 rfl (lv_at hl 0 rfl) ?_
  refine lv_iload_n hx hb dX3_holds_1 rfl (lv_at hl 1 rfl) ?_
  refine va_put (D := (dC, dI)) (ci := 3) (v := .int pl9) (ty := .int) (C := RX3) (T := TX3) (N := 16) hx hb hts hi3 tyX3 tyX3_ok nmX3 hown hK hP hD hS 0 rfl rfl 0 (by decide) lk38 (fun _ h9 => h9) rfl (by decide +kernel) rfl rfl (Nat.le_of_ble_eq_true rfl) dX3_holds_2 (fun H locs hP hD hS => ?_)
  have hP : va_P (dC, dI) vwCl (rW cI cZ h a pl9 n p F) H := hP
  have hD : va_D A (rW cI cZ h a pl9 n p F) := hD
  refine lv_iload_n hx hb dX3_holds_5 rfl (lv_at hl 1 rfl) ?_
  refine lv_if_ne (tgt := 13) hx hb dX3_holds_6 (by decide) (fun c_6 => ?_) (fun c_6 => ?_)
  · skip
    refine lv_iconst (v := 0) hx hb dX3_holds_13 (by decide) ?_
    exact W.zret (v := 0) hx hb hr rfl (fun t ht hW => ⟨⟨_, (), rfl, ((bi_f c_6).symm), by show va_P _ _ _ t.heap; rw [ht]; exact hP⟩, hS.F ht⟩) hS.2.2 dX3_holds_14
  · skip
    refine lv_iconst (v := 1) hx hb dX3_holds_9 (by decide) ?_
    refine lv_goto (tgt := 14) hx hb dX3_holds_10 (by decide) ?_
    exact W.zret (v := 1) hx hb hr rfl (fun t ht hW => ⟨⟨_, (), rfl, ((bi_t c_6).symm), by show va_P _ _ _ t.heap; rw [ht]; exact hP⟩, hS.F ht⟩) hS.2.2 dX3_holds_14

set_option maxHeartbeats 4000000 in
set_option maxRecDepth 100000 in
theorem c_X3_comesDown (l9 : Launch) (dC : Nat → ClassId) (dI : Nat → Nat → Nat) (sz : Nat) {cI cZ : ClassId} (h : Nat) (a : Nat → Nat) (th : Int32) (n p : Nat) (F : Rows) (k : Nat) (hk8 : k < 8) : Met l9 yX3_comesDown wsX3_comesDown ({ frames := 0, cells := 0, slots := 0, locals := 0 }) (va_Pc [.ref h, .int (nI k)] (PWr dC dI [(cI, .int), (cZ, .boolean)] (rW cI cZ h a th n p F) sz)) (va_Qv (fun _ : Unit => True) (fun _ t => va_P (dC, dI) vwCl (rW cI cZ h a th n p (dn F k)) t.heap) (va_A (rW cI cZ h a th n p F) sz)) 0 0 (va_A (rW cI cZ h a th n p F) sz) := by
  refine Met.ofW (cc := cX3_comesDown) (maxL := 2) (ret := none) (by decide) rfl ?_
  intro p9 e9 s m args below meth c s₁ B hml hv
  obtain ⟨rfl, hsz, hP, hK, hD0, hE, hH⟩ := hv
  have hx := B.exec
  have hb := B.bytes
  have hr := B.returns
  have hts := atoms_spec (ws := wsX3_comesDown) B.pre
  have hown : s.vm.findClass RX3 = some m.cls := findClass_of_methodNamed B.named
  have hlocks := B.notSynchronized
  have hi3 : ∀ w ∈ u_ws RX3 TX3 16, w ∈ wsX3_comesDown := by decide +kernel
  have lk29 := hts (.fieldLink RX3 29 "WindlaneModel" "laneOf" "[I") (by decide +kernel)
  have lk96 := hts (.fieldLink RX3 96 "WindlaneModel" "called" "I") (by decide +kernel)
  subst hsz
  have hD := hD0.self (sz := s.heap.size)
  generalize hAe : va_A (rW cI cZ h a th n p F) s.heap.size = A at hD hH ⊢
  have hA : ∀ q : Nat, s.heap.size ≤ q → A q := fun q h => by rw [← hAe]; exact Or.inr h
  have hS : va_S A s.heap s.heap [] := va_S.rf
  have hP : va_P (dC, dI) vwCl (rW cI cZ h a th n p F) s.heap := hP
  have hl := lv_entry ([.ref h, .int (nI k)]) (n := 2) (Nat.le_of_ble_eq_true rfl)
  rw [lg_entry_eq]
  generalize (lg_sl ([.ref h, .int (nI k)]) ++ List.replicate (2 - (lg_sl ([.ref h, .int (nI k)])).length) Slot.unset).toArray = ls at hl ⊢
  have hl : lv_has ls 2 [(0, .ref h), (1, .int (nI k))] := hl
  refine lv_aload_n hx hb dX3_comesDown_0 rfl (lv_at hl 0 rfl) ?_
  refine va_get (D := (dC, dI)) (ci := 3) (v := .ref (a 6)) (C := RX3) (T := TX3) (N := 16) hx hb hts hi3 hown hK hP 0 rfl rfl 8 (by decide) lk29 (fun _ h9 => h9) rfl dX3_comesDown_1 ?_
  refine lv_iload_n hx hb dX3_comesDown_4 rfl (lv_at hl 1 rfl) ?_
  refine lv_iconst (v := (-1)) hx hb dX3_comesDown_5 (by decide) ?_
  refine my_iast hx hb hK hP hD hS 7 0 rfl rfl hk8 (Nat.le_of_ble_eq_true rfl) dX3_comesDown_6 (fun H locs hP hD hS => ?_)
  have hP : va_P (dC, dI) vwCl (rW cI cZ h a th n p (up F 6 k (-1))) H := hP
  have hD : va_D A (rW cI cZ h a th n p (up F 6 k (-1))) := hD
  refine lv_aload_n hx hb dX3_comesDown_7 rfl (lv_at hl 0 rfl) ?_
  refine lv_dup hx hb dX3_comesDown_8 rfl ?_
  refine va_get (D := (dC, dI)) (ci := 3) (v := .int (F 9 3)) (C := RX3) (T := TX3) (N := 16) hx hb hts hi3 hown hK hP 0 rfl rfl 15 (by decide) lk96 (fun _ h9 => h9) rfl dX3_comesDown_9 ?_
  refine lv_iconst (v := 1) hx hb dX3_comesDown_12 (by decide) ?_
  refine lv_iadd hx hb dX3_comesDown_13 ?_
  refine va_put (D := (dC, dI)) (ci := 3) (v := .int ((F 9 3) + 1)) (ty := .int) (C := RX3) (T := TX3) (N := 16) hx hb hts hi3 tyX3 tyX3_ok nmX3 hown hK hP hD hS 0 rfl rfl 15 (by decide) lk96 (fun _ h9 => h9) rfl (by decide +kernel) rfl rfl (Nat.le_of_ble_eq_true rfl) dX3_comesDown_14 (fun H locs hP hD hS => ?_)
  have hP : va_P (dC, dI) vwCl (rW cI cZ h a th n p (up (up F 6 k (-1)) 9 3 ((F 9 3) + 1))) H := hP
  have hD : va_D A (rW cI cZ h a th n p (up (up F 6 k (-1)) 9 3 ((F 9 3) + 1))) := hD
  exact W.vret hx hb hr (fun t ht hW => ⟨⟨(), rfl, trivial, by show va_P _ _ _ t.heap; rw [ht]; exact hP⟩, hS.F ht⟩) hS.2.2 dX3_comesDown_17

set_option maxHeartbeats 4000000 in
set_option maxRecDepth 100000 in
theorem c_X3_crossing (l9 : Launch) (dC : Nat → ClassId) (dI : Nat → Nat → Nat) {cI cZ : ClassId} (h : Nat) (a : Nat → Nat) (th : Int32) (n p : Nat) (F : Rows)  (hn8 : n ≤ 8) (hkd : ∀ k, k < n → F 0 k = 0 ∨ F 0 k = 1 ∨ F 0 k = 2) (hfl : ∀ k, k < n → ¬ F 6 k = -1 → held F k (F 9 0)) : Met l9 yX3_crossing wsX3_crossing ({ frames := 3, cells := 0, slots := 0, locals := 67 }) (va_Pc [.ref h] (PRo dC dI [(cI, .int), (cZ, .boolean)] (rW cI cZ h a th n p F))) (vp_Si (fun r9 => r9 = oI (cK F n))) 0 0 (fun _ => False) := by
  refine Met.ofW (cc := cX3_crossing) (maxL := 5) (ret := (some .int)) (by decide) rfl ?_
  intro p9 e9 s m args below meth c s₁ B hml hv
  obtain ⟨rfl, hP, hK, hE⟩ := hv
  have hx := B.exec
  have hb := B.bytes
  have hr := B.returns
  have hts := atoms_spec (ws := wsX3_crossing) B.pre
  have hown : s.vm.findClass RX3 = some m.cls := findClass_of_methodNamed B.named
  have hlocks := B.notSynchronized
  have hi3 : ∀ w ∈ u_ws RX3 TX3 16, w ∈ wsX3_crossing := by decide +kernel
  have lk59 := hts (.fieldLink RX3 59 "WindlaneModel" "speed" "I") (by decide +kernel)
  have hP : va_P (dC, dI) vwCl (rW cI cZ h a th n p F) s.heap := hP
  have hl := lv_entry ([.ref h]) (n := 5) (Nat.le_of_ble_eq_true rfl)
  rw [lg_entry_eq]
  generalize (lg_sl ([.ref h]) ++ List.replicate (5 - (lg_sl ([.ref h])).length) Slot.unset).toArray = ls at hl ⊢
  have hl : lv_has ls 5 [(0, .ref h)] := hl
  refine lv_iconst (v := 0) hx hb dX3_crossing_0 (by decide) ?_
  refine lv_istore_n (lv' := [(1, .int 0), (0, .ref h)]) hx hb dX3_crossing_1 rfl hl (by decide) rfl (fun ls hl => ?_)
  refine W_loopR (nL := 5) (fun lo : Nat => [(1, .int (nI lo)), (0, .ref h)]) (fun lo => lo ≤ 10 ∧ ∀ l' h', l' < h' → h' < 10 → l' < lo → ¬ crs F n l' h') (fun lo => 10 - lo) ?_ 0 (⟨Nat.zero_le _, fun _ _ _ _ q => absurd q (Nat.not_lt_zero _)⟩) (lv_sub hl [0, 1] rfl)
  intro lo ls hI hl ih
  have hl : lv_has ls 5 [(1, .int (nI lo)), (0, .ref h)] := hl
  obtain ⟨hl10, hno⟩ := hI
  refine lv_iload_n hx hb dX3_crossing_2 rfl (lv_at hl 0 rfl) ?_
  refine lv_bipush (v := 10) hx hb dX3_crossing_3 (by decide) ?_
  refine lv_icmp_ge (tgt := 97) hx hb dX3_crossing_5 (by decide) (fun c_5 => ?_) (fun c_5 => ?_)
  · skip
    have he : lo = 10 := by have q := (nI_leI (a := 10) (b := lo) (by omega) (by omega)).mp c_5; omega
    subst he
    refine lv_iconst (v := (-1)) hx hb dX3_crossing_97 (by decide) ?_
    exact W.iret (v := (-1)) hx hb hr (fun t ht _ => ⟨_, rfl, by rw [cK_of (o := none) (fun l' h' q1 q2 => hno l' h' q1 q2 (by omega))]; rfl, ht⟩) (fun q hq => absurd hq List.not_mem_nil) dX3_crossing_98
  · skip
    have hlo : lo < 10 := Nat.not_le.mp (fun q => c_5 ((nI_leI (a := 10) (b := lo) (by omega) (by omega)).mpr q))
    refine lv_iload_n hx hb dX3_crossing_8 rfl (lv_at hl 0 rfl) ?_
    refine lv_iconst (v := 1) hx hb dX3_crossing_9 (by decide) ?_
    refine lv_iadd hx hb dX3_crossing_10 ?_
    refine W_top (y := .int (nI (lo + 1))) (congrArg Value.int (nI_1 lo)) ?_
    refine lv_istore_n (lv' := [(2, .int (nI (lo + 1))), (1, .int (nI lo)), (0, .ref h)]) hx hb dX3_crossing_11 rfl hl (by decide) rfl (fun ls hl => ?_)
    have ih0 := ih
    refine W_loopR (nL := 5) (fun hi : Nat => [(2, .int (nI hi)), (1, .int (nI lo)), (0, .ref h)]) (fun hi => (lo < hi ∧ hi ≤ 10) ∧ ∀ h', lo < h' → h' < hi → ¬ crs F n lo h') (fun hi => 10 - hi) ?_ (lo + 1) (⟨⟨by omega, by omega⟩, fun _ q1 q2 => by omega⟩) (lv_sub hl [0, 1, 2] rfl)
    intro hi ls hI2 hl ih
    have hl : lv_has ls 5 [(2, .int (nI hi)), (1, .int (nI lo)), (0, .ref h)] := hl
    obtain ⟨⟨hh1, hh2⟩, hni⟩ := hI2
    refine lv_iload_n hx hb dX3_crossing_12 rfl (lv_at hl 0 rfl) ?_
    refine lv_bipush (v := 10) hx hb dX3_crossing_13 (by decide) ?_
    refine lv_icmp_ge (tgt := 91) hx hb dX3_crossing_15 (by decide) (fun c_15 => ?_) (fun c_15 => ?_)
    · skip
      have he : hi = 10 := by have q := (nI_leI (a := 10) (b := hi) (by omega) (by omega)).mp c_15; omega
      have ih := ih0
      refine lv_iinc (v := nI (lo + 1)) (lv' := [(1, .int (nI (lo + 1))), (2, .int (nI hi)), (0, .ref h)]) hx hb dX3_crossing_91 hl (k := 1) rfl (nI_1 _) (by decide) rfl (fun ls hl => ?_)
      refine lv_goto (tgt := 2) hx hb dX3_crossing_94 (by decide) ?_
      have hnx : ∀ l' h', l' < h' → h' < 10 → l' < lo + 1 → ¬ crs F n l' h' := by
        intro l' h' q1 q2 q3
        rcases Nat.lt_or_ge l' lo with q | q
        · exact hno l' h' q1 q2 q
        · have e9 : l' = lo := by omega
          subst e9
          exact hni h' q1 (by omega)
      exact ih (lo + 1) ls (by omega) (⟨by omega, hnx⟩) (lv_sub hl [0, 2] rfl)
    · skip
      have hhi : hi < 10 := Nat.not_le.mp (fun q => c_15 ((nI_leI (a := 10) (b := hi) (by omega) (by omega)).mpr q))
      refine lv_aload_n hx hb dX3_crossing_18 rfl (lv_at hl 2 rfl) ?_
      refine lv_iload_n hx hb dX3_crossing_19 rfl (lv_at hl 1 rfl) ?_
      refine vp_callSi (va_Run.run (va_runV (As := [.int (nI lo)]) (rest := []) ⟨hx, hb, hml, hown, hts⟩ (c_X3_inLane l9 dC dI h a th n p F (nI lo) hn8) (cwV 1 hts gX3_crossing_X3_inLane rfl rfl rfl (by decide +kernel) ⟨Nat.le_of_ble_eq_true rfl, Nat.le_of_ble_eq_true rfl⟩) ⟨PRo.blind, va_recv hK hP (ci := 3) (q0 := 0) rfl rfl, PRo.pre hP hK hE⟩ rfl rfl hl.1 rfl (lv_room (Nat.le_of_ble_eq_true rfl)) dX3_crossing_20 ⟨Nat.le_of_ble_eq_true rfl, Nat.le_of_ble_eq_true rfl⟩)) (fun r hr => ?_)
      subst hr
      rcases hka : lk (F 6) n (nI lo) with _ | a9a
      · skip
        refine W_top (y := .int (-1)) (rfl) ?_
        refine lv_istore_n (lv' := [(3, .int (-1)), (2, .int (nI hi)), (1, .int (nI lo)), (0, .ref h)]) hx hb dX3_crossing_23 rfl hl (by decide) rfl (fun ls hl => ?_)
        refine lv_aload_n hx hb dX3_crossing_24 rfl (lv_at hl 3 rfl) ?_
        refine lv_iload_n hx hb dX3_crossing_25 rfl (lv_at hl 1 rfl) ?_
        refine vp_callSi (va_Run.run (va_runV (As := [.int (nI hi)]) (rest := []) ⟨hx, hb, hml, hown, hts⟩ (c_X3_inLane l9 dC dI h a th n p F (nI hi) hn8) (cwV 1 hts gX3_crossing_X3_inLane rfl rfl rfl (by decide +kernel) ⟨Nat.le_of_ble_eq_true rfl, Nat.le_of_ble_eq_true rfl⟩) ⟨PRo.blind, va_recv hK hP (ci := 3) (q0 := 0) rfl rfl, PRo.pre hP hK hE⟩ rfl rfl hl.1 rfl (lv_room (Nat.le_of_ble_eq_true rfl)) dX3_crossing_26 ⟨Nat.le_of_ble_eq_true rfl, Nat.le_of_ble_eq_true rfl⟩)) (fun r hr => ?_)
        subst hr
        rcases hkb : lk (F 6) n (nI hi) with _ | b9b
        · skip
          refine W_top (y := .int (-1)) (rfl) ?_
          refine lv_istore (lv' := [(4, .int (-1)), (3, .int (-1)), (2, .int (nI hi)), (1, .int (nI lo)), (0, .ref h)]) hx hb dX3_crossing_29 hl (by decide) rfl (fun ls hl => ?_)
          refine lv_iload_n hx hb dX3_crossing_31 rfl (lv_at hl 1 rfl) ?_
          refine lv_iconst (v := (-1)) hx hb dX3_crossing_32 (by decide) ?_
          refine lv_icmp_eq (tgt := 85) hx hb dX3_crossing_33 (by decide) (fun _ => ?_) (fun c_33 => absurd (by decide) c_33)
          refine lv_iinc (v := nI (hi + 1)) (lv' := [(2, .int (nI (hi + 1))), (4, .int (-1)), (3, .int (-1)), (1, .int (nI lo)), (0, .ref h)]) hx hb dX3_crossing_85 hl (k := 2) rfl (nI_1 _) (by decide) rfl (fun ls hl => ?_)
          refine lv_goto (tgt := 12) hx hb dX3_crossing_88 (by decide) ?_
          have hnx : ∀ h', lo < h' → h' < hi + 1 → ¬ crs F n lo h' := by
            intro h' q1 q2
            rcases Nat.lt_or_ge h' hi with q | q
            · exact hni h' q1 q
            · have e9 : h' = hi := by omega
              subst e9
              exact (fun q => by obtain ⟨a9, b9, q1, q2, -⟩ := q; rw [hkb] at q2; cases q2)
          exact ih (hi + 1) ls (by omega) (⟨⟨by omega, by omega⟩, hnx⟩) (lv_sub hl [0, 3, 4] rfl)
        · skip
          refine W_top (y := .int (nI b9b)) (rfl) ?_
          obtain ⟨hkbn, hkb6⟩ := lk_some hkb
          refine lv_istore (lv' := [(4, .int (nI b9b)), (3, .int (-1)), (2, .int (nI hi)), (1, .int (nI lo)), (0, .ref h)]) hx hb dX3_crossing_29 hl (by decide) rfl (fun ls hl => ?_)
          refine lv_iload_n hx hb dX3_crossing_31 rfl (lv_at hl 1 rfl) ?_
          refine lv_iconst (v := (-1)) hx hb dX3_crossing_32 (by decide) ?_
          refine lv_icmp_eq (tgt := 85) hx hb dX3_crossing_33 (by decide) (fun _ => ?_) (fun c_33 => absurd (by decide) c_33)
          refine lv_iinc (v := nI (hi + 1)) (lv' := [(2, .int (nI (hi + 1))), (4, .int (nI b9b)), (3, .int (-1)), (1, .int (nI lo)), (0, .ref h)]) hx hb dX3_crossing_85 hl (k := 2) rfl (nI_1 _) (by decide) rfl (fun ls hl => ?_)
          refine lv_goto (tgt := 12) hx hb dX3_crossing_88 (by decide) ?_
          have hnx : ∀ h', lo < h' → h' < hi + 1 → ¬ crs F n lo h' := by
            intro h' q1 q2
            rcases Nat.lt_or_ge h' hi with q | q
            · exact hni h' q1 q
            · have e9 : h' = hi := by omega
              subst e9
              exact (fun q => by obtain ⟨a9, b9, q1, q2, -⟩ := q; rw [hka] at q1; cases q1)
          exact ih (hi + 1) ls (by omega) (⟨⟨by omega, by omega⟩, hnx⟩) (lv_sub hl [0, 3, 4] rfl)
      · skip
        refine W_top (y := .int (nI a9a)) (rfl) ?_
        obtain ⟨hkan, hka6⟩ := lk_some hka
        refine lv_istore_n (lv' := [(3, .int (nI a9a)), (2, .int (nI hi)), (1, .int (nI lo)), (0, .ref h)]) hx hb dX3_crossing_23 rfl hl (by decide) rfl (fun ls hl => ?_)
        refine lv_aload_n hx hb dX3_crossing_24 rfl (lv_at hl 3 rfl) ?_
        refine lv_iload_n hx hb dX3_crossing_25 rfl (lv_at hl 1 rfl) ?_
        refine vp_callSi (va_Run.run (va_runV (As := [.int (nI hi)]) (rest := []) ⟨hx, hb, hml, hown, hts⟩ (c_X3_inLane l9 dC dI h a th n p F (nI hi) hn8) (cwV 1 hts gX3_crossing_X3_inLane rfl rfl rfl (by decide +kernel) ⟨Nat.le_of_ble_eq_true rfl, Nat.le_of_ble_eq_true rfl⟩) ⟨PRo.blind, va_recv hK hP (ci := 3) (q0 := 0) rfl rfl, PRo.pre hP hK hE⟩ rfl rfl hl.1 rfl (lv_room (Nat.le_of_ble_eq_true rfl)) dX3_crossing_26 ⟨Nat.le_of_ble_eq_true rfl, Nat.le_of_ble_eq_true rfl⟩)) (fun r hr => ?_)
        subst hr
        rcases hkb : lk (F 6) n (nI hi) with _ | b9b
        · skip
          refine W_top (y := .int (-1)) (rfl) ?_
          refine lv_istore (lv' := [(4, .int (-1)), (3, .int (nI a9a)), (2, .int (nI hi)), (1, .int (nI lo)), (0, .ref h)]) hx hb dX3_crossing_29 hl (by decide) rfl (fun ls hl => ?_)
          refine lv_iload_n hx hb dX3_crossing_31 rfl (lv_at hl 1 rfl) ?_
          refine lv_iconst (v := (-1)) hx hb dX3_crossing_32 (by decide) ?_
          refine lv_icmp_eq (tgt := 85) hx hb dX3_crossing_33 (by decide) (fun c_33 => absurd c_33 (nI_m1 (by omega))) (fun _ => ?_)
          refine lv_iload hx hb dX3_crossing_36 (lv_at hl 0 rfl) ?_
          refine lv_iconst (v := (-1)) hx hb dX3_crossing_38 (by decide) ?_
          refine lv_icmp_eq (tgt := 85) hx hb dX3_crossing_39 (by decide) (fun _ => ?_) (fun c_39 => absurd (by decide) c_39)
          refine lv_iinc (v := nI (hi + 1)) (lv' := [(2, .int (nI (hi + 1))), (4, .int (-1)), (3, .int (nI a9a)), (1, .int (nI lo)), (0, .ref h)]) hx hb dX3_crossing_85 hl (k := 2) rfl (nI_1 _) (by decide) rfl (fun ls hl => ?_)
          refine lv_goto (tgt := 12) hx hb dX3_crossing_88 (by decide) ?_
          have hnx : ∀ h', lo < h' → h' < hi + 1 → ¬ crs F n lo h' := by
            intro h' q1 q2
            rcases Nat.lt_or_ge h' hi with q | q
            · exact hni h' q1 q
            · have e9 : h' = hi := by omega
              subst e9
              exact (fun q => by obtain ⟨a9, b9, q1, q2, -⟩ := q; rw [hkb] at q2; cases q2)
          exact ih (hi + 1) ls (by omega) (⟨⟨by omega, by omega⟩, hnx⟩) (lv_sub hl [0, 3, 4] rfl)
        · skip
          refine W_top (y := .int (nI b9b)) (rfl) ?_
          obtain ⟨hkbn, hkb6⟩ := lk_some hkb
          refine lv_istore (lv' := [(4, .int (nI b9b)), (3, .int (nI a9a)), (2, .int (nI hi)), (1, .int (nI lo)), (0, .ref h)]) hx hb dX3_crossing_29 hl (by decide) rfl (fun ls hl => ?_)
          refine lv_iload_n hx hb dX3_crossing_31 rfl (lv_at hl 1 rfl) ?_
          refine lv_iconst (v := (-1)) hx hb dX3_crossing_32 (by decide) ?_
          refine lv_icmp_eq (tgt := 85) hx hb dX3_crossing_33 (by decide) (fun c_33 => absurd c_33 (nI_m1 (by omega))) (fun _ => ?_)
          refine lv_iload hx hb dX3_crossing_36 (lv_at hl 0 rfl) ?_
          refine lv_iconst (v := (-1)) hx hb dX3_crossing_38 (by decide) ?_
          refine lv_icmp_eq (tgt := 85) hx hb dX3_crossing_39 (by decide) (fun c_39 => absurd c_39 (nI_m1 (by omega))) (fun _ => ?_)
          refine lv_aload_n hx hb dX3_crossing_42 rfl (lv_at hl 4 rfl) ?_
          refine lv_iload_n hx hb dX3_crossing_43 rfl (lv_at hl 1 rfl) ?_
          refine vp_callSi (va_Run.run (va_runV (As := [.int (nI a9a)]) (rest := []) ⟨hx, hb, hml, hown, hts⟩ (c_X3_end l9 dC dI h a th n p F a9a (Nat.lt_of_lt_of_le hkan hn8) (hkd a9a hkan) (st_ok (hfl a9a hkan (lane_ne hlo hka)))) (cwV 1 hts gX3_crossing_X3_end rfl rfl rfl (by decide +kernel) ⟨Nat.le_of_ble_eq_true rfl, Nat.le_of_ble_eq_true rfl⟩) ⟨PRo.blind, va_recv hK hP (ci := 3) (q0 := 0) rfl rfl, PRo.pre hP hK hE⟩ rfl rfl hl.1 rfl (lv_room (Nat.le_of_ble_eq_true rfl)) dX3_crossing_44 ⟨Nat.le_of_ble_eq_true rfl, Nat.le_of_ble_eq_true rfl⟩)) (fun r hr => ?_)
          subst hr
          refine lv_aload_n hx hb dX3_crossing_47 rfl (lv_at hl 4 rfl) ?_
          refine lv_iload hx hb dX3_crossing_48 (lv_at hl 0 rfl) ?_
          refine vp_callSi (va_Run.run (va_runV (As := [.int (nI b9b)]) (rest := [.int (ed F a9a)]) ⟨hx, hb, hml, hown, hts⟩ (c_X3_end l9 dC dI h a th n p F b9b (Nat.lt_of_lt_of_le hkbn hn8) (hkd b9b hkbn) (st_ok (hfl b9b hkbn (lane_ne hhi hkb)))) (cwV 1 hts gX3_crossing_X3_end rfl rfl rfl (by decide +kernel) ⟨Nat.le_of_ble_eq_true rfl, Nat.le_of_ble_eq_true rfl⟩) ⟨PRo.blind, va_recv hK hP (ci := 3) (q0 := 0) rfl rfl, PRo.pre hP hK hE⟩ rfl rfl hl.1 rfl (lv_room (Nat.le_of_ble_eq_true rfl)) dX3_crossing_50 ⟨Nat.le_of_ble_eq_true rfl, Nat.le_of_ble_eq_true rfl⟩)) (fun r hr => ?_)
          subst hr
          refine lv_icmp_lt (tgt := 85) hx hb dX3_crossing_53 (by decide) (fun c_53 => ?_) (fun c_53 => ?_)
          · skip
            refine lv_iinc (v := nI (hi + 1)) (lv' := [(2, .int (nI (hi + 1))), (4, .int (nI b9b)), (3, .int (nI a9a)), (1, .int (nI lo)), (0, .ref h)]) hx hb dX3_crossing_85 hl (k := 2) rfl (nI_1 _) (by decide) rfl (fun ls hl => ?_)
            refine lv_goto (tgt := 12) hx hb dX3_crossing_88 (by decide) ?_
            have hnx : ∀ h', lo < h' → h' < hi + 1 → ¬ crs F n lo h' := by
              intro h' q1 q2
              rcases Nat.lt_or_ge h' hi with q | q
              · exact hni h' q1 q
              · have e9 : h' = hi := by omega
                subst e9
                exact (fun q => by obtain ⟨a9, b9, q1, q2, q3⟩ := q; rw [hka] at q1; rw [hkb] at q2; cases q1; cases q2; rw [i32_le] at q3; rw [i32_lt] at c_53; omega)
            exact ih (hi + 1) ls (by omega) (⟨⟨by omega, by omega⟩, hnx⟩) (lv_sub hl [0, 3, 4] rfl)
          · skip
            refine lv_aload_n hx hb dX3_crossing_56 rfl (lv_at hl 4 rfl) ?_
            refine lv_iload_n hx hb dX3_crossing_57 rfl (lv_at hl 1 rfl) ?_
            refine lv_aload_n hx hb dX3_crossing_58 rfl (lv_at hl 4 rfl) ?_
            refine va_get (D := (dC, dI)) (ci := 3) (v := .int (F 9 0)) (C := RX3) (T := TX3) (N := 16) hx hb hts hi3 hown hK hP 0 rfl rfl 12 (by decide) lk59 (fun _ h9 => h9) rfl dX3_crossing_59 ?_
            refine vp_callSi (va_Run.run (va_runV (As := [.int (nI a9a), .int (F 9 0)]) (rest := []) ⟨hx, hb, hml, hown, hts⟩ (c_X3_pullIn l9 dC dI h a th n p F a9a (F 9 0) (Nat.lt_of_lt_of_le hkan hn8) (hkd a9a hkan)) (cwV 2 hts gX3_crossing_X3_pullIn rfl rfl rfl (by decide +kernel) ⟨Nat.le_of_ble_eq_true rfl, Nat.le_of_ble_eq_true rfl⟩) ⟨PRo.blind, va_recv hK hP (ci := 3) (q0 := 0) rfl rfl, PRo.pre hP hK hE⟩ rfl rfl hl.1 rfl (lv_room (Nat.le_of_ble_eq_true rfl)) dX3_crossing_62 ⟨Nat.le_of_ble_eq_true rfl, Nat.le_of_ble_eq_true rfl⟩)) (fun r hr => ?_)
            subst hr
            refine lv_aload_n hx hb dX3_crossing_65 rfl (lv_at hl 4 rfl) ?_
            refine lv_iload hx hb dX3_crossing_66 (lv_at hl 0 rfl) ?_
            refine lv_aload_n hx hb dX3_crossing_68 rfl (lv_at hl 4 rfl) ?_
            refine va_get (D := (dC, dI)) (ci := 3) (v := .int (F 9 0)) (C := RX3) (T := TX3) (N := 16) hx hb hts hi3 hown hK hP 0 rfl rfl 12 (by decide) lk59 (fun _ h9 => h9) rfl dX3_crossing_69 ?_
            refine vp_callSi (va_Run.run (va_runV (As := [.int (nI b9b), .int (F 9 0)]) (rest := [.int (pl F a9a (F 9 0))]) ⟨hx, hb, hml, hown, hts⟩ (c_X3_pullIn l9 dC dI h a th n p F b9b (F 9 0) (Nat.lt_of_lt_of_le hkbn hn8) (hkd b9b hkbn)) (cwV 2 hts gX3_crossing_X3_pullIn rfl rfl rfl (by decide +kernel) ⟨Nat.le_of_ble_eq_true rfl, Nat.le_of_ble_eq_true rfl⟩) ⟨PRo.blind, va_recv hK hP (ci := 3) (q0 := 0) rfl rfl, PRo.pre hP hK hE⟩ rfl rfl hl.1 rfl (lv_room (Nat.le_of_ble_eq_true rfl)) dX3_crossing_72 ⟨Nat.le_of_ble_eq_true rfl, Nat.le_of_ble_eq_true rfl⟩)) (fun r hr => ?_)
            subst hr
            refine lv_icmp_ge (tgt := 82) hx hb dX3_crossing_75 (by decide) (fun c_75 => ?_) (fun c_75 => ?_)
            · skip
              refine lv_iload hx hb dX3_crossing_82 (lv_at hl 0 rfl) ?_
              exact W.iret (v := nI b9b) hx hb hr (fun t ht _ => ⟨_, rfl, by rw [cK_of (o := some b9b) ⟨lo, hi, a9a, b9b, by omega, hhi, hka, hkb, by rw [i32_le]; rw [i32_lt] at c_53; omega, fun l' h' q1 q2 q3 => q3.elim (fun q => hno l' h' q1 q2 q) (fun q => by obtain ⟨q4, q5⟩ := q; subst q4; exact hni h' q1 q5), (if_neg (fun q => by rw [i32_lt] at q; rw [i32_le] at c_75; omega)).symm⟩]; rfl, ht⟩) (fun q hq => absurd hq List.not_mem_nil) dX3_crossing_84
            · skip
              refine lv_iload_n hx hb dX3_crossing_78 rfl (lv_at hl 1 rfl) ?_
              refine lv_goto (tgt := 84) hx hb dX3_crossing_79 (by decide) ?_
              exact W.iret (v := nI a9a) hx hb hr (fun t ht _ => ⟨_, rfl, by rw [cK_of (o := some a9a) ⟨lo, hi, a9a, b9b, by omega, hhi, hka, hkb, by rw [i32_le]; rw [i32_lt] at c_53; omega, fun l' h' q1 q2 q3 => q3.elim (fun q => hno l' h' q1 q2 q) (fun q => by obtain ⟨q4, q5⟩ := q; subst q4; exact hni h' q1 q5), (if_pos (by rw [i32_lt]; rw [i32_le] at c_75; omega)).symm⟩]; rfl, ht⟩) (fun q hq => absurd hq List.not_mem_nil) dX3_crossing_84
