abbrev rZero : List Value := [.int 0, .int 0, .null, .null, .null, .null, .null, .null, .null, .null, .int 0, .null, .int 0, .int 0, .int 0, .int 0]
abbrev rTys (cI cZ : ClassId) : List (ClassId × FieldType) := [(cI, .int), (cZ, .boolean)]
theorem RA_int {U : State} {c1 c2 : ClassId} (h1 : va_RA U c1 .int) (h2 : va_RA U c2 .int) : c1 = c2 := Option.some.inj ((show U.vm.findClass _ = some c1 from h1).symm.trans (show U.vm.findClass _ = some c2 from h2))

set_option maxHeartbeats 4000000 in
set_option maxRecDepth 100000 in
theorem c_X3_init (l : Launch) (dC : Nat → ClassId) (dI : Nat → Nat → Nat) (sz : Nat) (h : Nat) : Met l yX3_init wsX3_init ({ frames := 1, cells := 9, slots := 72, locals := 12 }) (va_Pc [.ref h] (PWr dC dI [] ([(h, .inr (3, rZero))]) sz)) (va_Qv (S := ClassId × ClassId × (Nat → Nat)) (fun _ => True) (fun u t => va_K (dC, dI) vwCl (rTys u.1 u.2.1) t ∧ va_P (dC, dI) vwCl (rW u.1 u.2.1 h u.2.2 0 0 0 F00) t.heap ∧ va_D ((va_A ([(h, .inr (3, rZero))]) sz)) (rW u.1 u.2.1 h u.2.2 0 0 0 F00)) (va_A ([(h, .inr (3, rZero))]) sz)) 9 72 (va_A ([(h, .inr (3, rZero))]) sz) := by
  refine Met.ofW (cc := cX3_init) (maxL := 1) (ret := none) (by decide) rfl ?_
  intro p e s m args below meth c s₁ B hml hv
  obtain ⟨rfl, hsz, hP, hK, hD0, hE, hH⟩ := hv
  have hx := B.exec
  have hb := B.bytes
  have hr := B.returns
  have hts := atoms_spec (ws := wsX3_init) B.pre
  have hown : s.vm.findClass RX3 = some m.cls := findClass_of_methodNamed B.named
  have hlocks := B.notSynchronized
  have hin : meth.name = "<init>" := (name_of_methodNamed B.named B.method).1
  have hi3 : ∀ w ∈ u_ws RX3 TX3 16, w ∈ wsX3_init := by decide +kernel
  have lk7 := hts (.fieldLink RX3 7 "WindlaneModel" "kind" "[I") (by decide +kernel)
  have lk13 := hts (.fieldLink RX3 13 "WindlaneModel" "area" "[I") (by decide +kernel)
  have lk16 := hts (.fieldLink RX3 16 "WindlaneModel" "weight" "[I") (by decide +kernel)
  have lk19 := hts (.fieldLink RX3 19 "WindlaneModel" "isTorn" "[Z") (by decide +kernel)
  have lk23 := hts (.fieldLink RX3 23 "WindlaneModel" "wet" "[I") (by decide +kernel)
  have lk26 := hts (.fieldLink RX3 26 "WindlaneModel" "holder" "[I") (by decide +kernel)
  have lk29 := hts (.fieldLink RX3 29 "WindlaneModel" "laneOf" "[I") (by decide +kernel)
  have lk32 := hts (.fieldLink RX3 32 "WindlaneModel" "length" "[I") (by decide +kernel)
  have lk35 := hts (.fieldLink RX3 35 "WindlaneModel" "skill" "[I") (by decide +kernel)
  subst hsz
  have hD := hD0.self (sz := s.heap.size)
  generalize hAe : va_A ([(h, .inr (3, rZero))]) s.heap.size = A at hD hH ⊢
  have hA : ∀ q : Nat, s.heap.size ≤ q → A q := fun q h => by rw [← hAe]; exact Or.inr h
  have hS : va_S A s.heap s.heap [] := va_S.rf
  have hP : va_P (dC, dI) vwCl ([(h, .inr (3, rZero))]) s.heap := hP
  have hl := lv_entry ([.ref h]) (n := 1) (Nat.le_of_ble_eq_true rfl)
  rw [lg_entry_eq]
  generalize (lg_sl ([.ref h]) ++ List.replicate (1 - (lg_sl ([.ref h])).length) Slot.unset).toArray = ls at hl ⊢
  have hl : lv_has ls 1 [(0, .ref h)] := hl
  refine lv_aload_n hx hb dX3_init_0 rfl (lv_at hl 0 rfl) ?_
  refine W.objInit hx hb hown (hts (.methodLink RX3 1 objectInit) (by decide +kernel)) (hts (.instanceMethod objectInit) (by decide +kernel)) (hts _ (List.mem_cons_of_mem _ (List.mem_append_left _ (List.mem_of_getElem? (i := 2) rfl)))) rfl (by rw [hml]; exact hl.1) rfl dX3_init_1 (Nat.le_of_ble_eq_true rfl) (Nat.le_of_ble_eq_true rfl) ?_
  refine W.eq (g2 := F0 m 4 ls []) rfl ?_
  refine lv_aload_n hx hb dX3_init_4 rfl (lv_at hl 0 rfl) ?_
  refine lv_bipush (v := 8) hx hb dX3_init_5 (by decide) ?_
  refine va_newa (atype := .int) hx hb (hts (.arrayClass .int) (by decide +kernel)) (ty := .int) rfl hK hP hD hS hA (N' := 8) (a0 := (8, .inl (fun _ => 0))) (fun _ => rfl) (by decide) rfl (show 8 * 4 ≤ 536870912 by decide) (Nat.le_of_ble_eq_true rfl) (Nat.le_of_ble_eq_true rfl) dX3_init_7 (fun q0 t0 H hK hP hD hS => ?_)
  have hP : va_P (dC, dI) vwCl [(h, .inr (3, [.int 0, .int 0, .null, .null, .null, .null, .null, .null, .null, .null, .int 0, .null, .int 0, .int 0, .int 0, .int 0])), (q0, .inl (t0, 8, .inl (fun _ => 0)))] H := hP
  have hD : va_D A [(h, .inr (3, [.int 0, .int 0, .null, .null, .null, .null, .null, .null, .null, .null, .int 0, .null, .int 0, .int 0, .int 0, .int 0])), (q0, .inl (t0, 8, .inl (fun _ => 0)))] := hD
  have hK : va_K (dC, dI) vwCl [(t0, .int)] s := hK
  refine va_putF (D := (dC, dI)) (ci := 3) (v := .ref q0) (ty := .array .int) (C := RX3) (T := TX3) (N := 16) hx hb hts hi3 tyX3 tyX3_ok nmX3 hown hK hP hD hS 0 rfl rfl 2 (by decide) lk7 (fun _ h9 => h9) rfl hin rfl (by decide +kernel) rfl rfl (Nat.le_of_ble_eq_true rfl) dX3_init_9 (fun H locs hP hD hS => ?_)
  have hP : va_P (dC, dI) vwCl [(h, .inr (3, [.int 0, .int 0, .ref q0, .null, .null, .null, .null, .null, .null, .null, .int 0, .null, .int 0, .int 0, .int 0, .int 0])), (q0, .inl (t0, 8, .inl (fun _ => 0)))] H := hP
  have hD : va_D A [(h, .inr (3, [.int 0, .int 0, .ref q0, .null, .null, .null, .null, .null, .null, .null, .int 0, .null, .int 0, .int 0, .int 0, .int 0])), (q0, .inl (t0, 8, .inl (fun _ => 0)))] := hD
  have hK : va_K (dC, dI) vwCl [(t0, .int)] s := hK
  refine lv_aload_n hx hb dX3_init_12 rfl (lv_at hl 0 rfl) ?_
  refine lv_bipush (v := 8) hx hb dX3_init_13 (by decide) ?_
  refine va_newa (atype := .int) hx hb (hts (.arrayClass .int) (by decide +kernel)) (ty := .int) rfl hK hP hD hS hA (N' := 8) (a0 := (8, .inl (fun _ => 0))) (fun _ => rfl) (by decide) rfl (show 8 * 4 ≤ 536870912 by decide) (Nat.le_of_ble_eq_true rfl) (Nat.le_of_ble_eq_true rfl) dX3_init_15 (fun q1 t1 H hK hP hD hS => ?_)
  have hP : va_P (dC, dI) vwCl [(h, .inr (3, [.int 0, .int 0, .ref q0, .null, .null, .null, .null, .null, .null, .null, .int 0, .null, .int 0, .int 0, .int 0, .int 0])), (q0, .inl (t0, 8, .inl (fun _ => 0))), (q1, .inl (t1, 8, .inl (fun _ => 0)))] H := hP
  have hD : va_D A [(h, .inr (3, [.int 0, .int 0, .ref q0, .null, .null, .null, .null, .null, .null, .null, .int 0, .null, .int 0, .int 0, .int 0, .int 0])), (q0, .inl (t0, 8, .inl (fun _ => 0))), (q1, .inl (t1, 8, .inl (fun _ => 0)))] := hD
  have hK : va_K (dC, dI) vwCl [(t0, .int), (t1, .int)] s := hK
  refine va_putF (D := (dC, dI)) (ci := 3) (v := .ref q1) (ty := .array .int) (C := RX3) (T := TX3) (N := 16) hx hb hts hi3 tyX3 tyX3_ok nmX3 hown hK hP hD hS 0 rfl rfl 3 (by decide) lk13 (fun _ h9 => h9) rfl hin rfl (by decide +kernel) rfl rfl (Nat.le_of_ble_eq_true rfl) dX3_init_17 (fun H locs hP hD hS => ?_)
  have hP : va_P (dC, dI) vwCl [(h, .inr (3, [.int 0, .int 0, .ref q0, .ref q1, .null, .null, .null, .null, .null, .null, .int 0, .null, .int 0, .int 0, .int 0, .int 0])), (q0, .inl (t0, 8, .inl (fun _ => 0))), (q1, .inl (t1, 8, .inl (fun _ => 0)))] H := hP
  have hD : va_D A [(h, .inr (3, [.int 0, .int 0, .ref q0, .ref q1, .null, .null, .null, .null, .null, .null, .int 0, .null, .int 0, .int 0, .int 0, .int 0])), (q0, .inl (t0, 8, .inl (fun _ => 0))), (q1, .inl (t1, 8, .inl (fun _ => 0)))] := hD
  have hK : va_K (dC, dI) vwCl [(t0, .int), (t1, .int)] s := hK
  refine lv_aload_n hx hb dX3_init_20 rfl (lv_at hl 0 rfl) ?_
  refine lv_bipush (v := 8) hx hb dX3_init_21 (by decide) ?_
  refine va_newa (atype := .int) hx hb (hts (.arrayClass .int) (by decide +kernel)) (ty := .int) rfl hK hP hD hS hA (N' := 8) (a0 := (8, .inl (fun _ => 0))) (fun _ => rfl) (by decide) rfl (show 8 * 4 ≤ 536870912 by decide) (Nat.le_of_ble_eq_true rfl) (Nat.le_of_ble_eq_true rfl) dX3_init_23 (fun q2 t2 H hK hP hD hS => ?_)
  have hP : va_P (dC, dI) vwCl [(h, .inr (3, [.int 0, .int 0, .ref q0, .ref q1, .null, .null, .null, .null, .null, .null, .int 0, .null, .int 0, .int 0, .int 0, .int 0])), (q0, .inl (t0, 8, .inl (fun _ => 0))), (q1, .inl (t1, 8, .inl (fun _ => 0))), (q2, .inl (t2, 8, .inl (fun _ => 0)))] H := hP
  have hD : va_D A [(h, .inr (3, [.int 0, .int 0, .ref q0, .ref q1, .null, .null, .null, .null, .null, .null, .int 0, .null, .int 0, .int 0, .int 0, .int 0])), (q0, .inl (t0, 8, .inl (fun _ => 0))), (q1, .inl (t1, 8, .inl (fun _ => 0))), (q2, .inl (t2, 8, .inl (fun _ => 0)))] := hD
  have hK : va_K (dC, dI) vwCl [(t0, .int), (t1, .int), (t2, .int)] s := hK
  refine va_putF (D := (dC, dI)) (ci := 3) (v := .ref q2) (ty := .array .int) (C := RX3) (T := TX3) (N := 16) hx hb hts hi3 tyX3 tyX3_ok nmX3 hown hK hP hD hS 0 rfl rfl 4 (by decide) lk16 (fun _ h9 => h9) rfl hin rfl (by decide +kernel) rfl rfl (Nat.le_of_ble_eq_true rfl) dX3_init_25 (fun H locs hP hD hS => ?_)
  have hP : va_P (dC, dI) vwCl [(h, .inr (3, [.int 0, .int 0, .ref q0, .ref q1, .ref q2, .null, .null, .null, .null, .null, .int 0, .null, .int 0, .int 0, .int 0, .int 0])), (q0, .inl (t0, 8, .inl (fun _ => 0))), (q1, .inl (t1, 8, .inl (fun _ => 0))), (q2, .inl (t2, 8, .inl (fun _ => 0)))] H := hP
  have hD : va_D A [(h, .inr (3, [.int 0, .int 0, .ref q0, .ref q1, .ref q2, .null, .null, .null, .null, .null, .int 0, .null, .int 0, .int 0, .int 0, .int 0])), (q0, .inl (t0, 8, .inl (fun _ => 0))), (q1, .inl (t1, 8, .inl (fun _ => 0))), (q2, .inl (t2, 8, .inl (fun _ => 0)))] := hD
  have hK : va_K (dC, dI) vwCl [(t0, .int), (t1, .int), (t2, .int)] s := hK
  refine lv_aload_n hx hb dX3_init_28 rfl (lv_at hl 0 rfl) ?_
  refine lv_bipush (v := 8) hx hb dX3_init_29 (by decide) ?_
  refine va_newa (atype := .boolean) hx hb (hts (.arrayClass .boolean) (by decide +kernel)) (ty := .boolean) rfl hK hP hD hS hA (N' := 8) (a0 := (8, .inl (fun _ => 0))) (fun _ => rfl) (by decide) rfl (show 8 * 1 ≤ 536870912 by decide) (Nat.le_of_ble_eq_true rfl) (Nat.le_of_ble_eq_true rfl) dX3_init_31 (fun q3 t3 H hK hP hD hS => ?_)
  have hP : va_P (dC, dI) vwCl [(h, .inr (3, [.int 0, .int 0, .ref q0, .ref q1, .ref q2, .null, .null, .null, .null, .null, .int 0, .null, .int 0, .int 0, .int 0, .int 0])), (q0, .inl (t0, 8, .inl (fun _ => 0))), (q1, .inl (t1, 8, .inl (fun _ => 0))), (q2, .inl (t2, 8, .inl (fun _ => 0))), (q3, .inl (t3, 8, .inl (fun _ => 0)))] H := hP
  have hD : va_D A [(h, .inr (3, [.int 0, .int 0, .ref q0, .ref q1, .ref q2, .null, .null, .null, .null, .null, .int 0, .null, .int 0, .int 0, .int 0, .int 0])), (q0, .inl (t0, 8, .inl (fun _ => 0))), (q1, .inl (t1, 8, .inl (fun _ => 0))), (q2, .inl (t2, 8, .inl (fun _ => 0))), (q3, .inl (t3, 8, .inl (fun _ => 0)))] := hD
  have hK : va_K (dC, dI) vwCl [(t0, .int), (t1, .int), (t2, .int), (t3, .boolean)] s := hK
  refine va_putF (D := (dC, dI)) (ci := 3) (v := .ref q3) (ty := .array .boolean) (C := RX3) (T := TX3) (N := 16) hx hb hts hi3 tyX3 tyX3_ok nmX3 hown hK hP hD hS 0 rfl rfl 5 (by decide) lk19 (fun _ h9 => h9) rfl hin rfl (by decide +kernel) rfl rfl (Nat.le_of_ble_eq_true rfl) dX3_init_33 (fun H locs hP hD hS => ?_)
  have hP : va_P (dC, dI) vwCl [(h, .inr (3, [.int 0, .int 0, .ref q0, .ref q1, .ref q2, .ref q3, .null, .null, .null, .null, .int 0, .null, .int 0, .int 0, .int 0, .int 0])), (q0, .inl (t0, 8, .inl (fun _ => 0))), (q1, .inl (t1, 8, .inl (fun _ => 0))), (q2, .inl (t2, 8, .inl (fun _ => 0))), (q3, .inl (t3, 8, .inl (fun _ => 0)))] H := hP
  have hD : va_D A [(h, .inr (3, [.int 0, .int 0, .ref q0, .ref q1, .ref q2, .ref q3, .null, .null, .null, .null, .int 0, .null, .int 0, .int 0, .int 0, .int 0])), (q0, .inl (t0, 8, .inl (fun _ => 0))), (q1, .inl (t1, 8, .inl (fun _ => 0))), (q2, .inl (t2, 8, .inl (fun _ => 0))), (q3, .inl (t3, 8, .inl (fun _ => 0)))] := hD
  have hK : va_K (dC, dI) vwCl [(t0, .int), (t1, .int), (t2, .int), (t3, .boolean)] s := hK
  refine lv_aload_n hx hb dX3_init_36 rfl (lv_at hl 0 rfl) ?_
  refine lv_bipush (v := 8) hx hb dX3_init_37 (by decide) ?_
  refine va_newa (atype := .int) hx hb (hts (.arrayClass .int) (by decide +kernel)) (ty := .int) rfl hK hP hD hS hA (N' := 8) (a0 := (8, .inl (fun _ => 0))) (fun _ => rfl) (by decide) rfl (show 8 * 4 ≤ 536870912 by decide) (Nat.le_of_ble_eq_true rfl) (Nat.le_of_ble_eq_true rfl) dX3_init_39 (fun q4 t4 H hK hP hD hS => ?_)
  have hP : va_P (dC, dI) vwCl [(h, .inr (3, [.int 0, .int 0, .ref q0, .ref q1, .ref q2, .ref q3, .null, .null, .null, .null, .int 0, .null, .int 0, .int 0, .int 0, .int 0])), (q0, .inl (t0, 8, .inl (fun _ => 0))), (q1, .inl (t1, 8, .inl (fun _ => 0))), (q2, .inl (t2, 8, .inl (fun _ => 0))), (q3, .inl (t3, 8, .inl (fun _ => 0))), (q4, .inl (t4, 8, .inl (fun _ => 0)))] H := hP
  have hD : va_D A [(h, .inr (3, [.int 0, .int 0, .ref q0, .ref q1, .ref q2, .ref q3, .null, .null, .null, .null, .int 0, .null, .int 0, .int 0, .int 0, .int 0])), (q0, .inl (t0, 8, .inl (fun _ => 0))), (q1, .inl (t1, 8, .inl (fun _ => 0))), (q2, .inl (t2, 8, .inl (fun _ => 0))), (q3, .inl (t3, 8, .inl (fun _ => 0))), (q4, .inl (t4, 8, .inl (fun _ => 0)))] := hD
  have hK : va_K (dC, dI) vwCl [(t0, .int), (t1, .int), (t2, .int), (t3, .boolean), (t4, .int)] s := hK
  refine va_putF (D := (dC, dI)) (ci := 3) (v := .ref q4) (ty := .array .int) (C := RX3) (T := TX3) (N := 16) hx hb hts hi3 tyX3 tyX3_ok nmX3 hown hK hP hD hS 0 rfl rfl 6 (by decide) lk23 (fun _ h9 => h9) rfl hin rfl (by decide +kernel) rfl rfl (Nat.le_of_ble_eq_true rfl) dX3_init_41 (fun H locs hP hD hS => ?_)
  have hP : va_P (dC, dI) vwCl [(h, .inr (3, [.int 0, .int 0, .ref q0, .ref q1, .ref q2, .ref q3, .ref q4, .null, .null, .null, .int 0, .null, .int 0, .int 0, .int 0, .int 0])), (q0, .inl (t0, 8, .inl (fun _ => 0))), (q1, .inl (t1, 8, .inl (fun _ => 0))), (q2, .inl (t2, 8, .inl (fun _ => 0))), (q3, .inl (t3, 8, .inl (fun _ => 0))), (q4, .inl (t4, 8, .inl (fun _ => 0)))] H := hP
  have hD : va_D A [(h, .inr (3, [.int 0, .int 0, .ref q0, .ref q1, .ref q2, .ref q3, .ref q4, .null, .null, .null, .int 0, .null, .int 0, .int 0, .int 0, .int 0])), (q0, .inl (t0, 8, .inl (fun _ => 0))), (q1, .inl (t1, 8, .inl (fun _ => 0))), (q2, .inl (t2, 8, .inl (fun _ => 0))), (q3, .inl (t3, 8, .inl (fun _ => 0))), (q4, .inl (t4, 8, .inl (fun _ => 0)))] := hD
  have hK : va_K (dC, dI) vwCl [(t0, .int), (t1, .int), (t2, .int), (t3, .boolean), (t4, .int)] s := hK
  refine lv_aload_n hx hb dX3_init_44 rfl (lv_at hl 0 rfl) ?_
  refine lv_bipush (v := 8) hx hb dX3_init_45 (by decide) ?_
  refine va_newa (atype := .int) hx hb (hts (.arrayClass .int) (by decide +kernel)) (ty := .int) rfl hK hP hD hS hA (N' := 8) (a0 := (8, .inl (fun _ => 0))) (fun _ => rfl) (by decide) rfl (show 8 * 4 ≤ 536870912 by decide) (Nat.le_of_ble_eq_true rfl) (Nat.le_of_ble_eq_true rfl) dX3_init_47 (fun q5 t5 H hK hP hD hS => ?_)
  have hP : va_P (dC, dI) vwCl [(h, .inr (3, [.int 0, .int 0, .ref q0, .ref q1, .ref q2, .ref q3, .ref q4, .null, .null, .null, .int 0, .null, .int 0, .int 0, .int 0, .int 0])), (q0, .inl (t0, 8, .inl (fun _ => 0))), (q1, .inl (t1, 8, .inl (fun _ => 0))), (q2, .inl (t2, 8, .inl (fun _ => 0))), (q3, .inl (t3, 8, .inl (fun _ => 0))), (q4, .inl (t4, 8, .inl (fun _ => 0))), (q5, .inl (t5, 8, .inl (fun _ => 0)))] H := hP
  have hD : va_D A [(h, .inr (3, [.int 0, .int 0, .ref q0, .ref q1, .ref q2, .ref q3, .ref q4, .null, .null, .null, .int 0, .null, .int 0, .int 0, .int 0, .int 0])), (q0, .inl (t0, 8, .inl (fun _ => 0))), (q1, .inl (t1, 8, .inl (fun _ => 0))), (q2, .inl (t2, 8, .inl (fun _ => 0))), (q3, .inl (t3, 8, .inl (fun _ => 0))), (q4, .inl (t4, 8, .inl (fun _ => 0))), (q5, .inl (t5, 8, .inl (fun _ => 0)))] := hD
  have hK : va_K (dC, dI) vwCl [(t0, .int), (t1, .int), (t2, .int), (t3, .boolean), (t4, .int), (t5, .int)] s := hK
  refine va_putF (D := (dC, dI)) (ci := 3) (v := .ref q5) (ty := .array .int) (C := RX3) (T := TX3) (N := 16) hx hb hts hi3 tyX3 tyX3_ok nmX3 hown hK hP hD hS 0 rfl rfl 7 (by decide) lk26 (fun _ h9 => h9) rfl hin rfl (by decide +kernel) rfl rfl (Nat.le_of_ble_eq_true rfl) dX3_init_49 (fun H locs hP hD hS => ?_)
  have hP : va_P (dC, dI) vwCl [(h, .inr (3, [.int 0, .int 0, .ref q0, .ref q1, .ref q2, .ref q3, .ref q4, .ref q5, .null, .null, .int 0, .null, .int 0, .int 0, .int 0, .int 0])), (q0, .inl (t0, 8, .inl (fun _ => 0))), (q1, .inl (t1, 8, .inl (fun _ => 0))), (q2, .inl (t2, 8, .inl (fun _ => 0))), (q3, .inl (t3, 8, .inl (fun _ => 0))), (q4, .inl (t4, 8, .inl (fun _ => 0))), (q5, .inl (t5, 8, .inl (fun _ => 0)))] H := hP
  have hD : va_D A [(h, .inr (3, [.int 0, .int 0, .ref q0, .ref q1, .ref q2, .ref q3, .ref q4, .ref q5, .null, .null, .int 0, .null, .int 0, .int 0, .int 0, .int 0])), (q0, .inl (t0, 8, .inl (fun _ => 0))), (q1, .inl (t1, 8, .inl (fun _ => 0))), (q2, .inl (t2, 8, .inl (fun _ => 0))), (q3, .inl (t3, 8, .inl (fun _ => 0))), (q4, .inl (t4, 8, .inl (fun _ => 0))), (q5, .inl (t5, 8, .inl (fun _ => 0)))] := hD
  have hK : va_K (dC, dI) vwCl [(t0, .int), (t1, .int), (t2, .int), (t3, .boolean), (t4, .int), (t5, .int)] s := hK
  refine lv_aload_n hx hb dX3_init_52 rfl (lv_at hl 0 rfl) ?_
  refine lv_bipush (v := 8) hx hb dX3_init_53 (by decide) ?_
  refine va_newa (atype := .int) hx hb (hts (.arrayClass .int) (by decide +kernel)) (ty := .int) rfl hK hP hD hS hA (N' := 8) (a0 := (8, .inl (fun _ => 0))) (fun _ => rfl) (by decide) rfl (show 8 * 4 ≤ 536870912 by decide) (Nat.le_of_ble_eq_true rfl) (Nat.le_of_ble_eq_true rfl) dX3_init_55 (fun q6 t6 H hK hP hD hS => ?_)
  have hP : va_P (dC, dI) vwCl [(h, .inr (3, [.int 0, .int 0, .ref q0, .ref q1, .ref q2, .ref q3, .ref q4, .ref q5, .null, .null, .int 0, .null, .int 0, .int 0, .int 0, .int 0])), (q0, .inl (t0, 8, .inl (fun _ => 0))), (q1, .inl (t1, 8, .inl (fun _ => 0))), (q2, .inl (t2, 8, .inl (fun _ => 0))), (q3, .inl (t3, 8, .inl (fun _ => 0))), (q4, .inl (t4, 8, .inl (fun _ => 0))), (q5, .inl (t5, 8, .inl (fun _ => 0))), (q6, .inl (t6, 8, .inl (fun _ => 0)))] H := hP
  have hD : va_D A [(h, .inr (3, [.int 0, .int 0, .ref q0, .ref q1, .ref q2, .ref q3, .ref q4, .ref q5, .null, .null, .int 0, .null, .int 0, .int 0, .int 0, .int 0])), (q0, .inl (t0, 8, .inl (fun _ => 0))), (q1, .inl (t1, 8, .inl (fun _ => 0))), (q2, .inl (t2, 8, .inl (fun _ => 0))), (q3, .inl (t3, 8, .inl (fun _ => 0))), (q4, .inl (t4, 8, .inl (fun _ => 0))), (q5, .inl (t5, 8, .inl (fun _ => 0))), (q6, .inl (t6, 8, .inl (fun _ => 0)))] := hD
  have hK : va_K (dC, dI) vwCl [(t0, .int), (t1, .int), (t2, .int), (t3, .boolean), (t4, .int), (t5, .int), (t6, .int)] s := hK
  refine va_putF (D := (dC, dI)) (ci := 3) (v := .ref q6) (ty := .array .int) (C := RX3) (T := TX3) (N := 16) hx hb hts hi3 tyX3 tyX3_ok nmX3 hown hK hP hD hS 0 rfl rfl 8 (by decide) lk29 (fun _ h9 => h9) rfl hin rfl (by decide +kernel) rfl rfl (Nat.le_of_ble_eq_true rfl) dX3_init_57 (fun H locs hP hD hS => ?_)
  have hP : va_P (dC, dI) vwCl [(h, .inr (3, [.int 0, .int 0, .ref q0, .ref q1, .ref q2, .ref q3, .ref q4, .ref q5, .ref q6, .null, .int 0, .null, .int 0, .int 0, .int 0, .int 0])), (q0, .inl (t0, 8, .inl (fun _ => 0))), (q1, .inl (t1, 8, .inl (fun _ => 0))), (q2, .inl (t2, 8, .inl (fun _ => 0))), (q3, .inl (t3, 8, .inl (fun _ => 0))), (q4, .inl (t4, 8, .inl (fun _ => 0))), (q5, .inl (t5, 8, .inl (fun _ => 0))), (q6, .inl (t6, 8, .inl (fun _ => 0)))] H := hP
  have hD : va_D A [(h, .inr (3, [.int 0, .int 0, .ref q0, .ref q1, .ref q2, .ref q3, .ref q4, .ref q5, .ref q6, .null, .int 0, .null, .int 0, .int 0, .int 0, .int 0])), (q0, .inl (t0, 8, .inl (fun _ => 0))), (q1, .inl (t1, 8, .inl (fun _ => 0))), (q2, .inl (t2, 8, .inl (fun _ => 0))), (q3, .inl (t3, 8, .inl (fun _ => 0))), (q4, .inl (t4, 8, .inl (fun _ => 0))), (q5, .inl (t5, 8, .inl (fun _ => 0))), (q6, .inl (t6, 8, .inl (fun _ => 0)))] := hD
  have hK : va_K (dC, dI) vwCl [(t0, .int), (t1, .int), (t2, .int), (t3, .boolean), (t4, .int), (t5, .int), (t6, .int)] s := hK
  refine lv_aload_n hx hb dX3_init_60 rfl (lv_at hl 0 rfl) ?_
  refine lv_bipush (v := 8) hx hb dX3_init_61 (by decide) ?_
  refine va_newa (atype := .int) hx hb (hts (.arrayClass .int) (by decide +kernel)) (ty := .int) rfl hK hP hD hS hA (N' := 8) (a0 := (8, .inl (fun _ => 0))) (fun _ => rfl) (by decide) rfl (show 8 * 4 ≤ 536870912 by decide) (Nat.le_of_ble_eq_true rfl) (Nat.le_of_ble_eq_true rfl) dX3_init_63 (fun q7 t7 H hK hP hD hS => ?_)
  have hP : va_P (dC, dI) vwCl [(h, .inr (3, [.int 0, .int 0, .ref q0, .ref q1, .ref q2, .ref q3, .ref q4, .ref q5, .ref q6, .null, .int 0, .null, .int 0, .int 0, .int 0, .int 0])), (q0, .inl (t0, 8, .inl (fun _ => 0))), (q1, .inl (t1, 8, .inl (fun _ => 0))), (q2, .inl (t2, 8, .inl (fun _ => 0))), (q3, .inl (t3, 8, .inl (fun _ => 0))), (q4, .inl (t4, 8, .inl (fun _ => 0))), (q5, .inl (t5, 8, .inl (fun _ => 0))), (q6, .inl (t6, 8, .inl (fun _ => 0))), (q7, .inl (t7, 8, .inl (fun _ => 0)))] H := hP
  have hD : va_D A [(h, .inr (3, [.int 0, .int 0, .ref q0, .ref q1, .ref q2, .ref q3, .ref q4, .ref q5, .ref q6, .null, .int 0, .null, .int 0, .int 0, .int 0, .int 0])), (q0, .inl (t0, 8, .inl (fun _ => 0))), (q1, .inl (t1, 8, .inl (fun _ => 0))), (q2, .inl (t2, 8, .inl (fun _ => 0))), (q3, .inl (t3, 8, .inl (fun _ => 0))), (q4, .inl (t4, 8, .inl (fun _ => 0))), (q5, .inl (t5, 8, .inl (fun _ => 0))), (q6, .inl (t6, 8, .inl (fun _ => 0))), (q7, .inl (t7, 8, .inl (fun _ => 0)))] := hD
  have hK : va_K (dC, dI) vwCl [(t0, .int), (t1, .int), (t2, .int), (t3, .boolean), (t4, .int), (t5, .int), (t6, .int), (t7, .int)] s := hK
  refine va_putF (D := (dC, dI)) (ci := 3) (v := .ref q7) (ty := .array .int) (C := RX3) (T := TX3) (N := 16) hx hb hts hi3 tyX3 tyX3_ok nmX3 hown hK hP hD hS 0 rfl rfl 9 (by decide) lk32 (fun _ h9 => h9) rfl hin rfl (by decide +kernel) rfl rfl (Nat.le_of_ble_eq_true rfl) dX3_init_65 (fun H locs hP hD hS => ?_)
  have hP : va_P (dC, dI) vwCl [(h, .inr (3, [.int 0, .int 0, .ref q0, .ref q1, .ref q2, .ref q3, .ref q4, .ref q5, .ref q6, .ref q7, .int 0, .null, .int 0, .int 0, .int 0, .int 0])), (q0, .inl (t0, 8, .inl (fun _ => 0))), (q1, .inl (t1, 8, .inl (fun _ => 0))), (q2, .inl (t2, 8, .inl (fun _ => 0))), (q3, .inl (t3, 8, .inl (fun _ => 0))), (q4, .inl (t4, 8, .inl (fun _ => 0))), (q5, .inl (t5, 8, .inl (fun _ => 0))), (q6, .inl (t6, 8, .inl (fun _ => 0))), (q7, .inl (t7, 8, .inl (fun _ => 0)))] H := hP
  have hD : va_D A [(h, .inr (3, [.int 0, .int 0, .ref q0, .ref q1, .ref q2, .ref q3, .ref q4, .ref q5, .ref q6, .ref q7, .int 0, .null, .int 0, .int 0, .int 0, .int 0])), (q0, .inl (t0, 8, .inl (fun _ => 0))), (q1, .inl (t1, 8, .inl (fun _ => 0))), (q2, .inl (t2, 8, .inl (fun _ => 0))), (q3, .inl (t3, 8, .inl (fun _ => 0))), (q4, .inl (t4, 8, .inl (fun _ => 0))), (q5, .inl (t5, 8, .inl (fun _ => 0))), (q6, .inl (t6, 8, .inl (fun _ => 0))), (q7, .inl (t7, 8, .inl (fun _ => 0)))] := hD
  have hK : va_K (dC, dI) vwCl [(t0, .int), (t1, .int), (t2, .int), (t3, .boolean), (t4, .int), (t5, .int), (t6, .int), (t7, .int)] s := hK
  refine lv_aload_n hx hb dX3_init_68 rfl (lv_at hl 0 rfl) ?_
  refine lv_bipush (v := 8) hx hb dX3_init_69 (by decide) ?_
  refine va_newa (atype := .int) hx hb (hts (.arrayClass .int) (by decide +kernel)) (ty := .int) rfl hK hP hD hS hA (N' := 8) (a0 := (8, .inl (fun _ => 0))) (fun _ => rfl) (by decide) rfl (show 8 * 4 ≤ 536870912 by decide) (Nat.le_of_ble_eq_true rfl) (Nat.le_of_ble_eq_true rfl) dX3_init_71 (fun q8 t8 H hK hP hD hS => ?_)
  have hP : va_P (dC, dI) vwCl [(h, .inr (3, [.int 0, .int 0, .ref q0, .ref q1, .ref q2, .ref q3, .ref q4, .ref q5, .ref q6, .ref q7, .int 0, .null, .int 0, .int 0, .int 0, .int 0])), (q0, .inl (t0, 8, .inl (fun _ => 0))), (q1, .inl (t1, 8, .inl (fun _ => 0))), (q2, .inl (t2, 8, .inl (fun _ => 0))), (q3, .inl (t3, 8, .inl (fun _ => 0))), (q4, .inl (t4, 8, .inl (fun _ => 0))), (q5, .inl (t5, 8, .inl (fun _ => 0))), (q6, .inl (t6, 8, .inl (fun _ => 0))), (q7, .inl (t7, 8, .inl (fun _ => 0))), (q8, .inl (t8, 8, .inl (fun _ => 0)))] H := hP
  have hD : va_D A [(h, .inr (3, [.int 0, .int 0, .ref q0, .ref q1, .ref q2, .ref q3, .ref q4, .ref q5, .ref q6, .ref q7, .int 0, .null, .int 0, .int 0, .int 0, .int 0])), (q0, .inl (t0, 8, .inl (fun _ => 0))), (q1, .inl (t1, 8, .inl (fun _ => 0))), (q2, .inl (t2, 8, .inl (fun _ => 0))), (q3, .inl (t3, 8, .inl (fun _ => 0))), (q4, .inl (t4, 8, .inl (fun _ => 0))), (q5, .inl (t5, 8, .inl (fun _ => 0))), (q6, .inl (t6, 8, .inl (fun _ => 0))), (q7, .inl (t7, 8, .inl (fun _ => 0))), (q8, .inl (t8, 8, .inl (fun _ => 0)))] := hD
  have hK : va_K (dC, dI) vwCl [(t0, .int), (t1, .int), (t2, .int), (t3, .boolean), (t4, .int), (t5, .int), (t6, .int), (t7, .int), (t8, .int)] s := hK
  refine va_putF (D := (dC, dI)) (ci := 3) (v := .ref q8) (ty := .array .int) (C := RX3) (T := TX3) (N := 16) hx hb hts hi3 tyX3 tyX3_ok nmX3 hown hK hP hD hS 0 rfl rfl 11 (by decide) lk35 (fun _ h9 => h9) rfl hin rfl (by decide +kernel) rfl rfl (Nat.le_of_ble_eq_true rfl) dX3_init_73 (fun H locs hP hD hS => ?_)
  have hP : va_P (dC, dI) vwCl [(h, .inr (3, [.int 0, .int 0, .ref q0, .ref q1, .ref q2, .ref q3, .ref q4, .ref q5, .ref q6, .ref q7, .int 0, .ref q8, .int 0, .int 0, .int 0, .int 0])), (q0, .inl (t0, 8, .inl (fun _ => 0))), (q1, .inl (t1, 8, .inl (fun _ => 0))), (q2, .inl (t2, 8, .inl (fun _ => 0))), (q3, .inl (t3, 8, .inl (fun _ => 0))), (q4, .inl (t4, 8, .inl (fun _ => 0))), (q5, .inl (t5, 8, .inl (fun _ => 0))), (q6, .inl (t6, 8, .inl (fun _ => 0))), (q7, .inl (t7, 8, .inl (fun _ => 0))), (q8, .inl (t8, 8, .inl (fun _ => 0)))] H := hP
  have hD : va_D A [(h, .inr (3, [.int 0, .int 0, .ref q0, .ref q1, .ref q2, .ref q3, .ref q4, .ref q5, .ref q6, .ref q7, .int 0, .ref q8, .int 0, .int 0, .int 0, .int 0])), (q0, .inl (t0, 8, .inl (fun _ => 0))), (q1, .inl (t1, 8, .inl (fun _ => 0))), (q2, .inl (t2, 8, .inl (fun _ => 0))), (q3, .inl (t3, 8, .inl (fun _ => 0))), (q4, .inl (t4, 8, .inl (fun _ => 0))), (q5, .inl (t5, 8, .inl (fun _ => 0))), (q6, .inl (t6, 8, .inl (fun _ => 0))), (q7, .inl (t7, 8, .inl (fun _ => 0))), (q8, .inl (t8, 8, .inl (fun _ => 0)))] := hD
  have hK : va_K (dC, dI) vwCl [(t0, .int), (t1, .int), (t2, .int), (t3, .boolean), (t4, .int), (t5, .int), (t6, .int), (t7, .int), (t8, .int)] s := hK
  have e1 : t1 = t0 := RA_int (hK.2 1 _ rfl).2 (hK.2 0 _ rfl).2
  have e2 : t2 = t0 := RA_int (hK.2 2 _ rfl).2 (hK.2 0 _ rfl).2
  have e4 : t4 = t0 := RA_int (hK.2 4 _ rfl).2 (hK.2 0 _ rfl).2
  have e5 : t5 = t0 := RA_int (hK.2 5 _ rfl).2 (hK.2 0 _ rfl).2
  have e6 : t6 = t0 := RA_int (hK.2 6 _ rfl).2 (hK.2 0 _ rfl).2
  have e7 : t7 = t0 := RA_int (hK.2 7 _ rfl).2 (hK.2 0 _ rfl).2
  have e8 : t8 = t0 := RA_int (hK.2 8 _ rfl).2 (hK.2 0 _ rfl).2
  rw [e1] at hP hD
  rw [e2] at hP hD
  rw [e4] at hP hD
  rw [e5] at hP hD
  rw [e6] at hP hD
  rw [e7] at hP hD
  rw [e8] at hP hD
  obtain ⟨a, ha⟩ : ∃ a : Nat → Nat, a = fun i => ([q0, q1, q2, q3, q4, q5, q6, q7, q8] : List Nat).getD i 0 := ⟨_, rfl⟩
  have hP : va_P (dC, dI) vwCl (rW t0 t3 h a 0 0 0 F00) H := by rw [ha]; exact hP
  have hD : va_D A (rW t0 t3 h a 0 0 0 F00) := by rw [ha]; exact hD
  have hK2 := hK.sub (tys' := rTys t0 t3) [0, 3] rfl
  exact W.vret hx hb hr (fun t ht hW => ⟨⟨(t0, t3, a), rfl, trivial, va_K.moved hW.alike hK2, by show va_P _ _ _ t.heap; rw [ht]; exact hP, hD⟩, hS.F ht⟩) hS.2.2 dX3_init_76
