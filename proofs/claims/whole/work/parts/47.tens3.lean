theorem vf_0 : vf_n32 0 := by unfold vf_n32; decide
theorem vf_mid {v : UInt32} (h : v = 0 ∨ ∃ s E T, 100 ≤ E ∧ E ≤ 160 ∧ T < 8388608 ∧ v = fb s E T) : vf_n32 v := by
  rcases h with rfl | ⟨s, E, T, h1, h2, h3, rfl⟩
  · exact vf_0
  · exact fb_n32 (by omega) h3
theorem not_le0 {x : Int32} (h : 1 ≤ x) : ¬ x ≤ 0 := fun q => by
  rw [i32_le] at h q
  have c0 : (0 : Int32).toInt = 0 := by decide
  have c1 : (1 : Int32).toInt = 1 := by decide
  omega

set_option maxHeartbeats 4000000 in
set_option maxRecDepth 100000 in
theorem c_X1_tensionIn (l9 : Launch) (dC : Nat → ClassId) (dI : Nat → Nat → Nat) (q k : Nat) (F : Rows) (hkd : F 0 k = 0 ∨ F 0 k = 1 ∨ F 0 k = 2) (ha9 : 1 ≤ F 1 k ∧ F 1 k ≤ 20) (hw9 : 1 ≤ F 2 k ∧ F 2 k ≤ 40) (hs9 : 0 ≤ F 9 0 ∧ F 9 0 ≤ 30) : Met l9 yX1_tensionIn wsX1_tensionIn ({ frames := 2, cells := 0, slots := 0, locals := 42 }) (va_Pc [.ref q, .int (F 9 0)] (PRo dC dI [] [(q, kE F k)])) (vp_Sf (fun r9 => r9 = tns F k)) 0 0 (fun _ => False) := by
  refine Met.ofW (cc := cX1_tensionIn) (maxL := 3) (ret := (some .float)) (by decide) rfl ?_
  intro p9 e9 s m args below meth c s₁ B hml hv
  obtain ⟨rfl, hP, hK, hE⟩ := hv
  have hx := B.exec
  have hb := B.bytes
  have hr := B.returns
  have hts := atoms_spec (ws := wsX1_tensionIn) B.pre
  have hown : s.vm.findClass RX1 = some m.cls := findClass_of_methodNamed B.named
  have hlocks := B.notSynchronized
  have hP : va_P (dC, dI) vwCl [(q, kE F k)] s.heap := hP
  have hi1 : ∀ w ∈ u_ws RX1 TX1 9, w ∈ wsX1_tensionIn := by decide +kernel
  have lk18 := hts (.fieldLink RX1 18 "Windlane$Kite" "area" "I") (by decide +kernel)
  have hl := lv_entry ([.ref q, .int (F 9 0)]) (n := 3) (Nat.le_of_ble_eq_true rfl)
  rw [lg_entry_eq]
  generalize (lg_sl ([.ref q, .int (F 9 0)]) ++ List.replicate (3 - (lg_sl ([.ref q, .int (F 9 0)])).length) Slot.unset).toArray = ls at hl ⊢
  have hl : lv_has ls 3 [(0, .ref q), (1, .int (F 9 0))] := hl
  refine lv_aload_n hx hb dX1_tensionIn_0 rfl (lv_at hl 0 rfl) ?_
  refine lv_iload_n hx hb dX1_tensionIn_1 rfl (lv_at hl 1 rfl) ?_
  refine vp_callSi (va_Run.run (va_runV (As := [.int (F 9 0)]) (rest := []) ⟨hx, hb, hml, hown, hts⟩ (c_X1_pullIn l9 dC dI q k F (F 9 0) hkd) (cwV 1 hts gX1_tensionIn_X1_pullIn rfl rfl rfl (by decide +kernel) ⟨Nat.le_of_ble_eq_true rfl, Nat.le_of_ble_eq_true rfl⟩) ⟨PRo.blind, va_recv hK hP (ci := 1) (q0 := 0) rfl rfl, PRo.pre hP hK hE⟩ rfl rfl hl.1 rfl (lv_room (Nat.le_of_ble_eq_true rfl)) dX1_tensionIn_2 ⟨Nat.le_of_ble_eq_true rfl, Nat.le_of_ble_eq_true rfl⟩)) (fun r hr => ?_)
  subst hr
  refine lv_i2f hx hb dX1_tensionIn_5 ?_
  refine lv_ldcf (v := 1120403456) hx hb hown (hts (.constantFloat RX1 59 (1120403456)) (by decide +kernel)) dX1_tensionIn_6 ?_
  refine lv_fdiv hx hb dX1_tensionIn_8 ((tns_ok hkd ha9 hw9 hs9).1) ?_
  refine lv_fstore_n (lv' := [(2, .float (FP.fdiv (FP.i2f (pl F k (F 9 0))) 1120403456)), (0, .ref q), (1, .int (F 9 0))]) hx hb dX1_tensionIn_9 rfl hl (by decide) rfl (fun ls hl => ?_)
  refine lv_aload_n hx hb dX1_tensionIn_10 rfl (lv_at hl 1 rfl) ?_
  refine va_get (D := (dC, dI)) (ci := 1) (v := .int (F 1 k)) (C := RX1) (T := TX1) (N := 9) hx hb hts hi1 hown hK hP 0 rfl rfl 2 (by decide) lk18 (fun _ h9 => h9) rfl dX1_tensionIn_11 ?_
  refine lv_if_le (tgt := 27) hx hb dX1_tensionIn_14 (by decide) (fun c_14 => absurd c_14 (not_le0 ha9.1)) (fun _ => ?_)
  refine lv_fload_n hx hb dX1_tensionIn_17 rfl (lv_at hl 0 rfl) ?_
  refine lv_aload_n hx hb dX1_tensionIn_18 rfl (lv_at hl 1 rfl) ?_
  refine va_get (D := (dC, dI)) (ci := 1) (v := .int (F 1 k)) (C := RX1) (T := TX1) (N := 9) hx hb hts hi1 hown hK hP 0 rfl rfl 2 (by decide) lk18 (fun _ h9 => h9) rfl dX1_tensionIn_19 ?_
  refine lv_i2f hx hb dX1_tensionIn_22 ?_
  refine lv_fdiv hx hb dX1_tensionIn_23 (vf_mid (tns_ok hkd ha9 hw9 hs9).2) ?_
  refine lv_goto (tgt := 28) hx hb dX1_tensionIn_24 (by decide) ?_
  exact W.fret (v := FP.fdiv (FP.fdiv (FP.i2f (pl F k (F 9 0))) 1120403456) (FP.i2f (F 1 k))) hx hb hr (fun t ht _ => ⟨_, rfl, rfl, ht⟩) (fun q hq => absurd hq List.not_mem_nil) dX1_tensionIn_28

set_option maxHeartbeats 4000000 in
set_option maxRecDepth 100000 in
theorem c_X2_tension (l9 : Launch) (hlt : l9.stackTraces = false) (dC : Nat → ClassId) (dI : Nat → Nat → Nat) (sz : Nat) {tK tB : ClassId} (h ak ab af : Nat) (ka kb : Nat → Nat) (n p : Nat) (F : Rows) (its : Int32) (hI : Inv n p F) : vx_Met l9 yX2_tension wsX2_tension ({ frames := 7, cells := 1, slots := 6, locals := 104 }) (va_Pc [.ref h, .int its] (PWr dC dI [(tK, .object "Windlane$Kite"), (tB, .object "Windlane$Borrower")] (cW tK tB h ak ab af ka kb n p F) sz)) (cQ dC dI tK tB h ak ab af (va_A (cW tK tB h ak ab af ka kb n p F) sz) n p F ((S_tension n F its).1) ((S_tension n F its).2)) (vx_X (fun _ : Unit => True) (fun E _ _ => (E = "java/lang/IndexOutOfBoundsException" ∧ (S_tension n F its).1 = 1)) (fun _ => False)) 1 6 (va_A (cW tK tB h ak ab af ka kb n p F) sz) := by
  refine vx_ofW (cc := cX2_tension) (maxL := 3) (ret := (some .int)) (by decide) rfl ?_
  intro p9 e9 s m args below meth c s₁ B hml hout hv
  obtain ⟨rfl, hsz, hP, hK, hD0, hE, hH⟩ := hv
  have hx := B.exec
  have hb := B.bytes
  have hr := B.returns
  have hts := atoms_spec (ws := wsX2_tension) B.pre
  have hown : s.vm.findClass RX2 = some m.cls := findClass_of_methodNamed B.named
  have hlocks := B.notSynchronized
  have hi2 : ∀ w ∈ u_ws RX2 TX2 9, w ∈ wsX2_tension := by decide +kernel
  have lk112 := hts (.fieldLink RX2 112 "Windlane" "windSpeed" "I") (by decide +kernel)
  subst hsz
  have hD := hD0.self (sz := s.heap.size)
  generalize hAe : va_A (cW tK tB h ak ab af ka kb n p F) s.heap.size = A at hD hH ⊢
  have hA : ∀ q : Nat, s.heap.size ≤ q → A q := fun q h => by rw [← hAe]; exact Or.inr h
  have hS : va_S A s.heap s.heap [] := va_S.rf
  have hP : va_P (dC, dI) vwCl (cW tK tB h ak ab af ka kb n p F) s.heap := hP
  have hn8 : n ≤ 8 := hI.1.1
  have hp8 : p ≤ 8 := hI.1.2
  have hl := lv_entry ([.ref h, .int its]) (n := 3) (Nat.le_of_ble_eq_true rfl)
  rw [lg_entry_eq]
  generalize (lg_sl ([.ref h, .int its]) ++ List.replicate (3 - (lg_sl ([.ref h, .int its])).length) Slot.unset).toArray = ls at hl ⊢
  have hl : lv_has ls 3 [(0, .ref h), (1, .int its)] := hl
  refine lv_aload_n hx hb dX2_tension_0 rfl (lv_at hl 0 rfl) ?_
  refine lv_iload_n hx hb dX2_tension_1 rfl (lv_at hl 1 rfl) ?_
  refine my_callXq (vx_runV (As := [.int its]) (rest := []) ⟨hx, hb, hml, hown, hts⟩ (c_X2_kiteAt l9 hlt dC dI s.heap.size h ak ab af ka kb n p F its hI.1.1) (cwV 1 hts gX2_tension_X2_kiteAt rfl rfl rfl (by decide +kernel) ⟨Nat.le_of_ble_eq_true rfl, Nat.le_of_ble_eq_true rfl⟩) ⟨PWr.blind, va_recv hK hP (ci := 2) (q0 := 0) rfl rfl, PWr.pre hP hK hD hE (hH.narrow (A_in hD hS hA))⟩ rfl rfl hl.1 rfl (lv_room (Nat.le_of_ble_eq_true rfl)) dX2_tension_2 ⟨Nat.le_of_ble_eq_true rfl, Nat.le_of_ble_eq_true rfl⟩) (fun E ce q9 H1 hBE hz1 hk1 hce hcv hcl => vx_out (fun x hx => (hout x hx).elim) hlocks hce hcv hcl (fun t ht _ => ⟨(), trivial, ⟨hBE.1, by rw [S_tension, ix_f hBE.2]⟩, by rw [ht]; exact hz1, fun q hq _ => by rw [ht]; exact hk1 q hq⟩) (fun z hz => absurd hz List.not_mem_nil) (Nat.le_of_ble_eq_true rfl) (Nat.le_of_ble_eq_true rfl)) (fun r9 hr9 => ?_)
  obtain ⟨k, hkn, rfl, rfl⟩ := hr9
  have hixk : ix n (nI k) = some k := ix_t hkn (by omega)
  have hl : lv_has ls 3 [(0, .ref h), (1, .int (nI k))] := hl
  refine W_top (x := va_rf (some (ka k))) (y := .ref (ka k)) rfl ?_
  refine lv_astore_n (lv' := [(2, .ref (ka k)), (0, .ref h), (1, .int (nI k))]) hx hb dX2_tension_5 rfl hl (by decide) rfl (fun ls hl => ?_)
  refine lv_aload_n hx hb dX2_tension_6 rfl (lv_at hl 0 rfl) ?_
  refine lv_aload_n hx hb dX2_tension_7 rfl (lv_at hl 1 rfl) ?_
  refine va_get (D := (dC, dI)) (ci := 2) (v := .int (F 9 0)) (C := RX2) (T := TX2) (N := 9) hx hb hts hi2 hown hK hP 0 rfl rfl 5 (by decide) lk112 (fun _ h9 => h9) rfl dX2_tension_8 ?_
  have hk9 := hI.2.1 k hkn
  have hq1 := one_P hP (cG_k hkn)
  refine vp_callSf (va_Run.run (va_runV (As := [.int (F 9 0)]) (rest := []) ⟨hx, hb, hml, hown, hts⟩ (c_X1_tensionIn l9 dC dI (ka k) k F hk9.1 hk9.2.1 hk9.2.2.1 hI.2.2.2.2.1.1) (cwV 1 hts gX2_tension_X1_tensionIn rfl rfl rfl (by decide +kernel) ⟨Nat.le_of_ble_eq_true rfl, Nat.le_of_ble_eq_true rfl⟩) ⟨PRo.blind, va_recv (hK.sub (tys' := []) [] rfl) hq1 (ci := 1) (q0 := 0) rfl rfl, PRo.pre hq1 (hK.sub (tys' := []) [] rfl) hE⟩ rfl rfl hl.1 rfl (lv_room (Nat.le_of_ble_eq_true rfl)) dX2_tension_11 ⟨Nat.le_of_ble_eq_true rfl, Nat.le_of_ble_eq_true rfl⟩)) (fun r hr => ?_)
  subst hr
  have ht9 := (tns_ok hk9.1 hk9.2.1 hk9.2.2.1 hI.2.2.2.2.1.1).2
  refine vp_callSi (va_Run.run (va_runS (As := [.float (tns F k)]) (rest := []) ⟨hx, hb, hml, hown, hts⟩ (c_X2_bitsOf l9 (tns F k) ht9) (va_cwS 1 hts gX2_tension_X2_bitsOf rfl rfl rfl (by decide +kernel) ⟨Nat.le_of_ble_eq_true rfl, Nat.le_of_ble_eq_true rfl⟩) ⟨fun a U g mk q => q, fun U hU hW => ⟨rfl, trivial⟩⟩ rfl rfl hl.1 rfl (lv_room (Nat.le_of_ble_eq_true rfl)) dX2_tension_14 ⟨Nat.le_of_ble_eq_true rfl, Nat.le_of_ble_eq_true rfl⟩)) (fun r hr => ?_)
  subst hr
  have hS9 : S_tension n F (nI k) = (0, (tns F k).toInt32) := by rw [S_tension, hixk]
  refine vx_ret ?_
  refine W.widen (k := 1) (n := 6) (Nat.le_of_ble_eq_true rfl) (Nat.le_of_ble_eq_true rfl) ?_
  exact W.iret (v := (tns F k).toInt32) hx hb hr (fun t ht hW => cQ_mk ka kb (by rw [hS9]) (by rw [hS9]) (by rw [ht]; exact hP) (hD) (hS.F ht)) hS.2.2 dX2_tension_17

set_option maxHeartbeats 4000000 in
set_option maxRecDepth 100000 in
theorem c_X3_tension (l9 : Launch) (dC : Nat → ClassId) (dI : Nat → Nat → Nat) (sz : Nat) {cI cZ : ClassId} (h : Nat) (a : Nat → Nat) (th : Int32) (n p : Nat) (F : Rows) (its : Int32) (hI : Inv n p F) : Met l9 yX3_tension wsX3_tension ({ frames := 2, cells := 0, slots := 0, locals := 43 }) (va_Pc [.ref h, .int its] (PWr dC dI [(cI, .int), (cZ, .boolean)] (rW cI cZ h a th n p F) sz)) (va_Qi (fun r9 (_ : Unit) => r9 = (S_tension n F its).2) (fun _ t => va_P (dC, dI) vwCl (rW cI cZ h a ((S_tension n F its).1) n p F) t.heap) (va_A (rW cI cZ h a th n p F) sz)) 0 0 (va_A (rW cI cZ h a th n p F) sz) := by
  refine Met.ofW (cc := cX3_tension) (maxL := 3) (ret := (some .int)) (by decide) rfl ?_
  intro p9 e9 s m args below meth c s₁ B hml hv
  obtain ⟨rfl, hsz, hP, hK, hD0, hE, hH⟩ := hv
  have hx := B.exec
  have hb := B.bytes
  have hr := B.returns
  have hts := atoms_spec (ws := wsX3_tension) B.pre
  have hown : s.vm.findClass RX3 = some m.cls := findClass_of_methodNamed B.named
  have hlocks := B.notSynchronized
  have hi3 : ∀ w ∈ u_ws RX3 TX3 16, w ∈ wsX3_tension := by decide +kernel
  have lk13 := hts (.fieldLink RX3 13 "WindlaneModel" "area" "[I") (by decide +kernel)
  have lk59 := hts (.fieldLink RX3 59 "WindlaneModel" "speed" "I") (by decide +kernel)
  subst hsz
  have hD := hD0.self (sz := s.heap.size)
  generalize hAe : va_A (rW cI cZ h a th n p F) s.heap.size = A at hD hH ⊢
  have hA : ∀ q : Nat, s.heap.size ≤ q → A q := fun q h => by rw [← hAe]; exact Or.inr h
  have hS : va_S A s.heap s.heap [] := va_S.rf
  have hP : va_P (dC, dI) vwCl (rW cI cZ h a th n p F) s.heap := hP
  have hn8 : n ≤ 8 := hI.1.1
  have hp8 : p ≤ 8 := hI.1.2
  have hl := lv_entry ([.ref h, .int its]) (n := 3) (Nat.le_of_ble_eq_true rfl)
  rw [lg_entry_eq]
  generalize (lg_sl ([.ref h, .int its]) ++ List.replicate (3 - (lg_sl ([.ref h, .int its])).length) Slot.unset).toArray = ls at hl ⊢
  have hl : lv_has ls 3 [(0, .ref h), (1, .int its)] := hl
  rcases inR_cases n its with ⟨k, hkn, rfl⟩ | hno
  · skip
    have hixk : ix n (nI k) = some k := ix_t hkn (by omega)
    refine lv_aload_n hx hb dX3_tension_0 rfl (lv_at hl 0 rfl) ?_
    refine lv_aload_n hx hb dX3_tension_1 rfl (lv_at hl 0 rfl) ?_
    refine lv_iload_n hx hb dX3_tension_2 rfl (lv_at hl 1 rfl) ?_
    refine vp_callSi (va_Run.run (va_runV (As := [.int (nI k)]) (rest := [.ref h]) ⟨hx, hb, hml, hown, hts⟩ (c_X3_isKite l9 dC dI h a th n p F (nI k) hn8) (cwV 1 hts gX3_tension_X3_isKite rfl rfl rfl (by decide +kernel) ⟨Nat.le_of_ble_eq_true rfl, Nat.le_of_ble_eq_true rfl⟩) ⟨PRo.blind, va_recv hK hP (ci := 3) (q0 := 0) rfl rfl, PRo.pre hP hK hE⟩ rfl rfl hl.1 rfl (lv_room (Nat.le_of_ble_eq_true rfl)) dX3_tension_3 ⟨Nat.le_of_ble_eq_true rfl, Nat.le_of_ble_eq_true rfl⟩)) (fun r hr => ?_)
    subst hr
    refine lv_if_eq (tgt := 13) hx hb dX3_tension_6 (by decide) (fun c_6 => absurd c_6 (bi_nz.mpr (inR_nI hkn (by omega)))) (fun _ => ?_)
    refine lv_iconst (v := 0) hx hb dX3_tension_9 (by decide) ?_
    refine lv_goto (tgt := 14) hx hb dX3_tension_10 (by decide) ?_
    refine va_calli (va_runV (As := [.int 0]) (rest := []) ⟨hx, hb, hml, hown, hts⟩ (c_X3_holds l9 dC dI s.heap.size h a th n p F 0) (cwV 1 hts gX3_tension_X3_holds rfl rfl rfl (by decide +kernel) ⟨Nat.le_of_ble_eq_true rfl, Nat.le_of_ble_eq_true rfl⟩) ⟨PWr.blind, va_recv hK hP (ci := 3) (q0 := 0) rfl rfl, PWr.pre hP hK hD hE ((hH.kept hS.2.1).narrow (A_in hD hS hA))⟩ rfl rfl hl.1 rfl (lv_room (Nat.le_of_ble_eq_true rfl)) dX3_tension_14 ⟨Nat.le_of_ble_eq_true rfl, Nat.le_of_ble_eq_true rfl⟩) hS (fun q _ hq => A_in hD hS hA q hq) (A_in hD hS hA) (fun r9 u9 t9 H locs ht9 hvm hw9 hB hz1 hk1 hS => ?_)
    have hP : va_P (dC, dI) vwCl (rW cI cZ h a 0 n p F) H := by rw [← ht9]; exact hB
    have hD : va_D A (rW cI cZ h a 0 n p F) := D_same hD rfl
    refine W_top (y := .int (bi (0 = 0))) (congrArg Value.int hw9) ?_
    refine W_top (y := .int 1) (congrArg Value.int (bi_t rfl)) ?_
    refine lv_if_ne (tgt := 22) hx hb dX3_tension_17 (by decide) (fun _ => ?_) (fun c_17 => absurd c_17 (by decide))
    refine lv_aload_n hx hb dX3_tension_22 rfl (lv_at hl 0 rfl) ?_
    refine lv_iload_n hx hb dX3_tension_23 rfl (lv_at hl 1 rfl) ?_
    refine lv_aload_n hx hb dX3_tension_24 rfl (lv_at hl 0 rfl) ?_
    refine va_get (D := (dC, dI)) (ci := 3) (v := .int (F 9 0)) (C := RX3) (T := TX3) (N := 16) hx hb hts hi3 hown hK hP 0 rfl rfl 12 (by decide) lk59 (fun _ h9 => h9) rfl dX3_tension_25 ?_
    have hk9 := hI.2.1 k hkn
    refine vp_callSi (va_Run.run (va_runV (As := [.int (nI k), .int (F 9 0)]) (rest := []) ⟨hx, hb, hml, hown, hts⟩ (c_X3_pullIn l9 dC dI h a 0 n p F k (F 9 0) (Nat.lt_of_lt_of_le hkn hn8) (hI.kd k hkn)) (cwV 2 hts gX3_tension_X3_pullIn rfl rfl rfl (by decide +kernel) ⟨Nat.le_of_ble_eq_true rfl, Nat.le_of_ble_eq_true rfl⟩) ⟨PRo.blind, va_recv hK hP (ci := 3) (q0 := 0) rfl rfl, PRo.pre hP hK hE⟩ rfl rfl hl.1 rfl (lv_room (Nat.le_of_ble_eq_true rfl)) dX3_tension_28 ⟨Nat.le_of_ble_eq_true rfl, Nat.le_of_ble_eq_true rfl⟩)) (fun r hr => ?_)
    subst hr
    refine lv_i2f hx hb dX3_tension_31 ?_
    refine lv_fstore_n (lv' := [(2, .float (FP.i2f (pl F k (F 9 0)))), (0, .ref h), (1, .int (nI k))]) hx hb dX3_tension_32 rfl hl (by decide) rfl (fun ls hl => ?_)
    refine lv_fload_n hx hb dX3_tension_33 rfl (lv_at hl 0 rfl) ?_
    refine lv_ldcf (v := 1120403456) hx hb hown (hts (.constantFloat RX3 114 (1120403456)) (by decide +kernel)) dX3_tension_34 ?_
    refine lv_fdiv hx hb dX3_tension_36 ((tns_ok hk9.1 hk9.2.1 hk9.2.2.1 hI.2.2.2.2.1.1).1) ?_
    refine lv_aload_n hx hb dX3_tension_37 rfl (lv_at hl 1 rfl) ?_
    refine va_get (D := (dC, dI)) (ci := 3) (v := .ref (a 1)) (C := RX3) (T := TX3) (N := 16) hx hb hts hi3 hown hK hP 0 rfl rfl 3 (by decide) lk13 (fun _ h9 => h9) rfl dX3_tension_38 ?_
    refine lv_iload_n hx hb dX3_tension_41 rfl (lv_at hl 2 rfl) ?_
    refine my_iald hx hb hK hP 2 0 rfl rfl (Nat.lt_of_lt_of_le hkn hn8) (Nat.le_of_ble_eq_true rfl) dX3_tension_42 ?_
    refine W_top (y := .int (F 1 k)) (rfl) ?_
    refine lv_i2f hx hb dX3_tension_43 ?_
    refine lv_fdiv hx hb dX3_tension_44 (vf_mid (tns_ok hk9.1 hk9.2.1 hk9.2.2.1 hI.2.2.2.2.1.1).2) ?_
    refine W_top (y := .float (tns F k)) (rfl) ?_
    refine vp_callSi (va_Run.run (va_runS (As := [.float (tns F k)]) (rest := []) ⟨hx, hb, hml, hown, hts⟩ (c_Jxf58ca_floatToIntBits_5c35a l9 (tns F k) (tns_ok hk9.1 hk9.2.1 hk9.2.2.1 hI.2.2.2.2.1.1).2) (va_cwS 1 hts gX3_tension_Jxf58ca_floatToIntBits_5c35a rfl rfl rfl (by decide +kernel) ⟨Nat.le_of_ble_eq_true rfl, Nat.le_of_ble_eq_true rfl⟩) ⟨fun a U g mk q => q, fun U hU hW => ⟨rfl, trivial⟩⟩ rfl rfl hl.1 rfl (lv_room (Nat.le_of_ble_eq_true rfl)) dX3_tension_45 ⟨Nat.le_of_ble_eq_true rfl, Nat.le_of_ble_eq_true rfl⟩)) (fun r hr => ?_)
    subst hr
    have hS9 : S_tension n F (nI k) = (0, (tns F k).toInt32) := by rw [S_tension, hixk]
    exact W.iret (v := (tns F k).toInt32) hx hb hr (fun t ht hW => ⟨⟨_, (), rfl, (by rw [hS9]), by show va_P _ _ _ t.heap; rw [hS9, ht]; exact hP⟩, hS.F ht⟩) hS.2.2 dX3_tension_48
  · skip
    refine lv_aload_n hx hb dX3_tension_0 rfl (lv_at hl 0 rfl) ?_
    refine lv_aload_n hx hb dX3_tension_1 rfl (lv_at hl 0 rfl) ?_
    refine lv_iload_n hx hb dX3_tension_2 rfl (lv_at hl 1 rfl) ?_
    refine vp_callSi (va_Run.run (va_runV (As := [.int its]) (rest := [.ref h]) ⟨hx, hb, hml, hown, hts⟩ (c_X3_isKite l9 dC dI h a th n p F its hn8) (cwV 1 hts gX3_tension_X3_isKite rfl rfl rfl (by decide +kernel) ⟨Nat.le_of_ble_eq_true rfl, Nat.le_of_ble_eq_true rfl⟩) ⟨PRo.blind, va_recv hK hP (ci := 3) (q0 := 0) rfl rfl, PRo.pre hP hK hE⟩ rfl rfl hl.1 rfl (lv_room (Nat.le_of_ble_eq_true rfl)) dX3_tension_3 ⟨Nat.le_of_ble_eq_true rfl, Nat.le_of_ble_eq_true rfl⟩)) (fun r hr => ?_)
    subst hr
    refine lv_if_eq (tgt := 13) hx hb dX3_tension_6 (by decide) (fun _ => ?_) (fun c_6 => absurd (bi_f hno) c_6)
    refine lv_iconst (v := 1) hx hb dX3_tension_13 (by decide) ?_
    refine va_calli (va_runV (As := [.int 1]) (rest := []) ⟨hx, hb, hml, hown, hts⟩ (c_X3_holds l9 dC dI s.heap.size h a th n p F 1) (cwV 1 hts gX3_tension_X3_holds rfl rfl rfl (by decide +kernel) ⟨Nat.le_of_ble_eq_true rfl, Nat.le_of_ble_eq_true rfl⟩) ⟨PWr.blind, va_recv hK hP (ci := 3) (q0 := 0) rfl rfl, PWr.pre hP hK hD hE ((hH.kept hS.2.1).narrow (A_in hD hS hA))⟩ rfl rfl hl.1 rfl (lv_room (Nat.le_of_ble_eq_true rfl)) dX3_tension_14 ⟨Nat.le_of_ble_eq_true rfl, Nat.le_of_ble_eq_true rfl⟩) hS (fun q _ hq => A_in hD hS hA q hq) (A_in hD hS hA) (fun r9 u9 t9 H locs ht9 hvm hw9 hB hz1 hk1 hS => ?_)
    have hP : va_P (dC, dI) vwCl (rW cI cZ h a 1 n p F) H := by rw [← ht9]; exact hB
    have hD : va_D A (rW cI cZ h a 1 n p F) := D_same hD rfl
    refine W_top (y := .int (bi (1 = 0))) (congrArg Value.int hw9) ?_
    refine W_top (y := .int 0) (congrArg Value.int (bi_f (by decide))) ?_
    refine lv_if_ne (tgt := 22) hx hb dX3_tension_17 (by decide) (fun c_17 => absurd (by decide) c_17) (fun _ => ?_)
    refine lv_iconst (v := 0) hx hb dX3_tension_20 (by decide) ?_
    have hS9 : S_tension n F its = (1, 0) := by rw [S_tension, ix_f hno]
    exact W.iret (v := 0) hx hb hr (fun t ht hW => ⟨⟨_, (), rfl, (by rw [hS9]), by show va_P _ _ _ t.heap; rw [hS9, ht]; exact hP⟩, hS.F ht⟩) hS.2.2 dX3_tension_21
