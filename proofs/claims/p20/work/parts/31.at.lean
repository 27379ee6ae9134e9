set_option maxHeartbeats 4000000 in
set_option maxRecDepth 100000 in
theorem c_X2_kiteAt (l : Launch) (hlt : l.stackTraces = false) (dC : Nat → ClassId) (dI : Nat → Nat → Nat) (sz : Nat) {tK tB : ClassId} (h ak ab af : Nat) (ka kb : Nat → Nat) (n p : Nat) (F : Rows) (x : Int32) (hn8 : n ≤ 8) : vx_Met l yX2_kiteAt wsX2_kiteAt ({ frames := 6, cells := 1, slots := 6, locals := 82 }) (va_Pc [.ref h, .int x] (PWr dC dI [(tK, .object "Windlane$Kite"), (tB, .object "Windlane$Borrower")] (cW tK tB h ak ab af ka kb n p F) sz)) (va_Sq (fun o9 => ∃ k, k < n ∧ x = nI k ∧ o9 = some (ka k))) (vx_X (fun _ : Unit => True) (fun E _ _ => E = "java/lang/IndexOutOfBoundsException" ∧ ¬ inR n x) (fun _ => False)) 1 6 (fun _ => False) := by
  refine vx_ofW (cc := cX2_kiteAt) (maxL := 3) (ret := (some (.object "Windlane$Kite"))) (by decide) rfl ?_
  intro p9 e s m args below meth c s₁ B hml hout hv
  obtain ⟨rfl, hsz, hP, hK, hD0, hE, hH⟩ := hv
  have hx := B.exec
  have hb := B.bytes
  have hr := B.returns
  have hts := atoms_spec (ws := wsX2_kiteAt) B.pre
  have hown : s.vm.findClass RX2 = some m.cls := findClass_of_methodNamed B.named
  have hlocks := B.notSynchronized
  have hi2 : ∀ w ∈ u_ws RX2 TX2 9, w ∈ wsX2_kiteAt := by decide +kernel
  have lk11 := hts (.fieldLink RX2 11 "Windlane" "kites" "[LWindlane$Kite;") (by decide +kernel)
  subst hsz
  have hD := hD0.self (sz := s.heap.size)
  obtain ⟨A, hAe⟩ : ∃ A, A = va_A (cW tK tB h ak ab af ka kb n p F) s.heap.size := ⟨_, rfl⟩
  rw [← hAe] at hD hH
  have hA : ∀ q : Nat, s.heap.size ≤ q → A q := fun q h => by rw [hAe]; exact Or.inr h
  have hS : va_S A s.heap s.heap [] := va_S.rf
  have hP : va_P (dC, dI) vwCl (cW tK tB h ak ab af ka kb n p F) s.heap := hP
  have hl := lv_entry ([.ref h, .int x]) (n := 3) (Nat.le_of_ble_eq_true rfl)
  rw [lg_entry_eq]
  generalize (lg_sl ([.ref h, .int x]) ++ List.replicate (3 - (lg_sl ([.ref h, .int x])).length) Slot.unset).toArray = ls at hl ⊢
  have hl : lv_has ls 3 [(0, .ref h), (1, .int x)] := hl
  rcases inR_cases 8 x with ⟨k, hk8, rfl⟩ | hno
  · skip
    refine lv_iload_n hx hb dX2_kiteAt_0 rfl (lv_at hl 1 rfl) ?_
    refine lv_iconst (v := 0) hx hb dX2_kiteAt_1 (by decide) ?_
    refine lv_bipush (v := 7) hx hb dX2_kiteAt_2 (by decide) ?_
    refine vp_callSi (va_Run.run (va_runS (As := [.int (nI k), .int 0, .int 7]) (rest := []) ⟨hx, hb, hml, hown, hts⟩ (c_X2_isWithin l (nI k) 0 7) (va_cwS 3 hts gX2_kiteAt_X2_isWithin rfl rfl rfl (by decide +kernel) ⟨Nat.le_of_ble_eq_true rfl, Nat.le_of_ble_eq_true rfl⟩) ⟨fun a U g mk q => q, fun U hU hW => ⟨rfl, trivial⟩⟩ rfl rfl hl.1 rfl (lv_room (Nat.le_of_ble_eq_true rfl)) dX2_kiteAt_4 ⟨Nat.le_of_ble_eq_true rfl, Nat.le_of_ble_eq_true rfl⟩)) (fun r hr => ?_)
    subst hr
    refine lv_if_eq (tgt := 19) hx hb dX2_kiteAt_7 (by decide) (fun c_7 => absurd c_7 (bi_nz.mpr ((inR_lit (n := 8) (by decide) _).mpr (inR_nI hk8 (by decide))))) (fun _ => ?_)
    refine lv_aload_n hx hb dX2_kiteAt_10 rfl (lv_at hl 0 rfl) ?_
    refine va_get (D := (dC, dI)) (ci := 2) (v := .ref ak) (C := RX2) (T := TX2) (N := 9) hx hb hts hi2 hown hK hP 0 rfl rfl 0 (by decide) lk11 (fun _ h9 => h9) rfl dX2_kiteAt_11 ?_
    refine lv_iload_n hx hb dX2_kiteAt_14 rfl (lv_at hl 1 rfl) ?_
    refine my_aldq hx hb hK hP 1 0 rfl rfl hk8 (Nat.le_of_ble_eq_true rfl) dX2_kiteAt_15 ?_
    rcases Nat.lt_or_ge k n with hkn | hkn
    · skip
      refine W_top (y := .ref (ka k)) (show va_rf (if k < n then some (ka k) else none) = _ by rw [if_pos hkn]; rfl) ?_
      refine lv_goto (tgt := 20) hx hb dX2_kiteAt_16 (by decide) ?_
      refine lv_astore_n (lv' := [(2, .ref (ka k)), (0, .ref h), (1, .int (nI k))]) hx hb dX2_kiteAt_20 rfl hl (by decide) rfl (fun ls hl => ?_)
      refine lv_aload_n hx hb dX2_kiteAt_21 rfl (lv_at hl 0 rfl) ?_
      refine lv_ifnonnull (tgt := 35) hx hb dX2_kiteAt_22 (by decide) ?_
      refine lv_aload_n hx hb dX2_kiteAt_35 rfl (lv_at hl 0 rfl) ?_
      refine vx_ret ?_
      refine W.widen (k := 1) (n := 6) (Nat.le_of_ble_eq_true rfl) (Nat.le_of_ble_eq_true rfl) ?_
      exact W.aret (v := .ref (ka k)) hx hb hr (Or.inl ⟨_, rfl⟩) (Or.inr ⟨_, rfl⟩) (fun t ht _ => ⟨some (ka k), rfl, ⟨k, hkn, rfl, rfl⟩, ht⟩) (fun z hz => absurd hz List.not_mem_nil) dX2_kiteAt_36
    · skip
      refine W_top (y := .null) (show va_rf (if k < n then some (ka k) else none) = _ by rw [if_neg (Nat.not_lt.mpr hkn)]; rfl) ?_
      refine lv_goto (tgt := 20) hx hb dX2_kiteAt_16 (by decide) ?_
      refine lv_astore_nN (lv' := [(2, .null), (0, .ref h), (1, .int (nI k))]) hx hb dX2_kiteAt_20 rfl hl (by decide) rfl (fun ls hl => ?_)
      refine lv_aload_nN hx hb dX2_kiteAt_21 rfl (lv_at hl 0 rfl) ?_
      refine lv_ifnonnullN hx hb dX2_kiteAt_22 ?_
      obtain ⟨sa, hsa⟩ := hE.2.2.2 (199, "there is no such kite") (by decide +kernel)
      exact vx_throwS (own := RX2) (cls := "java/lang/IndexOutOfBoundsException") (text := "there is no such kite") (names := ["java/lang/RuntimeException", "java/lang/Exception"]) (ik := 105) (is := 199) (ic := 109) (sa := sa) (A := A) hx hb hlt hown (by decide +kernel) (by decide +kernel) (hts (.classLink RX2 105 "java/lang/IndexOutOfBoundsException") (by decide +kernel)) (hts (.initialized "java/lang/IndexOutOfBoundsException") (by decide +kernel)) hsa (vx_hat (B := [.castable "java/lang/IndexOutOfBoundsException" "java/lang/IndexOutOfBoundsException", .declares dR, .declares dE, .declares dT]) (fun w hw => hts w (List.mem_cons_of_mem _ (List.mem_append_right _ hw))) (by decide +kernel) (vx_c (yc.use hE.2.1.2.2) (vx_c (va_Nw.use rfl hE.1.2.1) (vx_c (va_Nw.use rfl hE.1.2.2.1) (vx_c (va_Nw.use rfl hE.1.2.2.2) vx_n))))) (by decide +kernel) hH.1 hH.2 hS (hl.1.trans hml.symm) dX2_kiteAt_25 dX2_kiteAt_28 dX2_kiteAt_29 dX2_kiteAt_31 dX2_kiteAt_34 (fun x hx => (hout x hx).elim) (Nat.le_of_ble_eq_true rfl) (Nat.le_of_ble_eq_true rfl) (Nat.le_of_ble_eq_true rfl) (Nat.le_of_ble_eq_true rfl) hlocks (fun t _ h1 h2 => ⟨(), trivial, ⟨rfl, by rintro ⟨-, q⟩; rw [nI_toInt (by omega)] at q; omega⟩, h1, fun q hq _ => h2 q hq⟩) (fun z hz => absurd hz List.not_mem_nil) (Nat.le_of_ble_eq_true rfl) (Nat.le_of_ble_eq_true rfl)
  · skip
    refine lv_iload_n hx hb dX2_kiteAt_0 rfl (lv_at hl 1 rfl) ?_
    refine lv_iconst (v := 0) hx hb dX2_kiteAt_1 (by decide) ?_
    refine lv_bipush (v := 7) hx hb dX2_kiteAt_2 (by decide) ?_
    refine vp_callSi (va_Run.run (va_runS (As := [.int x, .int 0, .int 7]) (rest := []) ⟨hx, hb, hml, hown, hts⟩ (c_X2_isWithin l x 0 7) (va_cwS 3 hts gX2_kiteAt_X2_isWithin rfl rfl rfl (by decide +kernel) ⟨Nat.le_of_ble_eq_true rfl, Nat.le_of_ble_eq_true rfl⟩) ⟨fun a U g mk q => q, fun U hU hW => ⟨rfl, trivial⟩⟩ rfl rfl hl.1 rfl (lv_room (Nat.le_of_ble_eq_true rfl)) dX2_kiteAt_4 ⟨Nat.le_of_ble_eq_true rfl, Nat.le_of_ble_eq_true rfl⟩)) (fun r hr => ?_)
    subst hr
    refine lv_if_eq (tgt := 19) hx hb dX2_kiteAt_7 (by decide) (fun _ => ?_) (fun c_7 => absurd (bi_z.mpr (fun q => hno ((inR_lit (n := 8) (by decide) _).mp q))) c_7)
    refine lv_null hx hb dX2_kiteAt_19 ?_
    refine lv_astore_nN (lv' := [(2, .null), (0, .ref h), (1, .int x)]) hx hb dX2_kiteAt_20 rfl hl (by decide) rfl (fun ls hl => ?_)
    refine lv_aload_nN hx hb dX2_kiteAt_21 rfl (lv_at hl 0 rfl) ?_
    refine lv_ifnonnullN hx hb dX2_kiteAt_22 ?_
    obtain ⟨sa, hsa⟩ := hE.2.2.2 (199, "there is no such kite") (by decide +kernel)
    exact vx_throwS (own := RX2) (cls := "java/lang/IndexOutOfBoundsException") (text := "there is no such kite") (names := ["java/lang/RuntimeException", "java/lang/Exception"]) (ik := 105) (is := 199) (ic := 109) (sa := sa) (A := A) hx hb hlt hown (by decide +kernel) (by decide +kernel) (hts (.classLink RX2 105 "java/lang/IndexOutOfBoundsException") (by decide +kernel)) (hts (.initialized "java/lang/IndexOutOfBoundsException") (by decide +kernel)) hsa (vx_hat (B := [.castable "java/lang/IndexOutOfBoundsException" "java/lang/IndexOutOfBoundsException", .declares dR, .declares dE, .declares dT]) (fun w hw => hts w (List.mem_cons_of_mem _ (List.mem_append_right _ hw))) (by decide +kernel) (vx_c (yc.use hE.2.1.2.2) (vx_c (va_Nw.use rfl hE.1.2.1) (vx_c (va_Nw.use rfl hE.1.2.2.1) (vx_c (va_Nw.use rfl hE.1.2.2.2) vx_n))))) (by decide +kernel) hH.1 hH.2 hS (hl.1.trans hml.symm) dX2_kiteAt_25 dX2_kiteAt_28 dX2_kiteAt_29 dX2_kiteAt_31 dX2_kiteAt_34 (fun x hx => (hout x hx).elim) (Nat.le_of_ble_eq_true rfl) (Nat.le_of_ble_eq_true rfl) (Nat.le_of_ble_eq_true rfl) (Nat.le_of_ble_eq_true rfl) hlocks (fun t _ h1 h2 => ⟨(), trivial, ⟨rfl, fun q => hno ⟨q.1, by have := q.2; omega⟩⟩, h1, fun q hq _ => h2 q hq⟩) (fun z hz => absurd hz List.not_mem_nil) (Nat.le_of_ble_eq_true rfl) (Nat.le_of_ble_eq_true rfl)

set_option maxHeartbeats 4000000 in
set_option maxRecDepth 100000 in
theorem c_X2_borrowerAt (l : Launch) (hlt : l.stackTraces = false) (dC : Nat → ClassId) (dI : Nat → Nat → Nat) (sz : Nat) {tK tB : ClassId} (h ak ab af : Nat) (ka kb : Nat → Nat) (n p : Nat) (F : Rows) (x : Int32) (hn8 : p ≤ 8) : vx_Met l yX2_borrowerAt wsX2_borrowerAt ({ frames := 6, cells := 1, slots := 6, locals := 82 }) (va_Pc [.ref h, .int x] (PWr dC dI [(tK, .object "Windlane$Kite"), (tB, .object "Windlane$Borrower")] (cW tK tB h ak ab af ka kb n p F) sz)) (va_Sq (fun o9 => ∃ k, k < p ∧ x = nI k ∧ o9 = some (kb k))) (vx_X (fun _ : Unit => True) (fun E _ _ => E = "java/lang/IndexOutOfBoundsException" ∧ ¬ inR p x) (fun _ => False)) 1 6 (fun _ => False) := by
  refine vx_ofW (cc := cX2_borrowerAt) (maxL := 3) (ret := (some (.object "Windlane$Borrower"))) (by decide) rfl ?_
  intro p9 e s m args below meth c s₁ B hml hout hv
  obtain ⟨rfl, hsz, hP, hK, hD0, hE, hH⟩ := hv
  have hx := B.exec
  have hb := B.bytes
  have hr := B.returns
  have hts := atoms_spec (ws := wsX2_borrowerAt) B.pre
  have hown : s.vm.findClass RX2 = some m.cls := findClass_of_methodNamed B.named
  have hlocks := B.notSynchronized
  have hi2 : ∀ w ∈ u_ws RX2 TX2 9, w ∈ wsX2_borrowerAt := by decide +kernel
  have lk17 := hts (.fieldLink RX2 17 "Windlane" "borrowers" "[LWindlane$Borrower;") (by decide +kernel)
  subst hsz
  have hD := hD0.self (sz := s.heap.size)
  obtain ⟨A, hAe⟩ : ∃ A, A = va_A (cW tK tB h ak ab af ka kb n p F) s.heap.size := ⟨_, rfl⟩
  rw [← hAe] at hD hH
  have hA : ∀ q : Nat, s.heap.size ≤ q → A q := fun q h => by rw [hAe]; exact Or.inr h
  have hS : va_S A s.heap s.heap [] := va_S.rf
  have hP : va_P (dC, dI) vwCl (cW tK tB h ak ab af ka kb n p F) s.heap := hP
  have hl := lv_entry ([.ref h, .int x]) (n := 3) (Nat.le_of_ble_eq_true rfl)
  rw [lg_entry_eq]
  generalize (lg_sl ([.ref h, .int x]) ++ List.replicate (3 - (lg_sl ([.ref h, .int x])).length) Slot.unset).toArray = ls at hl ⊢
  have hl : lv_has ls 3 [(0, .ref h), (1, .int x)] := hl
  rcases inR_cases 8 x with ⟨k, hk8, rfl⟩ | hno
  · skip
    refine lv_iload_n hx hb dX2_borrowerAt_0 rfl (lv_at hl 1 rfl) ?_
    refine lv_iconst (v := 0) hx hb dX2_borrowerAt_1 (by decide) ?_
    refine lv_bipush (v := 7) hx hb dX2_borrowerAt_2 (by decide) ?_
    refine vp_callSi (va_Run.run (va_runS (As := [.int (nI k), .int 0, .int 7]) (rest := []) ⟨hx, hb, hml, hown, hts⟩ (c_X2_isWithin l (nI k) 0 7) (va_cwS 3 hts gX2_borrowerAt_X2_isWithin rfl rfl rfl (by decide +kernel) ⟨Nat.le_of_ble_eq_true rfl, Nat.le_of_ble_eq_true rfl⟩) ⟨fun a U g mk q => q, fun U hU hW => ⟨rfl, trivial⟩⟩ rfl rfl hl.1 rfl (lv_room (Nat.le_of_ble_eq_true rfl)) dX2_borrowerAt_4 ⟨Nat.le_of_ble_eq_true rfl, Nat.le_of_ble_eq_true rfl⟩)) (fun r hr => ?_)
    subst hr
    refine lv_if_eq (tgt := 19) hx hb dX2_borrowerAt_7 (by decide) (fun c_7 => absurd c_7 (bi_nz.mpr ((inR_lit (n := 8) (by decide) _).mpr (inR_nI hk8 (by decide))))) (fun _ => ?_)
    refine lv_aload_n hx hb dX2_borrowerAt_10 rfl (lv_at hl 0 rfl) ?_
    refine va_get (D := (dC, dI)) (ci := 2) (v := .ref ab) (C := RX2) (T := TX2) (N := 9) hx hb hts hi2 hown hK hP 0 rfl rfl 2 (by decide) lk17 (fun _ h9 => h9) rfl dX2_borrowerAt_11 ?_
    refine lv_iload_n hx hb dX2_borrowerAt_14 rfl (lv_at hl 1 rfl) ?_
    refine my_aldq hx hb hK hP 2 1 rfl rfl hk8 (Nat.le_of_ble_eq_true rfl) dX2_borrowerAt_15 ?_
    rcases Nat.lt_or_ge k p with hkn | hkn
    · skip
      refine W_top (y := .ref (kb k)) (show va_rf (if k < p then some (kb k) else none) = _ by rw [if_pos hkn]; rfl) ?_
      refine lv_goto (tgt := 20) hx hb dX2_borrowerAt_16 (by decide) ?_
      refine lv_astore_n (lv' := [(2, .ref (kb k)), (0, .ref h), (1, .int (nI k))]) hx hb dX2_borrowerAt_20 rfl hl (by decide) rfl (fun ls hl => ?_)
      refine lv_aload_n hx hb dX2_borrowerAt_21 rfl (lv_at hl 0 rfl) ?_
      refine lv_ifnonnull (tgt := 35) hx hb dX2_borrowerAt_22 (by decide) ?_
      refine lv_aload_n hx hb dX2_borrowerAt_35 rfl (lv_at hl 0 rfl) ?_
      refine vx_ret ?_
      refine W.widen (k := 1) (n := 6) (Nat.le_of_ble_eq_true rfl) (Nat.le_of_ble_eq_true rfl) ?_
      exact W.aret (v := .ref (kb k)) hx hb hr (Or.inl ⟨_, rfl⟩) (Or.inr ⟨_, rfl⟩) (fun t ht _ => ⟨some (kb k), rfl, ⟨k, hkn, rfl, rfl⟩, ht⟩) (fun z hz => absurd hz List.not_mem_nil) dX2_borrowerAt_36
    · skip
      refine W_top (y := .null) (show va_rf (if k < p then some (kb k) else none) = _ by rw [if_neg (Nat.not_lt.mpr hkn)]; rfl) ?_
      refine lv_goto (tgt := 20) hx hb dX2_borrowerAt_16 (by decide) ?_
      refine lv_astore_nN (lv' := [(2, .null), (0, .ref h), (1, .int (nI k))]) hx hb dX2_borrowerAt_20 rfl hl (by decide) rfl (fun ls hl => ?_)
      refine lv_aload_nN hx hb dX2_borrowerAt_21 rfl (lv_at hl 0 rfl) ?_
      refine lv_ifnonnullN hx hb dX2_borrowerAt_22 ?_
      obtain ⟨sa, hsa⟩ := hE.2.2.2 (201, "there is no such borrower") (by decide +kernel)
      exact vx_throwS (own := RX2) (cls := "java/lang/IndexOutOfBoundsException") (text := "there is no such borrower") (names := ["java/lang/RuntimeException", "java/lang/Exception"]) (ik := 105) (is := 201) (ic := 109) (sa := sa) (A := A) hx hb hlt hown (by decide +kernel) (by decide +kernel) (hts (.classLink RX2 105 "java/lang/IndexOutOfBoundsException") (by decide +kernel)) (hts (.initialized "java/lang/IndexOutOfBoundsException") (by decide +kernel)) hsa (vx_hat (B := [.castable "java/lang/IndexOutOfBoundsException" "java/lang/IndexOutOfBoundsException", .declares dR, .declares dE, .declares dT]) (fun w hw => hts w (List.mem_cons_of_mem _ (List.mem_append_right _ hw))) (by decide +kernel) (vx_c (yc.use hE.2.1.2.2) (vx_c (va_Nw.use rfl hE.1.2.1) (vx_c (va_Nw.use rfl hE.1.2.2.1) (vx_c (va_Nw.use rfl hE.1.2.2.2) vx_n))))) (by decide +kernel) hH.1 hH.2 hS (hl.1.trans hml.symm) dX2_borrowerAt_25 dX2_borrowerAt_28 dX2_borrowerAt_29 dX2_borrowerAt_31 dX2_borrowerAt_34 (fun x hx => (hout x hx).elim) (Nat.le_of_ble_eq_true rfl) (Nat.le_of_ble_eq_true rfl) (Nat.le_of_ble_eq_true rfl) (Nat.le_of_ble_eq_true rfl) hlocks (fun t _ h1 h2 => ⟨(), trivial, ⟨rfl, by rintro ⟨-, q⟩; rw [nI_toInt (by omega)] at q; omega⟩, h1, fun q hq _ => h2 q hq⟩) (fun z hz => absurd hz List.not_mem_nil) (Nat.le_of_ble_eq_true rfl) (Nat.le_of_ble_eq_true rfl)
  · skip
    refine lv_iload_n hx hb dX2_borrowerAt_0 rfl (lv_at hl 1 rfl) ?_
    refine lv_iconst (v := 0) hx hb dX2_borrowerAt_1 (by decide) ?_
    refine lv_bipush (v := 7) hx hb dX2_borrowerAt_2 (by decide) ?_
    refine vp_callSi (va_Run.run (va_runS (As := [.int x, .int 0, .int 7]) (rest := []) ⟨hx, hb, hml, hown, hts⟩ (c_X2_isWithin l x 0 7) (va_cwS 3 hts gX2_borrowerAt_X2_isWithin rfl rfl rfl (by decide +kernel) ⟨Nat.le_of_ble_eq_true rfl, Nat.le_of_ble_eq_true rfl⟩) ⟨fun a U g mk q => q, fun U hU hW => ⟨rfl, trivial⟩⟩ rfl rfl hl.1 rfl (lv_room (Nat.le_of_ble_eq_true rfl)) dX2_borrowerAt_4 ⟨Nat.le_of_ble_eq_true rfl, Nat.le_of_ble_eq_true rfl⟩)) (fun r hr => ?_)
    subst hr
    refine lv_if_eq (tgt := 19) hx hb dX2_borrowerAt_7 (by decide) (fun _ => ?_) (fun c_7 => absurd (bi_z.mpr (fun q => hno ((inR_lit (n := 8) (by decide) _).mp q))) c_7)
    refine lv_null hx hb dX2_borrowerAt_19 ?_
    refine lv_astore_nN (lv' := [(2, .null), (0, .ref h), (1, .int x)]) hx hb dX2_borrowerAt_20 rfl hl (by decide) rfl (fun ls hl => ?_)
    refine lv_aload_nN hx hb dX2_borrowerAt_21 rfl (lv_at hl 0 rfl) ?_
    refine lv_ifnonnullN hx hb dX2_borrowerAt_22 ?_
    obtain ⟨sa, hsa⟩ := hE.2.2.2 (201, "there is no such borrower") (by decide +kernel)
    exact vx_throwS (own := RX2) (cls := "java/lang/IndexOutOfBoundsException") (text := "there is no such borrower") (names := ["java/lang/RuntimeException", "java/lang/Exception"]) (ik := 105) (is := 201) (ic := 109) (sa := sa) (A := A) hx hb hlt hown (by decide +kernel) (by decide +kernel) (hts (.classLink RX2 105 "java/lang/IndexOutOfBoundsException") (by decide +kernel)) (hts (.initialized "java/lang/IndexOutOfBoundsException") (by decide +kernel)) hsa (vx_hat (B := [.castable "java/lang/IndexOutOfBoundsException" "java/lang/IndexOutOfBoundsException", .declares dR, .declares dE, .declares dT]) (fun w hw => hts w (List.mem_cons_of_mem _ (List.mem_append_right _ hw))) (by decide +kernel) (vx_c (yc.use hE.2.1.2.2) (vx_c (va_Nw.use rfl hE.1.2.1) (vx_c (va_Nw.use rfl hE.1.2.2.1) (vx_c (va_Nw.use rfl hE.1.2.2.2) vx_n))))) (by decide +kernel) hH.1 hH.2 hS (hl.1.trans hml.symm) dX2_borrowerAt_25 dX2_borrowerAt_28 dX2_borrowerAt_29 dX2_borrowerAt_31 dX2_borrowerAt_34 (fun x hx => (hout x hx).elim) (Nat.le_of_ble_eq_true rfl) (Nat.le_of_ble_eq_true rfl) (Nat.le_of_ble_eq_true rfl) (Nat.le_of_ble_eq_true rfl) hlocks (fun t _ h1 h2 => ⟨(), trivial, ⟨rfl, fun q => hno ⟨q.1, by have := q.2; omega⟩⟩, h1, fun q hq _ => h2 q hq⟩) (fun z hz => absurd hz List.not_mem_nil) (Nat.le_of_ble_eq_true rfl) (Nat.le_of_ble_eq_true rfl)
