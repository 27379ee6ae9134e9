/-! ===== what a public method of the class leaves ===== -/
def cQ (dC : Nat → ClassId) (dI : Nat → Nat → Nat) (tK tB : ClassId) (h ak ab af : Nat) (A : Nat → Prop) (n p : Nat) (F : Rows) (th ans : Int32) : Array Value → State → Outcome → State → Prop := va_Qi (S := (Nat → Nat) × (Nat → Nat)) (fun r9 _ => th = 0 ∧ r9 = ans) (fun u t => va_P (dC, dI) vwCl (cW tK tB h ak ab af u.1 u.2 n p F) t.heap ∧ va_D A (cW tK tB h ak ab af u.1 u.2 n p F)) A
def cQv (dC : Nat → ClassId) (dI : Nat → Nat → Nat) (tK tB : ClassId) (h ak ab af : Nat) (A : Nat → Prop) (n p : Nat) (F : Rows) (th : Int32) : Array Value → State → Outcome → State → Prop := va_Qv (S := (Nat → Nat) × (Nat → Nat)) (fun _ => th = 0) (fun u t => va_P (dC, dI) vwCl (cW tK tB h ak ab af u.1 u.2 n p F) t.heap ∧ va_D A (cW tK tB h ak ab af u.1 u.2 n p F)) A
theorem cQ_mk {dC : Nat → ClassId} {dI : Nat → Nat → Nat} {tK tB : ClassId} {h ak ab af : Nat} {A : Nat → Prop} {n p : Nat} {F : Rows} {th ans v : Int32} {as : Array Value} {st t : State} (ka kb : Nat → Nat) (h1 : th = 0) (h2 : v = ans) (h3 : va_P (dC, dI) vwCl (cW tK tB h ak ab af ka kb n p F) t.heap) (h4 : va_D A (cW tK tB h ak ab af ka kb n p F)) (h5 : va_F A st t) : cQ dC dI tK tB h ak ab af A n p F th ans as st (.returned (some (.int v))) t := ⟨⟨v, (ka, kb), rfl, ⟨h1, h2⟩, h3, h4⟩, h5⟩
theorem cQv_mk {dC : Nat → ClassId} {dI : Nat → Nat → Nat} {tK tB : ClassId} {h ak ab af : Nat} {A : Nat → Prop} {n p : Nat} {F : Rows} {th : Int32} {as : Array Value} {st t : State} (ka kb : Nat → Nat) (h1 : th = 0) (h3 : va_P (dC, dI) vwCl (cW tK tB h ak ab af ka kb n p F) t.heap) (h4 : va_D A (cW tK tB h ak ab af ka kb n p F)) (h5 : va_F A st t) : cQv dC dI tK tB h ak ab af A n p F th as st (.returned none) t := ⟨⟨(ka, kb), rfl, h1, h3, h4⟩, h5⟩

set_option maxHeartbeats 4000000 in
set_option maxRecDepth 100000 in
theorem c_X2_patch (l9 : Launch) (hlt : l9.stackTraces = false) (dC : Nat → ClassId) (dI : Nat → Nat → Nat) (sz : Nat) {tK tB : ClassId} (h ak ab af : Nat) (ka kb : Nat → Nat) (n p : Nat) (F : Rows) (its : Int32) (hI : Inv n p F) : vx_Met l9 yX2_patch wsX2_patch ({ frames := 7, cells := 2, slots := 12, locals := 104 }) (va_Pc [.ref h, .int its] (PWr dC dI [(tK, .object "Windlane$Kite"), (tB, .object "Windlane$Borrower")] (cW tK tB h ak ab af ka kb n p F) sz)) (cQ dC dI tK tB h ak ab af (va_A (cW tK tB h ak ab af ka kb n p F) sz) n p ((S_patch n F its).2.2) ((S_patch n F its).1) ((S_patch n F its).2.1)) (vx_X (fun _ : Unit => True) (fun E _ _ => (E = "java/lang/IndexOutOfBoundsException" ∧ (S_patch n F its).1 = 1) ∨ (E = "java/lang/IllegalStateException" ∧ (S_patch n F its).1 = 2)) (fun _ => False)) 2 12 (va_A (cW tK tB h ak ab af ka kb n p F) sz) := by
  refine vx_ofW (cc := cX2_patch) (maxL := 3) (ret := (some .int)) (by decide) rfl ?_
  intro p9 e9 s m args below meth c s₁ B hml hout hv
  obtain ⟨rfl, hsz, hP, hK, hD0, hE, hH⟩ := hv
  have hx := B.exec
  have hb := B.bytes
  have hr := B.returns
  have hts := atoms_spec (ws := wsX2_patch) B.pre
  have hown : s.vm.findClass RX2 = some m.cls := findClass_of_methodNamed B.named
  have hlocks := B.notSynchronized
  have hi1 : ∀ w ∈ u_ws RX1 TX1 9, w ∈ wsX2_patch := by decide +kernel
  have lk51 := hts (.fieldLink RX2 51 "Windlane$Kite" "isTorn" "Z") (by decide +kernel)
  have lk57 := hts (.fieldLink RX2 57 "Windlane$Kite" "weight" "I") (by decide +kernel)
  subst hsz
  have hD := hD0.self (sz := s.heap.size)
  generalize hAe : va_A (cW tK tB h ak ab af ka kb n p F) s.heap.size = A at hD hH ⊢
  have hA : ∀ q : Nat, s.heap.size ≤ q → A q := fun q h => by rw [← hAe]; exact Or.inr h
  have hS : va_S A s.heap s.heap [] := va_S.rf
  have hP : va_P (dC, dI) vwCl (cW tK tB h ak ab af ka kb n p F) s.heap := hP
  have hn8 : n ≤ 8 := hI.1.1
  have hp8 : p ≤ 8 := hI.1.2
  have hl := lv_entry ([.ref h, .int its]) (n := 3) (Nat.le_of_ble_eq_true rfl)
  rw [lg_entry_eq]
  generalize (lg_sl ([.ref h, .int its]) ++ List.replicate (3 - (lg_sl ([.ref h, .int its])).length) Slot.unset).toArray = ls at hl ⊢
  have hl : lv_has ls 3 [(0, .ref h), (1, .int its)] := hl
  refine lv_aload_n hx hb dX2_patch_0 rfl (lv_at hl 0 rfl) ?_
  refine lv_iload_n hx hb dX2_patch_1 rfl (lv_at hl 1 rfl) ?_
  refine my_callXq (vx_runV (As := [.int its]) (rest := []) ⟨hx, hb, hml, hown, hts⟩ (c_X2_kiteAt l9 hlt dC dI s.heap.size h ak ab af ka kb n p F its hI.1.1) (cwV 1 hts gX2_patch_X2_kiteAt rfl rfl rfl (by decide +kernel) ⟨Nat.le_of_ble_eq_true rfl, Nat.le_of_ble_eq_true rfl⟩) ⟨PWr.blind, va_recv hK hP (ci := 2) (q0 := 0) rfl rfl, PWr.pre hP hK hD hE (hH.narrow (A_in hD hS hA))⟩ rfl rfl hl.1 rfl (lv_room (Nat.le_of_ble_eq_true rfl)) dX2_patch_2 ⟨Nat.le_of_ble_eq_true rfl, Nat.le_of_ble_eq_true rfl⟩) (fun E ce q9 H1 hBE hz1 hk1 hce hcv hcl => vx_out (fun x hx => (hout x hx).elim) hlocks hce hcv hcl (fun t ht _ => ⟨(), trivial, Or.inl (⟨hBE.1, by rw [S_patch, ix_f hBE.2]⟩), by rw [ht]; exact hz1, fun q hq _ => by rw [ht]; exact hk1 q hq⟩) (fun z hz => absurd hz List.not_mem_nil) (Nat.le_of_ble_eq_true rfl) (Nat.le_of_ble_eq_true rfl)) (fun r9 hr9 => ?_)
  obtain ⟨k, hkn, rfl, rfl⟩ := hr9
  have hixk : ix n (nI k) = some k := ix_t hkn (by omega)
  have hl : lv_has ls 3 [(0, .ref h), (1, .int (nI k))] := hl
  refine W_top (x := va_rf (some (ka k))) (y := .ref (ka k)) rfl ?_
  refine lv_astore_n (lv' := [(2, .ref (ka k)), (0, .ref h), (1, .int (nI k))]) hx hb dX2_patch_5 rfl hl (by decide) rfl (fun ls hl => ?_)
  refine lv_aload_n hx hb dX2_patch_6 rfl (lv_at hl 0 rfl) ?_
  refine va_get (D := (dC, dI)) (ci := 1) (v := .int (F 3 k)) (C := RX1) (T := TX1) (N := 9) hx hb hts hi1 hown hK hP (k + 4) (cG_k hkn) rfl 4 (by decide) lk51 (fun _ h9 => h9) rfl dX2_patch_7 ?_
  refine lv_if_ne (tgt := 23) hx hb dX2_patch_10 (by decide) (fun c_10 => ?_) (fun c_10 => ?_)
  · skip
    refine lv_aload_n hx hb dX2_patch_23 rfl (lv_at hl 0 rfl) ?_
    refine va_get (D := (dC, dI)) (ci := 1) (v := .int (F 2 k)) (C := RX1) (T := TX1) (N := 9) hx hb hts hi1 hown hK hP (k + 4) (cG_k hkn) rfl 3 (by decide) lk57 (fun _ h9 => h9) rfl dX2_patch_24 ?_
    refine lv_iconst (v := 2) hx hb dX2_patch_27 (by decide) ?_
    refine lv_iadd hx hb dX2_patch_28 ?_
    refine lv_bipush (v := 40) hx hb dX2_patch_29 (by decide) ?_
    refine lv_icmp_le (tgt := 44) hx hb dX2_patch_31 (by decide) (fun c_31 => ?_) (fun c_31 => ?_)
    · skip
      refine lv_aload_n hx hb dX2_patch_44 rfl (lv_at hl 0 rfl) ?_
      refine lv_iconst (v := 0) hx hb dX2_patch_45 (by decide) ?_
      refine va_put (D := (dC, dI)) (ci := 1) (v := .int 0) (ty := .boolean) (C := RX1) (T := TX1) (N := 9) hx hb hts hi1 tyX1 tyX1_ok nmX1 hown hK hP hD hS (k + 4) (cG_k hkn) rfl 4 (by decide) lk51 (fun _ h9 => h9) rfl (by decide +kernel) rfl rfl (Nat.le_of_ble_eq_true rfl) dX2_patch_46 (fun H locs hP hD hS => ?_)
      have hP : va_P (dC, dI) vwCl (cG tK tB h ak ab af ka kb n p (up F 3 k 0) (flF F n) (hbF F n)) H := P_eq (putk (i := 3) (v := 0) hkn (by decide) (kE_up3 F k _)) hP
      have hD : va_D A (cG tK tB h ak ab af ka kb n p (up F 3 k 0) (flF F n) (hbF F n)) := D_eq (putk (i := 3) (v := 0) hkn (by decide) (kE_up3 F k _)) hD
      refine lv_aload_n hx hb dX2_patch_49 rfl (lv_at hl 0 rfl) ?_
      refine lv_dup hx hb dX2_patch_50 rfl ?_
      refine va_get (D := (dC, dI)) (ci := 1) (v := .int (F 2 k)) (C := RX1) (T := TX1) (N := 9) hx hb hts hi1 hown hK hP (k + 4) (cG_k hkn) rfl 3 (by decide) lk57 (fun _ h9 => h9) rfl dX2_patch_51 ?_
      refine lv_iconst (v := 2) hx hb dX2_patch_54 (by decide) ?_
      refine lv_iadd hx hb dX2_patch_55 ?_
      refine va_put (D := (dC, dI)) (ci := 1) (v := .int ((F 2 k) + 2)) (ty := .int) (C := RX1) (T := TX1) (N := 9) hx hb hts hi1 tyX1 tyX1_ok nmX1 hown hK hP hD hS (k + 4) (cG_k hkn) rfl 3 (by decide) lk57 (fun _ h9 => h9) rfl (by decide +kernel) rfl rfl (Nat.le_of_ble_eq_true rfl) dX2_patch_56 (fun H locs hP hD hS => ?_)
      have hP : va_P (dC, dI) vwCl (cG tK tB h ak ab af ka kb n p (up (up F 3 k 0) 2 k ((F 2 k) + 2)) (flF F n) (hbF F n)) H := P_eq (putk (i := 2) (v := (F 2 k) + 2) hkn (by decide) (kE_up2 (up F 3 k 0) k _)) hP
      have hD : va_D A (cG tK tB h ak ab af ka kb n p (up (up F 3 k 0) 2 k ((F 2 k) + 2)) (flF F n) (hbF F n)) := D_eq (putk (i := 2) (v := (F 2 k) + 2) hkn (by decide) (kE_up2 (up F 3 k 0) k _)) hD
      refine lv_aload_n hx hb dX2_patch_59 rfl (lv_at hl 0 rfl) ?_
      refine va_get (D := (dC, dI)) (ci := 1) (v := .int ((up (up F 3 k 0) 2 k ((F 2 k) + 2)) 2 k)) (C := RX1) (T := TX1) (N := 9) hx hb hts hi1 hown hK hP (k + 4) (cG_k hkn) rfl 3 (by decide) lk57 (fun _ h9 => h9) rfl dX2_patch_60 ?_
      refine W_top (y := .int (F 2 k + 2)) (congrArg Value.int (up_ss _ _ _ _)) ?_
      have hP : va_P (dC, dI) vwCl (cW tK tB h ak ab af ka kb n p (up (up F 3 k 0) 2 k ((F 2 k) + 2))) H := hP
      have hD : va_D A (cW tK tB h ak ab af ka kb n p (up (up F 3 k 0) 2 k ((F 2 k) + 2))) := hD
      have hS9 : S_patch n F (nI k) = (0, F 2 k + 2, up (up F 3 k 0) 2 k ((F 2 k) + 2)) := by rw [S_patch, hixk]; exact if_pos ⟨c_10, c_31⟩
      refine vx_ret ?_
      refine W.widen (k := 2) (n := 12) (Nat.le_of_ble_eq_true rfl) (Nat.le_of_ble_eq_true rfl) ?_
      exact W.iret (v := F 2 k + 2) hx hb hr (fun t ht hW => cQ_mk ka kb (by rw [hS9]) (by rw [hS9]) (by rw [hS9, ht]; exact hP) (by rw [hS9]; exact hD) (hS.F ht)) hS.2.2 dX2_patch_63
    · skip
      have hS9 : S_patch n F (nI k) = (2, 0, F) := by rw [S_patch, hixk]; exact if_neg (fun q => c_31 q.2)
      obtain ⟨sa, hsa⟩ := hE.2.2.2 (60, "the kite would be too heavy") (by decide +kernel)
      exact vx_throwS (own := RX2) (cls := "java/lang/IllegalStateException") (text := "the kite would be too heavy") (names := ["java/lang/RuntimeException", "java/lang/Exception"]) (ik := 39) (is := 60) (ic := 43) (sa := sa) (A := A) hx hb hlt hown (by decide +kernel) (by decide +kernel) (hts (.classLink RX2 39 "java/lang/IllegalStateException") (by decide +kernel)) (hts (.initialized "java/lang/IllegalStateException") (by decide +kernel)) hsa (vx_hat (B := [.castable "java/lang/IllegalStateException" "java/lang/IllegalStateException", .declares dR, .declares dE, .declares dT]) (fun w hw => hts w (List.mem_cons_of_mem _ (List.mem_append_left _ (List.mem_append_right _ hw)))) (by decide +kernel) (vx_c (yc.use hE.2.1.2.1) (vx_c (va_Nw.use rfl hE.1.2.1) (vx_c (va_Nw.use rfl hE.1.2.2.1) (vx_c (va_Nw.use rfl hE.1.2.2.2) vx_n))))) (by decide +kernel) hH.1 hH.2 hS (hl.1.trans hml.symm) dX2_patch_34 dX2_patch_37 dX2_patch_38 dX2_patch_40 dX2_patch_43 (fun x hx => (hout x hx).elim) (Nat.le_of_ble_eq_true rfl) (Nat.le_of_ble_eq_true rfl) (Nat.le_of_ble_eq_true rfl) (Nat.le_of_ble_eq_true rfl) hlocks (fun t _ h1 h2 => ⟨(), trivial, Or.inr (⟨rfl, (by rw [hS9])⟩), h1, fun q hq _ => h2 q hq⟩) (fun z hz => absurd hz List.not_mem_nil) (Nat.le_of_ble_eq_true rfl) (Nat.le_of_ble_eq_true rfl)
  · skip
    have hS9 : S_patch n F (nI k) = (2, 0, F) := by rw [S_patch, hixk]; exact if_neg (fun q => q.1 c_10)
    obtain ⟨sa, hsa⟩ := hE.2.2.2 (55, "the kite is not torn") (by decide +kernel)
    exact vx_throwS (own := RX2) (cls := "java/lang/IllegalStateException") (text := "the kite is not torn") (names := ["java/lang/RuntimeException", "java/lang/Exception"]) (ik := 39) (is := 55) (ic := 43) (sa := sa) (A := A) hx hb hlt hown (by decide +kernel) (by decide +kernel) (hts (.classLink RX2 39 "java/lang/IllegalStateException") (by decide +kernel)) (hts (.initialized "java/lang/IllegalStateException") (by decide +kernel)) hsa (vx_hat (B := [.castable "java/lang/IllegalStateException" "java/lang/IllegalStateException", .declares dR, .declares dE, .declares dT]) (fun w hw => hts w (List.mem_cons_of_mem _ (List.mem_append_left _ (List.mem_append_right _ hw)))) (by decide +kernel) (vx_c (yc.use hE.2.1.2.1) (vx_c (va_Nw.use rfl hE.1.2.1) (vx_c (va_Nw.use rfl hE.1.2.2.1) (vx_c (va_Nw.use rfl hE.1.2.2.2) vx_n))))) (by decide +kernel) hH.1 hH.2 hS (hl.1.trans hml.symm) dX2_patch_13 dX2_patch_16 dX2_patch_17 dX2_patch_19 dX2_patch_22 (fun x hx => (hout x hx).elim) (Nat.le_of_ble_eq_true rfl) (Nat.le_of_ble_eq_true rfl) (Nat.le_of_ble_eq_true rfl) (Nat.le_of_ble_eq_true rfl) hlocks (fun t _ h1 h2 => ⟨(), trivial, Or.inr (⟨rfl, (by rw [hS9])⟩), h1, fun q hq _ => h2 q hq⟩) (fun z hz => absurd hz List.not_mem_nil) (Nat.le_of_ble_eq_true rfl) (Nat.le_of_ble_eq_true rfl)

set_option maxHeartbeats 4000000 in
set_option maxRecDepth 100000 in
theorem c_X2_lend (l9 : Launch) (hlt : l9.stackTraces = false) (dC : Nat → ClassId) (dI : Nat → Nat → Nat) (sz : Nat) {tK tB : ClassId} (h ak ab af : Nat) (ka kb : Nat → Nat) (n p : Nat) (F : Rows) (its b : Int32) (hI : Inv n p F) : vx_Met l9 yX2_lend wsX2_lend ({ frames := 7, cells := 3, slots := 18, locals := 104 }) (va_Pc [.ref h, .int its, .int b] (PWr dC dI [(tK, .object "Windlane$Kite"), (tB, .object "Windlane$Borrower")] (cW tK tB h ak ab af ka kb n p F) sz)) (cQv dC dI tK tB h ak ab af (va_A (cW tK tB h ak ab af ka kb n p F) sz) n p ((S_lend n p F its b).2) ((S_lend n p F its b).1)) (vx_X (fun _ : Unit => True) (fun E _ _ => (E = "java/lang/IndexOutOfBoundsException" ∧ (S_lend n p F its b).1 = 1) ∨ (E = "java/lang/IllegalStateException" ∧ (S_lend n p F its b).1 = 2)) (fun _ => False)) 3 18 (va_A (cW tK tB h ak ab af ka kb n p F) sz) := by
  refine vx_ofW (cc := cX2_lend) (maxL := 5) (ret := none) (by decide) rfl ?_
  intro p9 e9 s m args below meth c s₁ B hml hout hv
  obtain ⟨rfl, hsz, hP, hK, hD0, hE, hH⟩ := hv
  have hx := B.exec
  have hb := B.bytes
  have hr := B.returns
  have hts := atoms_spec (ws := wsX2_lend) B.pre
  have hown : s.vm.findClass RX2 = some m.cls := findClass_of_methodNamed B.named
  have hlocks := B.notSynchronized
  have hi0 : ∀ w ∈ u_ws RX0 TX0 2, w ∈ wsX2_lend := by decide +kernel
  have hi1 : ∀ w ∈ u_ws RX1 TX1 9, w ∈ wsX2_lend := by decide +kernel
  have lk86 := hts (.fieldLink RX2 86 "Windlane$Kite" "borrower" "I") (by decide +kernel)
  have lk89 := hts (.fieldLink RX2 89 "Windlane$Borrower" "held" "LWindlane$Kite;") (by decide +kernel)
  subst hsz
  have hD := hD0.self (sz := s.heap.size)
  generalize hAe : va_A (cW tK tB h ak ab af ka kb n p F) s.heap.size = A at hD hH ⊢
  have hA : ∀ q : Nat, s.heap.size ≤ q → A q := fun q h => by rw [← hAe]; exact Or.inr h
  have hS : va_S A s.heap s.heap [] := va_S.rf
  have hP : va_P (dC, dI) vwCl (cW tK tB h ak ab af ka kb n p F) s.heap := hP
  have hn8 : n ≤ 8 := hI.1.1
  have hp8 : p ≤ 8 := hI.1.2
  have hl := lv_entry ([.ref h, .int its, .int b]) (n := 5) (Nat.le_of_ble_eq_true rfl)
  rw [lg_entry_eq]
  generalize (lg_sl ([.ref h, .int its, .int b]) ++ List.replicate (5 - (lg_sl ([.ref h, .int its, .int b])).length) Slot.unset).toArray = ls at hl ⊢
  have hl : lv_has ls 5 [(0, .ref h), (1, .int its), (2, .int b)] := hl
  refine lv_aload_n hx hb dX2_lend_0 rfl (lv_at hl 0 rfl) ?_
  refine lv_iload_n hx hb dX2_lend_1 rfl (lv_at hl 1 rfl) ?_
  refine my_callXq (vx_runV (As := [.int its]) (rest := []) ⟨hx, hb, hml, hown, hts⟩ (c_X2_kiteAt l9 hlt dC dI s.heap.size h ak ab af ka kb n p F its hI.1.1) (cwV 1 hts gX2_lend_X2_kiteAt rfl rfl rfl (by decide +kernel) ⟨Nat.le_of_ble_eq_true rfl, Nat.le_of_ble_eq_true rfl⟩) ⟨PWr.blind, va_recv hK hP (ci := 2) (q0 := 0) rfl rfl, PWr.pre hP hK hD hE (hH.narrow (A_in hD hS hA))⟩ rfl rfl hl.1 rfl (lv_room (Nat.le_of_ble_eq_true rfl)) dX2_lend_2 ⟨Nat.le_of_ble_eq_true rfl, Nat.le_of_ble_eq_true rfl⟩) (fun E ce q9 H1 hBE hz1 hk1 hce hcv hcl => vx_out (fun x hx => (hout x hx).elim) hlocks hce hcv hcl (fun t ht _ => ⟨(), trivial, Or.inl (⟨hBE.1, by rw [S_lend, ix_f hBE.2]⟩), by rw [ht]; exact hz1, fun q hq _ => by rw [ht]; exact hk1 q hq⟩) (fun z hz => absurd hz List.not_mem_nil) (Nat.le_of_ble_eq_true rfl) (Nat.le_of_ble_eq_true rfl)) (fun r9 hr9 => ?_)
  obtain ⟨k, hkn, rfl, rfl⟩ := hr9
  have hixk : ix n (nI k) = some k := ix_t hkn (by omega)
  have hl : lv_has ls 5 [(0, .ref h), (1, .int (nI k)), (2, .int b)] := hl
  refine W_top (x := va_rf (some (ka k))) (y := .ref (ka k)) rfl ?_
  refine lv_astore_n (lv' := [(3, .ref (ka k)), (0, .ref h), (1, .int (nI k)), (2, .int b)]) hx hb dX2_lend_5 rfl hl (by decide) rfl (fun ls hl => ?_)
  refine lv_aload_n hx hb dX2_lend_6 rfl (lv_at hl 1 rfl) ?_
  refine lv_iload_n hx hb dX2_lend_7 rfl (lv_at hl 3 rfl) ?_
  refine my_callXq (vx_runV (As := [.int b]) (rest := []) ⟨hx, hb, hml, hown, hts⟩ (c_X2_borrowerAt l9 hlt dC dI s.heap.size h ak ab af ka kb n p F b hI.1.2) (cwV 1 hts gX2_lend_X2_borrowerAt rfl rfl rfl (by decide +kernel) ⟨Nat.le_of_ble_eq_true rfl, Nat.le_of_ble_eq_true rfl⟩) ⟨PWr.blind, va_recv hK hP (ci := 2) (q0 := 0) rfl rfl, PWr.pre hP hK hD hE (hH.narrow (A_in hD hS hA))⟩ rfl rfl hl.1 rfl (lv_room (Nat.le_of_ble_eq_true rfl)) dX2_lend_8 ⟨Nat.le_of_ble_eq_true rfl, Nat.le_of_ble_eq_true rfl⟩) (fun E ce q9 H1 hBE hz1 hk1 hce hcv hcl => vx_out (fun x hx => (hout x hx).elim) hlocks hce hcv hcl (fun t ht _ => ⟨(), trivial, Or.inl (⟨hBE.1, by rw [S_lend, hixk, ix_f hBE.2]⟩), by rw [ht]; exact hz1, fun q hq _ => by rw [ht]; exact hk1 q hq⟩) (fun z hz => absurd hz List.not_mem_nil) (Nat.le_of_ble_eq_true rfl) (Nat.le_of_ble_eq_true rfl)) (fun r9 hr9 => ?_)
  obtain ⟨j, hjn, rfl, rfl⟩ := hr9
  have hixj : ix p (nI j) = some j := ix_t hjn (by omega)
  have hl : lv_has ls 5 [(3, .ref (ka k)), (0, .ref h), (1, .int (nI k)), (2, .int (nI j))] := hl
  refine W_top (x := va_rf (some (kb j))) (y := .ref (kb j)) rfl ?_
  refine lv_astore (lv' := [(4, .ref (kb j)), (3, .ref (ka k)), (0, .ref h), (1, .int (nI k)), (2, .int (nI j))]) hx hb dX2_lend_11 hl (by decide) rfl (fun ls hl => ?_)
  refine lv_aload_n hx hb dX2_lend_13 rfl (lv_at hl 1 rfl) ?_
  have hq1 := one_P hP (cG_k hkn)
  refine vp_callSi (va_Run.run (va_runV (As := []) (rest := []) ⟨hx, hb, hml, hown, hts⟩ (c_X1_isLendable l9 dC dI (ka k) k F) (cwV 0 hts gX2_lend_X1_isLendable rfl rfl rfl (by decide +kernel) ⟨Nat.le_of_ble_eq_true rfl, Nat.le_of_ble_eq_true rfl⟩) ⟨PRo.blind, va_recv (hK.sub (tys' := []) [] rfl) hq1 (ci := 1) (q0 := 0) rfl rfl, PRo.pre hq1 (hK.sub (tys' := []) [] rfl) hE⟩ rfl rfl hl.1 rfl (lv_room (Nat.le_of_ble_eq_true rfl)) dX2_lend_14 ⟨Nat.le_of_ble_eq_true rfl, Nat.le_of_ble_eq_true rfl⟩)) (fun r hr => ?_)
  subst hr
  refine lv_if_eq (tgt := 29) hx hb dX2_lend_17 (by decide) (fun c_17 => ?_) (fun c_17 => ?_)
  · skip
    have c_17 := bi_z.mp c_17
    have hS9 : S_lend n p F (nI k) (nI j) = (2, F) := by rw [S_lend, hixk]; show (match ix p (nI j) with | none => _ | some j => _) = _; rw [hixj]; exact if_neg (fun q => c_17 ⟨q.1, q.2.1, q.2.2.1⟩)
    obtain ⟨sa, hsa⟩ := hE.2.2.2 (84, "the kite cannot be lent to this borrower") (by decide +kernel)
    exact vx_throwS (own := RX2) (cls := "java/lang/IllegalStateException") (text := "the kite cannot be lent to this borrower") (names := ["java/lang/RuntimeException", "java/lang/Exception"]) (ik := 39) (is := 84) (ic := 43) (sa := sa) (A := A) hx hb hlt hown (by decide +kernel) (by decide +kernel) (hts (.classLink RX2 39 "java/lang/IllegalStateException") (by decide +kernel)) (hts (.initialized "java/lang/IllegalStateException") (by decide +kernel)) hsa (vx_hat (B := [.castable "java/lang/IllegalStateException" "java/lang/IllegalStateException", .declares dR, .declares dE, .declares dT]) (fun w hw => hts w (List.mem_cons_of_mem _ (List.mem_append_left _ (List.mem_append_right _ hw)))) (by decide +kernel) (vx_c (yc.use hE.2.1.2.1) (vx_c (va_Nw.use rfl hE.1.2.1) (vx_c (va_Nw.use rfl hE.1.2.2.1) (vx_c (va_Nw.use rfl hE.1.2.2.2) vx_n))))) (by decide +kernel) hH.1 hH.2 hS (hl.1.trans hml.symm) dX2_lend_29 dX2_lend_32 dX2_lend_33 dX2_lend_35 dX2_lend_38 (fun x hx => (hout x hx).elim) (Nat.le_of_ble_eq_true rfl) (Nat.le_of_ble_eq_true rfl) (Nat.le_of_ble_eq_true rfl) (Nat.le_of_ble_eq_true rfl) hlocks (fun t _ h1 h2 => ⟨(), trivial, Or.inr (⟨rfl, (by rw [hS9])⟩), h1, fun q hq _ => h2 q hq⟩) (fun z hz => absurd hz List.not_mem_nil) (Nat.le_of_ble_eq_true rfl) (Nat.le_of_ble_eq_true rfl)
  · skip
    have c_17 := bi_nz.mp c_17
    refine lv_aload hx hb dX2_lend_20 (lv_at hl 0 rfl) ?_
    refine lv_aload_n hx hb dX2_lend_22 rfl (lv_at hl 1 rfl) ?_
    have hq2 := two_P hP (cG_b hjn) (cG_k hkn)
    refine vp_callSi (va_Run.run (va_runV (As := [.ref (ka k)]) (rest := []) ⟨hx, hb, hml, hown, hts⟩ (c_X0_canTake l9 dC dI (kb j) (ka k) k F (F 8 j) ((hbF F n j).map ka)) (cwV 1 hts gX2_lend_X0_canTake rfl rfl rfl (by decide +kernel) ⟨Nat.le_of_ble_eq_true rfl, Nat.le_of_ble_eq_true rfl⟩) ⟨PRo.blind, va_recv (hK.sub (tys' := []) [] rfl) hq2 (ci := 0) (q0 := 0) rfl rfl, PRo.pre hq2 (hK.sub (tys' := []) [] rfl) hE⟩ rfl rfl hl.1 rfl (lv_room (Nat.le_of_ble_eq_true rfl)) dX2_lend_23 ⟨Nat.le_of_ble_eq_true rfl, Nat.le_of_ble_eq_true rfl⟩)) (fun r hr => ?_)
    subst hr
    refine lv_if_ne (tgt := 39) hx hb dX2_lend_26 (by decide) (fun c_26 => ?_) (fun c_26 => ?_)
    · skip
      have c_26 := bi_nz.mp c_26
      refine lv_aload_n hx hb dX2_lend_39 rfl (lv_at hl 1 rfl) ?_
      refine lv_iload_n hx hb dX2_lend_40 rfl (lv_at hl 4 rfl) ?_
      refine va_put (D := (dC, dI)) (ci := 1) (v := .int (nI j)) (ty := .int) (C := RX1) (T := TX1) (N := 9) hx hb hts hi1 tyX1 tyX1_ok nmX1 hown hK hP hD hS (k + 4) (cG_k hkn) rfl 6 (by decide) lk86 (fun _ h9 => h9) rfl (by decide +kernel) rfl rfl (Nat.le_of_ble_eq_true rfl) dX2_lend_41 (fun H locs hP hD hS => ?_)
      have hP : va_P (dC, dI) vwCl (cG tK tB h ak ab af ka kb n p (up F 5 k (nI j)) (flF F n) (hbF F n)) H := P_eq (putk (i := 5) (v := nI j) hkn (by decide) (kE_up5 F k _)) hP
      have hD : va_D A (cG tK tB h ak ab af ka kb n p (up F 5 k (nI j)) (flF F n) (hbF F n)) := D_eq (putk (i := 5) (v := nI j) hkn (by decide) (kE_up5 F k _)) hD
      refine lv_aload hx hb dX2_lend_44 (lv_at hl 0 rfl) ?_
      refine lv_aload_n hx hb dX2_lend_46 rfl (lv_at hl 1 rfl) ?_
      have hj8 : j < 8 := by omega
      have hkf : lk (F 5) n (nI j) = none := by have q := c_26.1; rw [hbF_at hj8] at q; cases hq : lk (F 5) n (nI j) with | none => rfl | some a => rw [hq] at q; cases q
      refine va_put (D := (dC, dI)) (ci := 0) (v := .ref (ka k)) (ty := .object "Windlane$Kite") (C := RX0) (T := TX0) (N := 2) hx hb hts hi0 tyX0 tyX0_ok nmX0 hown hK hP hD hS (n + j + 4) (cG_b hjn) rfl 1 (by decide) lk89 (fun _ h9 => h9) rfl (by decide +kernel) rfl rfl (Nat.le_of_ble_eq_true rfl) dX2_lend_47 (fun H locs hP hD hS => ?_)
      have hP : va_P (dC, dI) vwCl (cW tK tB h ak ab af ka kb n p (up F 5 k (nI j))) H := P_eq ((cG_setb (o := some k) hjn).trans (cG_flhb (flF_up (by decide)).symm (fun j9 _ => hbF_take hj8 hkn c_17.1 hkf j9))) hP
      have hD : va_D A (cW tK tB h ak ab af ka kb n p (up F 5 k (nI j))) := D_eq ((cG_setb (o := some k) hjn).trans (cG_flhb (flF_up (by decide)).symm (fun j9 _ => hbF_take hj8 hkn c_17.1 hkf j9))) hD
      have hS9 : S_lend n p F (nI k) (nI j) = (0, up F 5 k (nI j)) := by rw [S_lend, hixk]; show (match ix p (nI j) with | none => _ | some j => _) = _; rw [hixj]; exact if_pos ⟨c_17.1, c_17.2.1, c_17.2.2, hkf, c_26.2⟩
      refine vx_ret ?_
      refine W.widen (k := 3) (n := 18) (Nat.le_of_ble_eq_true rfl) (Nat.le_of_ble_eq_true rfl) ?_
      exact W.vret hx hb hr (fun t ht hW => cQv_mk ka kb (by rw [hS9]) (by rw [hS9, ht]; exact hP) (by rw [hS9]; exact hD) (hS.F ht)) hS.2.2 dX2_lend_50
    · skip
      have c_26 := bi_z.mp c_26
      have hS9 : S_lend n p F (nI k) (nI j) = (2, F) := by rw [S_lend, hixk]; show (match ix p (nI j) with | none => _ | some j => _) = _; rw [hixj]; exact if_neg (fun q => c_26 ⟨by rw [hbF_at (by omega), q.2.2.2.1]; rfl, q.2.2.2.2⟩)
      obtain ⟨sa, hsa⟩ := hE.2.2.2 (84, "the kite cannot be lent to this borrower") (by decide +kernel)
      exact vx_throwS (own := RX2) (cls := "java/lang/IllegalStateException") (text := "the kite cannot be lent to this borrower") (names := ["java/lang/RuntimeException", "java/lang/Exception"]) (ik := 39) (is := 84) (ic := 43) (sa := sa) (A := A) hx hb hlt hown (by decide +kernel) (by decide +kernel) (hts (.classLink RX2 39 "java/lang/IllegalStateException") (by decide +kernel)) (hts (.initialized "java/lang/IllegalStateException") (by decide +kernel)) hsa (vx_hat (B := [.castable "java/lang/IllegalStateException" "java/lang/IllegalStateException", .declares dR, .declares dE, .declares dT]) (fun w hw => hts w (List.mem_cons_of_mem _ (List.mem_append_left _ (List.mem_append_right _ hw)))) (by decide +kernel) (vx_c (yc.use hE.2.1.2.1) (vx_c (va_Nw.use rfl hE.1.2.1) (vx_c (va_Nw.use rfl hE.1.2.2.1) (vx_c (va_Nw.use rfl hE.1.2.2.2) vx_n))))) (by decide +kernel) hH.1 hH.2 hS (hl.1.trans hml.symm) dX2_lend_29 dX2_lend_32 dX2_lend_33 dX2_lend_35 dX2_lend_38 (fun x hx => (hout x hx).elim) (Nat.le_of_ble_eq_true rfl) (Nat.le_of_ble_eq_true rfl) (Nat.le_of_ble_eq_true rfl) (Nat.le_of_ble_eq_true rfl) hlocks (fun t _ h1 h2 => ⟨(), trivial, Or.inr (⟨rfl, (by rw [hS9])⟩), h1, fun q hq _ => h2 q hq⟩) (fun z hz => absurd hz List.not_mem_nil) (Nat.le_of_ble_eq_true rfl) (Nat.le_of_ble_eq_true rfl)

set_option maxHeartbeats 4000000 in
set_option maxRecDepth 100000 in
theorem c_X2_giveBack (l9 : Launch) (hlt : l9.stackTraces = false) (dC : Nat → ClassId) (dI : Nat → Nat → Nat) (sz : Nat) {tK tB : ClassId} (h ak ab af : Nat) (ka kb : Nat → Nat) (n p : Nat) (F : Rows) (b : Int32) (hI : Inv n p F) : vx_Met l9 yX2_giveBack wsX2_giveBack ({ frames := 7, cells := 2, slots := 12, locals := 104 }) (va_Pc [.ref h, .int b] (PWr dC dI [(tK, .object "Windlane$Kite"), (tB, .object "Windlane$Borrower")] (cW tK tB h ak ab af ka kb n p F) sz)) (cQ dC dI tK tB h ak ab af (va_A (cW tK tB h ak ab af ka kb n p F) sz) n p ((S_giveBack n p F b).2.2) ((S_giveBack n p F b).1) ((S_giveBack n p F b).2.1)) (vx_X (fun _ : Unit => True) (fun E _ _ => (E = "java/lang/IndexOutOfBoundsException" ∧ (S_giveBack n p F b).1 = 1) ∨ (E = "java/lang/IllegalStateException" ∧ (S_giveBack n p F b).1 = 2)) (fun _ => False)) 2 12 (va_A (cW tK tB h ak ab af ka kb n p F) sz) := by
  refine vx_ofW (cc := cX2_giveBack) (maxL := 4) (ret := (some .int)) (by decide) rfl ?_
  intro p9 e9 s m args below meth c s₁ B hml hout hv
  obtain ⟨rfl, hsz, hP, hK, hD0, hE, hH⟩ := hv
  have hx := B.exec
  have hb := B.bytes
  have hr := B.returns
  have hts := atoms_spec (ws := wsX2_giveBack) B.pre
  have hown : s.vm.findClass RX2 = some m.cls := findClass_of_methodNamed B.named
  have hlocks := B.notSynchronized
  have hi0 : ∀ w ∈ u_ws RX0 TX0 2, w ∈ wsX2_giveBack := by decide +kernel
  have hi1 : ∀ w ∈ u_ws RX1 TX1 9, w ∈ wsX2_giveBack := by decide +kernel
  have lk86 := hts (.fieldLink RX2 86 "Windlane$Kite" "borrower" "I") (by decide +kernel)
  have lk89 := hts (.fieldLink RX2 89 "Windlane$Borrower" "held" "LWindlane$Kite;") (by decide +kernel)
  have lk98 := hts (.fieldLink RX2 98 "Windlane$Kite" "number" "I") (by decide +kernel)
  subst hsz
  have hD := hD0.self (sz := s.heap.size)
  generalize hAe : va_A (cW tK tB h ak ab af ka kb n p F) s.heap.size = A at hD hH ⊢
  have hA : ∀ q : Nat, s.heap.size ≤ q → A q := fun q h => by rw [← hAe]; exact Or.inr h
  have hS : va_S A s.heap s.heap [] := va_S.rf
  have hP : va_P (dC, dI) vwCl (cW tK tB h ak ab af ka kb n p F) s.heap := hP
  have hn8 : n ≤ 8 := hI.1.1
  have hp8 : p ≤ 8 := hI.1.2
  have hl := lv_entry ([.ref h, .int b]) (n := 4) (Nat.le_of_ble_eq_true rfl)
  rw [lg_entry_eq]
  generalize (lg_sl ([.ref h, .int b]) ++ List.replicate (4 - (lg_sl ([.ref h, .int b])).length) Slot.unset).toArray = ls at hl ⊢
  have hl : lv_has ls 4 [(0, .ref h), (1, .int b)] := hl
  refine lv_aload_n hx hb dX2_giveBack_0 rfl (lv_at hl 0 rfl) ?_
  refine lv_iload_n hx hb dX2_giveBack_1 rfl (lv_at hl 1 rfl) ?_
  refine my_callXq (vx_runV (As := [.int b]) (rest := []) ⟨hx, hb, hml, hown, hts⟩ (c_X2_borrowerAt l9 hlt dC dI s.heap.size h ak ab af ka kb n p F b hI.1.2) (cwV 1 hts gX2_giveBack_X2_borrowerAt rfl rfl rfl (by decide +kernel) ⟨Nat.le_of_ble_eq_true rfl, Nat.le_of_ble_eq_true rfl⟩) ⟨PWr.blind, va_recv hK hP (ci := 2) (q0 := 0) rfl rfl, PWr.pre hP hK hD hE (hH.narrow (A_in hD hS hA))⟩ rfl rfl hl.1 rfl (lv_room (Nat.le_of_ble_eq_true rfl)) dX2_giveBack_2 ⟨Nat.le_of_ble_eq_true rfl, Nat.le_of_ble_eq_true rfl⟩) (fun E ce q9 H1 hBE hz1 hk1 hce hcv hcl => vx_out (fun x hx => (hout x hx).elim) hlocks hce hcv hcl (fun t ht _ => ⟨(), trivial, Or.inl (⟨hBE.1, by rw [S_giveBack, ix_f hBE.2]⟩), by rw [ht]; exact hz1, fun q hq _ => by rw [ht]; exact hk1 q hq⟩) (fun z hz => absurd hz List.not_mem_nil) (Nat.le_of_ble_eq_true rfl) (Nat.le_of_ble_eq_true rfl)) (fun r9 hr9 => ?_)
  obtain ⟨j, hjn, rfl, rfl⟩ := hr9
  have hixj : ix p (nI j) = some j := ix_t hjn (by omega)
  have hl : lv_has ls 4 [(0, .ref h), (1, .int (nI j))] := hl
  refine W_top (x := va_rf (some (kb j))) (y := .ref (kb j)) rfl ?_
  refine lv_astore_n (lv' := [(2, .ref (kb j)), (0, .ref h), (1, .int (nI j))]) hx hb dX2_giveBack_5 rfl hl (by decide) rfl (fun ls hl => ?_)
  refine lv_aload_n hx hb dX2_giveBack_6 rfl (lv_at hl 0 rfl) ?_
  refine va_get (D := (dC, dI)) (ci := 0) (v := va_rf ((hbF F n j).map ka)) (C := RX0) (T := TX0) (N := 2) hx hb hts hi0 hown hK hP (n + j + 4) (cG_b hjn) rfl 1 (by decide) lk89 (fun _ h9 => h9) rfl dX2_giveBack_7 ?_
  have hj8 : j < 8 := by have := hI.1.2; omega
  rcases hlk : lk (F 5) n (nI j) with _ | k
  · skip
    refine W_top (y := .null) (show va_rf ((hbF F n j).map ka) = _ by rw [hbF_at hj8, hlk]; rfl) ?_
    refine lv_astore_nN (lv' := [(3, .null), (2, .ref (kb j)), (0, .ref h), (1, .int (nI j))]) hx hb dX2_giveBack_10 rfl hl (by decide) rfl (fun ls hl => ?_)
    refine lv_aload_nN hx hb dX2_giveBack_11 rfl (lv_at hl 0 rfl) ?_
    refine lv_ifnullN (tgt := 22) hx hb dX2_giveBack_12 (by decide) ?_
    have hS9 : S_giveBack n p F (nI j) = (2, 0, F) := by rw [S_giveBack, hixj]; show (match lk (F 5) n (nI j) with | none => _ | some k => _) = _; rw [hlk]
    obtain ⟨sa, hsa⟩ := hE.2.2.2 (96, "the borrower has no kite that could be given back") (by decide +kernel)
    exact vx_throwS (own := RX2) (cls := "java/lang/IllegalStateException") (text := "the borrower has no kite that could be given back") (names := ["java/lang/RuntimeException", "java/lang/Exception"]) (ik := 39) (is := 96) (ic := 43) (sa := sa) (A := A) hx hb hlt hown (by decide +kernel) (by decide +kernel) (hts (.classLink RX2 39 "java/lang/IllegalStateException") (by decide +kernel)) (hts (.initialized "java/lang/IllegalStateException") (by decide +kernel)) hsa (vx_hat (B := [.castable "java/lang/IllegalStateException" "java/lang/IllegalStateException", .declares dR, .declares dE, .declares dT]) (fun w hw => hts w (List.mem_cons_of_mem _ (List.mem_append_left _ (List.mem_append_right _ hw)))) (by decide +kernel) (vx_c (yc.use hE.2.1.2.1) (vx_c (va_Nw.use rfl hE.1.2.1) (vx_c (va_Nw.use rfl hE.1.2.2.1) (vx_c (va_Nw.use rfl hE.1.2.2.2) vx_n))))) (by decide +kernel) hH.1 hH.2 hS (hl.1.trans hml.symm) dX2_giveBack_22 dX2_giveBack_25 dX2_giveBack_26 dX2_giveBack_28 dX2_giveBack_31 (fun x hx => (hout x hx).elim) (Nat.le_of_ble_eq_true rfl) (Nat.le_of_ble_eq_true rfl) (Nat.le_of_ble_eq_true rfl) (Nat.le_of_ble_eq_true rfl) hlocks (fun t _ h1 h2 => ⟨(), trivial, Or.inr (⟨rfl, (by rw [hS9])⟩), h1, fun q hq _ => h2 q hq⟩) (fun z hz => absurd hz List.not_mem_nil) (Nat.le_of_ble_eq_true rfl) (Nat.le_of_ble_eq_true rfl)
  · skip
    refine W_top (y := .ref (ka k)) (show va_rf ((hbF F n j).map ka) = _ by rw [hbF_at hj8, hlk]; rfl) ?_
    obtain ⟨hkn, hk5⟩ := lk_some hlk
    refine lv_astore_n (lv' := [(3, .ref (ka k)), (2, .ref (kb j)), (0, .ref h), (1, .int (nI j))]) hx hb dX2_giveBack_10 rfl hl (by decide) rfl (fun ls hl => ?_)
    refine lv_aload_n hx hb dX2_giveBack_11 rfl (lv_at hl 0 rfl) ?_
    refine lv_ifnull hx hb dX2_giveBack_12 ?_
    refine lv_aload_n hx hb dX2_giveBack_15 rfl (lv_at hl 0 rfl) ?_
    have hq1 := one_P hP (cG_k hkn)
    refine vp_callSi (va_Run.run (va_runV (As := []) (rest := []) ⟨hx, hb, hml, hown, hts⟩ (c_X1_isFlying l9 dC dI (ka k) k F) (cwV 0 hts gX2_giveBack_X1_isFlying rfl rfl rfl (by decide +kernel) ⟨Nat.le_of_ble_eq_true rfl, Nat.le_of_ble_eq_true rfl⟩) ⟨PRo.blind, va_recv (hK.sub (tys' := []) [] rfl) hq1 (ci := 1) (q0 := 0) rfl rfl, PRo.pre hq1 (hK.sub (tys' := []) [] rfl) hE⟩ rfl rfl hl.1 rfl (lv_room (Nat.le_of_ble_eq_true rfl)) dX2_giveBack_16 ⟨Nat.le_of_ble_eq_true rfl, Nat.le_of_ble_eq_true rfl⟩)) (fun r hr => ?_)
    subst hr
    refine lv_if_eq (tgt := 32) hx hb dX2_giveBack_19 (by decide) (fun c_19 => ?_) (fun c_19 => ?_)
    · skip
      have c_19 := bi_z.mp c_19
      refine lv_aload_n hx hb dX2_giveBack_32 rfl (lv_at hl 1 rfl) ?_
      refine lv_null hx hb dX2_giveBack_33 ?_
      refine va_put (D := (dC, dI)) (ci := 0) (v := .null) (ty := .object "Windlane$Kite") (C := RX0) (T := TX0) (N := 2) hx hb hts hi0 tyX0 tyX0_ok nmX0 hown hK hP hD hS (n + j + 4) (cG_b hjn) rfl 1 (by decide) lk89 (fun _ h9 => h9) rfl (by decide +kernel) rfl rfl (Nat.le_of_ble_eq_true rfl) dX2_giveBack_34 (fun H locs hP hD hS => ?_)
      have hu5 := uq_lk hI.2.2.2.1.1 (nI_m1 (by omega)) hlk
      have hP : va_P (dC, dI) vwCl (cG tK tB h ak ab af ka kb n p F (flF F n) (va_up (hbF F n) j none)) H := P_eq (cG_setb (o := none) hjn) hP
      have hD : va_D A (cG tK tB h ak ab af ka kb n p F (flF F n) (va_up (hbF F n) j none)) := D_eq (cG_setb (o := none) hjn) hD
      refine lv_aload_n hx hb dX2_giveBack_37 rfl (lv_at hl 0 rfl) ?_
      refine lv_iconst (v := (-1)) hx hb dX2_giveBack_38 (by decide) ?_
      refine va_put (D := (dC, dI)) (ci := 1) (v := .int (-1)) (ty := .int) (C := RX1) (T := TX1) (N := 9) hx hb hts hi1 tyX1 tyX1_ok nmX1 hown hK hP hD hS (k + 4) (cG_k hkn) rfl 6 (by decide) lk86 (fun _ h9 => h9) rfl (by decide +kernel) rfl rfl (Nat.le_of_ble_eq_true rfl) dX2_giveBack_39 (fun H locs hP hD hS => ?_)
      have hP : va_P (dC, dI) vwCl (cG tK tB h ak ab af ka kb n p (up F 5 k (-1)) (flF F n) (va_up (hbF F n) j none)) H := P_eq (putk (i := 5) (v := (-1)) hkn (by decide) (kE_up5 F k _)) hP
      have hD : va_D A (cG tK tB h ak ab af ka kb n p (up F 5 k (-1)) (flF F n) (va_up (hbF F n) j none)) := D_eq (putk (i := 5) (v := (-1)) hkn (by decide) (kE_up5 F k _)) hD
      have hP : va_P (dC, dI) vwCl (cW tK tB h ak ab af ka kb n p (up F 5 k (-1))) H := P_eq (cG_flhb (flF_up (by decide)).symm (fun j9 _ => hbF_drop hj8 hk5 hu5 j9)) hP
      have hD : va_D A (cW tK tB h ak ab af ka kb n p (up F 5 k (-1))) := D_eq (cG_flhb (flF_up (by decide)).symm (fun j9 _ => hbF_drop hj8 hk5 hu5 j9)) hD
      refine lv_aload_n hx hb dX2_giveBack_42 rfl (lv_at hl 0 rfl) ?_
      refine va_get (D := (dC, dI)) (ci := 1) (v := .int (nI k)) (C := RX1) (T := TX1) (N := 9) hx hb hts hi1 hown hK hP (k + 4) (cG_k hkn) rfl 0 (by decide) lk98 (fun _ h9 => h9) rfl dX2_giveBack_43 ?_
      have hS9 : S_giveBack n p F (nI j) = (0, nI k, up F 5 k (-1)) := by rw [S_giveBack, hixj]; show (match lk (F 5) n (nI j) with | none => _ | some k => _) = _; rw [hlk]; exact if_pos (Decidable.not_not.mp c_19)
      refine vx_ret ?_
      refine W.widen (k := 2) (n := 12) (Nat.le_of_ble_eq_true rfl) (Nat.le_of_ble_eq_true rfl) ?_
      exact W.iret (v := nI k) hx hb hr (fun t ht hW => cQ_mk ka kb (by rw [hS9]) (by rw [hS9]) (by rw [hS9, ht]; exact hP) (by rw [hS9]; exact hD) (hS.F ht)) hS.2.2 dX2_giveBack_46
    · skip
      have c_19 := bi_nz.mp c_19
      have hS9 : S_giveBack n p F (nI j) = (2, 0, F) := by rw [S_giveBack, hixj]; show (match lk (F 5) n (nI j) with | none => _ | some k => _) = _; rw [hlk]; exact if_neg c_19
      obtain ⟨sa, hsa⟩ := hE.2.2.2 (96, "the borrower has no kite that could be given back") (by decide +kernel)
      exact vx_throwS (own := RX2) (cls := "java/lang/IllegalStateException") (text := "the borrower has no kite that could be given back") (names := ["java/lang/RuntimeException", "java/lang/Exception"]) (ik := 39) (is := 96) (ic := 43) (sa := sa) (A := A) hx hb hlt hown (by decide +kernel) (by decide +kernel) (hts (.classLink RX2 39 "java/lang/IllegalStateException") (by decide +kernel)) (hts (.initialized "java/lang/IllegalStateException") (by decide +kernel)) hsa (vx_hat (B := [.castable "java/lang/IllegalStateException" "java/lang/IllegalStateException", .declares dR, .declares dE, .declares dT]) (fun w hw => hts w (List.mem_cons_of_mem _ (List.mem_append_left _ (List.mem_append_right _ hw)))) (by decide +kernel) (vx_c (yc.use hE.2.1.2.1) (vx_c (va_Nw.use rfl hE.1.2.1) (vx_c (va_Nw.use rfl hE.1.2.2.1) (vx_c (va_Nw.use rfl hE.1.2.2.2) vx_n))))) (by decide +kernel) hH.1 hH.2 hS (hl.1.trans hml.symm) dX2_giveBack_22 dX2_giveBack_25 dX2_giveBack_26 dX2_giveBack_28 dX2_giveBack_31 (fun x hx => (hout x hx).elim) (Nat.le_of_ble_eq_true rfl) (Nat.le_of_ble_eq_true rfl) (Nat.le_of_ble_eq_true rfl) (Nat.le_of_ble_eq_true rfl) hlocks (fun t _ h1 h2 => ⟨(), trivial, Or.inr (⟨rfl, (by rw [hS9])⟩), h1, fun q hq _ => h2 q hq⟩) (fun z hz => absurd hz List.not_mem_nil) (Nat.le_of_ble_eq_true rfl) (Nat.le_of_ble_eq_true rfl)

set_option maxHeartbeats 4000000 in
set_option maxRecDepth 100000 in
theorem c_X2_land (l9 : Launch) (hlt : l9.stackTraces = false) (dC : Nat → ClassId) (dI : Nat → Nat → Nat) (sz : Nat) {tK tB : ClassId} (h ak ab af : Nat) (ka kb : Nat → Nat) (n p : Nat) (F : Rows) (its : Int32) (hI : Inv n p F) : vx_Met l9 yX2_land wsX2_land ({ frames := 7, cells := 2, slots := 12, locals := 104 }) (va_Pc [.ref h, .int its] (PWr dC dI [(tK, .object "Windlane$Kite"), (tB, .object "Windlane$Borrower")] (cW tK tB h ak ab af ka kb n p F) sz)) (cQ dC dI tK tB h ak ab af (va_A (cW tK tB h ak ab af ka kb n p F) sz) n p ((S_land n F its).2.2) ((S_land n F its).1) ((S_land n F its).2.1)) (vx_X (fun _ : Unit => True) (fun E _ _ => (E = "java/lang/IndexOutOfBoundsException" ∧ (S_land n F its).1 = 1) ∨ (E = "java/lang/IllegalStateException" ∧ (S_land n F its).1 = 2)) (fun _ => False)) 2 12 (va_A (cW tK tB h ak ab af ka kb n p F) sz) := by
  refine vx_ofW (cc := cX2_land) (maxL := 4) (ret := (some .int)) (by decide) rfl ?_
  intro p9 e9 s m args below meth c s₁ B hml hout hv
  obtain ⟨rfl, hsz, hP, hK, hD0, hE, hH⟩ := hv
  have hx := B.exec
  have hb := B.bytes
  have hr := B.returns
  have hts := atoms_spec (ws := wsX2_land) B.pre
  have hown : s.vm.findClass RX2 = some m.cls := findClass_of_methodNamed B.named
  have hlocks := B.notSynchronized
  have hi1 : ∀ w ∈ u_ws RX1 TX1 9, w ∈ wsX2_land := by decide +kernel
  have lk133 := hts (.fieldLink RX2 133 "Windlane$Kite" "lane" "I") (by decide +kernel)
  subst hsz
  have hD := hD0.self (sz := s.heap.size)
  generalize hAe : va_A (cW tK tB h ak ab af ka kb n p F) s.heap.size = A at hD hH ⊢
  have hA : ∀ q : Nat, s.heap.size ≤ q → A q := fun q h => by rw [← hAe]; exact Or.inr h
  have hS : va_S A s.heap s.heap [] := va_S.rf
  have hP : va_P (dC, dI) vwCl (cW tK tB h ak ab af ka kb n p F) s.heap := hP
  have hn8 : n ≤ 8 := hI.1.1
  have hp8 : p ≤ 8 := hI.1.2
  have hl := lv_entry ([.ref h, .int its]) (n := 4) (Nat.le_of_ble_eq_true rfl)
  rw [lg_entry_eq]
  generalize (lg_sl ([.ref h, .int its]) ++ List.replicate (4 - (lg_sl ([.ref h, .int its])).length) Slot.unset).toArray = ls at hl ⊢
  have hl : lv_has ls 4 [(0, .ref h), (1, .int its)] := hl
  refine lv_aload_n hx hb dX2_land_0 rfl (lv_at hl 0 rfl) ?_
  refine lv_iload_n hx hb dX2_land_1 rfl (lv_at hl 1 rfl) ?_
  refine my_callXq (vx_runV (As := [.int its]) (rest := []) ⟨hx, hb, hml, hown, hts⟩ (c_X2_kiteAt l9 hlt dC dI s.heap.size h ak ab af ka kb n p F its hI.1.1) (cwV 1 hts gX2_land_X2_kiteAt rfl rfl rfl (by decide +kernel) ⟨Nat.le_of_ble_eq_true rfl, Nat.le_of_ble_eq_true rfl⟩) ⟨PWr.blind, va_recv hK hP (ci := 2) (q0 := 0) rfl rfl, PWr.pre hP hK hD hE (hH.narrow (A_in hD hS hA))⟩ rfl rfl hl.1 rfl (lv_room (Nat.le_of_ble_eq_true rfl)) dX2_land_2 ⟨Nat.le_of_ble_eq_true rfl, Nat.le_of_ble_eq_true rfl⟩) (fun E ce q9 H1 hBE hz1 hk1 hce hcv hcl => vx_out (fun x hx => (hout x hx).elim) hlocks hce hcv hcl (fun t ht _ => ⟨(), trivial, Or.inl (⟨hBE.1, by rw [S_land, ix_f hBE.2]⟩), by rw [ht]; exact hz1, fun q hq _ => by rw [ht]; exact hk1 q hq⟩) (fun z hz => absurd hz List.not_mem_nil) (Nat.le_of_ble_eq_true rfl) (Nat.le_of_ble_eq_true rfl)) (fun r9 hr9 => ?_)
  obtain ⟨k, hkn, rfl, rfl⟩ := hr9
  have hixk : ix n (nI k) = some k := ix_t hkn (by omega)
  have hl : lv_has ls 4 [(0, .ref h), (1, .int (nI k))] := hl
  refine W_top (x := va_rf (some (ka k))) (y := .ref (ka k)) rfl ?_
  refine lv_astore_n (lv' := [(2, .ref (ka k)), (0, .ref h), (1, .int (nI k))]) hx hb dX2_land_5 rfl hl (by decide) rfl (fun ls hl => ?_)
  refine lv_aload_n hx hb dX2_land_6 rfl (lv_at hl 0 rfl) ?_
  refine va_get (D := (dC, dI)) (ci := 1) (v := .int (F 6 k)) (C := RX1) (T := TX1) (N := 9) hx hb hts hi1 hown hK hP (k + 4) (cG_k hkn) rfl 7 (by decide) lk133 (fun _ h9 => h9) rfl dX2_land_7 ?_
  rcases (hI.2.1 k hkn).2.2.2.2.2.2.1 with hk6 | ⟨l, hl10, hk6⟩
  · skip
    refine W_top (y := .int (-1)) (congrArg Value.int hk6) ?_
    refine lv_istore_n (lv' := [(3, .int (-1)), (2, .ref (ka k)), (0, .ref h), (1, .int (nI k))]) hx hb dX2_land_10 rfl hl (by decide) rfl (fun ls hl => ?_)
    refine lv_iload_n hx hb dX2_land_11 rfl (lv_at hl 0 rfl) ?_
    refine vp_callSi (va_Run.run (va_runS (As := [.int (-1)]) (rest := []) ⟨hx, hb, hml, hown, hts⟩ (c_X2_isLane l9 (-1)) (va_cwS 1 hts gX2_land_X2_isLane rfl rfl rfl (by decide +kernel) ⟨Nat.le_of_ble_eq_true rfl, Nat.le_of_ble_eq_true rfl⟩) ⟨fun a U g mk q => q, fun U hU hW => ⟨rfl, trivial⟩⟩ rfl rfl hl.1 rfl (lv_room (Nat.le_of_ble_eq_true rfl)) dX2_land_12 ⟨Nat.le_of_ble_eq_true rfl, Nat.le_of_ble_eq_true rfl⟩)) (fun r hr => ?_)
    subst hr
    refine lv_if_ne (tgt := 28) hx hb dX2_land_15 (by decide) (fun c_15 => absurd (bi_f (by decide)) c_15) (fun _ => ?_)
    have hS9 : S_land n F (nI k) = (2, 0, F) := by rw [S_land, hixk]; exact if_pos hk6
    obtain ⟨sa, hsa⟩ := hE.2.2.2 (139, "the kite is not flying") (by decide +kernel)
    exact vx_throwS (own := RX2) (cls := "java/lang/IllegalStateException") (text := "the kite is not flying") (names := ["java/lang/RuntimeException", "java/lang/Exception"]) (ik := 39) (is := 139) (ic := 43) (sa := sa) (A := A) hx hb hlt hown (by decide +kernel) (by decide +kernel) (hts (.classLink RX2 39 "java/lang/IllegalStateException") (by decide +kernel)) (hts (.initialized "java/lang/IllegalStateException") (by decide +kernel)) hsa (vx_hat (B := [.castable "java/lang/IllegalStateException" "java/lang/IllegalStateException", .declares dR, .declares dE, .declares dT]) (fun w hw => hts w (List.mem_cons_of_mem _ (List.mem_append_left _ (List.mem_append_right _ hw)))) (by decide +kernel) (vx_c (yc.use hE.2.1.2.1) (vx_c (va_Nw.use rfl hE.1.2.1) (vx_c (va_Nw.use rfl hE.1.2.2.1) (vx_c (va_Nw.use rfl hE.1.2.2.2) vx_n))))) (by decide +kernel) hH.1 hH.2 hS (hl.1.trans hml.symm) dX2_land_18 dX2_land_21 dX2_land_22 dX2_land_24 dX2_land_27 (fun x hx => (hout x hx).elim) (Nat.le_of_ble_eq_true rfl) (Nat.le_of_ble_eq_true rfl) (Nat.le_of_ble_eq_true rfl) (Nat.le_of_ble_eq_true rfl) hlocks (fun t _ h1 h2 => ⟨(), trivial, Or.inr (⟨rfl, (by rw [hS9])⟩), h1, fun q hq _ => h2 q hq⟩) (fun z hz => absurd hz List.not_mem_nil) (Nat.le_of_ble_eq_true rfl) (Nat.le_of_ble_eq_true rfl)
  · skip
    refine W_top (y := .int (nI l)) (congrArg Value.int hk6) ?_
    refine lv_istore_n (lv' := [(3, .int (nI l)), (2, .ref (ka k)), (0, .ref h), (1, .int (nI k))]) hx hb dX2_land_10 rfl hl (by decide) rfl (fun ls hl => ?_)
    refine lv_iload_n hx hb dX2_land_11 rfl (lv_at hl 0 rfl) ?_
    refine vp_callSi (va_Run.run (va_runS (As := [.int (nI l)]) (rest := []) ⟨hx, hb, hml, hown, hts⟩ (c_X2_isLane l9 (nI l)) (va_cwS 1 hts gX2_land_X2_isLane rfl rfl rfl (by decide +kernel) ⟨Nat.le_of_ble_eq_true rfl, Nat.le_of_ble_eq_true rfl⟩) ⟨fun a U g mk q => q, fun U hU hW => ⟨rfl, trivial⟩⟩ rfl rfl hl.1 rfl (lv_room (Nat.le_of_ble_eq_true rfl)) dX2_land_12 ⟨Nat.le_of_ble_eq_true rfl, Nat.le_of_ble_eq_true rfl⟩)) (fun r hr => ?_)
    subst hr
    refine lv_if_ne (tgt := 28) hx hb dX2_land_15 (by decide) (fun _ => ?_) (fun c_15 => absurd c_15 (bi_nz.mpr (inR_nI hl10 (by decide))))
    refine lv_aload_n hx hb dX2_land_28 rfl (lv_at hl 2 rfl) ?_
    refine lv_iload_n hx hb dX2_land_29 rfl (lv_at hl 0 rfl) ?_
    have hu6 := hI.2.2.2.1.2
    have hlk : lk (F 6) n (nI l) = some k := lk_uniq hkn hk6 (fun j hj q => hu6 j k hj hkn (q.trans hk6.symm) (by rw [q]; exact nI_m1 (by omega)))
    refine va_callv (va_runV (As := [.int (nI l)]) (rest := []) ⟨hx, hb, hml, hown, hts⟩ (c_X2_clearLane l9 dC dI s.heap.size h ak ab af ka kb n p F l k hl10 hlk hu6) (cwV 1 hts gX2_land_X2_clearLane rfl rfl rfl (by decide +kernel) ⟨Nat.le_of_ble_eq_true rfl, Nat.le_of_ble_eq_true rfl⟩) ⟨PWr.blind, va_recv hK hP (ci := 2) (q0 := 0) rfl rfl, PWr.pre hP hK hD hE ((hH.kept hS.2.1).narrow (A_in hD hS hA))⟩ rfl rfl hl.1 rfl (lv_room (Nat.le_of_ble_eq_true rfl)) dX2_land_30 ⟨Nat.le_of_ble_eq_true rfl, Nat.le_of_ble_eq_true rfl⟩) hS (fun q _ hq => A_in hD hS hA q hq) (A_in hD hS hA) (fun u9 t9 H locs ht9 hvm hw9 hB hz1 hk1 hS => ?_)
    have hP : va_P (dC, dI) vwCl (cW tK tB h ak ab af ka kb n p (up F 6 k (-1))) H := by rw [← ht9]; exact hB
    have hD : va_D A (cW tK tB h ak ab af ka kb n p (up F 6 k (-1))) := cG_D hD
    refine lv_iload_n hx hb dX2_land_33 rfl (lv_at hl 0 rfl) ?_
    have hS9 : S_land n F (nI k) = (0, nI l, up F 6 k (-1)) := by rw [S_land, hixk, ← hk6]; exact if_neg (by rw [hk6]; exact nI_m1 (by omega))
    refine vx_ret ?_
    refine W.widen (k := 2) (n := 12) (Nat.le_of_ble_eq_true rfl) (Nat.le_of_ble_eq_true rfl) ?_
    exact W.iret (v := nI l) hx hb hr (fun t ht hW => cQ_mk ka kb (by rw [hS9]) (by rw [hS9]) (by rw [hS9, ht]; exact hP) (by rw [hS9]; exact hD) (hS.F ht)) hS.2.2 dX2_land_34
