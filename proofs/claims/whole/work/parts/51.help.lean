/-! ===== the law's own calls of the class ===== -/
abbrev oC1 (cJ : ClassId) (o : Nat) (f : Nat → Int64) : va_W := [(o, .inl (cJ, 1, .inr (.inl f)))]
def lQ (dC : Nat → ClassId) (dI : Nat → Nat → Nat) (tK tB cJ : ClassId) (h ak ab af o : Nat) (A : Nat → Prop) (n p : Nat) (F : Rows) (th ans : Int32) : Array Value → State → Outcome → State → Prop := va_Qi (S := (Nat → Nat) × (Nat → Nat) × (Nat → Int64)) (fun r9 u => r9 = th ∧ (th = 0 → u.2.2 0 = ans.toInt64)) (fun u t => va_P (dC, dI) vwCl (cW tK tB h ak ab af u.1 u.2.1 n p F ++ oC1 cJ o u.2.2) t.heap ∧ va_D A (cW tK tB h ak ab af u.1 u.2.1 n p F ++ oC1 cJ o u.2.2)) A
theorem lQ_mk {dC : Nat → ClassId} {dI : Nat → Nat → Nat} {tK tB cJ : ClassId} {h ak ab af o : Nat} {A : Nat → Prop} {n p : Nat} {F : Rows} {th ans v : Int32} {as : Array Value} {st t : State} (ka kb : Nat → Nat) (f : Nat → Int64) (h1 : v = th) (h2 : th = 0 → f 0 = ans.toInt64) (h3 : va_P (dC, dI) vwCl (cW tK tB h ak ab af ka kb n p F ++ oC1 cJ o f) t.heap) (h4 : va_D A (cW tK tB h ak ab af ka kb n p F ++ oC1 cJ o f)) (h5 : va_F A st t) : lQ dC dI tK tB cJ h ak ab af o A n p F th ans as st (.returned (some (.int v))) t := ⟨⟨v, (ka, kb, f), rfl, ⟨h1, h2⟩, h3, h4⟩, h5⟩
def lQn (dC : Nat → ClassId) (dI : Nat → Nat → Nat) (tK tB : ClassId) (h ak ab af : Nat) (A : Nat → Prop) (n p : Nat) (F : Rows) (th : Int32) : Array Value → State → Outcome → State → Prop := va_Qi (S := (Nat → Nat) × (Nat → Nat)) (fun r9 _ => r9 = th) (fun u t => va_P (dC, dI) vwCl (cW tK tB h ak ab af u.1 u.2 n p F) t.heap ∧ va_D A (cW tK tB h ak ab af u.1 u.2 n p F)) A
theorem lQn_mk {dC : Nat → ClassId} {dI : Nat → Nat → Nat} {tK tB : ClassId} {h ak ab af : Nat} {A : Nat → Prop} {n p : Nat} {F : Rows} {th v : Int32} {as : Array Value} {st t : State} (ka kb : Nat → Nat) (h1 : v = th) (h3 : va_P (dC, dI) vwCl (cW tK tB h ak ab af ka kb n p F) t.heap) (h4 : va_D A (cW tK tB h ak ab af ka kb n p F)) (h5 : va_F A st t) : lQn dC dI tK tB h ak ab af A n p F th as st (.returned (some (.int v))) t := ⟨⟨v, (ka, kb), rfl, h1, h3, h4⟩, h5⟩
theorem K_kite {n : Nat} {F : Rows} {kd ar wt : Int32} : (S_kite n F kd ar wt).1 ≠ 0 → (S_kite n F kd ar wt).2.2 = (n, F) := by
  unfold S_kite; split <;> (try split) <;> intro h <;> first | rfl | exact absurd rfl h
theorem K_patch {n : Nat} {F : Rows} {its : Int32} : (S_patch n F its).1 ≠ 0 → (S_patch n F its).2.2 = F := by
  unfold S_patch; split <;> (try split) <;> intro h <;> first | rfl | exact absurd rfl h
theorem K_borrower {p : Nat} {F : Rows} {sk : Int32} : (S_borrower p F sk).1 ≠ 0 → (S_borrower p F sk).2.2 = (p, F) := by
  unfold S_borrower; split <;> (try split) <;> intro h <;> first | rfl | exact absurd rfl h
theorem K_lend {n p : Nat} {F : Rows} {its b : Int32} : (S_lend n p F its b).1 ≠ 0 → (S_lend n p F its b).2 = F := by
  unfold S_lend; split <;> (try split) <;> (try split) <;> intro h <;> first | rfl | exact absurd rfl h
theorem K_giveBack {n p : Nat} {F : Rows} {b : Int32} : (S_giveBack n p F b).1 ≠ 0 → (S_giveBack n p F b).2.2 = F := by
  unfold S_giveBack; split <;> (try split) <;> (try split) <;> intro h <;> first | rfl | exact absurd rfl h
theorem K_fly {n : Nat} {F : Rows} {its ln len : Int32} : (S_fly n F its ln len).1 ≠ 0 → (S_fly n F its ln len).2.2 = F := by
  unfold S_fly; split <;> (try split) <;> (try split) <;> (try split) <;> intro h <;> first | rfl | exact absurd rfl h
theorem K_land {n : Nat} {F : Rows} {its : Int32} : (S_land n F its).1 ≠ 0 → (S_land n F its).2.2 = F := by
  unfold S_land; split <;> (try split) <;> intro h <;> first | rfl | exact absurd rfl h
theorem K_wind {n : Nat} {F : Rows} {sp sd : Int32} : (S_wind n F sp sd).1 ≠ 0 → (S_wind n F sp sd).2.2 = F := by
  unfold S_wind; split <;> intro h <;> first | rfl | exact absurd rfl h
theorem K_pass {n : Nat} {F : Rows} {hs : Int32} : (S_pass n F hs).1 ≠ 0 → (S_pass n F hs).2.2 = F := by
  unfold S_pass; split <;> intro h <;> first | rfl | exact absurd rfl h

set_option maxHeartbeats 4000000 in
set_option maxRecDepth 100000 in
theorem c_L_kite (l9 : Launch) (hlt : l9.stackTraces = false) (dC : Nat → ClassId) (dI : Nat → Nat → Nat) (sz : Nat) {tK tB cJ : ClassId} (h ak ab af : Nat) (ka kb : Nat → Nat) (n p : Nat) (F : Rows) (o : Nat) (f : Nat → Int64) (kd ar wt : Int32) (hI : Inv n p F) : Met l9 yL_kite wsL_kite ({ frames := 7, cells := 1, slots := 9, locals := 106 }) (va_Pc [.ref h, .int kd, .int ar, .int wt, .ref o] (PWr dC dI [(tK, .object "Windlane$Kite"), (tB, .object "Windlane$Borrower"), (cJ, .long)] (cW tK tB h ak ab af ka kb n p F ++ oC1 cJ o f) sz)) (lQ dC dI tK tB cJ h ak ab af o (va_A (cW tK tB h ak ab af ka kb n p F ++ oC1 cJ o f) sz) ((S_kite n F kd ar wt).2.2.1) p ((S_kite n F kd ar wt).2.2.2) ((S_kite n F kd ar wt).1) ((S_kite n F kd ar wt).2.1)) 1 9 (va_A (cW tK tB h ak ab af ka kb n p F ++ oC1 cJ o f) sz) := by
  refine va_MetW (cc := cL_kite) (maxL := 6) (ret := (some .int)) (hh := [(0, 12, 15, 13), (0, 12, 19, 15)]) (by decide) rfl ?_
  intro p9 e9 s m args below meth c s₁ B hml hv
  obtain ⟨rfl, hsz, hP, hK, hD0, hE, hH⟩ := hv
  have hx := B.exec
  have hb := B.bytes
  have hr := B.returns
  have hts := atoms_spec (ws := wsL_kite) B.pre
  have htab := vx_table (x := yL_kite) B (hts _ List.mem_cons_self)
  have hown : s.vm.findClass RL = some m.cls := findClass_of_methodNamed B.named
  have hlocks := B.notSynchronized
  subst hsz
  have hD := hD0.self (sz := s.heap.size)
  generalize hAe : va_A (cW tK tB h ak ab af ka kb n p F ++ oC1 cJ o f) s.heap.size = A at hD hH ⊢
  have hA : ∀ q : Nat, s.heap.size ≤ q → A q := fun q h => by rw [← hAe]; exact Or.inr h
  have hS : va_S A s.heap s.heap [] := va_S.rf
  have hS0 := hS
  have hP : va_P (dC, dI) vwCl (cW tK tB h ak ab af ka kb n p F ++ oC1 cJ o f) s.heap := hP
  have hl := lv_entry ([.ref h, .int kd, .int ar, .int wt, .ref o]) (n := 6) (Nat.le_of_ble_eq_true rfl)
  rw [lg_entry_eq]
  generalize (lg_sl ([.ref h, .int kd, .int ar, .int wt, .ref o]) ++ List.replicate (6 - (lg_sl ([.ref h, .int kd, .int ar, .int wt, .ref o])).length) Slot.unset).toArray = ls at hl ⊢
  have hl : lv_has ls 6 [(0, .ref h), (1, .int kd), (2, .int ar), (3, .int wt), (4, .ref o)] := hl
  refine lv_aload hx hb dL_kite_0 (lv_at hl 4 rfl) ?_
  refine lv_iconst (v := 0) hx hb dL_kite_2 (by decide) ?_
  refine lv_aload_n hx hb dL_kite_3 rfl (lv_at hl 0 rfl) ?_
  refine lv_iload_n hx hb dL_kite_4 rfl (lv_at hl 1 rfl) ?_
  refine lv_iload_n hx hb dL_kite_5 rfl (lv_at hl 2 rfl) ?_
  refine lv_iload_n hx hb dL_kite_6 rfl (lv_at hl 3 rfl) ?_
  refine vx_calli (vx_runV (As := [.int kd, .int ar, .int wt]) (rest := [.int 0, .ref o]) ⟨hx, hb, hml, hown, hts⟩ (c_X2_kite l9 hlt dC dI s.heap.size h ak ab af ka kb n p F kd ar wt hI) (cwV 3 hts gL_kite_X2_kite rfl rfl rfl (by decide +kernel) ⟨Nat.le_of_ble_eq_true rfl, Nat.le_of_ble_eq_true rfl⟩) ⟨PWr.blind, va_recv (hK.sub (tys' := [(tK, .object "Windlane$Kite"), (tB, .object "Windlane$Borrower")]) [0, 1] rfl) (P_left hP) (ci := 2) (q0 := 0) rfl rfl, PWr.pre (P_left hP) (hK.sub (tys' := [(tK, .object "Windlane$Kite"), (tB, .object "Windlane$Borrower")]) [0, 1] rfl) (D_left hD) hE (hH.narrow (A_in (D_left hD) hS hA))⟩ rfl rfl hl.1 rfl (lv_room (Nat.le_of_ble_eq_true rfl)) dL_kite_7 ⟨Nat.le_of_ble_eq_true rfl, Nat.le_of_ble_eq_true rfl⟩) hS (fun q _ hq => A_in (D_left hD) hS hA q hq) (A_in (D_left hD) hS hA) (fun _ _ z => z.elim) (fun E ce q9 u9 t9 H locs ht9 hvm hpx hBE hz1 hk1 hS hce hcv hcl => ?_) (fun r9 u9 t9 H locs ht9 hvm hw9 hB hz1 hk1 hS => ?_)
  · skip
    have hP : va_P (dC, dI) vwCl (cW tK tB h ak ab af ka kb n p F ++ oC1 cJ o f) H := hP.kept (fun k q hq => hk1 q.1 ((hP k q hq).lt) (fun z => z))
    rcases hBE with ⟨rfl, hth⟩ | ⟨rfl, hth⟩
    · skip
      refine vx_catch (own := RL) (name := "java/lang/IllegalArgumentException") hown [] (⟨0, 12, 15, 13⟩ : ExceptionTableEntry) [(⟨0, 12, 19, 15⟩ : ExceptionTableEntry)] (by rw [htab]; rfl) (fun z hz => absurd hz List.not_mem_nil) (by decide) (by decide) (hts (.classLink RL 13 "java/lang/IllegalArgumentException") (by decide +kernel)) (yc.use hE.2.1.1) hce hcv hcl ?_
      refine W.eq (g2 := F0 m 15 ls [.ref q9]) rfl ?_
      have hnz : (S_kite n F kd ar wt).1 ≠ 0 := by rw [hth]; decide
      refine lv_astore (lv' := [(5, .ref q9), (0, .ref h), (1, .int kd), (2, .int ar), (3, .int wt), (4, .ref o)]) hx hb dL_kite_15 hl (by decide) rfl (fun ls hl => ?_)
      refine lv_iconst (v := 1) hx hb dL_kite_17 (by decide) ?_
      have ek := K_kite hnz
      exact W.iret (v := 1) hx hb hr (fun t ht hW => lQ_mk ka kb f hth.symm (fun q => absurd q hnz) (by rw [ek, ht]; exact hP) (by rw [ek]; exact hD) (hS.F ht)) hS.2.2 dL_kite_18
    · skip
      refine vx_catch (own := RL) (name := "java/lang/IllegalStateException") hown [(⟨0, 12, 15, 13⟩ : ExceptionTableEntry)] (⟨0, 12, 19, 15⟩ : ExceptionTableEntry) [] (by rw [htab]; rfl) (fun z hz => by
            simp only [List.mem_cons, List.not_mem_nil, or_false] at hz
            subst hz
            exact Or.inr ⟨by decide, "java/lang/IllegalArgumentException", hts (.classLink RL 13 "java/lang/IllegalArgumentException") (by decide +kernel), hE.2.2.1.1⟩) (by decide) (by decide) (hts (.classLink RL 15 "java/lang/IllegalStateException") (by decide +kernel)) (yc.use hE.2.1.2.1) hce hcv hcl ?_
      refine W.eq (g2 := F0 m 19 ls [.ref q9]) rfl ?_
      have hnz : (S_kite n F kd ar wt).1 ≠ 0 := by rw [hth]; decide
      refine lv_astore (lv' := [(5, .ref q9), (0, .ref h), (1, .int kd), (2, .int ar), (3, .int wt), (4, .ref o)]) hx hb dL_kite_19 hl (by decide) rfl (fun ls hl => ?_)
      refine lv_iconst (v := 2) hx hb dL_kite_21 (by decide) ?_
      have ek := K_kite hnz
      exact W.iret (v := 2) hx hb hr (fun t ht hW => lQ_mk ka kb f hth.symm (fun q => absurd q hnz) (by rw [ek, ht]; exact hP) (by rw [ek]; exact hD) (hS.F ht)) hS.2.2 dL_kite_22
  · skip
    obtain ⟨hth, rfl⟩ := hw9
    obtain ⟨hP1, hD1⟩ := hB
    rw [ht9] at hP1
    obtain ⟨hP, hD⟩ := join_L hP hD hk1 (A_in (D_left hD) hS0 hA) hP1 hD1
    refine lv_i2l (v := ((S_kite n F kd ar wt).2.1).toInt64) hx hb dL_kite_10 rfl ?_
    have hq0 := snoc_at (cW tK tB h ak ab af u9.1 u9.2 ((S_kite n F kd ar wt).2.2.1) p ((S_kite n F kd ar wt).2.2.2)) ((o, .inl (cJ, 1, .inr (.inl f))) : Nat × va_E)
    refine va_last hx hb hK hP hD hS _ 2 hq0 rfl (by unfold vp_in; decide) dL_kite_11 (fun H locs hP hD hS => ?_)
    rw [snoc_set] at hP hD
    refine lv_goto (tgt := 23) hx hb dL_kite_12 (by decide) ?_
    refine lv_iconst (v := 0) hx hb dL_kite_23 (by decide) ?_
    exact W.iret (v := 0) hx hb hr (fun t ht hW => lQ_mk u9.1 u9.2 _ hth.symm (fun _ => rfl) (by rw [ht]; exact hP) hD (hS.F ht)) hS.2.2 dL_kite_24

set_option maxHeartbeats 4000000 in
set_option maxRecDepth 100000 in
theorem c_L_patch (l9 : Launch) (hlt : l9.stackTraces = false) (dC : Nat → ClassId) (dI : Nat → Nat → Nat) (sz : Nat) {tK tB cJ : ClassId} (h ak ab af : Nat) (ka kb : Nat → Nat) (n p : Nat) (F : Rows) (o : Nat) (f : Nat → Int64) (its : Int32) (hI : Inv n p F) : Met l9 yL_patch wsL_patch ({ frames := 8, cells := 2, slots := 12, locals := 126 }) (va_Pc [.ref h, .int its, .ref o] (PWr dC dI [(tK, .object "Windlane$Kite"), (tB, .object "Windlane$Borrower"), (cJ, .long)] (cW tK tB h ak ab af ka kb n p F ++ oC1 cJ o f) sz)) (lQ dC dI tK tB cJ h ak ab af o (va_A (cW tK tB h ak ab af ka kb n p F ++ oC1 cJ o f) sz) n p ((S_patch n F its).2.2) ((S_patch n F its).1) ((S_patch n F its).2.1)) 2 12 (va_A (cW tK tB h ak ab af ka kb n p F ++ oC1 cJ o f) sz) := by
  refine va_MetW (cc := cL_patch) (maxL := 4) (ret := (some .int)) (hh := [(0, 9, 12, 21), (0, 9, 15, 15)]) (by decide) rfl ?_
  intro p9 e9 s m args below meth c s₁ B hml hv
  obtain ⟨rfl, hsz, hP, hK, hD0, hE, hH⟩ := hv
  have hx := B.exec
  have hb := B.bytes
  have hr := B.returns
  have hts := atoms_spec (ws := wsL_patch) B.pre
  have htab := vx_table (x := yL_patch) B (hts _ List.mem_cons_self)
  have hown : s.vm.findClass RL = some m.cls := findClass_of_methodNamed B.named
  have hlocks := B.notSynchronized
  subst hsz
  have hD := hD0.self (sz := s.heap.size)
  generalize hAe : va_A (cW tK tB h ak ab af ka kb n p F ++ oC1 cJ o f) s.heap.size = A at hD hH ⊢
  have hA : ∀ q : Nat, s.heap.size ≤ q → A q := fun q h => by rw [← hAe]; exact Or.inr h
  have hS : va_S A s.heap s.heap [] := va_S.rf
  have hS0 := hS
  have hP : va_P (dC, dI) vwCl (cW tK tB h ak ab af ka kb n p F ++ oC1 cJ o f) s.heap := hP
  have hl := lv_entry ([.ref h, .int its, .ref o]) (n := 4) (Nat.le_of_ble_eq_true rfl)
  rw [lg_entry_eq]
  generalize (lg_sl ([.ref h, .int its, .ref o]) ++ List.replicate (4 - (lg_sl ([.ref h, .int its, .ref o])).length) Slot.unset).toArray = ls at hl ⊢
  have hl : lv_has ls 4 [(0, .ref h), (1, .int its), (2, .ref o)] := hl
  refine lv_aload_n hx hb dL_patch_0 rfl (lv_at hl 2 rfl) ?_
  refine lv_iconst (v := 0) hx hb dL_patch_1 (by decide) ?_
  refine lv_aload_n hx hb dL_patch_2 rfl (lv_at hl 0 rfl) ?_
  refine lv_iload_n hx hb dL_patch_3 rfl (lv_at hl 1 rfl) ?_
  refine vx_calli (vx_runV (As := [.int its]) (rest := [.int 0, .ref o]) ⟨hx, hb, hml, hown, hts⟩ (c_X2_patch l9 hlt dC dI s.heap.size h ak ab af ka kb n p F its hI) (cwV 1 hts gL_patch_X2_patch rfl rfl rfl (by decide +kernel) ⟨Nat.le_of_ble_eq_true rfl, Nat.le_of_ble_eq_true rfl⟩) ⟨PWr.blind, va_recv (hK.sub (tys' := [(tK, .object "Windlane$Kite"), (tB, .object "Windlane$Borrower")]) [0, 1] rfl) (P_left hP) (ci := 2) (q0 := 0) rfl rfl, PWr.pre (P_left hP) (hK.sub (tys' := [(tK, .object "Windlane$Kite"), (tB, .object "Windlane$Borrower")]) [0, 1] rfl) (D_left hD) hE (hH.narrow (A_in (D_left hD) hS hA))⟩ rfl rfl hl.1 rfl (lv_room (Nat.le_of_ble_eq_true rfl)) dL_patch_4 ⟨Nat.le_of_ble_eq_true rfl, Nat.le_of_ble_eq_true rfl⟩) hS (fun q _ hq => A_in (D_left hD) hS hA q hq) (A_in (D_left hD) hS hA) (fun _ _ z => z.elim) (fun E ce q9 u9 t9 H locs ht9 hvm hpx hBE hz1 hk1 hS hce hcv hcl => ?_) (fun r9 u9 t9 H locs ht9 hvm hw9 hB hz1 hk1 hS => ?_)
  · skip
    have hP : va_P (dC, dI) vwCl (cW tK tB h ak ab af ka kb n p F ++ oC1 cJ o f) H := hP.kept (fun k q hq => hk1 q.1 ((hP k q hq).lt) (fun z => z))
    rcases hBE with ⟨rfl, hth⟩ | ⟨rfl, hth⟩
    · skip
      refine vx_catch (own := RL) (name := "java/lang/IndexOutOfBoundsException") hown [] (⟨0, 9, 12, 21⟩ : ExceptionTableEntry) [(⟨0, 9, 15, 15⟩ : ExceptionTableEntry)] (by rw [htab]; rfl) (fun z hz => absurd hz List.not_mem_nil) (by decide) (by decide) (hts (.classLink RL 21 "java/lang/IndexOutOfBoundsException") (by decide +kernel)) (yc.use hE.2.1.2.2) hce hcv hcl ?_
      refine W.eq (g2 := F0 m 12 ls [.ref q9]) rfl ?_
      have hnz : (S_patch n F its).1 ≠ 0 := by rw [hth]; decide
      refine lv_astore_n (lv' := [(3, .ref q9), (0, .ref h), (1, .int its), (2, .ref o)]) hx hb dL_patch_12 rfl hl (by decide) rfl (fun ls hl => ?_)
      refine lv_iconst (v := 1) hx hb dL_patch_13 (by decide) ?_
      have ek := K_patch hnz
      exact W.iret (v := 1) hx hb hr (fun t ht hW => lQ_mk ka kb f hth.symm (fun q => absurd q hnz) (by rw [ek, ht]; exact hP) (by rw [ek]; exact hD) (hS.F ht)) hS.2.2 dL_patch_14
    · skip
      refine vx_catch (own := RL) (name := "java/lang/IllegalStateException") hown [(⟨0, 9, 12, 21⟩ : ExceptionTableEntry)] (⟨0, 9, 15, 15⟩ : ExceptionTableEntry) [] (by rw [htab]; rfl) (fun z hz => by
            simp only [List.mem_cons, List.not_mem_nil, or_false] at hz
            subst hz
            exact Or.inr ⟨by decide, "java/lang/IndexOutOfBoundsException", hts (.classLink RL 21 "java/lang/IndexOutOfBoundsException") (by decide +kernel), hE.2.2.1.2.1⟩) (by decide) (by decide) (hts (.classLink RL 15 "java/lang/IllegalStateException") (by decide +kernel)) (yc.use hE.2.1.2.1) hce hcv hcl ?_
      refine W.eq (g2 := F0 m 15 ls [.ref q9]) rfl ?_
      have hnz : (S_patch n F its).1 ≠ 0 := by rw [hth]; decide
      refine lv_astore_n (lv' := [(3, .ref q9), (0, .ref h), (1, .int its), (2, .ref o)]) hx hb dL_patch_15 rfl hl (by decide) rfl (fun ls hl => ?_)
      refine lv_iconst (v := 2) hx hb dL_patch_16 (by decide) ?_
      have ek := K_patch hnz
      exact W.iret (v := 2) hx hb hr (fun t ht hW => lQ_mk ka kb f hth.symm (fun q => absurd q hnz) (by rw [ek, ht]; exact hP) (by rw [ek]; exact hD) (hS.F ht)) hS.2.2 dL_patch_17
  · skip
    obtain ⟨hth, rfl⟩ := hw9
    obtain ⟨hP1, hD1⟩ := hB
    rw [ht9] at hP1
    obtain ⟨hP, hD⟩ := join_L hP hD hk1 (A_in (D_left hD) hS0 hA) hP1 hD1
    refine lv_i2l (v := ((S_patch n F its).2.1).toInt64) hx hb dL_patch_7 rfl ?_
    have hq0 := snoc_at (cW tK tB h ak ab af u9.1 u9.2 n p ((S_patch n F its).2.2)) ((o, .inl (cJ, 1, .inr (.inl f))) : Nat × va_E)
    refine va_last hx hb hK hP hD hS _ 2 hq0 rfl (by unfold vp_in; decide) dL_patch_8 (fun H locs hP hD hS => ?_)
    rw [snoc_set] at hP hD
    refine lv_goto (tgt := 18) hx hb dL_patch_9 (by decide) ?_
    refine lv_iconst (v := 0) hx hb dL_patch_18 (by decide) ?_
    exact W.iret (v := 0) hx hb hr (fun t ht hW => lQ_mk u9.1 u9.2 _ hth.symm (fun _ => rfl) (by rw [ht]; exact hP) hD (hS.F ht)) hS.2.2 dL_patch_19

set_option maxHeartbeats 4000000 in
set_option maxRecDepth 100000 in
theorem c_L_borrower (l9 : Launch) (hlt : l9.stackTraces = false) (dC : Nat → ClassId) (dI : Nat → Nat → Nat) (sz : Nat) {tK tB cJ : ClassId} (h ak ab af : Nat) (ka kb : Nat → Nat) (n p : Nat) (F : Rows) (o : Nat) (f : Nat → Int64) (sk : Int32) (hI : Inv n p F) : Met l9 yL_borrower wsL_borrower ({ frames := 7, cells := 1, slots := 6, locals := 104 }) (va_Pc [.ref h, .int sk, .ref o] (PWr dC dI [(tK, .object "Windlane$Kite"), (tB, .object "Windlane$Borrower"), (cJ, .long)] (cW tK tB h ak ab af ka kb n p F ++ oC1 cJ o f) sz)) (lQ dC dI tK tB cJ h ak ab af o (va_A (cW tK tB h ak ab af ka kb n p F ++ oC1 cJ o f) sz) n ((S_borrower p F sk).2.2.1) ((S_borrower p F sk).2.2.2) ((S_borrower p F sk).1) ((S_borrower p F sk).2.1)) 1 6 (va_A (cW tK tB h ak ab af ka kb n p F ++ oC1 cJ o f) sz) := by
  refine va_MetW (cc := cL_borrower) (maxL := 4) (ret := (some .int)) (hh := [(0, 9, 12, 13), (0, 9, 15, 15)]) (by decide) rfl ?_
  intro p9 e9 s m args below meth c s₁ B hml hv
  obtain ⟨rfl, hsz, hP, hK, hD0, hE, hH⟩ := hv
  have hx := B.exec
  have hb := B.bytes
  have hr := B.returns
  have hts := atoms_spec (ws := wsL_borrower) B.pre
  have htab := vx_table (x := yL_borrower) B (hts _ List.mem_cons_self)
  have hown : s.vm.findClass RL = some m.cls := findClass_of_methodNamed B.named
  have hlocks := B.notSynchronized
  subst hsz
  have hD := hD0.self (sz := s.heap.size)
  generalize hAe : va_A (cW tK tB h ak ab af ka kb n p F ++ oC1 cJ o f) s.heap.size = A at hD hH ⊢
  have hA : ∀ q : Nat, s.heap.size ≤ q → A q := fun q h => by rw [← hAe]; exact Or.inr h
  have hS : va_S A s.heap s.heap [] := va_S.rf
  have hS0 := hS
  have hP : va_P (dC, dI) vwCl (cW tK tB h ak ab af ka kb n p F ++ oC1 cJ o f) s.heap := hP
  have hl := lv_entry ([.ref h, .int sk, .ref o]) (n := 4) (Nat.le_of_ble_eq_true rfl)
  rw [lg_entry_eq]
  generalize (lg_sl ([.ref h, .int sk, .ref o]) ++ List.replicate (4 - (lg_sl ([.ref h, .int sk, .ref o])).length) Slot.unset).toArray = ls at hl ⊢
  have hl : lv_has ls 4 [(0, .ref h), (1, .int sk), (2, .ref o)] := hl
  refine lv_aload_n hx hb dL_borrower_0 rfl (lv_at hl 2 rfl) ?_
  refine lv_iconst (v := 0) hx hb dL_borrower_1 (by decide) ?_
  refine lv_aload_n hx hb dL_borrower_2 rfl (lv_at hl 0 rfl) ?_
  refine lv_iload_n hx hb dL_borrower_3 rfl (lv_at hl 1 rfl) ?_
  refine vx_calli (vx_runV (As := [.int sk]) (rest := [.int 0, .ref o]) ⟨hx, hb, hml, hown, hts⟩ (c_X2_borrower l9 hlt dC dI s.heap.size h ak ab af ka kb n p F sk hI) (cwV 1 hts gL_borrower_X2_borrower rfl rfl rfl (by decide +kernel) ⟨Nat.le_of_ble_eq_true rfl, Nat.le_of_ble_eq_true rfl⟩) ⟨PWr.blind, va_recv (hK.sub (tys' := [(tK, .object "Windlane$Kite"), (tB, .object "Windlane$Borrower")]) [0, 1] rfl) (P_left hP) (ci := 2) (q0 := 0) rfl rfl, PWr.pre (P_left hP) (hK.sub (tys' := [(tK, .object "Windlane$Kite"), (tB, .object "Windlane$Borrower")]) [0, 1] rfl) (D_left hD) hE (hH.narrow (A_in (D_left hD) hS hA))⟩ rfl rfl hl.1 rfl (lv_room (Nat.le_of_ble_eq_true rfl)) dL_borrower_4 ⟨Nat.le_of_ble_eq_true rfl, Nat.le_of_ble_eq_true rfl⟩) hS (fun q _ hq => A_in (D_left hD) hS hA q hq) (A_in (D_left hD) hS hA) (fun _ _ z => z.elim) (fun E ce q9 u9 t9 H locs ht9 hvm hpx hBE hz1 hk1 hS hce hcv hcl => ?_) (fun r9 u9 t9 H locs ht9 hvm hw9 hB hz1 hk1 hS => ?_)
  · skip
    have hP : va_P (dC, dI) vwCl (cW tK tB h ak ab af ka kb n p F ++ oC1 cJ o f) H := hP.kept (fun k q hq => hk1 q.1 ((hP k q hq).lt) (fun z => z))
    rcases hBE with ⟨rfl, hth⟩ | ⟨rfl, hth⟩
    · skip
      refine vx_catch (own := RL) (name := "java/lang/IllegalArgumentException") hown [] (⟨0, 9, 12, 13⟩ : ExceptionTableEntry) [(⟨0, 9, 15, 15⟩ : ExceptionTableEntry)] (by rw [htab]; rfl) (fun z hz => absurd hz List.not_mem_nil) (by decide) (by decide) (hts (.classLink RL 13 "java/lang/IllegalArgumentException") (by decide +kernel)) (yc.use hE.2.1.1) hce hcv hcl ?_
      refine W.eq (g2 := F0 m 12 ls [.ref q9]) rfl ?_
      have hnz : (S_borrower p F sk).1 ≠ 0 := by rw [hth]; decide
      refine lv_astore_n (lv' := [(3, .ref q9), (0, .ref h), (1, .int sk), (2, .ref o)]) hx hb dL_borrower_12 rfl hl (by decide) rfl (fun ls hl => ?_)
      refine lv_iconst (v := 1) hx hb dL_borrower_13 (by decide) ?_
      have ek := K_borrower hnz
      exact W.iret (v := 1) hx hb hr (fun t ht hW => lQ_mk ka kb f hth.symm (fun q => absurd q hnz) (by rw [ek, ht]; exact hP) (by rw [ek]; exact hD) (hS.F ht)) hS.2.2 dL_borrower_14
    · skip
      refine vx_catch (own := RL) (name := "java/lang/IllegalStateException") hown [(⟨0, 9, 12, 13⟩ : ExceptionTableEntry)] (⟨0, 9, 15, 15⟩ : ExceptionTableEntry) [] (by rw [htab]; rfl) (fun z hz => by
            simp only [List.mem_cons, List.not_mem_nil, or_false] at hz
            subst hz
            exact Or.inr ⟨by decide, "java/lang/IllegalArgumentException", hts (.classLink RL 13 "java/lang/IllegalArgumentException") (by decide +kernel), hE.2.2.1.1⟩) (by decide) (by decide) (hts (.classLink RL 15 "java/lang/IllegalStateException") (by decide +kernel)) (yc.use hE.2.1.2.1) hce hcv hcl ?_
      refine W.eq (g2 := F0 m 15 ls [.ref q9]) rfl ?_
      have hnz : (S_borrower p F sk).1 ≠ 0 := by rw [hth]; decide
      refine lv_astore_n (lv' := [(3, .ref q9), (0, .ref h), (1, .int sk), (2, .ref o)]) hx hb dL_borrower_15 rfl hl (by decide) rfl (fun ls hl => ?_)
      refine lv_iconst (v := 2) hx hb dL_borrower_16 (by decide) ?_
      have ek := K_borrower hnz
      exact W.iret (v := 2) hx hb hr (fun t ht hW => lQ_mk ka kb f hth.symm (fun q => absurd q hnz) (by rw [ek, ht]; exact hP) (by rw [ek]; exact hD) (hS.F ht)) hS.2.2 dL_borrower_17
  · skip
    obtain ⟨hth, rfl⟩ := hw9
    obtain ⟨hP1, hD1⟩ := hB
    rw [ht9] at hP1
    obtain ⟨hP, hD⟩ := join_L hP hD hk1 (A_in (D_left hD) hS0 hA) hP1 hD1
    refine lv_i2l (v := ((S_borrower p F sk).2.1).toInt64) hx hb dL_borrower_7 rfl ?_
    have hq0 := snoc_at (cW tK tB h ak ab af u9.1 u9.2 n ((S_borrower p F sk).2.2.1) ((S_borrower p F sk).2.2.2)) ((o, .inl (cJ, 1, .inr (.inl f))) : Nat × va_E)
    refine va_last hx hb hK hP hD hS _ 2 hq0 rfl (by unfold vp_in; decide) dL_borrower_8 (fun H locs hP hD hS => ?_)
    rw [snoc_set] at hP hD
    refine lv_goto (tgt := 18) hx hb dL_borrower_9 (by decide) ?_
    refine lv_iconst (v := 0) hx hb dL_borrower_18 (by decide) ?_
    exact W.iret (v := 0) hx hb hr (fun t ht hW => lQ_mk u9.1 u9.2 _ hth.symm (fun _ => rfl) (by rw [ht]; exact hP) hD (hS.F ht)) hS.2.2 dL_borrower_19

set_option maxHeartbeats 4000000 in
set_option maxRecDepth 100000 in
theorem c_L_lend (l9 : Launch) (hlt : l9.stackTraces = false) (dC : Nat → ClassId) (dI : Nat → Nat → Nat) (sz : Nat) {tK tB : ClassId} (h ak ab af : Nat) (ka kb : Nat → Nat) (n p : Nat) (F : Rows) (its b : Int32) (hI : Inv n p F) : Met l9 yL_lend wsL_lend ({ frames := 8, cells := 3, slots := 18, locals := 128 }) (va_Pc [.ref h, .int its, .int b] (PWr dC dI [(tK, .object "Windlane$Kite"), (tB, .object "Windlane$Borrower")] (cW tK tB h ak ab af ka kb n p F) sz)) (lQn dC dI tK tB h ak ab af (va_A (cW tK tB h ak ab af ka kb n p F) sz) n p ((S_lend n p F its b).2) ((S_lend n p F its b).1)) 3 18 (va_A (cW tK tB h ak ab af ka kb n p F) sz) := by
  refine va_MetW (cc := cL_lend) (maxL := 4) (ret := (some .int)) (hh := [(0, 6, 9, 21), (0, 6, 12, 15)]) (by decide) rfl ?_
  intro p9 e9 s m args below meth c s₁ B hml hv
  obtain ⟨rfl, hsz, hP, hK, hD0, hE, hH⟩ := hv
  have hx := B.exec
  have hb := B.bytes
  have hr := B.returns
  have hts := atoms_spec (ws := wsL_lend) B.pre
  have htab := vx_table (x := yL_lend) B (hts _ List.mem_cons_self)
  have hown : s.vm.findClass RL = some m.cls := findClass_of_methodNamed B.named
  have hlocks := B.notSynchronized
  subst hsz
  have hD := hD0.self (sz := s.heap.size)
  generalize hAe : va_A (cW tK tB h ak ab af ka kb n p F) s.heap.size = A at hD hH ⊢
  have hA : ∀ q : Nat, s.heap.size ≤ q → A q := fun q h => by rw [← hAe]; exact Or.inr h
  have hS : va_S A s.heap s.heap [] := va_S.rf
  have hS0 := hS
  have hP : va_P (dC, dI) vwCl (cW tK tB h ak ab af ka kb n p F) s.heap := hP
  have hl := lv_entry ([.ref h, .int its, .int b]) (n := 4) (Nat.le_of_ble_eq_true rfl)
  rw [lg_entry_eq]
  generalize (lg_sl ([.ref h, .int its, .int b]) ++ List.replicate (4 - (lg_sl ([.ref h, .int its, .int b])).length) Slot.unset).toArray = ls at hl ⊢
  have hl : lv_has ls 4 [(0, .ref h), (1, .int its), (2, .int b)] := hl
  refine lv_aload_n hx hb dL_lend_0 rfl (lv_at hl 0 rfl) ?_
  refine lv_iload_n hx hb dL_lend_1 rfl (lv_at hl 1 rfl) ?_
  refine lv_iload_n hx hb dL_lend_2 rfl (lv_at hl 2 rfl) ?_
  refine vx_callv (vx_runV (As := [.int its, .int b]) (rest := []) ⟨hx, hb, hml, hown, hts⟩ (c_X2_lend l9 hlt dC dI s.heap.size h ak ab af ka kb n p F its b hI) (cwV 2 hts gL_lend_X2_lend rfl rfl rfl (by decide +kernel) ⟨Nat.le_of_ble_eq_true rfl, Nat.le_of_ble_eq_true rfl⟩) ⟨PWr.blind, va_recv hK hP (ci := 2) (q0 := 0) rfl rfl, PWr.pre hP hK hD hE (hH.narrow (A_in hD hS hA))⟩ rfl rfl hl.1 rfl (lv_room (Nat.le_of_ble_eq_true rfl)) dL_lend_3 ⟨Nat.le_of_ble_eq_true rfl, Nat.le_of_ble_eq_true rfl⟩) hS (fun q _ hq => A_in hD hS hA q hq) (A_in hD hS hA) (fun _ _ z => z.elim) (fun E ce q9 u9 t9 H locs ht9 hvm hpx hBE hz1 hk1 hS hce hcv hcl => ?_) (fun u9 t9 H locs ht9 hvm hw9 hB hz1 hk1 hS => ?_)
  · skip
    have hP : va_P (dC, dI) vwCl (cW tK tB h ak ab af ka kb n p F) H := hP.kept (fun k q hq => hk1 q.1 ((hP k q hq).lt) (fun z => z))
    rcases hBE with ⟨rfl, hth⟩ | ⟨rfl, hth⟩
    · skip
      refine vx_catch (own := RL) (name := "java/lang/IndexOutOfBoundsException") hown [] (⟨0, 6, 9, 21⟩ : ExceptionTableEntry) [(⟨0, 6, 12, 15⟩ : ExceptionTableEntry)] (by rw [htab]; rfl) (fun z hz => absurd hz List.not_mem_nil) (by decide) (by decide) (hts (.classLink RL 21 "java/lang/IndexOutOfBoundsException") (by decide +kernel)) (yc.use hE.2.1.2.2) hce hcv hcl ?_
      refine W.eq (g2 := F0 m 9 ls [.ref q9]) rfl ?_
      have hnz : (S_lend n p F its b).1 ≠ 0 := by rw [hth]; decide
      refine lv_astore_n (lv' := [(3, .ref q9), (0, .ref h), (1, .int its), (2, .int b)]) hx hb dL_lend_9 rfl hl (by decide) rfl (fun ls hl => ?_)
      refine lv_iconst (v := 1) hx hb dL_lend_10 (by decide) ?_
      have ek := K_lend hnz
      exact W.iret (v := 1) hx hb hr (fun t ht hW => lQn_mk ka kb hth.symm (by rw [ek, ht]; exact hP) (by rw [ek]; exact hD) (hS.F ht)) hS.2.2 dL_lend_11
    · skip
      refine vx_catch (own := RL) (name := "java/lang/IllegalStateException") hown [(⟨0, 6, 9, 21⟩ : ExceptionTableEntry)] (⟨0, 6, 12, 15⟩ : ExceptionTableEntry) [] (by rw [htab]; rfl) (fun z hz => by
            simp only [List.mem_cons, List.not_mem_nil, or_false] at hz
            subst hz
            exact Or.inr ⟨by decide, "java/lang/IndexOutOfBoundsException", hts (.classLink RL 21 "java/lang/IndexOutOfBoundsException") (by decide +kernel), hE.2.2.1.2.1⟩) (by decide) (by decide) (hts (.classLink RL 15 "java/lang/IllegalStateException") (by decide +kernel)) (yc.use hE.2.1.2.1) hce hcv hcl ?_
      refine W.eq (g2 := F0 m 12 ls [.ref q9]) rfl ?_
      have hnz : (S_lend n p F its b).1 ≠ 0 := by rw [hth]; decide
      refine lv_astore_n (lv' := [(3, .ref q9), (0, .ref h), (1, .int its), (2, .int b)]) hx hb dL_lend_12 rfl hl (by decide) rfl (fun ls hl => ?_)
      refine lv_iconst (v := 2) hx hb dL_lend_13 (by decide) ?_
      have ek := K_lend hnz
      exact W.iret (v := 2) hx hb hr (fun t ht hW => lQn_mk ka kb hth.symm (by rw [ek, ht]; exact hP) (by rw [ek]; exact hD) (hS.F ht)) hS.2.2 dL_lend_14
  · skip
    have hth := hw9
    obtain ⟨hP1, hD1⟩ := hB
    rw [ht9] at hP1
    have hP := hP1
    have hD := hD1.weaken (fun k q _ z => A_in hD hS0 hA q.1 z)
    refine lv_goto (tgt := 15) hx hb dL_lend_6 (by decide) ?_
    refine lv_iconst (v := 0) hx hb dL_lend_15 (by decide) ?_
    exact W.iret (v := 0) hx hb hr (fun t ht hW => lQn_mk u9.1 u9.2 hth.symm (by rw [ht]; exact hP) hD (hS.F ht)) hS.2.2 dL_lend_16

set_option maxHeartbeats 4000000 in
set_option maxRecDepth 100000 in
theorem c_L_giveBack (l9 : Launch) (hlt : l9.stackTraces = false) (dC : Nat → ClassId) (dI : Nat → Nat → Nat) (sz : Nat) {tK tB cJ : ClassId} (h ak ab af : Nat) (ka kb : Nat → Nat) (n p : Nat) (F : Rows) (o : Nat) (f : Nat → Int64) (b : Int32) (hI : Inv n p F) : Met l9 yL_giveBack wsL_giveBack ({ frames := 8, cells := 2, slots := 12, locals := 127 }) (va_Pc [.ref h, .int b, .ref o] (PWr dC dI [(tK, .object "Windlane$Kite"), (tB, .object "Windlane$Borrower"), (cJ, .long)] (cW tK tB h ak ab af ka kb n p F ++ oC1 cJ o f) sz)) (lQ dC dI tK tB cJ h ak ab af o (va_A (cW tK tB h ak ab af ka kb n p F ++ oC1 cJ o f) sz) n p ((S_giveBack n p F b).2.2) ((S_giveBack n p F b).1) ((S_giveBack n p F b).2.1)) 2 12 (va_A (cW tK tB h ak ab af ka kb n p F ++ oC1 cJ o f) sz) := by
  refine va_MetW (cc := cL_giveBack) (maxL := 4) (ret := (some .int)) (hh := [(0, 9, 12, 21), (0, 9, 15, 15)]) (by decide) rfl ?_
  intro p9 e9 s m args below meth c s₁ B hml hv
  obtain ⟨rfl, hsz, hP, hK, hD0, hE, hH⟩ := hv
  have hx := B.exec
  have hb := B.bytes
  have hr := B.returns
  have hts := atoms_spec (ws := wsL_giveBack) B.pre
  have htab := vx_table (x := yL_giveBack) B (hts _ List.mem_cons_self)
  have hown : s.vm.findClass RL = some m.cls := findClass_of_methodNamed B.named
  have hlocks := B.notSynchronized
  subst hsz
  have hD := hD0.self (sz := s.heap.size)
  generalize hAe : va_A (cW tK tB h ak ab af ka kb n p F ++ oC1 cJ o f) s.heap.size = A at hD hH ⊢
  have hA : ∀ q : Nat, s.heap.size ≤ q → A q := fun q h => by rw [← hAe]; exact Or.inr h
  have hS : va_S A s.heap s.heap [] := va_S.rf
  have hS0 := hS
  have hP : va_P (dC, dI) vwCl (cW tK tB h ak ab af ka kb n p F ++ oC1 cJ o f) s.heap := hP
  have hl := lv_entry ([.ref h, .int b, .ref o]) (n := 4) (Nat.le_of_ble_eq_true rfl)
  rw [lg_entry_eq]
  generalize (lg_sl ([.ref h, .int b, .ref o]) ++ List.replicate (4 - (lg_sl ([.ref h, .int b, .ref o])).length) Slot.unset).toArray = ls at hl ⊢
  have hl : lv_has ls 4 [(0, .ref h), (1, .int b), (2, .ref o)] := hl
  refine lv_aload_n hx hb dL_giveBack_0 rfl (lv_at hl 2 rfl) ?_
  refine lv_iconst (v := 0) hx hb dL_giveBack_1 (by decide) ?_
  refine lv_aload_n hx hb dL_giveBack_2 rfl (lv_at hl 0 rfl) ?_
  refine lv_iload_n hx hb dL_giveBack_3 rfl (lv_at hl 1 rfl) ?_
  refine vx_calli (vx_runV (As := [.int b]) (rest := [.int 0, .ref o]) ⟨hx, hb, hml, hown, hts⟩ (c_X2_giveBack l9 hlt dC dI s.heap.size h ak ab af ka kb n p F b hI) (cwV 1 hts gL_giveBack_X2_giveBack rfl rfl rfl (by decide +kernel) ⟨Nat.le_of_ble_eq_true rfl, Nat.le_of_ble_eq_true rfl⟩) ⟨PWr.blind, va_recv (hK.sub (tys' := [(tK, .object "Windlane$Kite"), (tB, .object "Windlane$Borrower")]) [0, 1] rfl) (P_left hP) (ci := 2) (q0 := 0) rfl rfl, PWr.pre (P_left hP) (hK.sub (tys' := [(tK, .object "Windlane$Kite"), (tB, .object "Windlane$Borrower")]) [0, 1] rfl) (D_left hD) hE (hH.narrow (A_in (D_left hD) hS hA))⟩ rfl rfl hl.1 rfl (lv_room (Nat.le_of_ble_eq_true rfl)) dL_giveBack_4 ⟨Nat.le_of_ble_eq_true rfl, Nat.le_of_ble_eq_true rfl⟩) hS (fun q _ hq => A_in (D_left hD) hS hA q hq) (A_in (D_left hD) hS hA) (fun _ _ z => z.elim) (fun E ce q9 u9 t9 H locs ht9 hvm hpx hBE hz1 hk1 hS hce hcv hcl => ?_) (fun r9 u9 t9 H locs ht9 hvm hw9 hB hz1 hk1 hS => ?_)
  · skip
    have hP : va_P (dC, dI) vwCl (cW tK tB h ak ab af ka kb n p F ++ oC1 cJ o f) H := hP.kept (fun k q hq => hk1 q.1 ((hP k q hq).lt) (fun z => z))
    rcases hBE with ⟨rfl, hth⟩ | ⟨rfl, hth⟩
    · skip
      refine vx_catch (own := RL) (name := "java/lang/IndexOutOfBoundsException") hown [] (⟨0, 9, 12, 21⟩ : ExceptionTableEntry) [(⟨0, 9, 15, 15⟩ : ExceptionTableEntry)] (by rw [htab]; rfl) (fun z hz => absurd hz List.not_mem_nil) (by decide) (by decide) (hts (.classLink RL 21 "java/lang/IndexOutOfBoundsException") (by decide +kernel)) (yc.use hE.2.1.2.2) hce hcv hcl ?_
      refine W.eq (g2 := F0 m 12 ls [.ref q9]) rfl ?_
      have hnz : (S_giveBack n p F b).1 ≠ 0 := by rw [hth]; decide
      refine lv_astore_n (lv' := [(3, .ref q9), (0, .ref h), (1, .int b), (2, .ref o)]) hx hb dL_giveBack_12 rfl hl (by decide) rfl (fun ls hl => ?_)
      refine lv_iconst (v := 1) hx hb dL_giveBack_13 (by decide) ?_
      have ek := K_giveBack hnz
      exact W.iret (v := 1) hx hb hr (fun t ht hW => lQ_mk ka kb f hth.symm (fun q => absurd q hnz) (by rw [ek, ht]; exact hP) (by rw [ek]; exact hD) (hS.F ht)) hS.2.2 dL_giveBack_14
    · skip
      refine vx_catch (own := RL) (name := "java/lang/IllegalStateException") hown [(⟨0, 9, 12, 21⟩ : ExceptionTableEntry)] (⟨0, 9, 15, 15⟩ : ExceptionTableEntry) [] (by rw [htab]; rfl) (fun z hz => by
            simp only [List.mem_cons, List.not_mem_nil, or_false] at hz
            subst hz
            exact Or.inr ⟨by decide, "java/lang/IndexOutOfBoundsException", hts (.classLink RL 21 "java/lang/IndexOutOfBoundsException") (by decide +kernel), hE.2.2.1.2.1⟩) (by decide) (by decide) (hts (.classLink RL 15 "java/lang/IllegalStateException") (by decide +kernel)) (yc.use hE.2.1.2.1) hce hcv hcl ?_
      refine W.eq (g2 := F0 m 15 ls [.ref q9]) rfl ?_
      have hnz : (S_giveBack n p F b).1 ≠ 0 := by rw [hth]; decide
      refine lv_astore_n (lv' := [(3, .ref q9), (0, .ref h), (1, .int b), (2, .ref o)]) hx hb dL_giveBack_15 rfl hl (by decide) rfl (fun ls hl => ?_)
      refine lv_iconst (v := 2) hx hb dL_giveBack_16 (by decide) ?_
      have ek := K_giveBack hnz
      exact W.iret (v := 2) hx hb hr (fun t ht hW => lQ_mk ka kb f hth.symm (fun q => absurd q hnz) (by rw [ek, ht]; exact hP) (by rw [ek]; exact hD) (hS.F ht)) hS.2.2 dL_giveBack_17
  · skip
    obtain ⟨hth, rfl⟩ := hw9
    obtain ⟨hP1, hD1⟩ := hB
    rw [ht9] at hP1
    obtain ⟨hP, hD⟩ := join_L hP hD hk1 (A_in (D_left hD) hS0 hA) hP1 hD1
    refine lv_i2l (v := ((S_giveBack n p F b).2.1).toInt64) hx hb dL_giveBack_7 rfl ?_
    have hq0 := snoc_at (cW tK tB h ak ab af u9.1 u9.2 n p ((S_giveBack n p F b).2.2)) ((o, .inl (cJ, 1, .inr (.inl f))) : Nat × va_E)
    refine va_last hx hb hK hP hD hS _ 2 hq0 rfl (by unfold vp_in; decide) dL_giveBack_8 (fun H locs hP hD hS => ?_)
    rw [snoc_set] at hP hD
    refine lv_goto (tgt := 18) hx hb dL_giveBack_9 (by decide) ?_
    refine lv_iconst (v := 0) hx hb dL_giveBack_18 (by decide) ?_
    exact W.iret (v := 0) hx hb hr (fun t ht hW => lQ_mk u9.1 u9.2 _ hth.symm (fun _ => rfl) (by rw [ht]; exact hP) hD (hS.F ht)) hS.2.2 dL_giveBack_19

set_option maxHeartbeats 4000000 in
set_option maxRecDepth 100000 in
theorem c_L_fly (l9 : Launch) (hlt : l9.stackTraces = false) (dC : Nat → ClassId) (dI : Nat → Nat → Nat) (sz : Nat) {tK tB cJ : ClassId} (h ak ab af : Nat) (ka kb : Nat → Nat) (n p : Nat) (F : Rows) (o : Nat) (f : Nat → Int64) (its ln len : Int32) (hI : Inv n p F) : Met l9 yL_fly wsL_fly ({ frames := 8, cells := 2, slots := 12, locals := 140 }) (va_Pc [.ref h, .int its, .int ln, .int len, .ref o] (PWr dC dI [(tK, .object "Windlane$Kite"), (tB, .object "Windlane$Borrower"), (cJ, .long)] (cW tK tB h ak ab af ka kb n p F ++ oC1 cJ o f) sz)) (lQ dC dI tK tB cJ h ak ab af o (va_A (cW tK tB h ak ab af ka kb n p F ++ oC1 cJ o f) sz) n p ((S_fly n F its ln len).2.2) ((S_fly n F its ln len).1) ((S_fly n F its ln len).2.1)) 2 12 (va_A (cW tK tB h ak ab af ka kb n p F ++ oC1 cJ o f) sz) := by
  refine va_MetW (cc := cL_fly) (maxL := 6) (ret := (some .int)) (hh := [(0, 12, 15, 21), (0, 12, 19, 13), (0, 12, 23, 15)]) (by decide) rfl ?_
  intro p9 e9 s m args below meth c s₁ B hml hv
  obtain ⟨rfl, hsz, hP, hK, hD0, hE, hH⟩ := hv
  have hx := B.exec
  have hb := B.bytes
  have hr := B.returns
  have hts := atoms_spec (ws := wsL_fly) B.pre
  have htab := vx_table (x := yL_fly) B (hts _ List.mem_cons_self)
  have hown : s.vm.findClass RL = some m.cls := findClass_of_methodNamed B.named
  have hlocks := B.notSynchronized
  subst hsz
  have hD := hD0.self (sz := s.heap.size)
  generalize hAe : va_A (cW tK tB h ak ab af ka kb n p F ++ oC1 cJ o f) s.heap.size = A at hD hH ⊢
  have hA : ∀ q : Nat, s.heap.size ≤ q → A q := fun q h => by rw [← hAe]; exact Or.inr h
  have hS : va_S A s.heap s.heap [] := va_S.rf
  have hS0 := hS
  have hP : va_P (dC, dI) vwCl (cW tK tB h ak ab af ka kb n p F ++ oC1 cJ o f) s.heap := hP
  have hl := lv_entry ([.ref h, .int its, .int ln, .int len, .ref o]) (n := 6) (Nat.le_of_ble_eq_true rfl)
  rw [lg_entry_eq]
  generalize (lg_sl ([.ref h, .int its, .int ln, .int len, .ref o]) ++ List.replicate (6 - (lg_sl ([.ref h, .int its, .int ln, .int len, .ref o])).length) Slot.unset).toArray = ls at hl ⊢
  have hl : lv_has ls 6 [(0, .ref h), (1, .int its), (2, .int ln), (3, .int len), (4, .ref o)] := hl
  refine lv_aload hx hb dL_fly_0 (lv_at hl 4 rfl) ?_
  refine lv_iconst (v := 0) hx hb dL_fly_2 (by decide) ?_
  refine lv_aload_n hx hb dL_fly_3 rfl (lv_at hl 0 rfl) ?_
  refine lv_iload_n hx hb dL_fly_4 rfl (lv_at hl 1 rfl) ?_
  refine lv_iload_n hx hb dL_fly_5 rfl (lv_at hl 2 rfl) ?_
  refine lv_iload_n hx hb dL_fly_6 rfl (lv_at hl 3 rfl) ?_
  refine vx_calli (vx_runV (As := [.int its, .int ln, .int len]) (rest := [.int 0, .ref o]) ⟨hx, hb, hml, hown, hts⟩ (c_X2_fly l9 hlt dC dI s.heap.size h ak ab af ka kb n p F its ln len hI) (cwV 3 hts gL_fly_X2_fly rfl rfl rfl (by decide +kernel) ⟨Nat.le_of_ble_eq_true rfl, Nat.le_of_ble_eq_true rfl⟩) ⟨PWr.blind, va_recv (hK.sub (tys' := [(tK, .object "Windlane$Kite"), (tB, .object "Windlane$Borrower")]) [0, 1] rfl) (P_left hP) (ci := 2) (q0 := 0) rfl rfl, PWr.pre (P_left hP) (hK.sub (tys' := [(tK, .object "Windlane$Kite"), (tB, .object "Windlane$Borrower")]) [0, 1] rfl) (D_left hD) hE (hH.narrow (A_in (D_left hD) hS hA))⟩ rfl rfl hl.1 rfl (lv_room (Nat.le_of_ble_eq_true rfl)) dL_fly_7 ⟨Nat.le_of_ble_eq_true rfl, Nat.le_of_ble_eq_true rfl⟩) hS (fun q _ hq => A_in (D_left hD) hS hA q hq) (A_in (D_left hD) hS hA) (fun _ _ z => z.elim) (fun E ce q9 u9 t9 H locs ht9 hvm hpx hBE hz1 hk1 hS hce hcv hcl => ?_) (fun r9 u9 t9 H locs ht9 hvm hw9 hB hz1 hk1 hS => ?_)
  · skip
    have hP : va_P (dC, dI) vwCl (cW tK tB h ak ab af ka kb n p F ++ oC1 cJ o f) H := hP.kept (fun k q hq => hk1 q.1 ((hP k q hq).lt) (fun z => z))
    rcases hBE with ⟨rfl, hth⟩ | ⟨rfl, hth⟩ | ⟨rfl, hth⟩
    · skip
      refine vx_catch (own := RL) (name := "java/lang/IndexOutOfBoundsException") hown [] (⟨0, 12, 15, 21⟩ : ExceptionTableEntry) [(⟨0, 12, 19, 13⟩ : ExceptionTableEntry), (⟨0, 12, 23, 15⟩ : ExceptionTableEntry)] (by rw [htab]; rfl) (fun z hz => absurd hz List.not_mem_nil) (by decide) (by decide) (hts (.classLink RL 21 "java/lang/IndexOutOfBoundsException") (by decide +kernel)) (yc.use hE.2.1.2.2) hce hcv hcl ?_
      refine W.eq (g2 := F0 m 15 ls [.ref q9]) rfl ?_
      have hnz : (S_fly n F its ln len).1 ≠ 0 := by rw [hth]; decide
      refine lv_astore (lv' := [(5, .ref q9), (0, .ref h), (1, .int its), (2, .int ln), (3, .int len), (4, .ref o)]) hx hb dL_fly_15 hl (by decide) rfl (fun ls hl => ?_)
      refine lv_iconst (v := 1) hx hb dL_fly_17 (by decide) ?_
      have ek := K_fly hnz
      exact W.iret (v := 1) hx hb hr (fun t ht hW => lQ_mk ka kb f hth.symm (fun q => absurd q hnz) (by rw [ek, ht]; exact hP) (by rw [ek]; exact hD) (hS.F ht)) hS.2.2 dL_fly_18
    · skip
      refine vx_catch (own := RL) (name := "java/lang/IllegalArgumentException") hown [(⟨0, 12, 15, 21⟩ : ExceptionTableEntry)] (⟨0, 12, 19, 13⟩ : ExceptionTableEntry) [(⟨0, 12, 23, 15⟩ : ExceptionTableEntry)] (by rw [htab]; rfl) (fun z hz => by
            simp only [List.mem_cons, List.not_mem_nil, or_false] at hz
            subst hz
            exact Or.inr ⟨by decide, "java/lang/IndexOutOfBoundsException", hts (.classLink RL 21 "java/lang/IndexOutOfBoundsException") (by decide +kernel), hE.2.2.1.2.2⟩) (by decide) (by decide) (hts (.classLink RL 13 "java/lang/IllegalArgumentException") (by decide +kernel)) (yc.use hE.2.1.1) hce hcv hcl ?_
      refine W.eq (g2 := F0 m 19 ls [.ref q9]) rfl ?_
      have hnz : (S_fly n F its ln len).1 ≠ 0 := by rw [hth]; decide
      refine lv_astore (lv' := [(5, .ref q9), (0, .ref h), (1, .int its), (2, .int ln), (3, .int len), (4, .ref o)]) hx hb dL_fly_19 hl (by decide) rfl (fun ls hl => ?_)
      refine lv_iconst (v := 2) hx hb dL_fly_21 (by decide) ?_
      have ek := K_fly hnz
      exact W.iret (v := 2) hx hb hr (fun t ht hW => lQ_mk ka kb f hth.symm (fun q => absurd q hnz) (by rw [ek, ht]; exact hP) (by rw [ek]; exact hD) (hS.F ht)) hS.2.2 dL_fly_22
    · skip
      refine vx_catch (own := RL) (name := "java/lang/IllegalStateException") hown [(⟨0, 12, 15, 21⟩ : ExceptionTableEntry), (⟨0, 12, 19, 13⟩ : ExceptionTableEntry)] (⟨0, 12, 23, 15⟩ : ExceptionTableEntry) [] (by rw [htab]; rfl) (fun z hz => by
            simp only [List.mem_cons, List.not_mem_nil, or_false] at hz
            rcases hz with rfl | rfl
            · exact Or.inr ⟨by decide, "java/lang/IndexOutOfBoundsException", hts (.classLink RL 21 "java/lang/IndexOutOfBoundsException") (by decide +kernel), hE.2.2.1.2.1⟩
            · exact Or.inr ⟨by decide, "java/lang/IllegalArgumentException", hts (.classLink RL 13 "java/lang/IllegalArgumentException") (by decide +kernel), hE.2.2.1.1⟩) (by decide) (by decide) (hts (.classLink RL 15 "java/lang/IllegalStateException") (by decide +kernel)) (yc.use hE.2.1.2.1) hce hcv hcl ?_
      refine W.eq (g2 := F0 m 23 ls [.ref q9]) rfl ?_
      have hnz : (S_fly n F its ln len).1 ≠ 0 := by rw [hth]; decide
      refine lv_astore (lv' := [(5, .ref q9), (0, .ref h), (1, .int its), (2, .int ln), (3, .int len), (4, .ref o)]) hx hb dL_fly_23 hl (by decide) rfl (fun ls hl => ?_)
      refine lv_iconst (v := 3) hx hb dL_fly_25 (by decide) ?_
      have ek := K_fly hnz
      exact W.iret (v := 3) hx hb hr (fun t ht hW => lQ_mk ka kb f hth.symm (fun q => absurd q hnz) (by rw [ek, ht]; exact hP) (by rw [ek]; exact hD) (hS.F ht)) hS.2.2 dL_fly_26
  · skip
    obtain ⟨hth, rfl⟩ := hw9
    obtain ⟨hP1, hD1⟩ := hB
    rw [ht9] at hP1
    obtain ⟨hP, hD⟩ := join_L hP hD hk1 (A_in (D_left hD) hS0 hA) hP1 hD1
    refine lv_i2l (v := ((S_fly n F its ln len).2.1).toInt64) hx hb dL_fly_10 rfl ?_
    have hq0 := snoc_at (cW tK tB h ak ab af u9.1 u9.2 n p ((S_fly n F its ln len).2.2)) ((o, .inl (cJ, 1, .inr (.inl f))) : Nat × va_E)
    refine va_last hx hb hK hP hD hS _ 2 hq0 rfl (by unfold vp_in; decide) dL_fly_11 (fun H locs hP hD hS => ?_)
    rw [snoc_set] at hP hD
    refine lv_goto (tgt := 27) hx hb dL_fly_12 (by decide) ?_
    refine lv_iconst (v := 0) hx hb dL_fly_27 (by decide) ?_
    exact W.iret (v := 0) hx hb hr (fun t ht hW => lQ_mk u9.1 u9.2 _ hth.symm (fun _ => rfl) (by rw [ht]; exact hP) hD (hS.F ht)) hS.2.2 dL_fly_28

set_option maxHeartbeats 4000000 in
set_option maxRecDepth 100000 in
theorem c_L_land (l9 : Launch) (hlt : l9.stackTraces = false) (dC : Nat → ClassId) (dI : Nat → Nat → Nat) (sz : Nat) {tK tB cJ : ClassId} (h ak ab af : Nat) (ka kb : Nat → Nat) (n p : Nat) (F : Rows) (o : Nat) (f : Nat → Int64) (its : Int32) (hI : Inv n p F) : Met l9 yL_land wsL_land ({ frames := 8, cells := 2, slots := 12, locals := 127 }) (va_Pc [.ref h, .int its, .ref o] (PWr dC dI [(tK, .object "Windlane$Kite"), (tB, .object "Windlane$Borrower"), (cJ, .long)] (cW tK tB h ak ab af ka kb n p F ++ oC1 cJ o f) sz)) (lQ dC dI tK tB cJ h ak ab af o (va_A (cW tK tB h ak ab af ka kb n p F ++ oC1 cJ o f) sz) n p ((S_land n F its).2.2) ((S_land n F its).1) ((S_land n F its).2.1)) 2 12 (va_A (cW tK tB h ak ab af ka kb n p F ++ oC1 cJ o f) sz) := by
  refine va_MetW (cc := cL_land) (maxL := 4) (ret := (some .int)) (hh := [(0, 9, 12, 21), (0, 9, 15, 15)]) (by decide) rfl ?_
  intro p9 e9 s m args below meth c s₁ B hml hv
  obtain ⟨rfl, hsz, hP, hK, hD0, hE, hH⟩ := hv
  have hx := B.exec
  have hb := B.bytes
  have hr := B.returns
  have hts := atoms_spec (ws := wsL_land) B.pre
  have htab := vx_table (x := yL_land) B (hts _ List.mem_cons_self)
  have hown : s.vm.findClass RL = some m.cls := findClass_of_methodNamed B.named
  have hlocks := B.notSynchronized
  subst hsz
  have hD := hD0.self (sz := s.heap.size)
  generalize hAe : va_A (cW tK tB h ak ab af ka kb n p F ++ oC1 cJ o f) s.heap.size = A at hD hH ⊢
  have hA : ∀ q : Nat, s.heap.size ≤ q → A q := fun q h => by rw [← hAe]; exact Or.inr h
  have hS : va_S A s.heap s.heap [] := va_S.rf
  have hS0 := hS
  have hP : va_P (dC, dI) vwCl (cW tK tB h ak ab af ka kb n p F ++ oC1 cJ o f) s.heap := hP
  have hl := lv_entry ([.ref h, .int its, .ref o]) (n := 4) (Nat.le_of_ble_eq_true rfl)
  rw [lg_entry_eq]
  generalize (lg_sl ([.ref h, .int its, .ref o]) ++ List.replicate (4 - (lg_sl ([.ref h, .int its, .ref o])).length) Slot.unset).toArray = ls at hl ⊢
  have hl : lv_has ls 4 [(0, .ref h), (1, .int its), (2, .ref o)] := hl
  refine lv_aload_n hx hb dL_land_0 rfl (lv_at hl 2 rfl) ?_
  refine lv_iconst (v := 0) hx hb dL_land_1 (by decide) ?_
  refine lv_aload_n hx hb dL_land_2 rfl (lv_at hl 0 rfl) ?_
  refine lv_iload_n hx hb dL_land_3 rfl (lv_at hl 1 rfl) ?_
  refine vx_calli (vx_runV (As := [.int its]) (rest := [.int 0, .ref o]) ⟨hx, hb, hml, hown, hts⟩ (c_X2_land l9 hlt dC dI s.heap.size h ak ab af ka kb n p F its hI) (cwV 1 hts gL_land_X2_land rfl rfl rfl (by decide +kernel) ⟨Nat.le_of_ble_eq_true rfl, Nat.le_of_ble_eq_true rfl⟩) ⟨PWr.blind, va_recv (hK.sub (tys' := [(tK, .object "Windlane$Kite"), (tB, .object "Windlane$Borrower")]) [0, 1] rfl) (P_left hP) (ci := 2) (q0 := 0) rfl rfl, PWr.pre (P_left hP) (hK.sub (tys' := [(tK, .object "Windlane$Kite"), (tB, .object "Windlane$Borrower")]) [0, 1] rfl) (D_left hD) hE (hH.narrow (A_in (D_left hD) hS hA))⟩ rfl rfl hl.1 rfl (lv_room (Nat.le_of_ble_eq_true rfl)) dL_land_4 ⟨Nat.le_of_ble_eq_true rfl, Nat.le_of_ble_eq_true rfl⟩) hS (fun q _ hq => A_in (D_left hD) hS hA q hq) (A_in (D_left hD) hS hA) (fun _ _ z => z.elim) (fun E ce q9 u9 t9 H locs ht9 hvm hpx hBE hz1 hk1 hS hce hcv hcl => ?_) (fun r9 u9 t9 H locs ht9 hvm hw9 hB hz1 hk1 hS => ?_)
  · skip
    have hP : va_P (dC, dI) vwCl (cW tK tB h ak ab af ka kb n p F ++ oC1 cJ o f) H := hP.kept (fun k q hq => hk1 q.1 ((hP k q hq).lt) (fun z => z))
    rcases hBE with ⟨rfl, hth⟩ | ⟨rfl, hth⟩
    · skip
      refine vx_catch (own := RL) (name := "java/lang/IndexOutOfBoundsException") hown [] (⟨0, 9, 12, 21⟩ : ExceptionTableEntry) [(⟨0, 9, 15, 15⟩ : ExceptionTableEntry)] (by rw [htab]; rfl) (fun z hz => absurd hz List.not_mem_nil) (by decide) (by decide) (hts (.classLink RL 21 "java/lang/IndexOutOfBoundsException") (by decide +kernel)) (yc.use hE.2.1.2.2) hce hcv hcl ?_
      refine W.eq (g2 := F0 m 12 ls [.ref q9]) rfl ?_
      have hnz : (S_land n F its).1 ≠ 0 := by rw [hth]; decide
      refine lv_astore_n (lv' := [(3, .ref q9), (0, .ref h), (1, .int its), (2, .ref o)]) hx hb dL_land_12 rfl hl (by decide) rfl (fun ls hl => ?_)
      refine lv_iconst (v := 1) hx hb dL_land_13 (by decide) ?_
      have ek := K_land hnz
      exact W.iret (v := 1) hx hb hr (fun t ht hW => lQ_mk ka kb f hth.symm (fun q => absurd q hnz) (by rw [ek, ht]; exact hP) (by rw [ek]; exact hD) (hS.F ht)) hS.2.2 dL_land_14
    · skip
      refine vx_catch (own := RL) (name := "java/lang/IllegalStateException") hown [(⟨0, 9, 12, 21⟩ : ExceptionTableEntry)] (⟨0, 9, 15, 15⟩ : ExceptionTableEntry) [] (by rw [htab]; rfl) (fun z hz => by
            simp only [List.mem_cons, List.not_mem_nil, or_false] at hz
            subst hz
            exact Or.inr ⟨by decide, "java/lang/IndexOutOfBoundsException", hts (.classLink RL 21 "java/lang/IndexOutOfBoundsException") (by decide +kernel), hE.2.2.1.2.1⟩) (by decide) (by decide) (hts (.classLink RL 15 "java/lang/IllegalStateException") (by decide +kernel)) (yc.use hE.2.1.2.1) hce hcv hcl ?_
      refine W.eq (g2 := F0 m 15 ls [.ref q9]) rfl ?_
      have hnz : (S_land n F its).1 ≠ 0 := by rw [hth]; decide
      refine lv_astore_n (lv' := [(3, .ref q9), (0, .ref h), (1, .int its), (2, .ref o)]) hx hb dL_land_15 rfl hl (by decide) rfl (fun ls hl => ?_)
      refine lv_iconst (v := 2) hx hb dL_land_16 (by decide) ?_
      have ek := K_land hnz
      exact W.iret (v := 2) hx hb hr (fun t ht hW => lQ_mk ka kb f hth.symm (fun q => absurd q hnz) (by rw [ek, ht]; exact hP) (by rw [ek]; exact hD) (hS.F ht)) hS.2.2 dL_land_17
  · skip
    obtain ⟨hth, rfl⟩ := hw9
    obtain ⟨hP1, hD1⟩ := hB
    rw [ht9] at hP1
    obtain ⟨hP, hD⟩ := join_L hP hD hk1 (A_in (D_left hD) hS0 hA) hP1 hD1
    refine lv_i2l (v := ((S_land n F its).2.1).toInt64) hx hb dL_land_7 rfl ?_
    have hq0 := snoc_at (cW tK tB h ak ab af u9.1 u9.2 n p ((S_land n F its).2.2)) ((o, .inl (cJ, 1, .inr (.inl f))) : Nat × va_E)
    refine va_last hx hb hK hP hD hS _ 2 hq0 rfl (by unfold vp_in; decide) dL_land_8 (fun H locs hP hD hS => ?_)
    rw [snoc_set] at hP hD
    refine lv_goto (tgt := 18) hx hb dL_land_9 (by decide) ?_
    refine lv_iconst (v := 0) hx hb dL_land_18 (by decide) ?_
    exact W.iret (v := 0) hx hb hr (fun t ht hW => lQ_mk u9.1 u9.2 _ hth.symm (fun _ => rfl) (by rw [ht]; exact hP) hD (hS.F ht)) hS.2.2 dL_land_19

set_option maxHeartbeats 4000000 in
set_option maxRecDepth 100000 in
theorem c_L_wind (l9 : Launch) (hlt : l9.stackTraces = false) (dC : Nat → ClassId) (dI : Nat → Nat → Nat) (sz : Nat) {tK tB cJ : ClassId} (h ak ab af : Nat) (ka kb : Nat → Nat) (n p : Nat) (F : Rows) (o : Nat) (f : Nat → Int64) (sp sd : Int32) (hI : Inv n p F) : Met l9 yL_wind wsL_wind ({ frames := 7, cells := 1, slots := 6, locals := 159 }) (va_Pc [.ref h, .int sp, .int sd, .ref o] (PWr dC dI [(tK, .object "Windlane$Kite"), (tB, .object "Windlane$Borrower"), (cJ, .long)] (cW tK tB h ak ab af ka kb n p F ++ oC1 cJ o f) sz)) (lQ dC dI tK tB cJ h ak ab af o (va_A (cW tK tB h ak ab af ka kb n p F ++ oC1 cJ o f) sz) n p ((S_wind n F sp sd).2.2) ((S_wind n F sp sd).1) ((S_wind n F sp sd).2.1)) 1 6 (va_A (cW tK tB h ak ab af ka kb n p F ++ oC1 cJ o f) sz) := by
  refine va_MetW (cc := cL_wind) (maxL := 5) (ret := (some .int)) (hh := [(0, 10, 13, 13)]) (by decide) rfl ?_
  intro p9 e9 s m args below meth c s₁ B hml hv
  obtain ⟨rfl, hsz, hP, hK, hD0, hE, hH⟩ := hv
  have hx := B.exec
  have hb := B.bytes
  have hr := B.returns
  have hts := atoms_spec (ws := wsL_wind) B.pre
  have htab := vx_table (x := yL_wind) B (hts _ List.mem_cons_self)
  have hown : s.vm.findClass RL = some m.cls := findClass_of_methodNamed B.named
  have hlocks := B.notSynchronized
  subst hsz
  have hD := hD0.self (sz := s.heap.size)
  generalize hAe : va_A (cW tK tB h ak ab af ka kb n p F ++ oC1 cJ o f) s.heap.size = A at hD hH ⊢
  have hA : ∀ q : Nat, s.heap.size ≤ q → A q := fun q h => by rw [← hAe]; exact Or.inr h
  have hS : va_S A s.heap s.heap [] := va_S.rf
  have hS0 := hS
  have hP : va_P (dC, dI) vwCl (cW tK tB h ak ab af ka kb n p F ++ oC1 cJ o f) s.heap := hP
  have hl := lv_entry ([.ref h, .int sp, .int sd, .ref o]) (n := 5) (Nat.le_of_ble_eq_true rfl)
  rw [lg_entry_eq]
  generalize (lg_sl ([.ref h, .int sp, .int sd, .ref o]) ++ List.replicate (5 - (lg_sl ([.ref h, .int sp, .int sd, .ref o])).length) Slot.unset).toArray = ls at hl ⊢
  have hl : lv_has ls 5 [(0, .ref h), (1, .int sp), (2, .int sd), (3, .ref o)] := hl
  refine lv_aload_n hx hb dL_wind_0 rfl (lv_at hl 3 rfl) ?_
  refine lv_iconst (v := 0) hx hb dL_wind_1 (by decide) ?_
  refine lv_aload_n hx hb dL_wind_2 rfl (lv_at hl 0 rfl) ?_
  refine lv_iload_n hx hb dL_wind_3 rfl (lv_at hl 1 rfl) ?_
  refine lv_iload_n hx hb dL_wind_4 rfl (lv_at hl 2 rfl) ?_
  refine vx_calli (vx_runV (As := [.int sp, .int sd]) (rest := [.int 0, .ref o]) ⟨hx, hb, hml, hown, hts⟩ (c_X2_wind l9 hlt dC dI s.heap.size h ak ab af ka kb n p F sp sd hI) (cwV 2 hts gL_wind_X2_wind rfl rfl rfl (by decide +kernel) ⟨Nat.le_of_ble_eq_true rfl, Nat.le_of_ble_eq_true rfl⟩) ⟨PWr.blind, va_recv (hK.sub (tys' := [(tK, .object "Windlane$Kite"), (tB, .object "Windlane$Borrower")]) [0, 1] rfl) (P_left hP) (ci := 2) (q0 := 0) rfl rfl, PWr.pre (P_left hP) (hK.sub (tys' := [(tK, .object "Windlane$Kite"), (tB, .object "Windlane$Borrower")]) [0, 1] rfl) (D_left hD) hE (hH.narrow (A_in (D_left hD) hS hA))⟩ rfl rfl hl.1 rfl (lv_room (Nat.le_of_ble_eq_true rfl)) dL_wind_5 ⟨Nat.le_of_ble_eq_true rfl, Nat.le_of_ble_eq_true rfl⟩) hS (fun q _ hq => A_in (D_left hD) hS hA q hq) (A_in (D_left hD) hS hA) (fun _ _ z => z.elim) (fun E ce q9 u9 t9 H locs ht9 hvm hpx hBE hz1 hk1 hS hce hcv hcl => ?_) (fun r9 u9 t9 H locs ht9 hvm hw9 hB hz1 hk1 hS => ?_)
  · skip
    have hP : va_P (dC, dI) vwCl (cW tK tB h ak ab af ka kb n p F ++ oC1 cJ o f) H := hP.kept (fun k q hq => hk1 q.1 ((hP k q hq).lt) (fun z => z))
    obtain ⟨rfl, hth⟩ := hBE
    · skip
      refine vx_catch (own := RL) (name := "java/lang/IllegalArgumentException") hown [] (⟨0, 10, 13, 13⟩ : ExceptionTableEntry) [] (by rw [htab]; rfl) (fun z hz => absurd hz List.not_mem_nil) (by decide) (by decide) (hts (.classLink RL 13 "java/lang/IllegalArgumentException") (by decide +kernel)) (yc.use hE.2.1.1) hce hcv hcl ?_
      refine W.eq (g2 := F0 m 13 ls [.ref q9]) rfl ?_
      have hnz : (S_wind n F sp sd).1 ≠ 0 := by rw [hth]; decide
      refine lv_astore (lv' := [(4, .ref q9), (0, .ref h), (1, .int sp), (2, .int sd), (3, .ref o)]) hx hb dL_wind_13 hl (by decide) rfl (fun ls hl => ?_)
      refine lv_iconst (v := 1) hx hb dL_wind_15 (by decide) ?_
      have ek := K_wind hnz
      exact W.iret (v := 1) hx hb hr (fun t ht hW => lQ_mk ka kb f hth.symm (fun q => absurd q hnz) (by rw [ek, ht]; exact hP) (by rw [ek]; exact hD) (hS.F ht)) hS.2.2 dL_wind_16
  · skip
    obtain ⟨hth, rfl⟩ := hw9
    obtain ⟨hP1, hD1⟩ := hB
    rw [ht9] at hP1
    obtain ⟨hP, hD⟩ := join_L hP hD hk1 (A_in (D_left hD) hS0 hA) hP1 hD1
    refine lv_i2l (v := ((S_wind n F sp sd).2.1).toInt64) hx hb dL_wind_8 rfl ?_
    have hq0 := snoc_at (cW tK tB h ak ab af u9.1 u9.2 n p ((S_wind n F sp sd).2.2)) ((o, .inl (cJ, 1, .inr (.inl f))) : Nat × va_E)
    refine va_last hx hb hK hP hD hS _ 2 hq0 rfl (by unfold vp_in; decide) dL_wind_9 (fun H locs hP hD hS => ?_)
    rw [snoc_set] at hP hD
    refine lv_goto (tgt := 17) hx hb dL_wind_10 (by decide) ?_
    refine lv_iconst (v := 0) hx hb dL_wind_17 (by decide) ?_
    exact W.iret (v := 0) hx hb hr (fun t ht hW => lQ_mk u9.1 u9.2 _ hth.symm (fun _ => rfl) (by rw [ht]; exact hP) hD (hS.F ht)) hS.2.2 dL_wind_18

set_option maxHeartbeats 4000000 in
set_option maxRecDepth 100000 in
theorem c_L_pass (l9 : Launch) (hlt : l9.stackTraces = false) (dC : Nat → ClassId) (dI : Nat → Nat → Nat) (sz : Nat) {tK tB cJ : ClassId} (h ak ab af : Nat) (ka kb : Nat → Nat) (n p : Nat) (F : Rows) (o : Nat) (f : Nat → Int64) (hs : Int32) (hI : Inv n p F) : Met l9 yL_pass wsL_pass ({ frames := 7, cells := 1, slots := 6, locals := 104 }) (va_Pc [.ref h, .int hs, .ref o] (PWr dC dI [(tK, .object "Windlane$Kite"), (tB, .object "Windlane$Borrower"), (cJ, .long)] (cW tK tB h ak ab af ka kb n p F ++ oC1 cJ o f) sz)) (lQ dC dI tK tB cJ h ak ab af o (va_A (cW tK tB h ak ab af ka kb n p F ++ oC1 cJ o f) sz) n p ((S_pass n F hs).2.2) ((S_pass n F hs).1) ((S_pass n F hs).2.1)) 1 6 (va_A (cW tK tB h ak ab af ka kb n p F ++ oC1 cJ o f) sz) := by
  refine va_MetW (cc := cL_pass) (maxL := 4) (ret := (some .int)) (hh := [(0, 9, 12, 13)]) (by decide) rfl ?_
  intro p9 e9 s m args below meth c s₁ B hml hv
  obtain ⟨rfl, hsz, hP, hK, hD0, hE, hH⟩ := hv
  have hx := B.exec
  have hb := B.bytes
  have hr := B.returns
  have hts := atoms_spec (ws := wsL_pass) B.pre
  have htab := vx_table (x := yL_pass) B (hts _ List.mem_cons_self)
  have hown : s.vm.findClass RL = some m.cls := findClass_of_methodNamed B.named
  have hlocks := B.notSynchronized
  subst hsz
  have hD := hD0.self (sz := s.heap.size)
  generalize hAe : va_A (cW tK tB h ak ab af ka kb n p F ++ oC1 cJ o f) s.heap.size = A at hD hH ⊢
  have hA : ∀ q : Nat, s.heap.size ≤ q → A q := fun q h => by rw [← hAe]; exact Or.inr h
  have hS : va_S A s.heap s.heap [] := va_S.rf
  have hS0 := hS
  have hP : va_P (dC, dI) vwCl (cW tK tB h ak ab af ka kb n p F ++ oC1 cJ o f) s.heap := hP
  have hl := lv_entry ([.ref h, .int hs, .ref o]) (n := 4) (Nat.le_of_ble_eq_true rfl)
  rw [lg_entry_eq]
  generalize (lg_sl ([.ref h, .int hs, .ref o]) ++ List.replicate (4 - (lg_sl ([.ref h, .int hs, .ref o])).length) Slot.unset).toArray = ls at hl ⊢
  have hl : lv_has ls 4 [(0, .ref h), (1, .int hs), (2, .ref o)] := hl
  refine lv_aload_n hx hb dL_pass_0 rfl (lv_at hl 2 rfl) ?_
  refine lv_iconst (v := 0) hx hb dL_pass_1 (by decide) ?_
  refine lv_aload_n hx hb dL_pass_2 rfl (lv_at hl 0 rfl) ?_
  refine lv_iload_n hx hb dL_pass_3 rfl (lv_at hl 1 rfl) ?_
  refine vx_calli (vx_runV (As := [.int hs]) (rest := [.int 0, .ref o]) ⟨hx, hb, hml, hown, hts⟩ (c_X2_pass l9 hlt dC dI s.heap.size h ak ab af ka kb n p F hs hI) (cwV 1 hts gL_pass_X2_pass rfl rfl rfl (by decide +kernel) ⟨Nat.le_of_ble_eq_true rfl, Nat.le_of_ble_eq_true rfl⟩) ⟨PWr.blind, va_recv (hK.sub (tys' := [(tK, .object "Windlane$Kite"), (tB, .object "Windlane$Borrower")]) [0, 1] rfl) (P_left hP) (ci := 2) (q0 := 0) rfl rfl, PWr.pre (P_left hP) (hK.sub (tys' := [(tK, .object "Windlane$Kite"), (tB, .object "Windlane$Borrower")]) [0, 1] rfl) (D_left hD) hE (hH.narrow (A_in (D_left hD) hS hA))⟩ rfl rfl hl.1 rfl (lv_room (Nat.le_of_ble_eq_true rfl)) dL_pass_4 ⟨Nat.le_of_ble_eq_true rfl, Nat.le_of_ble_eq_true rfl⟩) hS (fun q _ hq => A_in (D_left hD) hS hA q hq) (A_in (D_left hD) hS hA) (fun _ _ z => z.elim) (fun E ce q9 u9 t9 H locs ht9 hvm hpx hBE hz1 hk1 hS hce hcv hcl => ?_) (fun r9 u9 t9 H locs ht9 hvm hw9 hB hz1 hk1 hS => ?_)
  · skip
    have hP : va_P (dC, dI) vwCl (cW tK tB h ak ab af ka kb n p F ++ oC1 cJ o f) H := hP.kept (fun k q hq => hk1 q.1 ((hP k q hq).lt) (fun z => z))
    obtain ⟨rfl, hth⟩ := hBE
    · skip
      refine vx_catch (own := RL) (name := "java/lang/IllegalArgumentException") hown [] (⟨0, 9, 12, 13⟩ : ExceptionTableEntry) [] (by rw [htab]; rfl) (fun z hz => absurd hz List.not_mem_nil) (by decide) (by decide) (hts (.classLink RL 13 "java/lang/IllegalArgumentException") (by decide +kernel)) (yc.use hE.2.1.1) hce hcv hcl ?_
      refine W.eq (g2 := F0 m 12 ls [.ref q9]) rfl ?_
      have hnz : (S_pass n F hs).1 ≠ 0 := by rw [hth]; decide
      refine lv_astore_n (lv' := [(3, .ref q9), (0, .ref h), (1, .int hs), (2, .ref o)]) hx hb dL_pass_12 rfl hl (by decide) rfl (fun ls hl => ?_)
      refine lv_iconst (v := 1) hx hb dL_pass_13 (by decide) ?_
      have ek := K_pass hnz
      exact W.iret (v := 1) hx hb hr (fun t ht hW => lQ_mk ka kb f hth.symm (fun q => absurd q hnz) (by rw [ek, ht]; exact hP) (by rw [ek]; exact hD) (hS.F ht)) hS.2.2 dL_pass_14
  · skip
    obtain ⟨hth, rfl⟩ := hw9
    obtain ⟨hP1, hD1⟩ := hB
    rw [ht9] at hP1
    obtain ⟨hP, hD⟩ := join_L hP hD hk1 (A_in (D_left hD) hS0 hA) hP1 hD1
    refine lv_i2l (v := ((S_pass n F hs).2.1).toInt64) hx hb dL_pass_7 rfl ?_
    have hq0 := snoc_at (cW tK tB h ak ab af u9.1 u9.2 n p ((S_pass n F hs).2.2)) ((o, .inl (cJ, 1, .inr (.inl f))) : Nat × va_E)
    refine va_last hx hb hK hP hD hS _ 2 hq0 rfl (by unfold vp_in; decide) dL_pass_8 (fun H locs hP hD hS => ?_)
    rw [snoc_set] at hP hD
    refine lv_goto (tgt := 15) hx hb dL_pass_9 (by decide) ?_
    refine lv_iconst (v := 0) hx hb dL_pass_15 (by decide) ?_
    exact W.iret (v := 0) hx hb hr (fun t ht hW => lQ_mk u9.1 u9.2 _ hth.symm (fun _ => rfl) (by rw [ht]; exact hP) hD (hS.F ht)) hS.2.2 dL_pass_16

set_option maxHeartbeats 4000000 in
set_option maxRecDepth 100000 in
theorem c_L_pull (l9 : Launch) (hlt : l9.stackTraces = false) (dC : Nat → ClassId) (dI : Nat → Nat → Nat) (sz : Nat) {tK tB cJ : ClassId} (h ak ab af : Nat) (ka kb : Nat → Nat) (n p : Nat) (F : Rows) (o : Nat) (f : Nat → Int64) (its sp : Int32) (hI : Inv n p F) : Met l9 yL_pull wsL_pull ({ frames := 8, cells := 2, slots := 12, locals := 127 }) (va_Pc [.ref h, .int its, .int sp, .ref o] (PWr dC dI [(tK, .object "Windlane$Kite"), (tB, .object "Windlane$Borrower"), (cJ, .long)] (cW tK tB h ak ab af ka kb n p F ++ oC1 cJ o f) sz)) (lQ dC dI tK tB cJ h ak ab af o (va_A (cW tK tB h ak ab af ka kb n p F ++ oC1 cJ o f) sz) n p F ((S_pull n F its sp).1) ((S_pull n F its sp).2)) 2 12 (va_A (cW tK tB h ak ab af ka kb n p F ++ oC1 cJ o f) sz) := by
  refine va_MetW (cc := cL_pull) (maxL := 5) (ret := (some .int)) (hh := [(0, 10, 13, 21), (0, 10, 17, 13)]) (by decide) rfl ?_
  intro p9 e9 s m args below meth c s₁ B hml hv
  obtain ⟨rfl, hsz, hP, hK, hD0, hE, hH⟩ := hv
  have hx := B.exec
  have hb := B.bytes
  have hr := B.returns
  have hts := atoms_spec (ws := wsL_pull) B.pre
  have htab := vx_table (x := yL_pull) B (hts _ List.mem_cons_self)
  have hown : s.vm.findClass RL = some m.cls := findClass_of_methodNamed B.named
  have hlocks := B.notSynchronized
  subst hsz
  have hD := hD0.self (sz := s.heap.size)
  generalize hAe : va_A (cW tK tB h ak ab af ka kb n p F ++ oC1 cJ o f) s.heap.size = A at hD hH ⊢
  have hA : ∀ q : Nat, s.heap.size ≤ q → A q := fun q h => by rw [← hAe]; exact Or.inr h
  have hS : va_S A s.heap s.heap [] := va_S.rf
  have hS0 := hS
  have hP : va_P (dC, dI) vwCl (cW tK tB h ak ab af ka kb n p F ++ oC1 cJ o f) s.heap := hP
  have hl := lv_entry ([.ref h, .int its, .int sp, .ref o]) (n := 5) (Nat.le_of_ble_eq_true rfl)
  rw [lg_entry_eq]
  generalize (lg_sl ([.ref h, .int its, .int sp, .ref o]) ++ List.replicate (5 - (lg_sl ([.ref h, .int its, .int sp, .ref o])).length) Slot.unset).toArray = ls at hl ⊢
  have hl : lv_has ls 5 [(0, .ref h), (1, .int its), (2, .int sp), (3, .ref o)] := hl
  refine lv_aload_n hx hb dL_pull_0 rfl (lv_at hl 3 rfl) ?_
  refine lv_iconst (v := 0) hx hb dL_pull_1 (by decide) ?_
  refine lv_aload_n hx hb dL_pull_2 rfl (lv_at hl 0 rfl) ?_
  refine lv_iload_n hx hb dL_pull_3 rfl (lv_at hl 1 rfl) ?_
  refine lv_iload_n hx hb dL_pull_4 rfl (lv_at hl 2 rfl) ?_
  refine vx_calli (vx_runV (As := [.int its, .int sp]) (rest := [.int 0, .ref o]) ⟨hx, hb, hml, hown, hts⟩ (c_X2_pull l9 hlt dC dI s.heap.size h ak ab af ka kb n p F its sp hI) (cwV 2 hts gL_pull_X2_pull rfl rfl rfl (by decide +kernel) ⟨Nat.le_of_ble_eq_true rfl, Nat.le_of_ble_eq_true rfl⟩) ⟨PWr.blind, va_recv (hK.sub (tys' := [(tK, .object "Windlane$Kite"), (tB, .object "Windlane$Borrower")]) [0, 1] rfl) (P_left hP) (ci := 2) (q0 := 0) rfl rfl, PWr.pre (P_left hP) (hK.sub (tys' := [(tK, .object "Windlane$Kite"), (tB, .object "Windlane$Borrower")]) [0, 1] rfl) (D_left hD) hE (hH.narrow (A_in (D_left hD) hS hA))⟩ rfl rfl hl.1 rfl (lv_room (Nat.le_of_ble_eq_true rfl)) dL_pull_5 ⟨Nat.le_of_ble_eq_true rfl, Nat.le_of_ble_eq_true rfl⟩) hS (fun q _ hq => A_in (D_left hD) hS hA q hq) (A_in (D_left hD) hS hA) (fun _ _ z => z.elim) (fun E ce q9 u9 t9 H locs ht9 hvm hpx hBE hz1 hk1 hS hce hcv hcl => ?_) (fun r9 u9 t9 H locs ht9 hvm hw9 hB hz1 hk1 hS => ?_)
  · skip
    have hP : va_P (dC, dI) vwCl (cW tK tB h ak ab af ka kb n p F ++ oC1 cJ o f) H := hP.kept (fun k q hq => hk1 q.1 ((hP k q hq).lt) (fun z => z))
    rcases hBE with ⟨rfl, hth⟩ | ⟨rfl, hth⟩
    · skip
      refine vx_catch (own := RL) (name := "java/lang/IndexOutOfBoundsException") hown [] (⟨0, 10, 13, 21⟩ : ExceptionTableEntry) [(⟨0, 10, 17, 13⟩ : ExceptionTableEntry)] (by rw [htab]; rfl) (fun z hz => absurd hz List.not_mem_nil) (by decide) (by decide) (hts (.classLink RL 21 "java/lang/IndexOutOfBoundsException") (by decide +kernel)) (yc.use hE.2.1.2.2) hce hcv hcl ?_
      refine W.eq (g2 := F0 m 13 ls [.ref q9]) rfl ?_
      have hnz : (S_pull n F its sp).1 ≠ 0 := by rw [hth]; decide
      refine lv_astore (lv' := [(4, .ref q9), (0, .ref h), (1, .int its), (2, .int sp), (3, .ref o)]) hx hb dL_pull_13 hl (by decide) rfl (fun ls hl => ?_)
      refine lv_iconst (v := 1) hx hb dL_pull_15 (by decide) ?_
      exact W.iret (v := 1) hx hb hr (fun t ht hW => lQ_mk ka kb f hth.symm (fun q => absurd q hnz) (by rw [ht]; exact hP) hD (hS.F ht)) hS.2.2 dL_pull_16
    · skip
      refine vx_catch (own := RL) (name := "java/lang/IllegalArgumentException") hown [(⟨0, 10, 13, 21⟩ : ExceptionTableEntry)] (⟨0, 10, 17, 13⟩ : ExceptionTableEntry) [] (by rw [htab]; rfl) (fun z hz => by
            simp only [List.mem_cons, List.not_mem_nil, or_false] at hz
            subst hz
            exact Or.inr ⟨by decide, "java/lang/IndexOutOfBoundsException", hts (.classLink RL 21 "java/lang/IndexOutOfBoundsException") (by decide +kernel), hE.2.2.1.2.2⟩) (by decide) (by decide) (hts (.classLink RL 13 "java/lang/IllegalArgumentException") (by decide +kernel)) (yc.use hE.2.1.1) hce hcv hcl ?_
      refine W.eq (g2 := F0 m 17 ls [.ref q9]) rfl ?_
      have hnz : (S_pull n F its sp).1 ≠ 0 := by rw [hth]; decide
      refine lv_astore (lv' := [(4, .ref q9), (0, .ref h), (1, .int its), (2, .int sp), (3, .ref o)]) hx hb dL_pull_17 hl (by decide) rfl (fun ls hl => ?_)
      refine lv_iconst (v := 2) hx hb dL_pull_19 (by decide) ?_
      exact W.iret (v := 2) hx hb hr (fun t ht hW => lQ_mk ka kb f hth.symm (fun q => absurd q hnz) (by rw [ht]; exact hP) hD (hS.F ht)) hS.2.2 dL_pull_20
  · skip
    obtain ⟨hth, rfl⟩ := hw9
    obtain ⟨hP1, hD1⟩ := hB
    rw [ht9] at hP1
    obtain ⟨hP, hD⟩ := join_L hP hD hk1 (A_in (D_left hD) hS0 hA) hP1 hD1
    refine lv_i2l (v := ((S_pull n F its sp).2).toInt64) hx hb dL_pull_8 rfl ?_
    have hq0 := snoc_at (cW tK tB h ak ab af u9.1 u9.2 n p F) ((o, .inl (cJ, 1, .inr (.inl f))) : Nat × va_E)
    refine va_last hx hb hK hP hD hS _ 2 hq0 rfl (by unfold vp_in; decide) dL_pull_9 (fun H locs hP hD hS => ?_)
    rw [snoc_set] at hP hD
    refine lv_goto (tgt := 21) hx hb dL_pull_10 (by decide) ?_
    refine lv_iconst (v := 0) hx hb dL_pull_21 (by decide) ?_
    exact W.iret (v := 0) hx hb hr (fun t ht hW => lQ_mk u9.1 u9.2 _ hth.symm (fun _ => rfl) (by rw [ht]; exact hP) hD (hS.F ht)) hS.2.2 dL_pull_22

set_option maxHeartbeats 4000000 in
set_option maxRecDepth 100000 in
theorem c_L_pullAnew (l9 : Launch) (hlt : l9.stackTraces = false) (dC : Nat → ClassId) (dI : Nat → Nat → Nat) (sz : Nat) {tK tB cJ : ClassId} (h ak ab af : Nat) (ka kb : Nat → Nat) (n p : Nat) (F : Rows) (o : Nat) (f : Nat → Int64) (its sp : Int32) (hI : Inv n p F) : Met l9 yL_pullAnew wsL_pullAnew ({ frames := 8, cells := 2, slots := 12, locals := 127 }) (va_Pc [.ref h, .int its, .int sp, .ref o] (PWr dC dI [(tK, .object "Windlane$Kite"), (tB, .object "Windlane$Borrower"), (cJ, .long)] (cW tK tB h ak ab af ka kb n p F ++ oC1 cJ o f) sz)) (lQ dC dI tK tB cJ h ak ab af o (va_A (cW tK tB h ak ab af ka kb n p F ++ oC1 cJ o f) sz) n p F ((S_pull n F its sp).1) ((S_pull n F its sp).2)) 2 12 (va_A (cW tK tB h ak ab af ka kb n p F ++ oC1 cJ o f) sz) := by
  refine va_MetW (cc := cL_pullAnew) (maxL := 5) (ret := (some .int)) (hh := [(0, 10, 13, 21), (0, 10, 17, 13)]) (by decide) rfl ?_
  intro p9 e9 s m args below meth c s₁ B hml hv
  obtain ⟨rfl, hsz, hP, hK, hD0, hE, hH⟩ := hv
  have hx := B.exec
  have hb := B.bytes
  have hr := B.returns
  have hts := atoms_spec (ws := wsL_pullAnew) B.pre
  have htab := vx_table (x := yL_pullAnew) B (hts _ List.mem_cons_self)
  have hown : s.vm.findClass RL = some m.cls := findClass_of_methodNamed B.named
  have hlocks := B.notSynchronized
  subst hsz
  have hD := hD0.self (sz := s.heap.size)
  generalize hAe : va_A (cW tK tB h ak ab af ka kb n p F ++ oC1 cJ o f) s.heap.size = A at hD hH ⊢
  have hA : ∀ q : Nat, s.heap.size ≤ q → A q := fun q h => by rw [← hAe]; exact Or.inr h
  have hS : va_S A s.heap s.heap [] := va_S.rf
  have hS0 := hS
  have hP : va_P (dC, dI) vwCl (cW tK tB h ak ab af ka kb n p F ++ oC1 cJ o f) s.heap := hP
  have hl := lv_entry ([.ref h, .int its, .int sp, .ref o]) (n := 5) (Nat.le_of_ble_eq_true rfl)
  rw [lg_entry_eq]
  generalize (lg_sl ([.ref h, .int its, .int sp, .ref o]) ++ List.replicate (5 - (lg_sl ([.ref h, .int its, .int sp, .ref o])).length) Slot.unset).toArray = ls at hl ⊢
  have hl : lv_has ls 5 [(0, .ref h), (1, .int its), (2, .int sp), (3, .ref o)] := hl
  refine lv_aload_n hx hb dL_pullAnew_0 rfl (lv_at hl 3 rfl) ?_
  refine lv_iconst (v := 0) hx hb dL_pullAnew_1 (by decide) ?_
  refine lv_aload_n hx hb dL_pullAnew_2 rfl (lv_at hl 0 rfl) ?_
  refine lv_iload_n hx hb dL_pullAnew_3 rfl (lv_at hl 1 rfl) ?_
  refine lv_iload_n hx hb dL_pullAnew_4 rfl (lv_at hl 2 rfl) ?_
  refine vx_calli (vx_runV (As := [.int its, .int sp]) (rest := [.int 0, .ref o]) ⟨hx, hb, hml, hown, hts⟩ (c_X2_pullAnew l9 hlt dC dI s.heap.size h ak ab af ka kb n p F its sp hI) (cwV 2 hts gL_pullAnew_X2_pullAnew rfl rfl rfl (by decide +kernel) ⟨Nat.le_of_ble_eq_true rfl, Nat.le_of_ble_eq_true rfl⟩) ⟨PWr.blind, va_recv (hK.sub (tys' := [(tK, .object "Windlane$Kite"), (tB, .object "Windlane$Borrower")]) [0, 1] rfl) (P_left hP) (ci := 2) (q0 := 0) rfl rfl, PWr.pre (P_left hP) (hK.sub (tys' := [(tK, .object "Windlane$Kite"), (tB, .object "Windlane$Borrower")]) [0, 1] rfl) (D_left hD) hE (hH.narrow (A_in (D_left hD) hS hA))⟩ rfl rfl hl.1 rfl (lv_room (Nat.le_of_ble_eq_true rfl)) dL_pullAnew_5 ⟨Nat.le_of_ble_eq_true rfl, Nat.le_of_ble_eq_true rfl⟩) hS (fun q _ hq => A_in (D_left hD) hS hA q hq) (A_in (D_left hD) hS hA) (fun _ _ z => z.elim) (fun E ce q9 u9 t9 H locs ht9 hvm hpx hBE hz1 hk1 hS hce hcv hcl => ?_) (fun r9 u9 t9 H locs ht9 hvm hw9 hB hz1 hk1 hS => ?_)
  · skip
    have hP : va_P (dC, dI) vwCl (cW tK tB h ak ab af ka kb n p F ++ oC1 cJ o f) H := hP.kept (fun k q hq => hk1 q.1 ((hP k q hq).lt) (fun z => z))
    rcases hBE with ⟨rfl, hth⟩ | ⟨rfl, hth⟩
    · skip
      refine vx_catch (own := RL) (name := "java/lang/IndexOutOfBoundsException") hown [] (⟨0, 10, 13, 21⟩ : ExceptionTableEntry) [(⟨0, 10, 17, 13⟩ : ExceptionTableEntry)] (by rw [htab]; rfl) (fun z hz => absurd hz List.not_mem_nil) (by decide) (by decide) (hts (.classLink RL 21 "java/lang/IndexOutOfBoundsException") (by decide +kernel)) (yc.use hE.2.1.2.2) hce hcv hcl ?_
      refine W.eq (g2 := F0 m 13 ls [.ref q9]) rfl ?_
      have hnz : (S_pull n F its sp).1 ≠ 0 := by rw [hth]; decide
      refine lv_astore (lv' := [(4, .ref q9), (0, .ref h), (1, .int its), (2, .int sp), (3, .ref o)]) hx hb dL_pullAnew_13 hl (by decide) rfl (fun ls hl => ?_)
      refine lv_iconst (v := 1) hx hb dL_pullAnew_15 (by decide) ?_
      exact W.iret (v := 1) hx hb hr (fun t ht hW => lQ_mk ka kb f hth.symm (fun q => absurd q hnz) (by rw [ht]; exact hP) hD (hS.F ht)) hS.2.2 dL_pullAnew_16
    · skip
      refine vx_catch (own := RL) (name := "java/lang/IllegalArgumentException") hown [(⟨0, 10, 13, 21⟩ : ExceptionTableEntry)] (⟨0, 10, 17, 13⟩ : ExceptionTableEntry) [] (by rw [htab]; rfl) (fun z hz => by
            simp only [List.mem_cons, List.not_mem_nil, or_false] at hz
            subst hz
            exact Or.inr ⟨by decide, "java/lang/IndexOutOfBoundsException", hts (.classLink RL 21 "java/lang/IndexOutOfBoundsException") (by decide +kernel), hE.2.2.1.2.2⟩) (by decide) (by decide) (hts (.classLink RL 13 "java/lang/IllegalArgumentException") (by decide +kernel)) (yc.use hE.2.1.1) hce hcv hcl ?_
      refine W.eq (g2 := F0 m 17 ls [.ref q9]) rfl ?_
      have hnz : (S_pull n F its sp).1 ≠ 0 := by rw [hth]; decide
      refine lv_astore (lv' := [(4, .ref q9), (0, .ref h), (1, .int its), (2, .int sp), (3, .ref o)]) hx hb dL_pullAnew_17 hl (by decide) rfl (fun ls hl => ?_)
      refine lv_iconst (v := 2) hx hb dL_pullAnew_19 (by decide) ?_
      exact W.iret (v := 2) hx hb hr (fun t ht hW => lQ_mk ka kb f hth.symm (fun q => absurd q hnz) (by rw [ht]; exact hP) hD (hS.F ht)) hS.2.2 dL_pullAnew_20
  · skip
    obtain ⟨hth, rfl⟩ := hw9
    obtain ⟨hP1, hD1⟩ := hB
    rw [ht9] at hP1
    obtain ⟨hP, hD⟩ := join_L hP hD hk1 (A_in (D_left hD) hS0 hA) hP1 hD1
    refine lv_i2l (v := ((S_pull n F its sp).2).toInt64) hx hb dL_pullAnew_8 rfl ?_
    have hq0 := snoc_at (cW tK tB h ak ab af u9.1 u9.2 n p F) ((o, .inl (cJ, 1, .inr (.inl f))) : Nat × va_E)
    refine va_last hx hb hK hP hD hS _ 2 hq0 rfl (by unfold vp_in; decide) dL_pullAnew_9 (fun H locs hP hD hS => ?_)
    rw [snoc_set] at hP hD
    refine lv_goto (tgt := 21) hx hb dL_pullAnew_10 (by decide) ?_
    refine lv_iconst (v := 0) hx hb dL_pullAnew_21 (by decide) ?_
    exact W.iret (v := 0) hx hb hr (fun t ht hW => lQ_mk u9.1 u9.2 _ hth.symm (fun _ => rfl) (by rw [ht]; exact hP) hD (hS.F ht)) hS.2.2 dL_pullAnew_22

set_option maxHeartbeats 4000000 in
set_option maxRecDepth 100000 in
theorem c_L_tension (l9 : Launch) (hlt : l9.stackTraces = false) (dC : Nat → ClassId) (dI : Nat → Nat → Nat) (sz : Nat) {tK tB cJ : ClassId} (h ak ab af : Nat) (ka kb : Nat → Nat) (n p : Nat) (F : Rows) (o : Nat) (f : Nat → Int64) (its : Int32) (hI : Inv n p F) : Met l9 yL_tension wsL_tension ({ frames := 8, cells := 1, slots := 6, locals := 126 }) (va_Pc [.ref h, .int its, .ref o] (PWr dC dI [(tK, .object "Windlane$Kite"), (tB, .object "Windlane$Borrower"), (cJ, .long)] (cW tK tB h ak ab af ka kb n p F ++ oC1 cJ o f) sz)) (lQ dC dI tK tB cJ h ak ab af o (va_A (cW tK tB h ak ab af ka kb n p F ++ oC1 cJ o f) sz) n p F ((S_tension n F its).1) ((S_tension n F its).2)) 1 6 (va_A (cW tK tB h ak ab af ka kb n p F ++ oC1 cJ o f) sz) := by
  refine va_MetW (cc := cL_tension) (maxL := 4) (ret := (some .int)) (hh := [(0, 9, 12, 21)]) (by decide) rfl ?_
  intro p9 e9 s m args below meth c s₁ B hml hv
  obtain ⟨rfl, hsz, hP, hK, hD0, hE, hH⟩ := hv
  have hx := B.exec
  have hb := B.bytes
  have hr := B.returns
  have hts := atoms_spec (ws := wsL_tension) B.pre
  have htab := vx_table (x := yL_tension) B (hts _ List.mem_cons_self)
  have hown : s.vm.findClass RL = some m.cls := findClass_of_methodNamed B.named
  have hlocks := B.notSynchronized
  subst hsz
  have hD := hD0.self (sz := s.heap.size)
  generalize hAe : va_A (cW tK tB h ak ab af ka kb n p F ++ oC1 cJ o f) s.heap.size = A at hD hH ⊢
  have hA : ∀ q : Nat, s.heap.size ≤ q → A q := fun q h => by rw [← hAe]; exact Or.inr h
  have hS : va_S A s.heap s.heap [] := va_S.rf
  have hS0 := hS
  have hP : va_P (dC, dI) vwCl (cW tK tB h ak ab af ka kb n p F ++ oC1 cJ o f) s.heap := hP
  have hl := lv_entry ([.ref h, .int its, .ref o]) (n := 4) (Nat.le_of_ble_eq_true rfl)
  rw [lg_entry_eq]
  generalize (lg_sl ([.ref h, .int its, .ref o]) ++ List.replicate (4 - (lg_sl ([.ref h, .int its, .ref o])).length) Slot.unset).toArray = ls at hl ⊢
  have hl : lv_has ls 4 [(0, .ref h), (1, .int its), (2, .ref o)] := hl
  refine lv_aload_n hx hb dL_tension_0 rfl (lv_at hl 2 rfl) ?_
  refine lv_iconst (v := 0) hx hb dL_tension_1 (by decide) ?_
  refine lv_aload_n hx hb dL_tension_2 rfl (lv_at hl 0 rfl) ?_
  refine lv_iload_n hx hb dL_tension_3 rfl (lv_at hl 1 rfl) ?_
  refine vx_calli (vx_runV (As := [.int its]) (rest := [.int 0, .ref o]) ⟨hx, hb, hml, hown, hts⟩ (c_X2_tension l9 hlt dC dI s.heap.size h ak ab af ka kb n p F its hI) (cwV 1 hts gL_tension_X2_tension rfl rfl rfl (by decide +kernel) ⟨Nat.le_of_ble_eq_true rfl, Nat.le_of_ble_eq_true rfl⟩) ⟨PWr.blind, va_recv (hK.sub (tys' := [(tK, .object "Windlane$Kite"), (tB, .object "Windlane$Borrower")]) [0, 1] rfl) (P_left hP) (ci := 2) (q0 := 0) rfl rfl, PWr.pre (P_left hP) (hK.sub (tys' := [(tK, .object "Windlane$Kite"), (tB, .object "Windlane$Borrower")]) [0, 1] rfl) (D_left hD) hE (hH.narrow (A_in (D_left hD) hS hA))⟩ rfl rfl hl.1 rfl (lv_room (Nat.le_of_ble_eq_true rfl)) dL_tension_4 ⟨Nat.le_of_ble_eq_true rfl, Nat.le_of_ble_eq_true rfl⟩) hS (fun q _ hq => A_in (D_left hD) hS hA q hq) (A_in (D_left hD) hS hA) (fun _ _ z => z.elim) (fun E ce q9 u9 t9 H locs ht9 hvm hpx hBE hz1 hk1 hS hce hcv hcl => ?_) (fun r9 u9 t9 H locs ht9 hvm hw9 hB hz1 hk1 hS => ?_)
  · skip
    have hP : va_P (dC, dI) vwCl (cW tK tB h ak ab af ka kb n p F ++ oC1 cJ o f) H := hP.kept (fun k q hq => hk1 q.1 ((hP k q hq).lt) (fun z => z))
    obtain ⟨rfl, hth⟩ := hBE
    · skip
      refine vx_catch (own := RL) (name := "java/lang/IndexOutOfBoundsException") hown [] (⟨0, 9, 12, 21⟩ : ExceptionTableEntry) [] (by rw [htab]; rfl) (fun z hz => absurd hz List.not_mem_nil) (by decide) (by decide) (hts (.classLink RL 21 "java/lang/IndexOutOfBoundsException") (by decide +kernel)) (yc.use hE.2.1.2.2) hce hcv hcl ?_
      refine W.eq (g2 := F0 m 12 ls [.ref q9]) rfl ?_
      have hnz : (S_tension n F its).1 ≠ 0 := by rw [hth]; decide
      refine lv_astore_n (lv' := [(3, .ref q9), (0, .ref h), (1, .int its), (2, .ref o)]) hx hb dL_tension_12 rfl hl (by decide) rfl (fun ls hl => ?_)
      refine lv_iconst (v := 1) hx hb dL_tension_13 (by decide) ?_
      exact W.iret (v := 1) hx hb hr (fun t ht hW => lQ_mk ka kb f hth.symm (fun q => absurd q hnz) (by rw [ht]; exact hP) hD (hS.F ht)) hS.2.2 dL_tension_14
  · skip
    obtain ⟨hth, rfl⟩ := hw9
    obtain ⟨hP1, hD1⟩ := hB
    rw [ht9] at hP1
    obtain ⟨hP, hD⟩ := join_L hP hD hk1 (A_in (D_left hD) hS0 hA) hP1 hD1
    refine lv_i2l (v := ((S_tension n F its).2).toInt64) hx hb dL_tension_7 rfl ?_
    have hq0 := snoc_at (cW tK tB h ak ab af u9.1 u9.2 n p F) ((o, .inl (cJ, 1, .inr (.inl f))) : Nat × va_E)
    refine va_last hx hb hK hP hD hS _ 2 hq0 rfl (by unfold vp_in; decide) dL_tension_8 (fun H locs hP hD hS => ?_)
    rw [snoc_set] at hP hD
    refine lv_goto (tgt := 15) hx hb dL_tension_9 (by decide) ?_
    refine lv_iconst (v := 0) hx hb dL_tension_15 (by decide) ?_
    exact W.iret (v := 0) hx hb hr (fun t ht hW => lQ_mk u9.1 u9.2 _ hth.symm (fun _ => rfl) (by rw [ht]; exact hP) hD (hS.F ht)) hS.2.2 dL_tension_16

set_option maxHeartbeats 4000000 in
set_option maxRecDepth 100000 in
theorem c_L_window (l9 : Launch) (hlt : l9.stackTraces = false) (dC : Nat → ClassId) (dI : Nat → Nat → Nat) (sz : Nat) {tK tB cJ : ClassId} (h ak ab af : Nat) (ka kb : Nat → Nat) (n p : Nat) (F : Rows) (o : Nat) (f : Nat → Int64) (its g0 : Int32) (hI : Inv n p F) : Met l9 yL_window wsL_window ({ frames := 8, cells := 1, slots := 6, locals := 129 }) (va_Pc [.ref h, .int its, .int g0, .ref o] (PWr dC dI [(tK, .object "Windlane$Kite"), (tB, .object "Windlane$Borrower"), (cJ, .long)] (cW tK tB h ak ab af ka kb n p F ++ oC1 cJ o f) sz)) (lQ dC dI tK tB cJ h ak ab af o (va_A (cW tK tB h ak ab af ka kb n p F ++ oC1 cJ o f) sz) n p F ((S_window n F its g0).1) ((S_window n F its g0).2)) 1 6 (va_A (cW tK tB h ak ab af ka kb n p F ++ oC1 cJ o f) sz) := by
  refine va_MetW (cc := cL_window) (maxL := 5) (ret := (some .int)) (hh := [(0, 10, 13, 21)]) (by decide) rfl ?_
  intro p9 e9 s m args below meth c s₁ B hml hv
  obtain ⟨rfl, hsz, hP, hK, hD0, hE, hH⟩ := hv
  have hx := B.exec
  have hb := B.bytes
  have hr := B.returns
  have hts := atoms_spec (ws := wsL_window) B.pre
  have htab := vx_table (x := yL_window) B (hts _ List.mem_cons_self)
  have hown : s.vm.findClass RL = some m.cls := findClass_of_methodNamed B.named
  have hlocks := B.notSynchronized
  subst hsz
  have hD := hD0.self (sz := s.heap.size)
  generalize hAe : va_A (cW tK tB h ak ab af ka kb n p F ++ oC1 cJ o f) s.heap.size = A at hD hH ⊢
  have hA : ∀ q : Nat, s.heap.size ≤ q → A q := fun q h => by rw [← hAe]; exact Or.inr h
  have hS : va_S A s.heap s.heap [] := va_S.rf
  have hS0 := hS
  have hP : va_P (dC, dI) vwCl (cW tK tB h ak ab af ka kb n p F ++ oC1 cJ o f) s.heap := hP
  have hl := lv_entry ([.ref h, .int its, .int g0, .ref o]) (n := 5) (Nat.le_of_ble_eq_true rfl)
  rw [lg_entry_eq]
  generalize (lg_sl ([.ref h, .int its, .int g0, .ref o]) ++ List.replicate (5 - (lg_sl ([.ref h, .int its, .int g0, .ref o])).length) Slot.unset).toArray = ls at hl ⊢
  have hl : lv_has ls 5 [(0, .ref h), (1, .int its), (2, .int g0), (3, .ref o)] := hl
  refine lv_aload_n hx hb dL_window_0 rfl (lv_at hl 3 rfl) ?_
  refine lv_iconst (v := 0) hx hb dL_window_1 (by decide) ?_
  refine lv_aload_n hx hb dL_window_2 rfl (lv_at hl 0 rfl) ?_
  refine lv_iload_n hx hb dL_window_3 rfl (lv_at hl 1 rfl) ?_
  refine lv_iload_n hx hb dL_window_4 rfl (lv_at hl 2 rfl) ?_
  refine vx_calli (vx_runV (As := [.int its, .int g0]) (rest := [.int 0, .ref o]) ⟨hx, hb, hml, hown, hts⟩ (c_X2_window l9 hlt dC dI s.heap.size h ak ab af ka kb n p F its g0 hI) (cwV 2 hts gL_window_X2_window rfl rfl rfl (by decide +kernel) ⟨Nat.le_of_ble_eq_true rfl, Nat.le_of_ble_eq_true rfl⟩) ⟨PWr.blind, va_recv (hK.sub (tys' := [(tK, .object "Windlane$Kite"), (tB, .object "Windlane$Borrower")]) [0, 1] rfl) (P_left hP) (ci := 2) (q0 := 0) rfl rfl, PWr.pre (P_left hP) (hK.sub (tys' := [(tK, .object "Windlane$Kite"), (tB, .object "Windlane$Borrower")]) [0, 1] rfl) (D_left hD) hE (hH.narrow (A_in (D_left hD) hS hA))⟩ rfl rfl hl.1 rfl (lv_room (Nat.le_of_ble_eq_true rfl)) dL_window_5 ⟨Nat.le_of_ble_eq_true rfl, Nat.le_of_ble_eq_true rfl⟩) hS (fun q _ hq => A_in (D_left hD) hS hA q hq) (A_in (D_left hD) hS hA) (fun _ _ z => z.elim) (fun E ce q9 u9 t9 H locs ht9 hvm hpx hBE hz1 hk1 hS hce hcv hcl => ?_) (fun r9 u9 t9 H locs ht9 hvm hw9 hB hz1 hk1 hS => ?_)
  · skip
    have hP : va_P (dC, dI) vwCl (cW tK tB h ak ab af ka kb n p F ++ oC1 cJ o f) H := hP.kept (fun k q hq => hk1 q.1 ((hP k q hq).lt) (fun z => z))
    obtain ⟨rfl, hth⟩ := hBE
    · skip
      refine vx_catch (own := RL) (name := "java/lang/IndexOutOfBoundsException") hown [] (⟨0, 10, 13, 21⟩ : ExceptionTableEntry) [] (by rw [htab]; rfl) (fun z hz => absurd hz List.not_mem_nil) (by decide) (by decide) (hts (.classLink RL 21 "java/lang/IndexOutOfBoundsException") (by decide +kernel)) (yc.use hE.2.1.2.2) hce hcv hcl ?_
      refine W.eq (g2 := F0 m 13 ls [.ref q9]) rfl ?_
      have hnz : (S_window n F its g0).1 ≠ 0 := by rw [hth]; decide
      refine lv_astore (lv' := [(4, .ref q9), (0, .ref h), (1, .int its), (2, .int g0), (3, .ref o)]) hx hb dL_window_13 hl (by decide) rfl (fun ls hl => ?_)
      refine lv_iconst (v := 1) hx hb dL_window_15 (by decide) ?_
      exact W.iret (v := 1) hx hb hr (fun t ht hW => lQ_mk ka kb f hth.symm (fun q => absurd q hnz) (by rw [ht]; exact hP) hD (hS.F ht)) hS.2.2 dL_window_16
  · skip
    obtain ⟨hth, rfl⟩ := hw9
    obtain ⟨hP1, hD1⟩ := hB
    rw [ht9] at hP1
    obtain ⟨hP, hD⟩ := join_L hP hD hk1 (A_in (D_left hD) hS0 hA) hP1 hD1
    refine lv_i2l (v := ((S_window n F its g0).2).toInt64) hx hb dL_window_8 rfl ?_
    have hq0 := snoc_at (cW tK tB h ak ab af u9.1 u9.2 n p F) ((o, .inl (cJ, 1, .inr (.inl f))) : Nat × va_E)
    refine va_last hx hb hK hP hD hS _ 2 hq0 rfl (by unfold vp_in; decide) dL_window_9 (fun H locs hP hD hS => ?_)
    rw [snoc_set] at hP hD
    refine lv_goto (tgt := 17) hx hb dL_window_10 (by decide) ?_
    refine lv_iconst (v := 0) hx hb dL_window_17 (by decide) ?_
    exact W.iret (v := 0) hx hb hr (fun t ht hW => lQ_mk u9.1 u9.2 _ hth.symm (fun _ => rfl) (by rw [ht]; exact hP) hD (hS.F ht)) hS.2.2 dL_window_18

set_option maxHeartbeats 4000000 in
set_option maxRecDepth 100000 in
theorem c_L_about (l9 : Launch) (hlt : l9.stackTraces = false) (dC : Nat → ClassId) (dI : Nat → Nat → Nat) (sz : Nat) {tK tB cJ : ClassId} (h ak ab af : Nat) (ka kb : Nat → Nat) (n p : Nat) (F : Rows) (o : Nat) (f : Nat → Int64) (its wh : Int32) (hI : Inv n p F) : Met l9 yL_about wsL_about ({ frames := 8, cells := 2, slots := 12, locals := 127 }) (va_Pc [.ref h, .int its, .int wh, .ref o] (PWr dC dI [(tK, .object "Windlane$Kite"), (tB, .object "Windlane$Borrower"), (cJ, .long)] (cW tK tB h ak ab af ka kb n p F ++ oC1 cJ o f) sz)) (lQ dC dI tK tB cJ h ak ab af o (va_A (cW tK tB h ak ab af ka kb n p F ++ oC1 cJ o f) sz) n p F ((S_about n F its wh).1) ((S_about n F its wh).2)) 2 12 (va_A (cW tK tB h ak ab af ka kb n p F ++ oC1 cJ o f) sz) := by
  refine va_MetW (cc := cL_about) (maxL := 5) (ret := (some .int)) (hh := [(0, 10, 13, 21), (0, 10, 17, 13)]) (by decide) rfl ?_
  intro p9 e9 s m args below meth c s₁ B hml hv
  obtain ⟨rfl, hsz, hP, hK, hD0, hE, hH⟩ := hv
  have hx := B.exec
  have hb := B.bytes
  have hr := B.returns
  have hts := atoms_spec (ws := wsL_about) B.pre
  have htab := vx_table (x := yL_about) B (hts _ List.mem_cons_self)
  have hown : s.vm.findClass RL = some m.cls := findClass_of_methodNamed B.named
  have hlocks := B.notSynchronized
  subst hsz
  have hD := hD0.self (sz := s.heap.size)
  generalize hAe : va_A (cW tK tB h ak ab af ka kb n p F ++ oC1 cJ o f) s.heap.size = A at hD hH ⊢
  have hA : ∀ q : Nat, s.heap.size ≤ q → A q := fun q h => by rw [← hAe]; exact Or.inr h
  have hS : va_S A s.heap s.heap [] := va_S.rf
  have hS0 := hS
  have hP : va_P (dC, dI) vwCl (cW tK tB h ak ab af ka kb n p F ++ oC1 cJ o f) s.heap := hP
  have hl := lv_entry ([.ref h, .int its, .int wh, .ref o]) (n := 5) (Nat.le_of_ble_eq_true rfl)
  rw [lg_entry_eq]
  generalize (lg_sl ([.ref h, .int its, .int wh, .ref o]) ++ List.replicate (5 - (lg_sl ([.ref h, .int its, .int wh, .ref o])).length) Slot.unset).toArray = ls at hl ⊢
  have hl : lv_has ls 5 [(0, .ref h), (1, .int its), (2, .int wh), (3, .ref o)] := hl
  refine lv_aload_n hx hb dL_about_0 rfl (lv_at hl 3 rfl) ?_
  refine lv_iconst (v := 0) hx hb dL_about_1 (by decide) ?_
  refine lv_aload_n hx hb dL_about_2 rfl (lv_at hl 0 rfl) ?_
  refine lv_iload_n hx hb dL_about_3 rfl (lv_at hl 1 rfl) ?_
  refine lv_iload_n hx hb dL_about_4 rfl (lv_at hl 2 rfl) ?_
  refine vx_calli (vx_runV (As := [.int its, .int wh]) (rest := [.int 0, .ref o]) ⟨hx, hb, hml, hown, hts⟩ (c_X2_about l9 hlt dC dI s.heap.size h ak ab af ka kb n p F its wh hI) (cwV 2 hts gL_about_X2_about rfl rfl rfl (by decide +kernel) ⟨Nat.le_of_ble_eq_true rfl, Nat.le_of_ble_eq_true rfl⟩) ⟨PWr.blind, va_recv (hK.sub (tys' := [(tK, .object "Windlane$Kite"), (tB, .object "Windlane$Borrower")]) [0, 1] rfl) (P_left hP) (ci := 2) (q0 := 0) rfl rfl, PWr.pre (P_left hP) (hK.sub (tys' := [(tK, .object "Windlane$Kite"), (tB, .object "Windlane$Borrower")]) [0, 1] rfl) (D_left hD) hE (hH.narrow (A_in (D_left hD) hS hA))⟩ rfl rfl hl.1 rfl (lv_room (Nat.le_of_ble_eq_true rfl)) dL_about_5 ⟨Nat.le_of_ble_eq_true rfl, Nat.le_of_ble_eq_true rfl⟩) hS (fun q _ hq => A_in (D_left hD) hS hA q hq) (A_in (D_left hD) hS hA) (fun _ _ z => z.elim) (fun E ce q9 u9 t9 H locs ht9 hvm hpx hBE hz1 hk1 hS hce hcv hcl => ?_) (fun r9 u9 t9 H locs ht9 hvm hw9 hB hz1 hk1 hS => ?_)
  · skip
    have hP : va_P (dC, dI) vwCl (cW tK tB h ak ab af ka kb n p F ++ oC1 cJ o f) H := hP.kept (fun k q hq => hk1 q.1 ((hP k q hq).lt) (fun z => z))
    rcases hBE with ⟨rfl, hth⟩ | ⟨rfl, hth⟩
    · skip
      refine vx_catch (own := RL) (name := "java/lang/IndexOutOfBoundsException") hown [] (⟨0, 10, 13, 21⟩ : ExceptionTableEntry) [(⟨0, 10, 17, 13⟩ : ExceptionTableEntry)] (by rw [htab]; rfl) (fun z hz => absurd hz List.not_mem_nil) (by decide) (by decide) (hts (.classLink RL 21 "java/lang/IndexOutOfBoundsException") (by decide +kernel)) (yc.use hE.2.1.2.2) hce hcv hcl ?_
      refine W.eq (g2 := F0 m 13 ls [.ref q9]) rfl ?_
      have hnz : (S_about n F its wh).1 ≠ 0 := by rw [hth]; decide
      refine lv_astore (lv' := [(4, .ref q9), (0, .ref h), (1, .int its), (2, .int wh), (3, .ref o)]) hx hb dL_about_13 hl (by decide) rfl (fun ls hl => ?_)
      refine lv_iconst (v := 1) hx hb dL_about_15 (by decide) ?_
      exact W.iret (v := 1) hx hb hr (fun t ht hW => lQ_mk ka kb f hth.symm (fun q => absurd q hnz) (by rw [ht]; exact hP) hD (hS.F ht)) hS.2.2 dL_about_16
    · skip
      refine vx_catch (own := RL) (name := "java/lang/IllegalArgumentException") hown [(⟨0, 10, 13, 21⟩ : ExceptionTableEntry)] (⟨0, 10, 17, 13⟩ : ExceptionTableEntry) [] (by rw [htab]; rfl) (fun z hz => by
            simp only [List.mem_cons, List.not_mem_nil, or_false] at hz
            subst hz
            exact Or.inr ⟨by decide, "java/lang/IndexOutOfBoundsException", hts (.classLink RL 21 "java/lang/IndexOutOfBoundsException") (by decide +kernel), hE.2.2.1.2.2⟩) (by decide) (by decide) (hts (.classLink RL 13 "java/lang/IllegalArgumentException") (by decide +kernel)) (yc.use hE.2.1.1) hce hcv hcl ?_
      refine W.eq (g2 := F0 m 17 ls [.ref q9]) rfl ?_
      have hnz : (S_about n F its wh).1 ≠ 0 := by rw [hth]; decide
      refine lv_astore (lv' := [(4, .ref q9), (0, .ref h), (1, .int its), (2, .int wh), (3, .ref o)]) hx hb dL_about_17 hl (by decide) rfl (fun ls hl => ?_)
      refine lv_iconst (v := 2) hx hb dL_about_19 (by decide) ?_
      exact W.iret (v := 2) hx hb hr (fun t ht hW => lQ_mk ka kb f hth.symm (fun q => absurd q hnz) (by rw [ht]; exact hP) hD (hS.F ht)) hS.2.2 dL_about_20
  · skip
    obtain ⟨hth, rfl⟩ := hw9
    obtain ⟨hP1, hD1⟩ := hB
    rw [ht9] at hP1
    obtain ⟨hP, hD⟩ := join_L hP hD hk1 (A_in (D_left hD) hS0 hA) hP1 hD1
    refine lv_i2l (v := ((S_about n F its wh).2).toInt64) hx hb dL_about_8 rfl ?_
    have hq0 := snoc_at (cW tK tB h ak ab af u9.1 u9.2 n p F) ((o, .inl (cJ, 1, .inr (.inl f))) : Nat × va_E)
    refine va_last hx hb hK hP hD hS _ 2 hq0 rfl (by unfold vp_in; decide) dL_about_9 (fun H locs hP hD hS => ?_)
    rw [snoc_set] at hP hD
    refine lv_goto (tgt := 21) hx hb dL_about_10 (by decide) ?_
    refine lv_iconst (v := 0) hx hb dL_about_21 (by decide) ?_
    exact W.iret (v := 0) hx hb hr (fun t ht hW => lQ_mk u9.1 u9.2 _ hth.symm (fun _ => rfl) (by rw [ht]; exact hP) hD (hS.F ht)) hS.2.2 dL_about_22

set_option maxHeartbeats 4000000 in
set_option maxRecDepth 100000 in
theorem c_L_lane (l9 : Launch) (hlt : l9.stackTraces = false) (dC : Nat → ClassId) (dI : Nat → Nat → Nat) (sz : Nat) {tK tB cJ : ClassId} (h ak ab af : Nat) (ka kb : Nat → Nat) (n p : Nat) (F : Rows) (o : Nat) (f : Nat → Int64) (ln : Int32) (hI : Inv n p F) : Met l9 yL_lane wsL_lane ({ frames := 7, cells := 1, slots := 6, locals := 104 }) (va_Pc [.ref h, .int ln, .ref o] (PWr dC dI [(tK, .object "Windlane$Kite"), (tB, .object "Windlane$Borrower"), (cJ, .long)] (cW tK tB h ak ab af ka kb n p F ++ oC1 cJ o f) sz)) (lQ dC dI tK tB cJ h ak ab af o (va_A (cW tK tB h ak ab af ka kb n p F ++ oC1 cJ o f) sz) n p F ((S_lane n F ln).1) ((S_lane n F ln).2)) 1 6 (va_A (cW tK tB h ak ab af ka kb n p F ++ oC1 cJ o f) sz) := by
  refine va_MetW (cc := cL_lane) (maxL := 4) (ret := (some .int)) (hh := [(0, 9, 12, 21)]) (by decide) rfl ?_
  intro p9 e9 s m args below meth c s₁ B hml hv
  obtain ⟨rfl, hsz, hP, hK, hD0, hE, hH⟩ := hv
  have hx := B.exec
  have hb := B.bytes
  have hr := B.returns
  have hts := atoms_spec (ws := wsL_lane) B.pre
  have htab := vx_table (x := yL_lane) B (hts _ List.mem_cons_self)
  have hown : s.vm.findClass RL = some m.cls := findClass_of_methodNamed B.named
  have hlocks := B.notSynchronized
  subst hsz
  have hD := hD0.self (sz := s.heap.size)
  generalize hAe : va_A (cW tK tB h ak ab af ka kb n p F ++ oC1 cJ o f) s.heap.size = A at hD hH ⊢
  have hA : ∀ q : Nat, s.heap.size ≤ q → A q := fun q h => by rw [← hAe]; exact Or.inr h
  have hS : va_S A s.heap s.heap [] := va_S.rf
  have hS0 := hS
  have hP : va_P (dC, dI) vwCl (cW tK tB h ak ab af ka kb n p F ++ oC1 cJ o f) s.heap := hP
  have hl := lv_entry ([.ref h, .int ln, .ref o]) (n := 4) (Nat.le_of_ble_eq_true rfl)
  rw [lg_entry_eq]
  generalize (lg_sl ([.ref h, .int ln, .ref o]) ++ List.replicate (4 - (lg_sl ([.ref h, .int ln, .ref o])).length) Slot.unset).toArray = ls at hl ⊢
  have hl : lv_has ls 4 [(0, .ref h), (1, .int ln), (2, .ref o)] := hl
  refine lv_aload_n hx hb dL_lane_0 rfl (lv_at hl 2 rfl) ?_
  refine lv_iconst (v := 0) hx hb dL_lane_1 (by decide) ?_
  refine lv_aload_n hx hb dL_lane_2 rfl (lv_at hl 0 rfl) ?_
  refine lv_iload_n hx hb dL_lane_3 rfl (lv_at hl 1 rfl) ?_
  refine vx_calli (vx_runV (As := [.int ln]) (rest := [.int 0, .ref o]) ⟨hx, hb, hml, hown, hts⟩ (c_X2_lane l9 hlt dC dI s.heap.size h ak ab af ka kb n p F ln hI) (cwV 1 hts gL_lane_X2_lane rfl rfl rfl (by decide +kernel) ⟨Nat.le_of_ble_eq_true rfl, Nat.le_of_ble_eq_true rfl⟩) ⟨PWr.blind, va_recv (hK.sub (tys' := [(tK, .object "Windlane$Kite"), (tB, .object "Windlane$Borrower")]) [0, 1] rfl) (P_left hP) (ci := 2) (q0 := 0) rfl rfl, PWr.pre (P_left hP) (hK.sub (tys' := [(tK, .object "Windlane$Kite"), (tB, .object "Windlane$Borrower")]) [0, 1] rfl) (D_left hD) hE (hH.narrow (A_in (D_left hD) hS hA))⟩ rfl rfl hl.1 rfl (lv_room (Nat.le_of_ble_eq_true rfl)) dL_lane_4 ⟨Nat.le_of_ble_eq_true rfl, Nat.le_of_ble_eq_true rfl⟩) hS (fun q _ hq => A_in (D_left hD) hS hA q hq) (A_in (D_left hD) hS hA) (fun _ _ z => z.elim) (fun E ce q9 u9 t9 H locs ht9 hvm hpx hBE hz1 hk1 hS hce hcv hcl => ?_) (fun r9 u9 t9 H locs ht9 hvm hw9 hB hz1 hk1 hS => ?_)
  · skip
    have hP : va_P (dC, dI) vwCl (cW tK tB h ak ab af ka kb n p F ++ oC1 cJ o f) H := hP.kept (fun k q hq => hk1 q.1 ((hP k q hq).lt) (fun z => z))
    obtain ⟨rfl, hth⟩ := hBE
    · skip
      refine vx_catch (own := RL) (name := "java/lang/IndexOutOfBoundsException") hown [] (⟨0, 9, 12, 21⟩ : ExceptionTableEntry) [] (by rw [htab]; rfl) (fun z hz => absurd hz List.not_mem_nil) (by decide) (by decide) (hts (.classLink RL 21 "java/lang/IndexOutOfBoundsException") (by decide +kernel)) (yc.use hE.2.1.2.2) hce hcv hcl ?_
      refine W.eq (g2 := F0 m 12 ls [.ref q9]) rfl ?_
      have hnz : (S_lane n F ln).1 ≠ 0 := by rw [hth]; decide
      refine lv_astore_n (lv' := [(3, .ref q9), (0, .ref h), (1, .int ln), (2, .ref o)]) hx hb dL_lane_12 rfl hl (by decide) rfl (fun ls hl => ?_)
      refine lv_iconst (v := 1) hx hb dL_lane_13 (by decide) ?_
      exact W.iret (v := 1) hx hb hr (fun t ht hW => lQ_mk ka kb f hth.symm (fun q => absurd q hnz) (by rw [ht]; exact hP) hD (hS.F ht)) hS.2.2 dL_lane_14
  · skip
    obtain ⟨hth, rfl⟩ := hw9
    obtain ⟨hP1, hD1⟩ := hB
    rw [ht9] at hP1
    obtain ⟨hP, hD⟩ := join_L hP hD hk1 (A_in (D_left hD) hS0 hA) hP1 hD1
    refine lv_i2l (v := ((S_lane n F ln).2).toInt64) hx hb dL_lane_7 rfl ?_
    have hq0 := snoc_at (cW tK tB h ak ab af u9.1 u9.2 n p F) ((o, .inl (cJ, 1, .inr (.inl f))) : Nat × va_E)
    refine va_last hx hb hK hP hD hS _ 2 hq0 rfl (by unfold vp_in; decide) dL_lane_8 (fun H locs hP hD hS => ?_)
    rw [snoc_set] at hP hD
    refine lv_goto (tgt := 15) hx hb dL_lane_9 (by decide) ?_
    refine lv_iconst (v := 0) hx hb dL_lane_15 (by decide) ?_
    exact W.iret (v := 0) hx hb hr (fun t ht hW => lQ_mk u9.1 u9.2 _ hth.symm (fun _ => rfl) (by rw [ht]; exact hP) hD (hS.F ht)) hS.2.2 dL_lane_16
