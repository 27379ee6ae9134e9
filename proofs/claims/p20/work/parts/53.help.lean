/-! ===== the law's own calls of the class ===== -/
def hQ (dC : Nat → ClassId) (dI : Nat → Nat → Nat) (tK tB : ClassId) (h ak ab af : Nat) (A : Nat → Prop) (n p : Nat) (F : Rows) (th ans bad : Int32) : Array Value → State → Outcome → State → Prop := va_Qi (S := (Nat → Nat) × (Nat → Nat)) (fun r9 _ => r9 = if th = 0 then ans else bad) (fun u t => va_P (dC, dI) vwCl (cW tK tB h ak ab af u.1 u.2 n p F) t.heap ∧ va_D A (cW tK tB h ak ab af u.1 u.2 n p F)) A
theorem hQ_mk {dC : Nat → ClassId} {dI : Nat → Nat → Nat} {tK tB : ClassId} {h ak ab af : Nat} {A : Nat → Prop} {n p : Nat} {F : Rows} {th ans bad v : Int32} {as : Array Value} {st t : State} (ka kb : Nat → Nat) (h1 : v = if th = 0 then ans else bad) (h3 : va_P (dC, dI) vwCl (cW tK tB h ak ab af ka kb n p F) t.heap) (h4 : va_D A (cW tK tB h ak ab af ka kb n p F)) (h5 : va_F A st t) : hQ dC dI tK tB h ak ab af A n p F th ans bad as st (.returned (some (.int v))) t := ⟨⟨v, (ka, kb), rfl, h1, h3, h4⟩, h5⟩
theorem K_kite {n : Nat} {F : Rows} {kd ar wt : Int32} : (S_kite n F kd ar wt).1 ≠ 0 → (S_kite n F kd ar wt).2.2 = (n, F) := by
  unfold S_kite; split <;> (try split) <;> intro h <;> first | rfl | exact absurd rfl h
theorem K_patch {n : Nat} {F : Rows} {its : Int32} : (S_patch n F its).1 ≠ 0 → (S_patch n F its).2.2 = F := by
  unfold S_patch; split <;> (try split) <;> intro h <;> first | rfl | exact absurd rfl h
theorem K_borrower {p : Nat} {F : Rows} {sk : Int32} : (S_borrower p F sk).1 ≠ 0 → (S_borrower p F sk).2.2 = (p, F) := by
  unfold S_borrower; split <;> (try split) <;> intro h <;> first | rfl | exact absurd rfl h
theorem K_lend {n p : Nat} {F : Rows} {its b : Int32} : (S_lend n p F its b).1 ≠ 0 → (S_lend n p F its b).2 = F := by
  unfold S_lend; split <;> (try split) <;> (try split) <;> intro h <;> first | rfl | exact absurd rfl h
theorem K_giveBack {n p : Nat} {F : Rows} {b : Int32} : (S_giveBack n p F b).1 ≠ 0 → (S_giveBack n p F b).2.2 = F := by
  unfold S_giveBack; split <;> (try split) <;> (try split) <;> intro h <;> first | rfl | exact absurd rfl h
theorem K_fly {n : Nat} {F : Rows} {its ln len : Int32} : (S_fly n F its ln len).1 ≠ 0 → (S_fly n F its ln len).2.2 = F := by
  unfold S_fly; split <;> (try split) <;> (try split) <;> (try split) <;> intro h <;> first | rfl | exact absurd rfl h
theorem K_land {n : Nat} {F : Rows} {its : Int32} : (S_land n F its).1 ≠ 0 → (S_land n F its).2.2 = F := by
  unfold S_land; split <;> (try split) <;> intro h <;> first | rfl | exact absurd rfl h

set_option maxHeartbeats 4000000 in
set_option maxRecDepth 100000 in
theorem c_L_kites (l9 : Launch) (hlt : l9.stackTraces = false) (dC : Nat → ClassId) (dI : Nat → Nat → Nat) (sz : Nat) {tK tB : ClassId} (h ak ab af : Nat) (ka kb : Nat → Nat) (n p : Nat) (F : Rows) (kd ar wt : Int32) (hI : Inv n p F) (hok : (S_kite n F kd ar wt).1 ≠ 1) : Met l9 yL_kites wsL_kites ({ frames := 7, cells := 1, slots := 9, locals := 106 }) (va_Pc [.ref h, .int kd, .int ar, .int wt] (PWr dC dI [(tK, .object "Windlane$Kite"), (tB, .object "Windlane$Borrower")] (cW tK tB h ak ab af ka kb n p F) sz)) (hQ dC dI tK tB h ak ab af (va_A (cW tK tB h ak ab af ka kb n p F) sz) ((S_kite n F kd ar wt).2.2.1) p ((S_kite n F kd ar wt).2.2.2) ((S_kite n F kd ar wt).1) ((S_kite n F kd ar wt).2.1) (-2)) 1 9 (va_A (cW tK tB h ak ab af ka kb n p F) sz) := by
  refine va_MetW (cc := cL_kites) (maxL := 5) (ret := (some .int)) (hh := [(0, 7, 8, 16)]) (by decide) rfl ?_
  intro p9 e9 s m args below meth c s₁ B hml hv
  obtain ⟨rfl, hsz, hP, hK, hD0, hE, hH⟩ := hv
  have hx := B.exec
  have hb := B.bytes
  have hr := B.returns
  have hts := atoms_spec (ws := wsL_kites) B.pre
  have htab := vx_table (x := yL_kites) B (hts _ List.mem_cons_self)
  have hown : s.vm.findClass RL = some m.cls := findClass_of_methodNamed B.named
  have hlocks := B.notSynchronized
  subst hsz
  have hD := hD0.self (sz := s.heap.size)
  generalize hAe : va_A (cW tK tB h ak ab af ka kb n p F) s.heap.size = A at hD hH ⊢
  have hA : ∀ q : Nat, s.heap.size ≤ q → A q := fun q h => by rw [← hAe]; exact Or.inr h
  have hS : va_S A s.heap s.heap [] := va_S.rf
  have hS0 := hS
  have hP : va_P (dC, dI) vwCl (cW tK tB h ak ab af ka kb n p F) s.heap := hP
  have hl := lv_entry ([.ref h, .int kd, .int ar, .int wt]) (n := 5) (Nat.le_of_ble_eq_true rfl)
  rw [lg_entry_eq]
  generalize (lg_sl ([.ref h, .int kd, .int ar, .int wt]) ++ List.replicate (5 - (lg_sl ([.ref h, .int kd, .int ar, .int wt])).length) Slot.unset).toArray = ls at hl ⊢
  have hl : lv_has ls 5 [(0, .ref h), (1, .int kd), (2, .int ar), (3, .int wt)] := hl
  refine lv_aload_n hx hb dL_kites_0 rfl (lv_at hl 0 rfl) ?_
  refine lv_iload_n hx hb dL_kites_1 rfl (lv_at hl 1 rfl) ?_
  refine lv_iload_n hx hb dL_kites_2 rfl (lv_at hl 2 rfl) ?_
  refine lv_iload_n hx hb dL_kites_3 rfl (lv_at hl 3 rfl) ?_
  refine vx_calli (vx_runV (As := [.int kd, .int ar, .int wt]) (rest := []) ⟨hx, hb, hml, hown, hts⟩ (c_X2_kite l9 hlt dC dI s.heap.size h ak ab af ka kb n p F kd ar wt hI) (cwV 3 hts gL_kites_X2_kite rfl rfl rfl (by decide +kernel) ⟨Nat.le_of_ble_eq_true rfl, Nat.le_of_ble_eq_true rfl⟩) ⟨PWr.blind, va_recv hK hP (ci := 2) (q0 := 0) rfl rfl, PWr.pre hP hK hD hE (hH.narrow (A_in hD hS hA))⟩ rfl rfl hl.1 rfl (lv_room (Nat.le_of_ble_eq_true rfl)) dL_kites_4 ⟨Nat.le_of_ble_eq_true rfl, Nat.le_of_ble_eq_true rfl⟩) hS (fun q _ hq => A_in hD hS hA q hq) (A_in hD hS hA) (fun _ _ z => z.elim) (fun E ce q9 u9 t9 H locs ht9 hvm hpx hBE hz1 hk1 hS hce hcv hcl => ?_) (fun r9 u9 t9 H locs ht9 hvm hw9 hB hz1 hk1 hS => ?_)
  · skip
    have hP : va_P (dC, dI) vwCl (cW tK tB h ak ab af ka kb n p F) H := hP.kept (fun k q hq => hk1 q.1 ((hP k q hq).lt) (fun z => z))
    rcases hBE with ⟨rfl, hth⟩ | ⟨rfl, hth⟩
    · skip
      exact absurd hth hok
    · skip
      refine vx_catch (own := RL) (name := "java/lang/IllegalStateException") hown [] (⟨0, 7, 8, 16⟩ : ExceptionTableEntry) [] (by rw [htab]; rfl) (fun z hz => absurd hz List.not_mem_nil) (by decide) (by decide) (hts (.classLink RL 16 "java/lang/IllegalStateException") (by decide +kernel)) (yc.use hE.2.1.2.1) hce hcv hcl ?_
      refine W.eq (g2 := F0 m 8 ls [.ref q9]) rfl ?_
      have hnz : (S_kite n F kd ar wt).1 ≠ 0 := by rw [hth]; decide
      refine lv_astore (lv' := [(4, .ref q9), (0, .ref h), (1, .int kd), (2, .int ar), (3, .int wt)]) hx hb dL_kites_8 hl (by decide) rfl (fun ls hl => ?_)
      refine lv_bipush (v := (-2)) hx hb dL_kites_10 (by decide) ?_
      have ek := K_kite hnz
      exact W.iret (v := (-2)) hx hb hr (fun t ht hW => hQ_mk ka kb (if_neg hnz).symm (by rw [ek, ht]; exact hP) (by rw [ek]; exact hD) (hS.F ht)) hS.2.2 dL_kites_12
  · skip
    obtain ⟨hth, rfl⟩ := hw9
    obtain ⟨hP1, hD1⟩ := hB
    rw [ht9] at hP1
    have hP := hP1
    have hD := hD1.weaken (fun k q _ z => A_in hD hS0 hA q.1 z)
    exact W.iret (v := (S_kite n F kd ar wt).2.1) hx hb hr (fun t ht hW => hQ_mk u9.1 u9.2 (if_pos hth).symm (by rw [ht]; exact hP) hD (hS.F ht)) hS.2.2 dL_kites_7

set_option maxHeartbeats 4000000 in
set_option maxRecDepth 100000 in
theorem c_L_borrowers (l9 : Launch) (hlt : l9.stackTraces = false) (dC : Nat → ClassId) (dI : Nat → Nat → Nat) (sz : Nat) {tK tB : ClassId} (h ak ab af : Nat) (ka kb : Nat → Nat) (n p : Nat) (F : Rows) (sk : Int32) (hI : Inv n p F) (hok : (S_borrower p F sk).1 ≠ 1) : Met l9 yL_borrowers wsL_borrowers ({ frames := 7, cells := 1, slots := 6, locals := 104 }) (va_Pc [.ref h, .int sk] (PWr dC dI [(tK, .object "Windlane$Kite"), (tB, .object "Windlane$Borrower")] (cW tK tB h ak ab af ka kb n p F) sz)) (hQ dC dI tK tB h ak ab af (va_A (cW tK tB h ak ab af ka kb n p F) sz) n ((S_borrower p F sk).2.2.1) ((S_borrower p F sk).2.2.2) ((S_borrower p F sk).1) ((S_borrower p F sk).2.1) (-2)) 1 6 (va_A (cW tK tB h ak ab af ka kb n p F) sz) := by
  refine va_MetW (cc := cL_borrowers) (maxL := 3) (ret := (some .int)) (hh := [(0, 5, 6, 16)]) (by decide) rfl ?_
  intro p9 e9 s m args below meth c s₁ B hml hv
  obtain ⟨rfl, hsz, hP, hK, hD0, hE, hH⟩ := hv
  have hx := B.exec
  have hb := B.bytes
  have hr := B.returns
  have hts := atoms_spec (ws := wsL_borrowers) B.pre
  have htab := vx_table (x := yL_borrowers) B (hts _ List.mem_cons_self)
  have hown : s.vm.findClass RL = some m.cls := findClass_of_methodNamed B.named
  have hlocks := B.notSynchronized
  subst hsz
  have hD := hD0.self (sz := s.heap.size)
  generalize hAe : va_A (cW tK tB h ak ab af ka kb n p F) s.heap.size = A at hD hH ⊢
  have hA : ∀ q : Nat, s.heap.size ≤ q → A q := fun q h => by rw [← hAe]; exact Or.inr h
  have hS : va_S A s.heap s.heap [] := va_S.rf
  have hS0 := hS
  have hP : va_P (dC, dI) vwCl (cW tK tB h ak ab af ka kb n p F) s.heap := hP
  have hl := lv_entry ([.ref h, .int sk]) (n := 3) (Nat.le_of_ble_eq_true rfl)
  rw [lg_entry_eq]
  generalize (lg_sl ([.ref h, .int sk]) ++ List.replicate (3 - (lg_sl ([.ref h, .int sk])).length) Slot.unset).toArray = ls at hl ⊢
  have hl : lv_has ls 3 [(0, .ref h), (1, .int sk)] := hl
  refine lv_aload_n hx hb dL_borrowers_0 rfl (lv_at hl 0 rfl) ?_
  refine lv_iload_n hx hb dL_borrowers_1 rfl (lv_at hl 1 rfl) ?_
  refine vx_calli (vx_runV (As := [.int sk]) (rest := []) ⟨hx, hb, hml, hown, hts⟩ (c_X2_borrower l9 hlt dC dI s.heap.size h ak ab af ka kb n p F sk hI) (cwV 1 hts gL_borrowers_X2_borrower rfl rfl rfl (by decide +kernel) ⟨Nat.le_of_ble_eq_true rfl, Nat.le_of_ble_eq_true rfl⟩) ⟨PWr.blind, va_recv hK hP (ci := 2) (q0 := 0) rfl rfl, PWr.pre hP hK hD hE (hH.narrow (A_in hD hS hA))⟩ rfl rfl hl.1 rfl (lv_room (Nat.le_of_ble_eq_true rfl)) dL_borrowers_2 ⟨Nat.le_of_ble_eq_true rfl, Nat.le_of_ble_eq_true rfl⟩) hS (fun q _ hq => A_in hD hS hA q hq) (A_in hD hS hA) (fun _ _ z => z.elim) (fun E ce q9 u9 t9 H locs ht9 hvm hpx hBE hz1 hk1 hS hce hcv hcl => ?_) (fun r9 u9 t9 H locs ht9 hvm hw9 hB hz1 hk1 hS => ?_)
  · skip
    have hP : va_P (dC, dI) vwCl (cW tK tB h ak ab af ka kb n p F) H := hP.kept (fun k q hq => hk1 q.1 ((hP k q hq).lt) (fun z => z))
    rcases hBE with ⟨rfl, hth⟩ | ⟨rfl, hth⟩
    · skip
      exact absurd hth hok
    · skip
      refine vx_catch (own := RL) (name := "java/lang/IllegalStateException") hown [] (⟨0, 5, 6, 16⟩ : ExceptionTableEntry) [] (by rw [htab]; rfl) (fun z hz => absurd hz List.not_mem_nil) (by decide) (by decide) (hts (.classLink RL 16 "java/lang/IllegalStateException") (by decide +kernel)) (yc.use hE.2.1.2.1) hce hcv hcl ?_
      refine W.eq (g2 := F0 m 6 ls [.ref q9]) rfl ?_
      have hnz : (S_borrower p F sk).1 ≠ 0 := by rw [hth]; decide
      refine lv_astore_n (lv' := [(2, .ref q9), (0, .ref h), (1, .int sk)]) hx hb dL_borrowers_6 rfl hl (by decide) rfl (fun ls hl => ?_)
      refine lv_bipush (v := (-2)) hx hb dL_borrowers_7 (by decide) ?_
      have ek := K_borrower hnz
      exact W.iret (v := (-2)) hx hb hr (fun t ht hW => hQ_mk ka kb (if_neg hnz).symm (by rw [ek, ht]; exact hP) (by rw [ek]; exact hD) (hS.F ht)) hS.2.2 dL_borrowers_9
  · skip
    obtain ⟨hth, rfl⟩ := hw9
    obtain ⟨hP1, hD1⟩ := hB
    rw [ht9] at hP1
    have hP := hP1
    have hD := hD1.weaken (fun k q _ z => A_in hD hS0 hA q.1 z)
    exact W.iret (v := (S_borrower p F sk).2.1) hx hb hr (fun t ht hW => hQ_mk u9.1 u9.2 (if_pos hth).symm (by rw [ht]; exact hP) hD (hS.F ht)) hS.2.2 dL_borrowers_5

set_option maxHeartbeats 4000000 in
set_option maxRecDepth 100000 in
theorem c_L_patches (l9 : Launch) (hlt : l9.stackTraces = false) (dC : Nat → ClassId) (dI : Nat → Nat → Nat) (sz : Nat) {tK tB : ClassId} (h ak ab af : Nat) (ka kb : Nat → Nat) (n p : Nat) (F : Rows) (its : Int32) (hI : Inv n p F) (hok : (S_patch n F its).1 ≠ 1) : Met l9 yL_patches wsL_patches ({ frames := 8, cells := 2, slots := 12, locals := 126 }) (va_Pc [.ref h, .int its] (PWr dC dI [(tK, .object "Windlane$Kite"), (tB, .object "Windlane$Borrower")] (cW tK tB h ak ab af ka kb n p F) sz)) (hQ dC dI tK tB h ak ab af (va_A (cW tK tB h ak ab af ka kb n p F) sz) n p ((S_patch n F its).2.2) ((S_patch n F its).1) ((S_patch n F its).2.1) (-2)) 2 12 (va_A (cW tK tB h ak ab af ka kb n p F) sz) := by
  refine va_MetW (cc := cL_patches) (maxL := 3) (ret := (some .int)) (hh := [(0, 5, 6, 16)]) (by decide) rfl ?_
  intro p9 e9 s m args below meth c s₁ B hml hv
  obtain ⟨rfl, hsz, hP, hK, hD0, hE, hH⟩ := hv
  have hx := B.exec
  have hb := B.bytes
  have hr := B.returns
  have hts := atoms_spec (ws := wsL_patches) B.pre
  have htab := vx_table (x := yL_patches) B (hts _ List.mem_cons_self)
  have hown : s.vm.findClass RL = some m.cls := findClass_of_methodNamed B.named
  have hlocks := B.notSynchronized
  subst hsz
  have hD := hD0.self (sz := s.heap.size)
  generalize hAe : va_A (cW tK tB h ak ab af ka kb n p F) s.heap.size = A at hD hH ⊢
  have hA : ∀ q : Nat, s.heap.size ≤ q → A q := fun q h => by rw [← hAe]; exact Or.inr h
  have hS : va_S A s.heap s.heap [] := va_S.rf
  have hS0 := hS
  have hP : va_P (dC, dI) vwCl (cW tK tB h ak ab af ka kb n p F) s.heap := hP
  have hl := lv_entry ([.ref h, .int its]) (n := 3) (Nat.le_of_ble_eq_true rfl)
  rw [lg_entry_eq]
  generalize (lg_sl ([.ref h, .int its]) ++ List.replicate (3 - (lg_sl ([.ref h, .int its])).length) Slot.unset).toArray = ls at hl ⊢
  have hl : lv_has ls 3 [(0, .ref h), (1, .int its)] := hl
  refine lv_aload_n hx hb dL_patches_0 rfl (lv_at hl 0 rfl) ?_
  refine lv_iload_n hx hb dL_patches_1 rfl (lv_at hl 1 rfl) ?_
  refine vx_calli (vx_runV (As := [.int its]) (rest := []) ⟨hx, hb, hml, hown, hts⟩ (c_X2_patch l9 hlt dC dI s.heap.size h ak ab af ka kb n p F its hI) (cwV 1 hts gL_patches_X2_patch rfl rfl rfl (by decide +kernel) ⟨Nat.le_of_ble_eq_true rfl, Nat.le_of_ble_eq_true rfl⟩) ⟨PWr.blind, va_recv hK hP (ci := 2) (q0 := 0) rfl rfl, PWr.pre hP hK hD hE (hH.narrow (A_in hD hS hA))⟩ rfl rfl hl.1 rfl (lv_room (Nat.le_of_ble_eq_true rfl)) dL_patches_2 ⟨Nat.le_of_ble_eq_true rfl, Nat.le_of_ble_eq_true rfl⟩) hS (fun q _ hq => A_in hD hS hA q hq) (A_in hD hS hA) (fun _ _ z => z.elim) (fun E ce q9 u9 t9 H locs ht9 hvm hpx hBE hz1 hk1 hS hce hcv hcl => ?_) (fun r9 u9 t9 H locs ht9 hvm hw9 hB hz1 hk1 hS => ?_)
  · skip
    have hP : va_P (dC, dI) vwCl (cW tK tB h ak ab af ka kb n p F) H := hP.kept (fun k q hq => hk1 q.1 ((hP k q hq).lt) (fun z => z))
    rcases hBE with ⟨rfl, hth⟩ | ⟨rfl, hth⟩
    · skip
      exact absurd hth hok
    · skip
      refine vx_catch (own := RL) (name := "java/lang/IllegalStateException") hown [] (⟨0, 5, 6, 16⟩ : ExceptionTableEntry) [] (by rw [htab]; rfl) (fun z hz => absurd hz List.not_mem_nil) (by decide) (by decide) (hts (.classLink RL 16 "java/lang/IllegalStateException") (by decide +kernel)) (yc.use hE.2.1.2.1) hce hcv hcl ?_
      refine W.eq (g2 := F0 m 6 ls [.ref q9]) rfl ?_
      have hnz : (S_patch n F its).1 ≠ 0 := by rw [hth]; decide
      refine lv_astore_n (lv' := [(2, .ref q9), (0, .ref h), (1, .int its)]) hx hb dL_patches_6 rfl hl (by decide) rfl (fun ls hl => ?_)
      refine lv_bipush (v := (-2)) hx hb dL_patches_7 (by decide) ?_
      have ek := K_patch hnz
      exact W.iret (v := (-2)) hx hb hr (fun t ht hW => hQ_mk ka kb (if_neg hnz).symm (by rw [ek, ht]; exact hP) (by rw [ek]; exact hD) (hS.F ht)) hS.2.2 dL_patches_9
  · skip
    obtain ⟨hth, rfl⟩ := hw9
    obtain ⟨hP1, hD1⟩ := hB
    rw [ht9] at hP1
    have hP := hP1
    have hD := hD1.weaken (fun k q _ z => A_in hD hS0 hA q.1 z)
    exact W.iret (v := (S_patch n F its).2.1) hx hb hr (fun t ht hW => hQ_mk u9.1 u9.2 (if_pos hth).symm (by rw [ht]; exact hP) hD (hS.F ht)) hS.2.2 dL_patches_5

set_option maxHeartbeats 4000000 in
set_option maxRecDepth 100000 in
theorem c_L_lends (l9 : Launch) (hlt : l9.stackTraces = false) (dC : Nat → ClassId) (dI : Nat → Nat → Nat) (sz : Nat) {tK tB : ClassId} (h ak ab af : Nat) (ka kb : Nat → Nat) (n p : Nat) (F : Rows) (its b : Int32) (hI : Inv n p F) (hok : (S_lend n p F its b).1 ≠ 1) : Met l9 yL_lends wsL_lends ({ frames := 8, cells := 3, slots := 18, locals := 128 }) (va_Pc [.ref h, .int its, .int b] (PWr dC dI [(tK, .object "Windlane$Kite"), (tB, .object "Windlane$Borrower")] (cW tK tB h ak ab af ka kb n p F) sz)) (hQ dC dI tK tB h ak ab af (va_A (cW tK tB h ak ab af ka kb n p F) sz) n p ((S_lend n p F its b).2) ((S_lend n p F its b).1) 0 (-2)) 3 18 (va_A (cW tK tB h ak ab af ka kb n p F) sz) := by
  refine va_MetW (cc := cL_lends) (maxL := 4) (ret := (some .int)) (hh := [(0, 7, 8, 16)]) (by decide) rfl ?_
  intro p9 e9 s m args below meth c s₁ B hml hv
  obtain ⟨rfl, hsz, hP, hK, hD0, hE, hH⟩ := hv
  have hx := B.exec
  have hb := B.bytes
  have hr := B.returns
  have hts := atoms_spec (ws := wsL_lends) B.pre
  have htab := vx_table (x := yL_lends) B (hts _ List.mem_cons_self)
  have hown : s.vm.findClass RL = some m.cls := findClass_of_methodNamed B.named
  have hlocks := B.notSynchronized
  subst hsz
  have hD := hD0.self (sz := s.heap.size)
  generalize hAe : va_A (cW tK tB h ak ab af ka kb n p F) s.heap.size = A at hD hH ⊢
  have hA : ∀ q : Nat, s.heap.size ≤ q → A q := fun q h => by rw [← hAe]; exact Or.inr h
  have hS : va_S A s.heap s.heap [] := va_S.rf
  have hS0 := hS
  have hP : va_P (dC, dI) vwCl (cW tK tB h ak ab af ka kb n p F) s.heap := hP
  have hl := lv_entry ([.ref h, .int its, .int b]) (n := 4) (Nat.le_of_ble_eq_true rfl)
  rw [lg_entry_eq]
  generalize (lg_sl ([.ref h, .int its, .int b]) ++ List.replicate (4 - (lg_sl ([.ref h, .int its, .int b])).length) Slot.unset).toArray = ls at hl ⊢
  have hl : lv_has ls 4 [(0, .ref h), (1, .int its), (2, .int b)] := hl
  refine lv_aload_n hx hb dL_lends_0 rfl (lv_at hl 0 rfl) ?_
  refine lv_iload_n hx hb dL_lends_1 rfl (lv_at hl 1 rfl) ?_
  refine lv_iload_n hx hb dL_lends_2 rfl (lv_at hl 2 rfl) ?_
  refine vx_callv (vx_runV (As := [.int its, .int b]) (rest := []) ⟨hx, hb, hml, hown, hts⟩ (c_X2_lend l9 hlt dC dI s.heap.size h ak ab af ka kb n p F its b hI) (cwV 2 hts gL_lends_X2_lend rfl rfl rfl (by decide +kernel) ⟨Nat.le_of_ble_eq_true rfl, Nat.le_of_ble_eq_true rfl⟩) ⟨PWr.blind, va_recv hK hP (ci := 2) (q0 := 0) rfl rfl, PWr.pre hP hK hD hE (hH.narrow (A_in hD hS hA))⟩ rfl rfl hl.1 rfl (lv_room (Nat.le_of_ble_eq_true rfl)) dL_lends_3 ⟨Nat.le_of_ble_eq_true rfl, Nat.le_of_ble_eq_true rfl⟩) hS (fun q _ hq => A_in hD hS hA q hq) (A_in hD hS hA) (fun _ _ z => z.elim) (fun E ce q9 u9 t9 H locs ht9 hvm hpx hBE hz1 hk1 hS hce hcv hcl => ?_) (fun u9 t9 H locs ht9 hvm hw9 hB hz1 hk1 hS => ?_)
  · skip
    have hP : va_P (dC, dI) vwCl (cW tK tB h ak ab af ka kb n p F) H := hP.kept (fun k q hq => hk1 q.1 ((hP k q hq).lt) (fun z => z))
    rcases hBE with ⟨rfl, hth⟩ | ⟨rfl, hth⟩
    · skip
      exact absurd hth hok
    · skip
      refine vx_catch (own := RL) (name := "java/lang/IllegalStateException") hown [] (⟨0, 7, 8, 16⟩ : ExceptionTableEntry) [] (by rw [htab]; rfl) (fun z hz => absurd hz List.not_mem_nil) (by decide) (by decide) (hts (.classLink RL 16 "java/lang/IllegalStateException") (by decide +kernel)) (yc.use hE.2.1.2.1) hce hcv hcl ?_
      refine W.eq (g2 := F0 m 8 ls [.ref q9]) rfl ?_
      have hnz : (S_lend n p F its b).1 ≠ 0 := by rw [hth]; decide
      refine lv_astore_n (lv' := [(3, .ref q9), (0, .ref h), (1, .int its), (2, .int b)]) hx hb dL_lends_8 rfl hl (by decide) rfl (fun ls hl => ?_)
      refine lv_bipush (v := (-2)) hx hb dL_lends_9 (by decide) ?_
      have ek := K_lend hnz
      exact W.iret (v := (-2)) hx hb hr (fun t ht hW => hQ_mk ka kb (if_neg hnz).symm (by rw [ek, ht]; exact hP) (by rw [ek]; exact hD) (hS.F ht)) hS.2.2 dL_lends_11
  · skip
    have hth := hw9
    obtain ⟨hP1, hD1⟩ := hB
    rw [ht9] at hP1
    have hP := hP1
    have hD := hD1.weaken (fun k q _ z => A_in hD hS0 hA q.1 z)
    refine lv_iconst (v := 0) hx hb dL_lends_6 (by decide) ?_
    exact W.iret (v := 0) hx hb hr (fun t ht hW => hQ_mk u9.1 u9.2 (if_pos hth).symm (by rw [ht]; exact hP) hD (hS.F ht)) hS.2.2 dL_lends_7

set_option maxHeartbeats 4000000 in
set_option maxRecDepth 100000 in
theorem c_L_backs (l9 : Launch) (hlt : l9.stackTraces = false) (dC : Nat → ClassId) (dI : Nat → Nat → Nat) (sz : Nat) {tK tB : ClassId} (h ak ab af : Nat) (ka kb : Nat → Nat) (n p : Nat) (F : Rows) (b : Int32) (hI : Inv n p F) (hok : (S_giveBack n p F b).1 ≠ 1) : Met l9 yL_backs wsL_backs ({ frames := 8, cells := 2, slots := 12, locals := 127 }) (va_Pc [.ref h, .int b] (PWr dC dI [(tK, .object "Windlane$Kite"), (tB, .object "Windlane$Borrower")] (cW tK tB h ak ab af ka kb n p F) sz)) (hQ dC dI tK tB h ak ab af (va_A (cW tK tB h ak ab af ka kb n p F) sz) n p ((S_giveBack n p F b).2.2) ((S_giveBack n p F b).1) ((S_giveBack n p F b).2.1) (-2)) 2 12 (va_A (cW tK tB h ak ab af ka kb n p F) sz) := by
  refine va_MetW (cc := cL_backs) (maxL := 3) (ret := (some .int)) (hh := [(0, 5, 6, 16)]) (by decide) rfl ?_
  intro p9 e9 s m args below meth c s₁ B hml hv
  obtain ⟨rfl, hsz, hP, hK, hD0, hE, hH⟩ := hv
  have hx := B.exec
  have hb := B.bytes
  have hr := B.returns
  have hts := atoms_spec (ws := wsL_backs) B.pre
  have htab := vx_table (x := yL_backs) B (hts _ List.mem_cons_self)
  have hown : s.vm.findClass RL = some m.cls := findClass_of_methodNamed B.named
  have hlocks := B.notSynchronized
  subst hsz
  have hD := hD0.self (sz := s.heap.size)
  generalize hAe : va_A (cW tK tB h ak ab af ka kb n p F) s.heap.size = A at hD hH ⊢
  have hA : ∀ q : Nat, s.heap.size ≤ q → A q := fun q h => by rw [← hAe]; exact Or.inr h
  have hS : va_S A s.heap s.heap [] := va_S.rf
  have hS0 := hS
  have hP : va_P (dC, dI) vwCl (cW tK tB h ak ab af ka kb n p F) s.heap := hP
  have hl := lv_entry ([.ref h, .int b]) (n := 3) (Nat.le_of_ble_eq_true rfl)
  rw [lg_entry_eq]
  generalize (lg_sl ([.ref h, .int b]) ++ List.replicate (3 - (lg_sl ([.ref h, .int b])).length) Slot.unset).toArray = ls at hl ⊢
  have hl : lv_has ls 3 [(0, .ref h), (1, .int b)] := hl
  refine lv_aload_n hx hb dL_backs_0 rfl (lv_at hl 0 rfl) ?_
  refine lv_iload_n hx hb dL_backs_1 rfl (lv_at hl 1 rfl) ?_
  refine vx_calli (vx_runV (As := [.int b]) (rest := []) ⟨hx, hb, hml, hown, hts⟩ (c_X2_giveBack l9 hlt dC dI s.heap.size h ak ab af ka kb n p F b hI) (cwV 1 hts gL_backs_X2_giveBack rfl rfl rfl (by decide +kernel) ⟨Nat.le_of_ble_eq_true rfl, Nat.le_of_ble_eq_true rfl⟩) ⟨PWr.blind, va_recv hK hP (ci := 2) (q0 := 0) rfl rfl, PWr.pre hP hK hD hE (hH.narrow (A_in hD hS hA))⟩ rfl rfl hl.1 rfl (lv_room (Nat.le_of_ble_eq_true rfl)) dL_backs_2 ⟨Nat.le_of_ble_eq_true rfl, Nat.le_of_ble_eq_true rfl⟩) hS (fun q _ hq => A_in hD hS hA q hq) (A_in hD hS hA) (fun _ _ z => z.elim) (fun E ce q9 u9 t9 H locs ht9 hvm hpx hBE hz1 hk1 hS hce hcv hcl => ?_) (fun r9 u9 t9 H locs ht9 hvm hw9 hB hz1 hk1 hS => ?_)
  · skip
    have hP : va_P (dC, dI) vwCl (cW tK tB h ak ab af ka kb n p F) H := hP.kept (fun k q hq => hk1 q.1 ((hP k q hq).lt) (fun z => z))
    rcases hBE with ⟨rfl, hth⟩ | ⟨rfl, hth⟩
    · skip
      exact absurd hth hok
    · skip
      refine vx_catch (own := RL) (name := "java/lang/IllegalStateException") hown [] (⟨0, 5, 6, 16⟩ : ExceptionTableEntry) [] (by rw [htab]; rfl) (fun z hz => absurd hz List.not_mem_nil) (by decide) (by decide) (hts (.classLink RL 16 "java/lang/IllegalStateException") (by decide +kernel)) (yc.use hE.2.1.2.1) hce hcv hcl ?_
      refine W.eq (g2 := F0 m 6 ls [.ref q9]) rfl ?_
      have hnz : (S_giveBack n p F b).1 ≠ 0 := by rw [hth]; decide
      refine lv_astore_n (lv' := [(2, .ref q9), (0, .ref h), (1, .int b)]) hx hb dL_backs_6 rfl hl (by decide) rfl (fun ls hl => ?_)
      refine lv_bipush (v := (-2)) hx hb dL_backs_7 (by decide) ?_
      have ek := K_giveBack hnz
      exact W.iret (v := (-2)) hx hb hr (fun t ht hW => hQ_mk ka kb (if_neg hnz).symm (by rw [ek, ht]; exact hP) (by rw [ek]; exact hD) (hS.F ht)) hS.2.2 dL_backs_9
  · skip
    obtain ⟨hth, rfl⟩ := hw9
    obtain ⟨hP1, hD1⟩ := hB
    rw [ht9] at hP1
    have hP := hP1
    have hD := hD1.weaken (fun k q _ z => A_in hD hS0 hA q.1 z)
    exact W.iret (v := (S_giveBack n p F b).2.1) hx hb hr (fun t ht hW => hQ_mk u9.1 u9.2 (if_pos hth).symm (by rw [ht]; exact hP) hD (hS.F ht)) hS.2.2 dL_backs_5

set_option maxHeartbeats 4000000 in
set_option maxRecDepth 100000 in
theorem c_L_flies (l9 : Launch) (hlt : l9.stackTraces = false) (dC : Nat → ClassId) (dI : Nat → Nat → Nat) (sz : Nat) {tK tB : ClassId} (h ak ab af : Nat) (ka kb : Nat → Nat) (n p : Nat) (F : Rows) (its ln len : Int32) (hI : Inv n p F) (hok : (S_fly n F its ln len).1 ≠ 1 ∧ (S_fly n F its ln len).1 ≠ 2) : Met l9 yL_flies wsL_flies ({ frames := 8, cells := 2, slots := 12, locals := 140 }) (va_Pc [.ref h, .int its, .int ln, .int len] (PWr dC dI [(tK, .object "Windlane$Kite"), (tB, .object "Windlane$Borrower")] (cW tK tB h ak ab af ka kb n p F) sz)) (hQ dC dI tK tB h ak ab af (va_A (cW tK tB h ak ab af ka kb n p F) sz) n p ((S_fly n F its ln len).2.2) ((S_fly n F its ln len).1) ((S_fly n F its ln len).2.1) (-99999)) 2 12 (va_A (cW tK tB h ak ab af ka kb n p F) sz) := by
  refine va_MetW (cc := cL_flies) (maxL := 5) (ret := (some .int)) (hh := [(0, 7, 8, 16)]) (by decide) rfl ?_
  intro p9 e9 s m args below meth c s₁ B hml hv
  obtain ⟨rfl, hsz, hP, hK, hD0, hE, hH⟩ := hv
  have hx := B.exec
  have hb := B.bytes
  have hr := B.returns
  have hts := atoms_spec (ws := wsL_flies) B.pre
  have htab := vx_table (x := yL_flies) B (hts _ List.mem_cons_self)
  have hown : s.vm.findClass RL = some m.cls := findClass_of_methodNamed B.named
  have hlocks := B.notSynchronized
  subst hsz
  have hD := hD0.self (sz := s.heap.size)
  generalize hAe : va_A (cW tK tB h ak ab af ka kb n p F) s.heap.size = A at hD hH ⊢
  have hA : ∀ q : Nat, s.heap.size ≤ q → A q := fun q h => by rw [← hAe]; exact Or.inr h
  have hS : va_S A s.heap s.heap [] := va_S.rf
  have hS0 := hS
  have hP : va_P (dC, dI) vwCl (cW tK tB h ak ab af ka kb n p F) s.heap := hP
  have hl := lv_entry ([.ref h, .int its, .int ln, .int len]) (n := 5) (Nat.le_of_ble_eq_true rfl)
  rw [lg_entry_eq]
  generalize (lg_sl ([.ref h, .int its, .int ln, .int len]) ++ List.replicate (5 - (lg_sl ([.ref h, .int its, .int ln, .int len])).length) Slot.unset).toArray = ls at hl ⊢
  have hl : lv_has ls 5 [(0, .ref h), (1, .int its), (2, .int ln), (3, .int len)] := hl
  refine lv_aload_n hx hb dL_flies_0 rfl (lv_at hl 0 rfl) ?_
  refine lv_iload_n hx hb dL_flies_1 rfl (lv_at hl 1 rfl) ?_
  refine lv_iload_n hx hb dL_flies_2 rfl (lv_at hl 2 rfl) ?_
  refine lv_iload_n hx hb dL_flies_3 rfl (lv_at hl 3 rfl) ?_
  refine vx_calli (vx_runV (As := [.int its, .int ln, .int len]) (rest := []) ⟨hx, hb, hml, hown, hts⟩ (c_X2_fly l9 hlt dC dI s.heap.size h ak ab af ka kb n p F its ln len hI) (cwV 3 hts gL_flies_X2_fly rfl rfl rfl (by decide +kernel) ⟨Nat.le_of_ble_eq_true rfl, Nat.le_of_ble_eq_true rfl⟩) ⟨PWr.blind, va_recv hK hP (ci := 2) (q0 := 0) rfl rfl, PWr.pre hP hK hD hE (hH.narrow (A_in hD hS hA))⟩ rfl rfl hl.1 rfl (lv_room (Nat.le_of_ble_eq_true rfl)) dL_flies_4 ⟨Nat.le_of_ble_eq_true rfl, Nat.le_of_ble_eq_true rfl⟩) hS (fun q _ hq => A_in hD hS hA q hq) (A_in hD hS hA) (fun _ _ z => z.elim) (fun E ce q9 u9 t9 H locs ht9 hvm hpx hBE hz1 hk1 hS hce hcv hcl => ?_) (fun r9 u9 t9 H locs ht9 hvm hw9 hB hz1 hk1 hS => ?_)
  · skip
    have hP : va_P (dC, dI) vwCl (cW tK tB h ak ab af ka kb n p F) H := hP.kept (fun k q hq => hk1 q.1 ((hP k q hq).lt) (fun z => z))
    rcases hBE with ⟨rfl, hth⟩ | ⟨rfl, hth⟩ | ⟨rfl, hth⟩
    · skip
      exact absurd hth hok.1
    · skip
      exact absurd hth hok.2
    · skip
      refine vx_catch (own := RL) (name := "java/lang/IllegalStateException") hown [] (⟨0, 7, 8, 16⟩ : ExceptionTableEntry) [] (by rw [htab]; rfl) (fun z hz => absurd hz List.not_mem_nil) (by decide) (by decide) (hts (.classLink RL 16 "java/lang/IllegalStateException") (by decide +kernel)) (yc.use hE.2.1.2.1) hce hcv hcl ?_
      refine W.eq (g2 := F0 m 8 ls [.ref q9]) rfl ?_
      have hnz : (S_fly n F its ln len).1 ≠ 0 := by rw [hth]; decide
      refine lv_astore (lv' := [(4, .ref q9), (0, .ref h), (1, .int its), (2, .int ln), (3, .int len)]) hx hb dL_flies_8 hl (by decide) rfl (fun ls hl => ?_)
      refine lv_ldc (v := (-99999)) hx hb hown (hts (.constant RL 35 (-99999)) (by decide +kernel)) dL_flies_10 ?_
      have ek := K_fly hnz
      exact W.iret (v := (-99999)) hx hb hr (fun t ht hW => hQ_mk ka kb (if_neg hnz).symm (by rw [ek, ht]; exact hP) (by rw [ek]; exact hD) (hS.F ht)) hS.2.2 dL_flies_12
  · skip
    obtain ⟨hth, rfl⟩ := hw9
    obtain ⟨hP1, hD1⟩ := hB
    rw [ht9] at hP1
    have hP := hP1
    have hD := hD1.weaken (fun k q _ z => A_in hD hS0 hA q.1 z)
    exact W.iret (v := (S_fly n F its ln len).2.1) hx hb hr (fun t ht hW => hQ_mk u9.1 u9.2 (if_pos hth).symm (by rw [ht]; exact hP) hD (hS.F ht)) hS.2.2 dL_flies_7

set_option maxHeartbeats 4000000 in
set_option maxRecDepth 100000 in
theorem c_L_lands (l9 : Launch) (hlt : l9.stackTraces = false) (dC : Nat → ClassId) (dI : Nat → Nat → Nat) (sz : Nat) {tK tB : ClassId} (h ak ab af : Nat) (ka kb : Nat → Nat) (n p : Nat) (F : Rows) (its : Int32) (hI : Inv n p F) (hok : (S_land n F its).1 ≠ 1) : Met l9 yL_lands wsL_lands ({ frames := 8, cells := 2, slots := 12, locals := 127 }) (va_Pc [.ref h, .int its] (PWr dC dI [(tK, .object "Windlane$Kite"), (tB, .object "Windlane$Borrower")] (cW tK tB h ak ab af ka kb n p F) sz)) (hQ dC dI tK tB h ak ab af (va_A (cW tK tB h ak ab af ka kb n p F) sz) n p ((S_land n F its).2.2) ((S_land n F its).1) ((S_land n F its).2.1) (-2)) 2 12 (va_A (cW tK tB h ak ab af ka kb n p F) sz) := by
  refine va_MetW (cc := cL_lands) (maxL := 3) (ret := (some .int)) (hh := [(0, 5, 6, 16)]) (by decide) rfl ?_
  intro p9 e9 s m args below meth c s₁ B hml hv
  obtain ⟨rfl, hsz, hP, hK, hD0, hE, hH⟩ := hv
  have hx := B.exec
  have hb := B.bytes
  have hr := B.returns
  have hts := atoms_spec (ws := wsL_lands) B.pre
  have htab := vx_table (x := yL_lands) B (hts _ List.mem_cons_self)
  have hown : s.vm.findClass RL = some m.cls := findClass_of_methodNamed B.named
  have hlocks := B.notSynchronized
  subst hsz
  have hD := hD0.self (sz := s.heap.size)
  generalize hAe : va_A (cW tK tB h ak ab af ka kb n p F) s.heap.size = A at hD hH ⊢
  have hA : ∀ q : Nat, s.heap.size ≤ q → A q := fun q h => by rw [← hAe]; exact Or.inr h
  have hS : va_S A s.heap s.heap [] := va_S.rf
  have hS0 := hS
  have hP : va_P (dC, dI) vwCl (cW tK tB h ak ab af ka kb n p F) s.heap := hP
  have hl := lv_entry ([.ref h, .int its]) (n := 3) (Nat.le_of_ble_eq_true rfl)
  rw [lg_entry_eq]
  generalize (lg_sl ([.ref h, .int its]) ++ List.replicate (3 - (lg_sl ([.ref h, .int its])).length) Slot.unset).toArray = ls at hl ⊢
  have hl : lv_has ls 3 [(0, .ref h), (1, .int its)] := hl
  refine lv_aload_n hx hb dL_lands_0 rfl (lv_at hl 0 rfl) ?_
  refine lv_iload_n hx hb dL_lands_1 rfl (lv_at hl 1 rfl) ?_
  refine vx_calli (vx_runV (As := [.int its]) (rest := []) ⟨hx, hb, hml, hown, hts⟩ (c_X2_land l9 hlt dC dI s.heap.size h ak ab af ka kb n p F its hI) (cwV 1 hts gL_lands_X2_land rfl rfl rfl (by decide +kernel) ⟨Nat.le_of_ble_eq_true rfl, Nat.le_of_ble_eq_true rfl⟩) ⟨PWr.blind, va_recv hK hP (ci := 2) (q0 := 0) rfl rfl, PWr.pre hP hK hD hE (hH.narrow (A_in hD hS hA))⟩ rfl rfl hl.1 rfl (lv_room (Nat.le_of_ble_eq_true rfl)) dL_lands_2 ⟨Nat.le_of_ble_eq_true rfl, Nat.le_of_ble_eq_true rfl⟩) hS (fun q _ hq => A_in hD hS hA q hq) (A_in hD hS hA) (fun _ _ z => z.elim) (fun E ce q9 u9 t9 H locs ht9 hvm hpx hBE hz1 hk1 hS hce hcv hcl => ?_) (fun r9 u9 t9 H locs ht9 hvm hw9 hB hz1 hk1 hS => ?_)
  · skip
    have hP : va_P (dC, dI) vwCl (cW tK tB h ak ab af ka kb n p F) H := hP.kept (fun k q hq => hk1 q.1 ((hP k q hq).lt) (fun z => z))
    rcases hBE with ⟨rfl, hth⟩ | ⟨rfl, hth⟩
    · skip
      exact absurd hth hok
    · skip
      refine vx_catch (own := RL) (name := "java/lang/IllegalStateException") hown [] (⟨0, 5, 6, 16⟩ : ExceptionTableEntry) [] (by rw [htab]; rfl) (fun z hz => absurd hz List.not_mem_nil) (by decide) (by decide) (hts (.classLink RL 16 "java/lang/IllegalStateException") (by decide +kernel)) (yc.use hE.2.1.2.1) hce hcv hcl ?_
      refine W.eq (g2 := F0 m 6 ls [.ref q9]) rfl ?_
      have hnz : (S_land n F its).1 ≠ 0 := by rw [hth]; decide
      refine lv_astore_n (lv' := [(2, .ref q9), (0, .ref h), (1, .int its)]) hx hb dL_lands_6 rfl hl (by decide) rfl (fun ls hl => ?_)
      refine lv_bipush (v := (-2)) hx hb dL_lands_7 (by decide) ?_
      have ek := K_land hnz
      exact W.iret (v := (-2)) hx hb hr (fun t ht hW => hQ_mk ka kb (if_neg hnz).symm (by rw [ek, ht]; exact hP) (by rw [ek]; exact hD) (hS.F ht)) hS.2.2 dL_lands_9
  · skip
    obtain ⟨hth, rfl⟩ := hw9
    obtain ⟨hP1, hD1⟩ := hB
    rw [ht9] at hP1
    have hP := hP1
    have hD := hD1.weaken (fun k q _ z => A_in hD hS0 hA q.1 z)
    exact W.iret (v := (S_land n F its).2.1) hx hb hr (fun t ht hW => hQ_mk u9.1 u9.2 (if_pos hth).symm (by rw [ht]; exact hP) hD (hS.F ht)) hS.2.2 dL_lands_5

/-! ===== the script ===== -/
theorem my_sld {p9 : Program} {l : Launch} {e : Env} {R : Room} {s : State} {m : MethodId} {args : Array Value} {below : List Frame} {meth : Method} {c : Code} {H : Heap} {locs : List Loc} {cells slots : Nat} {Q : State → Prop} {cc : ByteArray} {pc : Nat} {ls : Array Slot} {rest : List Value} {A : Nat → Prop} {H0 : Heap} (hexec : p9.tables.exec = Jvm.exec) (hb : c.code = cc) {b L : Nat} {xs : Nat → Int32} (hX : va_X b L xs s H0) (hbl : b < H0.size) (hbA : ¬ A b) (hS : va_S A H0 H locs) {k : Nat} (hk : k < L) (hL : L < 2147483648) (hdg : decode cc pc = .ok (.iaload, 1))
    (kk : W p9 l e R s m args below meth c H locs cells slots Q (F0 m (pc + 1) ls (.int (xs k) :: rest))) : W p9 l e R s m args below meth c H locs cells slots Q (F0 m pc ls (.int (nI k) :: .ref b :: rest)) := by
  refine va_sld hexec hb hX hbl hbA hS (vp_in_nI hk hL) hdg ?_
  rw [nI_clamp (Nat.lt_trans hk hL)]
  exact kk
def XS (b L : Nat) (xs : Nat → Int32) (U : State) : Prop := va_X b L xs U U.heap
theorem XS.blind {b L : Nat} {xs : Nat → Int32} {av : List Value} : FrameBlind (va_Pc av (XS b L xs)) := fun a U g mk q => ⟨q.1, va_X.moved (u := U) (U := U.calling g mk a) (Vm.Alike.refl U.vm) q.2⟩
theorem XS.pre {b L : Nat} {xs : Nat → Int32} {s : State} {H : Heap} {av : List Value} (hX : va_X b L xs s H) : ∀ U : State, U.heap = H → s.WarmedH U.vm → va_Pc av (XS b L xs) av.toArray U := fun U hU hW => ⟨rfl, by
  show va_X b L xs U U.heap
  rw [hU]
  exact va_X.moved hW.alike hX⟩

set_option maxHeartbeats 4000000 in
set_option maxRecDepth 100000 in
theorem c_L_draw (l9 : Launch) {b L : Nat} {xs : Nat → Int32} (k : Nat) (hk : k < L) (hL : L ≤ 260) : Met l9 yL_draw wsL_draw ({ frames := 0, cells := 0, slots := 0, locals := 0 }) (va_Pc [.ref b, .int (nI k)] (XS b L xs)) (vp_Si (fun r9 => ∃ a : Nat, a < 2 ^ 31 ∧ r9 = nI a)) 0 0 (fun _ => False) := by
  refine Met.ofW (cc := cL_draw) (maxL := 2) (ret := (some .int)) (by decide) rfl ?_
  intro p9 e9 s m args below meth c s₁ B hml hv
  obtain ⟨rfl, hX⟩ := hv
  have hx := B.exec
  have hb := B.bytes
  have hr := B.returns
  have hts := atoms_spec (ws := wsL_draw) B.pre
  have hown : s.vm.findClass RL = some m.cls := findClass_of_methodNamed B.named
  have hX : va_X b L xs s s.heap := hX
  have hbl : b < s.heap.size := by obtain ⟨scr, h1, -⟩ := hX; exact (Array.getElem?_eq_some_iff.mp h1).1
  obtain ⟨A, hAe⟩ : ∃ A : Nat → Prop, A = fun q => s.heap.size ≤ q := ⟨_, rfl⟩
  have hbA : ¬ A b := by rw [hAe]; exact Nat.not_le.mpr hbl
  have hS : va_S A s.heap s.heap [] := va_S.rf
  have hl := lv_entry ([.ref b, .int (nI k)]) (n := 2) (Nat.le_of_ble_eq_true rfl)
  rw [lg_entry_eq]
  generalize (lg_sl ([.ref b, .int (nI k)]) ++ List.replicate (2 - (lg_sl ([.ref b, .int (nI k)])).length) Slot.unset).toArray = ls at hl ⊢
  have hl : lv_has ls 2 [(0, .ref b), (1, .int (nI k))] := hl
  refine lv_iload_n hx hb dL_draw_0 rfl (lv_at hl 1 rfl) ?_
  refine lv_aload_n hx hb dL_draw_1 rfl (lv_at hl 0 rfl) ?_
  refine va_slen hx hb hX hbl hbA hS dL_draw_2 ?_
  refine lv_icmp_ge (tgt := 15) hx hb dL_draw_3 (by decide) (fun c_3 => absurd c_3 (fun q => by have := (nI_leI (a := L) (b := k) (by omega) (by omega)).mp q; omega)) (fun _ => ?_)
  refine lv_aload_n hx hb dL_draw_6 rfl (lv_at hl 0 rfl) ?_
  refine lv_iload_n hx hb dL_draw_7 rfl (lv_at hl 1 rfl) ?_
  refine my_sld hx hb hX hbl hbA hS (k := k) hk (by omega) dL_draw_8 ?_
  refine lv_ldc (v := 2147483647) hx hb hown (hts (.constant RL 7 (2147483647)) (by decide +kernel)) dL_draw_9 ?_
  refine lv_iand hx hb dL_draw_11 ?_
  refine lv_goto (tgt := 24) hx hb dL_draw_12 (by decide) ?_
  exact W.iret (v := (xs k) &&& 2147483647) hx hb hr (fun t ht _ => ⟨_, rfl, pk_andE (xs k) 31 (by decide), ht⟩) (fun q hq => absurd hq List.not_mem_nil) dL_draw_24
