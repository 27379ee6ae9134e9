set_option maxHeartbeats 4000000 in
set_option maxRecDepth 100000 in
theorem c_X2_callDownUnheld (l9 : Launch) (dC : Nat → ClassId) (dI : Nat → Nat → Nat) (sz : Nat) {tK tB : ClassId} (h ak ab af : Nat) (ka kb : Nat → Nat) (n p : Nat) (F : Rows)  (hn8 : n ≤ 8) (hkd : ∀ k, k < n → F 0 k = 0 ∨ F 0 k = 1 ∨ F 0 k = 2) (hu : uq n (F 6)) (hlr : ∀ k, k < n → F 6 k = -1 ∨ ∃ l, l < 10 ∧ F 6 k = nI l) : Met l9 yX2_callDownUnheld wsX2_callDownUnheld ({ frames := 4, cells := 0, slots := 0, locals := 85 }) (va_Pc [.ref h] (PWr dC dI [(tK, .object "Windlane$Kite"), (tB, .object "Windlane$Borrower")] (cW tK tB h ak ab af ka kb n p F) sz)) (va_Qv (fun _ : Unit => True) (fun _ t => va_P (dC, dI) vwCl (cW tK tB h ak ab af ka kb n p (uh F n)) t.heap) (va_A (cW tK tB h ak ab af ka kb n p F) sz)) 0 0 (va_A (cW tK tB h ak ab af ka kb n p F) sz) := by
  refine Met.ofW (cc := cX2_callDownUnheld) (maxL := 3) (ret := none) (by decide) rfl ?_
  intro p9 e9 s m args below meth c s₁ B hml hv
  obtain ⟨rfl, hsz, hP, hK, hD0, hE, hH⟩ := hv
  have hx := B.exec
  have hb := B.bytes
  have hr := B.returns
  have hts := atoms_spec (ws := wsX2_callDownUnheld) B.pre
  have hown : s.vm.findClass RX2 = some m.cls := findClass_of_methodNamed B.named
  have hlocks := B.notSynchronized
  have hi1 : ∀ w ∈ u_ws RX1 TX1 9, w ∈ wsX2_callDownUnheld := by decide +kernel
  have hi2 : ∀ w ∈ u_ws RX2 TX2 9, w ∈ wsX2_callDownUnheld := by decide +kernel
  have lk21 := hts (.fieldLink RX2 21 "Windlane" "flyers" "[LWindlane$Kite;") (by decide +kernel)
  have lk51 := hts (.fieldLink RX2 51 "Windlane$Kite" "isTorn" "Z") (by decide +kernel)
  have lk112 := hts (.fieldLink RX2 112 "Windlane" "windSpeed" "I") (by decide +kernel)
  subst hsz
  have hD := hD0.self (sz := s.heap.size)
  generalize hAe : va_A (cW tK tB h ak ab af ka kb n p F) s.heap.size = A at hD hH ⊢
  have hA : ∀ q : Nat, s.heap.size ≤ q → A q := fun q h => by rw [← hAe]; exact Or.inr h
  have hS : va_S A s.heap s.heap [] := va_S.rf
  have hP : va_P (dC, dI) vwCl (cW tK tB h ak ab af ka kb n p F) s.heap := hP
  have hl := lv_entry ([.ref h]) (n := 3) (Nat.le_of_ble_eq_true rfl)
  rw [lg_entry_eq]
  generalize (lg_sl ([.ref h]) ++ List.replicate (3 - (lg_sl ([.ref h])).length) Slot.unset).toArray = ls at hl ⊢
  have hl : lv_has ls 3 [(0, .ref h)] := hl
  refine lv_iconst (v := 0) hx hb dX2_callDownUnheld_0 (by decide) ?_
  refine lv_istore_n (lv' := [(1, .int 0), (0, .ref h)]) hx hb dX2_callDownUnheld_1 rfl hl (by decide) rfl (fun ls hl => ?_)
  refine W_loopH (nL := 3) (fun l : Nat => [(1, .int (nI l)), (0, .ref h)]) (fun (l : Nat) (H : Heap) (locs : List Loc) => l ≤ 10 ∧ va_P (dC, dI) vwCl (cW tK tB h ak ab af ka kb n p (mvd F n (bU F n l))) H ∧ va_S A s.heap H locs) (fun l => 10 - l) ?_ 0 (⟨Nat.zero_le _, by rw [bU_0 hlr]; exact hP, hS⟩) (lv_sub hl [0, 1] rfl)
  intro l H locs ls hI hl ih
  obtain ⟨hl10, hP, hS⟩ := hI
  have hl : lv_has ls 3 [(1, .int (nI l)), (0, .ref h)] := hl
  have hP : va_P (dC, dI) vwCl (cW tK tB h ak ab af ka kb n p (mvd F n (bU F n l))) H := hP
  have hD : va_D A (cW tK tB h ak ab af ka kb n p (mvd F n (bU F n l))) := cG_D hD
  refine lv_iload_n hx hb dX2_callDownUnheld_2 rfl (lv_at hl 0 rfl) ?_
  refine lv_bipush (v := 10) hx hb dX2_callDownUnheld_3 (by decide) ?_
  refine lv_icmp_ge (tgt := 64) hx hb dX2_callDownUnheld_5 (by decide) (fun c_5 => ?_) (fun c_5 => ?_)
  · skip
    have he : l = 10 := by have q := (nI_leI (a := 10) (b := l) (by omega) (by omega)).mp c_5; omega
    subst he
    rw [bU_10 hlr] at hP
    exact W.vret hx hb hr (fun t ht hW => ⟨⟨(), rfl, trivial, by show va_P _ _ _ t.heap; rw [ht]; exact hP⟩, hS.F ht⟩) hS.2.2 dX2_callDownUnheld_64
  · skip
    have hl10 : l < 10 := Nat.not_le.mp (fun q => c_5 ((nI_leI (a := 10) (b := l) (by omega) (by omega)).mpr q))
    refine lv_aload_n hx hb dX2_callDownUnheld_8 rfl (lv_at hl 1 rfl) ?_
    refine va_get (D := (dC, dI)) (ci := 2) (v := .ref af) (C := RX2) (T := TX2) (N := 9) hx hb hts hi2 hown hK hP 0 rfl rfl 4 (by decide) lk21 (fun _ h9 => h9) rfl dX2_callDownUnheld_9 ?_
    refine lv_iload_n hx hb dX2_callDownUnheld_12 rfl (lv_at hl 0 rfl) ?_
    refine my_aldq hx hb hK hP 3 0 rfl rfl hl10 (Nat.le_of_ble_eq_true rfl) dX2_callDownUnheld_13 ?_
    rcases hlk : lk ((mvd F n (bU F n l)) 6) n (nI l) with _ | k
    · skip
      refine W_top (y := .null) (show va_rf ((flF (mvd F n (bU F n l)) n l).map ka) = _ by rw [flF_at hl10, hlk]; rfl) ?_
      refine lv_astore_nN (lv' := [(2, .null), (1, .int (nI l)), (0, .ref h)]) hx hb dX2_callDownUnheld_14 rfl hl (by decide) rfl (fun ls hl => ?_)
      refine lv_aload_nN hx hb dX2_callDownUnheld_15 rfl (lv_at hl 0 rfl) ?_
      refine lv_ifnullN (tgt := 58) hx hb dX2_callDownUnheld_16 (by decide) ?_
      refine lv_iinc (v := nI (l + 1)) (lv' := [(1, .int (nI (l + 1))), (2, .null), (0, .ref h)]) hx hb dX2_callDownUnheld_58 hl (k := 1) rfl (nI_1 _) (by decide) rfl (fun ls hl => ?_)
      refine lv_goto (tgt := 2) hx hb dX2_callDownUnheld_61 (by decide) ?_
      rw [← bU_keep hl10 hlr hu (fun k q => by rw [bU_lk hl10] at hlk; rw [hlk] at q; cases q)] at hP
      exact ih (l + 1) _ _ ls (by omega) (⟨by omega, hP, hS⟩) (lv_sub hl [0, 2] rfl)
    · skip
      refine W_top (y := .ref (ka k)) (show va_rf ((flF (mvd F n (bU F n l)) n l).map ka) = _ by rw [flF_at hl10, hlk]; rfl) ?_
      have hlkn : k < n := (lk_some hlk).1
      have hlk0 : lk (F 6) n (nI l) = some k := by rw [← bU_lk hl10]; exact hlk
      refine lv_astore_n (lv' := [(2, .ref (ka k)), (1, .int (nI l)), (0, .ref h)]) hx hb dX2_callDownUnheld_14 rfl hl (by decide) rfl (fun ls hl => ?_)
      refine lv_aload_n hx hb dX2_callDownUnheld_15 rfl (lv_at hl 0 rfl) ?_
      refine lv_ifnull hx hb dX2_callDownUnheld_16 ?_
      refine lv_aload_n hx hb dX2_callDownUnheld_19 rfl (lv_at hl 0 rfl) ?_
      refine lv_aload_n hx hb dX2_callDownUnheld_20 rfl (lv_at hl 2 rfl) ?_
      refine va_get (D := (dC, dI)) (ci := 2) (v := .int (F 9 0)) (C := RX2) (T := TX2) (N := 9) hx hb hts hi2 hown hK hP 0 rfl rfl 5 (by decide) lk112 (fun _ h9 => h9) rfl dX2_callDownUnheld_21 ?_
      have hq1 := one_P hP (cG_k hlkn)
      refine vp_callSi (va_Run.run (va_runV (As := [.int (F 9 0)]) (rest := []) ⟨hx, hb, hml, hown, hts⟩ (c_X1_holdsIn l9 dC dI (ka k) k (mvd F n (bU F n l)) (F 9 0) (hkd k hlkn)) (cwV 1 hts gX2_callDownUnheld_X1_holdsIn rfl rfl rfl (by decide +kernel) ⟨Nat.le_of_ble_eq_true rfl, Nat.le_of_ble_eq_true rfl⟩) ⟨PRo.blind, va_recv (hK.sub (tys' := []) [] rfl) hq1 (ci := 1) (q0 := 0) rfl rfl, PRo.pre hq1 (hK.sub (tys' := []) [] rfl) hE⟩ rfl rfl hl.1 rfl (lv_room (Nat.le_of_ble_eq_true rfl)) dX2_callDownUnheld_24 ⟨Nat.le_of_ble_eq_true rfl, Nat.le_of_ble_eq_true rfl⟩)) (fun r hr => ?_)
      subst hr
      refine W_top (y := .int (bi (held F k (F 9 0)))) (rfl) ?_
      refine lv_if_ne (tgt := 58) hx hb dX2_callDownUnheld_27 (by decide) (fun c_27 => ?_) (fun c_27 => ?_)
      · skip
        have c_27 := bi_nz.mp c_27
        refine lv_iinc (v := nI (l + 1)) (lv' := [(1, .int (nI (l + 1))), (2, .ref (ka k)), (0, .ref h)]) hx hb dX2_callDownUnheld_58 hl (k := 1) rfl (nI_1 _) (by decide) rfl (fun ls hl => ?_)
        refine lv_goto (tgt := 2) hx hb dX2_callDownUnheld_61 (by decide) ?_
        rw [← bU_keep hl10 hlr hu (fun k2 q => by rw [hlk0] at q; cases q; exact c_27)] at hP
        exact ih (l + 1) _ _ ls (by omega) (⟨by omega, hP, hS⟩) (lv_sub hl [0, 2] rfl)
      · skip
        have c_27 := bi_z.mp c_27
        refine lv_aload_n hx hb dX2_callDownUnheld_30 rfl (lv_at hl 0 rfl) ?_
        refine lv_aload_n hx hb dX2_callDownUnheld_31 rfl (lv_at hl 0 rfl) ?_
        refine lv_aload_n hx hb dX2_callDownUnheld_32 rfl (lv_at hl 2 rfl) ?_
        refine va_get (D := (dC, dI)) (ci := 2) (v := .int (F 9 0)) (C := RX2) (T := TX2) (N := 9) hx hb hts hi2 hown hK hP 0 rfl rfl 5 (by decide) lk112 (fun _ h9 => h9) rfl dX2_callDownUnheld_33 ?_
        have hq1 := one_P hP (cG_k hlkn)
        refine vp_callSi (va_Run.run (va_runV (As := [.int (F 9 0)]) (rest := [.ref (ka k)]) ⟨hx, hb, hml, hown, hts⟩ (c_X1_pullIn l9 dC dI (ka k) k (mvd F n (bU F n l)) (F 9 0) (hkd k hlkn)) (cwV 1 hts gX2_callDownUnheld_X1_pullIn rfl rfl rfl (by decide +kernel) ⟨Nat.le_of_ble_eq_true rfl, Nat.le_of_ble_eq_true rfl⟩) ⟨PRo.blind, va_recv (hK.sub (tys' := []) [] rfl) hq1 (ci := 1) (q0 := 0) rfl rfl, PRo.pre hq1 (hK.sub (tys' := []) [] rfl) hE⟩ rfl rfl hl.1 rfl (lv_room (Nat.le_of_ble_eq_true rfl)) dX2_callDownUnheld_36 ⟨Nat.le_of_ble_eq_true rfl, Nat.le_of_ble_eq_true rfl⟩)) (fun r hr => ?_)
        subst hr
        refine W_top (y := .int (pl F k (F 9 0))) (rfl) ?_
        refine lv_sipush (v := 6000) hx hb dX2_callDownUnheld_39 (by decide) ?_
        refine W_join (pc := 50) (rest := [.ref (ka k)]) (fun v => v = bi (6000 < pl F k (F 9 0))) (fun v hv => ?_) (fun K => ?_)
        · subst hv
          refine va_put (D := (dC, dI)) (ci := 1) (v := .int (bi (6000 < pl F k (F 9 0)))) (ty := .boolean) (C := RX1) (T := TX1) (N := 9) hx hb hts hi1 tyX1 tyX1_ok nmX1 hown hK hP hD hS (k + 4) (cG_k hlkn) rfl 4 (by decide) lk51 (fun _ h9 => h9) rfl (by decide +kernel) (nar_01 (bi_01 _)) (fit_01 (bi_01 _)) (Nat.le_of_ble_eq_true rfl) dX2_callDownUnheld_50 (fun H locs hP hD hS => ?_)
          have hP : va_P (dC, dI) vwCl (cG tK tB h ak ab af ka kb n p (up (mvd F n (bU F n l)) 3 k (bi (6000 < pl F k (F 9 0)))) (flF (mvd F n (bU F n l)) n) (hbF (mvd F n (bU F n l)) n)) H := P_eq (putk (i := 3) (v := bi (6000 < pl F k (F 9 0))) hlkn (by decide) (kE_up3 (mvd F n (bU F n l)) k _)) hP
          have hD : va_D A (cG tK tB h ak ab af ka kb n p (up (mvd F n (bU F n l)) 3 k (bi (6000 < pl F k (F 9 0)))) (flF (mvd F n (bU F n l)) n) (hbF (mvd F n (bU F n l)) n)) := D_eq (putk (i := 3) (v := bi (6000 < pl F k (F 9 0))) hlkn (by decide) (kE_up3 (mvd F n (bU F n l)) k _)) hD
          refine lv_aload_n hx hb dX2_callDownUnheld_53 rfl (lv_at hl 2 rfl) ?_
          refine lv_iload_n hx hb dX2_callDownUnheld_54 rfl (lv_at hl 1 rfl) ?_
          have hP : va_P (dC, dI) vwCl (cW tK tB h ak ab af ka kb n p (up (mvd F n (bU F n l)) 3 k (bi (6000 < pl F k (F 9 0))))) H := hP
          have hD : va_D A (cW tK tB h ak ab af ka kb n p (up (mvd F n (bU F n l)) 3 k (bi (6000 < pl F k (F 9 0))))) := hD
          refine va_callv (va_runV (As := [.int (nI l)]) (rest := []) ⟨hx, hb, hml, hown, hts⟩ (c_X2_callDown l9 dC dI H.size h ak ab af ka kb n p (up (mvd F n (bU F n l)) 3 k (bi (6000 < pl F k (F 9 0)))) l k hl10 hlk (mvd_uq hu)) (cwV 1 hts gX2_callDownUnheld_X2_callDown rfl rfl rfl (by decide +kernel) ⟨Nat.le_of_ble_eq_true rfl, Nat.le_of_ble_eq_true rfl⟩) ⟨PWr.blind, va_recv hK hP (ci := 2) (q0 := 0) rfl rfl, PWr.pre hP hK hD hE ((hH.kept hS.2.1).narrow (A_in hD hS hA))⟩ rfl rfl hl.1 rfl (lv_room (Nat.le_of_ble_eq_true rfl)) dX2_callDownUnheld_55 ⟨Nat.le_of_ble_eq_true rfl, Nat.le_of_ble_eq_true rfl⟩) hS (fun q _ hq => A_in hD hS hA q hq) (A_in hD hS hA) (fun u9 t9 H locs ht9 hvm hw9 hB hz1 hk1 hS => ?_)
          have hP : va_P (dC, dI) vwCl (cW tK tB h ak ab af ka kb n p (dn (up (mvd F n (bU F n l)) 3 k (bi (6000 < pl F k (F 9 0)))) k)) H := by rw [← ht9]; exact hB
          have hD : va_D A (cW tK tB h ak ab af ka kb n p (dn (up (mvd F n (bU F n l)) 3 k (bi (6000 < pl F k (F 9 0)))) k)) := cG_D hD
          rw [mvd_step hlkn (bU_k hl10 hlk0), bU_add hl10 hlr hu hlk0 c_27] at hP
          refine lv_iinc (v := nI (l + 1)) (lv' := [(1, .int (nI (l + 1))), (2, .ref (ka k)), (0, .ref h)]) hx hb dX2_callDownUnheld_58 hl (k := 1) rfl (nI_1 _) (by decide) rfl (fun ls hl => ?_)
          refine lv_goto (tgt := 2) hx hb dX2_callDownUnheld_61 (by decide) ?_
          exact ih (l + 1) _ _ ls (by omega) (⟨by omega, hP, hS⟩) (lv_sub hl [0, 2] rfl)
        · skip
          refine lv_icmp_le (tgt := 49) hx hb dX2_callDownUnheld_42 (by decide) (fun c_42 => ?_) (fun c_42 => ?_)
          · skip
            refine lv_iconst (v := 0) hx hb dX2_callDownUnheld_49 (by decide) ?_
            exact K _ ((bi_f (fun q => by rw [i32_lt] at q; rw [i32_le] at c_42; omega)).symm)
          · skip
            refine lv_iconst (v := 1) hx hb dX2_callDownUnheld_45 (by decide) ?_
            refine lv_goto (tgt := 50) hx hb dX2_callDownUnheld_46 (by decide) ?_
            exact K _ ((bi_t (by rw [i32_lt]; rw [i32_le] at c_42; omega)).symm)

set_option maxHeartbeats 4000000 in
set_option maxRecDepth 100000 in
theorem c_X2_callDownCrossing (l9 : Launch) (dC : Nat → ClassId) (dI : Nat → Nat → Nat) (sz : Nat) {tK tB : ClassId} (h ak ab af : Nat) (ka kb : Nat → Nat) (n p : Nat) (F : Rows)  (hF : HF n F) : Met l9 yX2_callDownCrossing wsX2_callDownCrossing ({ frames := 5, cells := 0, slots := 0, locals := 114 }) (va_Pc [.ref h] (PWr dC dI [(tK, .object "Windlane$Kite"), (tB, .object "Windlane$Borrower")] (cW tK tB h ak ab af ka kb n p F) sz)) (va_Qv (fun _ : Unit => True) (fun _ t => va_P (dC, dI) vwCl (cW tK tB h ak ab af ka kb n p (stl n 10 F)) t.heap) (va_A (cW tK tB h ak ab af ka kb n p F) sz)) 0 0 (va_A (cW tK tB h ak ab af ka kb n p F) sz) := by
  refine Met.ofW (cc := cX2_callDownCrossing) (maxL := 3) (ret := none) (by decide) rfl ?_
  intro p9 e9 s m args below meth c s₁ B hml hv
  obtain ⟨rfl, hsz, hP, hK, hD0, hE, hH⟩ := hv
  have hx := B.exec
  have hb := B.bytes
  have hr := B.returns
  have hts := atoms_spec (ws := wsX2_callDownCrossing) B.pre
  have hown : s.vm.findClass RX2 = some m.cls := findClass_of_methodNamed B.named
  have hlocks := B.notSynchronized
  subst hsz
  have hD := hD0.self (sz := s.heap.size)
  generalize hAe : va_A (cW tK tB h ak ab af ka kb n p F) s.heap.size = A at hD hH ⊢
  have hA : ∀ q : Nat, s.heap.size ≤ q → A q := fun q h => by rw [← hAe]; exact Or.inr h
  have hS : va_S A s.heap s.heap [] := va_S.rf
  have hP : va_P (dC, dI) vwCl (cW tK tB h ak ab af ka kb n p F) s.heap := hP
  have hl := lv_entry ([.ref h]) (n := 3) (Nat.le_of_ble_eq_true rfl)
  rw [lg_entry_eq]
  generalize (lg_sl ([.ref h]) ++ List.replicate (3 - (lg_sl ([.ref h])).length) Slot.unset).toArray = ls at hl ⊢
  have hl : lv_has ls 3 [(0, .ref h)] := hl
  refine lv_iconst (v := 0) hx hb dX2_callDownCrossing_0 (by decide) ?_
  refine lv_istore_n (lv' := [(1, .int 0), (0, .ref h)]) hx hb dX2_callDownCrossing_1 rfl hl (by decide) rfl (fun ls hl => ?_)
  refine W_loopH (nL := 3) (fun x : Nat × Rows => [(1, .int (nI x.1)), (0, .ref h)]) (fun (x : Nat × Rows) (H : Heap) (locs : List Loc) => x.1 ≤ 10 ∧ HF n x.2 ∧ stl n (10 - x.1) x.2 = stl n 10 F ∧ va_P (dC, dI) vwCl (cW tK tB h ak ab af ka kb n p x.2) H ∧ va_S A s.heap H locs) (fun x => 10 - x.1) ?_ (0, F) (⟨Nat.zero_le _, hF, rfl, hP, hS⟩) (lv_sub hl [0, 1] rfl)
  intro x H locs ls hI hl ih
  obtain ⟨i, G⟩ := x
  dsimp only at hI
  obtain ⟨hi10, hF, hst, hP, hS⟩ := hI
  have hl : lv_has ls 3 [(1, .int (nI i)), (0, .ref h)] := hl
  have hD : va_D A (cW tK tB h ak ab af ka kb n p G) := cG_D hD
  refine lv_iload_n hx hb dX2_callDownCrossing_2 rfl (lv_at hl 0 rfl) ?_
  refine lv_bipush (v := 10) hx hb dX2_callDownCrossing_3 (by decide) ?_
  refine lv_icmp_ge (tgt := 30) hx hb dX2_callDownCrossing_5 (by decide) (fun c_5 => ?_) (fun c_5 => ?_)
  · skip
    have he : i = 10 := by have q := (nI_leI (a := 10) (b := i) (by omega) (by omega)).mp c_5; omega
    subst he
    rw [show 10 - 10 = 0 from rfl, stl] at hst
    rw [hst] at hP
    exact W.vret hx hb hr (fun t ht hW => ⟨⟨(), rfl, trivial, by show va_P _ _ _ t.heap; rw [ht]; exact hP⟩, hS.F ht⟩) hS.2.2 dX2_callDownCrossing_30
  · skip
    have hlt : i < 10 := Nat.not_le.mp (fun q => c_5 ((nI_leI (a := 10) (b := i) (by omega) (by omega)).mpr q))
    refine lv_aload_n hx hb dX2_callDownCrossing_8 rfl (lv_at hl 1 rfl) ?_
    refine vp_callSi (va_Run.run (va_runV (As := []) (rest := []) ⟨hx, hb, hml, hown, hts⟩ (c_X2_weakerLaneOfFirstCrossing l9 dC dI h ak ab af ka kb n p G hF.1 hF.2.1 hF.2.2.1) (cwV 0 hts gX2_callDownCrossing_X2_weakerLaneOfFirstCrossing rfl rfl rfl (by decide +kernel) ⟨Nat.le_of_ble_eq_true rfl, Nat.le_of_ble_eq_true rfl⟩) ⟨PRo.blind, va_recv hK hP (ci := 2) (q0 := 0) rfl rfl, PRo.pre hP hK hE⟩ rfl rfl hl.1 rfl (lv_room (Nat.le_of_ble_eq_true rfl)) dX2_callDownCrossing_9 ⟨Nat.le_of_ble_eq_true rfl, Nat.le_of_ble_eq_true rfl⟩)) (fun r9 hr9 => ?_)
    subst hr9
    rcases hcK : cK G n with _ | k
    · skip
      refine W_top (y := .int (-1)) (rfl) ?_
      refine lv_istore_n (lv' := [(2, .int (-1)), (1, .int (nI i)), (0, .ref h)]) hx hb dX2_callDownCrossing_12 rfl hl (by decide) rfl (fun ls hl => ?_)
      refine lv_iload_n hx hb dX2_callDownCrossing_13 rfl (lv_at hl 0 rfl) ?_
      refine lv_iconst (v := (-1)) hx hb dX2_callDownCrossing_14 (by decide) ?_
      refine lv_icmp_ne (tgt := 19) hx hb dX2_callDownCrossing_15 (by decide) (fun c_15 => absurd (by decide) c_15) (fun _ => ?_)
      rw [stl_none hcK] at hst
      rw [hst] at hP
      exact W.vret hx hb hr (fun t ht hW => ⟨⟨(), rfl, trivial, by show va_P _ _ _ t.heap; rw [ht]; exact hP⟩, hS.F ht⟩) hS.2.2 dX2_callDownCrossing_18
    · skip
      obtain ⟨l, hl10, hlk⟩ := cK_fl hcK
      refine W_top (y := .int (nI l)) (congrArg Value.int (lk_some hlk).2) ?_
      refine lv_istore_n (lv' := [(2, .int (nI l)), (1, .int (nI i)), (0, .ref h)]) hx hb dX2_callDownCrossing_12 rfl hl (by decide) rfl (fun ls hl => ?_)
      refine lv_iload_n hx hb dX2_callDownCrossing_13 rfl (lv_at hl 0 rfl) ?_
      refine lv_iconst (v := (-1)) hx hb dX2_callDownCrossing_14 (by decide) ?_
      refine lv_icmp_ne (tgt := 19) hx hb dX2_callDownCrossing_15 (by decide) (fun _ => ?_) (fun c_15 => absurd c_15 (nI_m1 (by omega)))
      refine lv_aload_n hx hb dX2_callDownCrossing_19 rfl (lv_at hl 2 rfl) ?_
      refine lv_iload_n hx hb dX2_callDownCrossing_20 rfl (lv_at hl 0 rfl) ?_
      refine va_callv (va_runV (As := [.int (nI l)]) (rest := []) ⟨hx, hb, hml, hown, hts⟩ (c_X2_callDown l9 dC dI H.size h ak ab af ka kb n p G l k hl10 hlk hF.2.2.2.1) (cwV 1 hts gX2_callDownCrossing_X2_callDown rfl rfl rfl (by decide +kernel) ⟨Nat.le_of_ble_eq_true rfl, Nat.le_of_ble_eq_true rfl⟩) ⟨PWr.blind, va_recv hK hP (ci := 2) (q0 := 0) rfl rfl, PWr.pre hP hK hD hE ((hH.kept hS.2.1).narrow (A_in hD hS hA))⟩ rfl rfl hl.1 rfl (lv_room (Nat.le_of_ble_eq_true rfl)) dX2_callDownCrossing_21 ⟨Nat.le_of_ble_eq_true rfl, Nat.le_of_ble_eq_true rfl⟩) hS (fun q _ hq => A_in hD hS hA q hq) (A_in hD hS hA) (fun u9 t9 H locs ht9 hvm hw9 hB hz1 hk1 hS => ?_)
      have hP : va_P (dC, dI) vwCl (cW tK tB h ak ab af ka kb n p (dn G k)) H := by rw [← ht9]; exact hB
      have hD : va_D A (cW tK tB h ak ab af ka kb n p (dn G k)) := cG_D hD
      refine lv_iinc (v := nI (i + 1)) (lv' := [(1, .int (nI (i + 1))), (2, .int (nI l)), (0, .ref h)]) hx hb dX2_callDownCrossing_24 hl (k := 1) rfl (nI_1 _) (by decide) rfl (fun ls hl => ?_)
      refine lv_goto (tgt := 2) hx hb dX2_callDownCrossing_27 (by decide) ?_
      have hst2 : stl n (10 - (i + 1)) (dn G k) = stl n 10 F := by rw [← hst, show 10 - i = (10 - (i + 1)) + 1 by omega, stl_some hcK]
      exact ih ((i + 1, dn G k)) _ _ ls (by show 10 - (i + 1) < 10 - i; omega) (⟨by show i + 1 ≤ 10; omega, hF.dn k, hst2, hP, hS⟩) (lv_sub hl [0, 2] rfl)

set_option maxHeartbeats 4000000 in
set_option maxRecDepth 100000 in
theorem c_X2_spendHour (l9 : Launch) (dC : Nat → ClassId) (dI : Nat → Nat → Nat) (sz : Nat) {tK tB : ClassId} (h ak ab af : Nat) (ka kb : Nat → Nat) (n p : Nat) (F : Rows)  (hn8 : n ≤ 8) : Met l9 yX2_spendHour wsX2_spendHour ({ frames := 2, cells := 0, slots := 0, locals := 41 }) (va_Pc [.ref h] (PWr dC dI [(tK, .object "Windlane$Kite"), (tB, .object "Windlane$Borrower")] (cW tK tB h ak ab af ka kb n p F) sz)) (va_Qv (fun _ : Unit => True) (fun _ t => va_P (dC, dI) vwCl (cW tK tB h ak ab af ka kb n p (hr1 F n)) t.heap) (va_A (cW tK tB h ak ab af ka kb n p F) sz)) 0 0 (va_A (cW tK tB h ak ab af ka kb n p F) sz) := by
  refine Met.ofW (cc := cX2_spendHour) (maxL := 5) (ret := none) (by decide) rfl ?_
  intro p9 e9 s m args below meth c s₁ B hml hv
  obtain ⟨rfl, hsz, hP, hK, hD0, hE, hH⟩ := hv
  have hx := B.exec
  have hb := B.bytes
  have hr := B.returns
  have hts := atoms_spec (ws := wsX2_spendHour) B.pre
  have hown : s.vm.findClass RX2 = some m.cls := findClass_of_methodNamed B.named
  have hlocks := B.notSynchronized
  have hi2 : ∀ w ∈ u_ws RX2 TX2 9, w ∈ wsX2_spendHour := by decide +kernel
  have lk11 := hts (.fieldLink RX2 11 "Windlane" "kites" "[LWindlane$Kite;") (by decide +kernel)
  have lk158 := hts (.fieldLink RX2 158 "Windlane" "isRaining" "Z") (by decide +kernel)
  subst hsz
  have hD := hD0.self (sz := s.heap.size)
  generalize hAe : va_A (cW tK tB h ak ab af ka kb n p F) s.heap.size = A at hD hH ⊢
  have hA : ∀ q : Nat, s.heap.size ≤ q → A q := fun q h => by rw [← hAe]; exact Or.inr h
  have hS : va_S A s.heap s.heap [] := va_S.rf
  have hP : va_P (dC, dI) vwCl (cW tK tB h ak ab af ka kb n p F) s.heap := hP
  have hl := lv_entry ([.ref h]) (n := 5) (Nat.le_of_ble_eq_true rfl)
  rw [lg_entry_eq]
  generalize (lg_sl ([.ref h]) ++ List.replicate (5 - (lg_sl ([.ref h])).length) Slot.unset).toArray = ls at hl ⊢
  have hl : lv_has ls 5 [(0, .ref h)] := hl
  refine lv_aload_n hx hb dX2_spendHour_0 rfl (lv_at hl 0 rfl) ?_
  refine va_get (D := (dC, dI)) (ci := 2) (v := .ref ak) (C := RX2) (T := TX2) (N := 9) hx hb hts hi2 hown hK hP 0 rfl rfl 0 (by decide) lk11 (fun _ h9 => h9) rfl dX2_spendHour_1 ?_
  refine lv_astore_n (lv' := [(1, .ref ak), (0, .ref h)]) hx hb dX2_spendHour_4 rfl hl (by decide) rfl (fun ls hl => ?_)
  refine lv_aload_n hx hb dX2_spendHour_5 rfl (lv_at hl 0 rfl) ?_
  refine va_alen hx hb hK hP 1 0 rfl rfl (v := nI 8) rfl dX2_spendHour_6 ?_
  refine lv_istore_n (lv' := [(2, .int (nI 8)), (1, .ref ak), (0, .ref h)]) hx hb dX2_spendHour_7 rfl hl (by decide) rfl (fun ls hl => ?_)
  refine lv_iconst (v := 0) hx hb dX2_spendHour_8 (by decide) ?_
  refine lv_istore_n (lv' := [(3, .int 0), (2, .int (nI 8)), (1, .ref ak), (0, .ref h)]) hx hb dX2_spendHour_9 rfl hl (by decide) rfl (fun ls hl => ?_)
  refine W_loopH (nL := 5) (fun i : Nat => [(3, .int (nI i)), (0, .ref h), (1, .ref ak), (2, .int (nI 8))]) (fun (i : Nat) (H : Heap) (locs : List Loc) => i ≤ 8 ∧ va_P (dC, dI) vwCl (cW tK tB h ak ab af ka kb n p (sh F n i)) H ∧ va_S A s.heap H locs) (fun i => 8 - i) ?_ 0 (⟨Nat.zero_le _, by rw [sh_0]; exact hP, hS⟩) (lv_sub hl [0, 3, 2, 1] rfl)
  intro i H locs ls hI hl ih
  obtain ⟨hi8, hP, hS⟩ := hI
  have hl : lv_has ls 5 [(3, .int (nI i)), (0, .ref h), (1, .ref ak), (2, .int (nI 8))] := hl
  have hP : va_P (dC, dI) vwCl (cW tK tB h ak ab af ka kb n p (sh F n i)) H := hP
  have hD : va_D A (cW tK tB h ak ab af ka kb n p (sh F n i)) := cG_D hD
  refine lv_iload_n hx hb dX2_spendHour_10 rfl (lv_at hl 0 rfl) ?_
  refine lv_iload_n hx hb dX2_spendHour_11 rfl (lv_at hl 3 rfl) ?_
  refine lv_icmp_ge (tgt := 40) hx hb dX2_spendHour_12 (by decide) (fun c_12 => ?_) (fun c_12 => ?_)
  · skip
    have he : i = 8 := by have q := (nI_leI (a := 8) (b := i) (by omega) (by omega)).mp c_12; omega
    subst he
    rw [sh_8 hn8] at hP
    exact W.vret hx hb hr (fun t ht hW => ⟨⟨(), rfl, trivial, by show va_P _ _ _ t.heap; rw [ht]; exact hP⟩, hS.F ht⟩) hS.2.2 dX2_spendHour_40
  · skip
    have hi : i < 8 := Nat.not_le.mp (fun q => c_12 ((nI_leI (a := 8) (b := i) (by omega) (by omega)).mpr q))
    refine lv_aload_n hx hb dX2_spendHour_15 rfl (lv_at hl 2 rfl) ?_
    refine lv_iload_n hx hb dX2_spendHour_16 rfl (lv_at hl 0 rfl) ?_
    refine my_aldq hx hb hK hP 1 0 rfl rfl hi (Nat.le_of_ble_eq_true rfl) dX2_spendHour_17 ?_
    rcases Nat.lt_or_ge i n with hin | hin
    · skip
      refine W_top (y := .ref (ka i)) (show va_rf (if i < n then some (ka i) else none) = _ by rw [if_pos hin]; rfl) ?_
      refine lv_astore (lv' := [(4, .ref (ka i)), (3, .int (nI i)), (0, .ref h), (1, .ref ak), (2, .int (nI 8))]) hx hb dX2_spendHour_18 hl (by decide) rfl (fun ls hl => ?_)
      refine lv_aload hx hb dX2_spendHour_20 (lv_at hl 0 rfl) ?_
      refine lv_ifnull hx hb dX2_spendHour_22 ?_
      refine lv_aload hx hb dX2_spendHour_25 (lv_at hl 0 rfl) ?_
      refine lv_aload_n hx hb dX2_spendHour_27 rfl (lv_at hl 2 rfl) ?_
      refine va_get (D := (dC, dI)) (ci := 2) (v := .int ((sh F n i) 9 2)) (C := RX2) (T := TX2) (N := 9) hx hb hts hi2 hown hK hP 0 rfl rfl 7 (by decide) lk158 (fun _ h9 => h9) rfl dX2_spendHour_28 ?_
      have hq1 := one_P hP (cG_k hin)
      have hqD : va_D A [(ka i, kE (sh F n i) i)] := hD.sub [i + 4] (by simp [va_nd]) (by simp only [List.map_cons, List.map_nil, cG_k hin])
      refine va_callv (va_runV (As := [.int (F 9 2)]) (rest := []) ⟨hx, hb, hml, hown, hts⟩ (c_X1_spendHour l9 dC dI H.size (ka i) i (sh F n i) (F 9 2)) (cwV 1 hts gX2_spendHour_X1_spendHour rfl rfl rfl (by decide +kernel) ⟨Nat.le_of_ble_eq_true rfl, Nat.le_of_ble_eq_true rfl⟩) ⟨PWr.blind, va_recv (hK.sub (tys' := []) [] rfl) hq1 (ci := 1) (q0 := 0) rfl rfl, PWr.pre hq1 (hK.sub (tys' := []) [] rfl) hqD hE ((hH.kept hS.2.1).narrow (A_in hqD hS hA))⟩ rfl rfl hl.1 rfl (lv_room (Nat.le_of_ble_eq_true rfl)) dX2_spendHour_31 ⟨Nat.le_of_ble_eq_true rfl, Nat.le_of_ble_eq_true rfl⟩) hS (fun q _ hq => A_in hqD hS hA q hq) (A_in hqD hS hA) (fun u9 t9 H1 locs ht9 hvm hw9 hB hz1 hk1 hS => ?_)
      have hP1 : va_P (dC, dI) vwCl [(ka i, kE (up (sh F n i) 4 i (if ¬ F 9 2 = 0 ∧ ¬ (sh F n i) 6 i = -1 then 6 else if 0 < (sh F n i) 4 i then (sh F n i) 4 i - 1 else (sh F n i) 4 i)) i)] H1 := by rw [← ht9]; exact hB
      have hP := (join_1 hP hD (cG_k hin) hk1 hP1).1
      generalize H1 = H at hP hS ⊢
      have hP : va_P (dC, dI) vwCl (cW tK tB h ak ab af ka kb n p (up (sh F n i) 4 i (if ¬ F 9 2 = 0 ∧ ¬ (sh F n i) 6 i = -1 then 6 else if 0 < (sh F n i) 4 i then (sh F n i) 4 i - 1 else (sh F n i) 4 i))) H := P_eq (putE (i := 4) hin (by decide) rfl) hP
      rw [sh_step hin] at hP
      refine lv_iinc (v := nI (i + 1)) (lv' := [(3, .int (nI (i + 1))), (4, .ref (ka i)), (0, .ref h), (1, .ref ak), (2, .int (nI 8))]) hx hb dX2_spendHour_34 hl (k := 1) rfl (nI_1 _) (by decide) rfl (fun ls hl => ?_)
      refine lv_goto (tgt := 10) hx hb dX2_spendHour_37 (by decide) ?_
      exact ih (i + 1) _ _ ls (by omega) (⟨by omega, hP, hS⟩) (lv_sub hl [0, 2, 3, 4] rfl)
    · skip
      refine W_top (y := .null) (show va_rf (if i < n then some (ka i) else none) = _ by rw [if_neg (Nat.not_lt.mpr hin)]; rfl) ?_
      refine lv_astoreN (lv' := [(4, .null), (3, .int (nI i)), (0, .ref h), (1, .ref ak), (2, .int (nI 8))]) hx hb dX2_spendHour_18 hl (by decide) rfl (fun ls hl => ?_)
      refine lv_aloadN hx hb dX2_spendHour_20 (lv_at hl 0 rfl) ?_
      refine lv_ifnullN (tgt := 34) hx hb dX2_spendHour_22 (by decide) ?_
      refine lv_iinc (v := nI (i + 1)) (lv' := [(3, .int (nI (i + 1))), (4, .null), (0, .ref h), (1, .ref ak), (2, .int (nI 8))]) hx hb dX2_spendHour_34 hl (k := 1) rfl (nI_1 _) (by decide) rfl (fun ls hl => ?_)
      refine lv_goto (tgt := 10) hx hb dX2_spendHour_37 (by decide) ?_
      rw [← sh_past hin] at hP
      exact ih (i + 1) _ _ ls (by omega) (⟨by omega, hP, hS⟩) (lv_sub hl [0, 2, 3, 4] rfl)
