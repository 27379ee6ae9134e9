set_option maxHeartbeats 4000000 in
set_option maxRecDepth 100000 in
theorem c_X3_pass (l9 : Launch) (dC : Nat → ClassId) (dI : Nat → Nat → Nat) (sz : Nat) {cI cZ : ClassId} (h : Nat) (a : Nat → Nat) (th : Int32) (n p : Nat) (F : Rows) (hs : Int32) (hI : Inv n p F) : Met l9 yX3_pass wsX3_pass ({ frames := 1, cells := 0, slots := 0, locals := 22 }) (va_Pc [.ref h, .int hs] (PWr dC dI [(cI, .int), (cZ, .boolean)] (rW cI cZ h a th n p F) sz)) (va_Qi (fun r9 (_ : Unit) => r9 = (S_pass n F hs).2.1) (fun _ t => va_P (dC, dI) vwCl (rW cI cZ h a ((S_pass n F hs).1) n p ((S_pass n F hs).2.2)) t.heap) (va_A (rW cI cZ h a th n p F) sz)) 0 0 (va_A (rW cI cZ h a th n p F) sz) := by
  refine Met.ofW (cc := cX3_pass) (maxL := 5) (ret := (some .int)) (by decide) rfl ?_
  intro p9 e9 s m args below meth c s₁ B hml hv
  obtain ⟨rfl, hsz, hP, hK, hD0, hE, hH⟩ := hv
  have hx := B.exec
  have hb := B.bytes
  have hr := B.returns
  have hts := atoms_spec (ws := wsX3_pass) B.pre
  have hown : s.vm.findClass RX3 = some m.cls := findClass_of_methodNamed B.named
  have hlocks := B.notSynchronized
  have hi3 : ∀ w ∈ u_ws RX3 TX3 16, w ∈ wsX3_pass := by decide +kernel
  have lk23 := hts (.fieldLink RX3 23 "WindlaneModel" "wet" "[I") (by decide +kernel)
  have lk29 := hts (.fieldLink RX3 29 "WindlaneModel" "laneOf" "[I") (by decide +kernel)
  have lk42 := hts (.fieldLink RX3 42 "WindlaneModel" "kites" "I") (by decide +kernel)
  have lk107 := hts (.fieldLink RX3 107 "WindlaneModel" "isRain" "Z") (by decide +kernel)
  subst hsz
  have hD := hD0.self (sz := s.heap.size)
  generalize hAe : va_A (rW cI cZ h a th n p F) s.heap.size = A at hD hH ⊢
  have hA : ∀ q : Nat, s.heap.size ≤ q → A q := fun q h => by rw [← hAe]; exact Or.inr h
  have hS : va_S A s.heap s.heap [] := va_S.rf
  have hP : va_P (dC, dI) vwCl (rW cI cZ h a th n p F) s.heap := hP
  have hn8 : n ≤ 8 := hI.1.1
  have hp8 : p ≤ 8 := hI.1.2
  have hl := lv_entry ([.ref h, .int hs]) (n := 5) (Nat.le_of_ble_eq_true rfl)
  rw [lg_entry_eq]
  generalize (lg_sl ([.ref h, .int hs]) ++ List.replicate (5 - (lg_sl ([.ref h, .int hs])).length) Slot.unset).toArray = ls at hl ⊢
  have hl : lv_has ls 5 [(0, .ref h), (1, .int hs)] := hl
  refine lv_aload_n hx hb dX3_pass_0 rfl (lv_at hl 0 rfl) ?_
  refine lv_iload_n hx hb dX3_pass_1 rfl (lv_at hl 1 rfl) ?_
  refine lv_iconst (v := 1) hx hb dX3_pass_2 (by decide) ?_
  refine lv_bipush (v := 24) hx hb dX3_pass_3 (by decide) ?_
  refine vp_callSi (va_Run.run (va_runS (As := [.int hs, .int 1, .int 24]) (rest := [.ref h]) ⟨hx, hb, hml, hown, hts⟩ (c_X3_isIn l9 hs 1 24) (va_cwS 3 hts gX3_pass_X3_isIn rfl rfl rfl (by decide +kernel) ⟨Nat.le_of_ble_eq_true rfl, Nat.le_of_ble_eq_true rfl⟩) ⟨fun a U g mk q => q, fun U hU hW => ⟨rfl, trivial⟩⟩ rfl rfl hl.1 rfl (lv_room (Nat.le_of_ble_eq_true rfl)) dX3_pass_5 ⟨Nat.le_of_ble_eq_true rfl, Nat.le_of_ble_eq_true rfl⟩)) (fun r hr => ?_)
  subst hr
  refine lv_if_eq (tgt := 15) hx hb dX3_pass_8 (by decide) (fun c_8 => ?_) (fun c_8 => ?_)
  · skip
    have c_8 := bi_z.mp c_8
    refine lv_iconst (v := 1) hx hb dX3_pass_15 (by decide) ?_
    refine va_calli (va_runV (As := [.int 1]) (rest := []) ⟨hx, hb, hml, hown, hts⟩ (c_X3_holds l9 dC dI s.heap.size h a th n p F 1) (cwV 1 hts gX3_pass_X3_holds rfl rfl rfl (by decide +kernel) ⟨Nat.le_of_ble_eq_true rfl, Nat.le_of_ble_eq_true rfl⟩) ⟨PWr.blind, va_recv hK hP (ci := 3) (q0 := 0) rfl rfl, PWr.pre hP hK hD hE ((hH.kept hS.2.1).narrow (A_in hD hS hA))⟩ rfl rfl hl.1 rfl (lv_room (Nat.le_of_ble_eq_true rfl)) dX3_pass_16 ⟨Nat.le_of_ble_eq_true rfl, Nat.le_of_ble_eq_true rfl⟩) hS (fun q _ hq => A_in hD hS hA q hq) (A_in hD hS hA) (fun r9 u9 t9 H locs ht9 hvm hw9 hB hz1 hk1 hS => ?_)
    have hP : va_P (dC, dI) vwCl (rW cI cZ h a 1 n p F) H := by rw [← ht9]; exact hB
    have hD : va_D A (rW cI cZ h a 1 n p F) := D_same hD rfl
    refine W_top (y := .int (bi (1 = 0))) (congrArg Value.int hw9) ?_
    refine W_top (y := .int 0) (congrArg Value.int (bi_f (by decide))) ?_
    refine lv_if_ne (tgt := 24) hx hb dX3_pass_19 (by decide) (fun c_19 => absurd (by decide) c_19) (fun _ => ?_)
    refine lv_iconst (v := 0) hx hb dX3_pass_22 (by decide) ?_
    have hS9 : S_pass n F hs = (1, 0, F) := by rw [S_pass]; exact if_neg c_8
    exact W.iret (v := 0) hx hb hr (fun t ht hW => ⟨⟨_, (), rfl, (by rw [hS9]), by show va_P _ _ _ t.heap; rw [hS9, ht]; exact hP⟩, hS.F ht⟩) hS.2.2 dX3_pass_23
  · skip
    have c_8 := bi_nz.mp c_8
    refine lv_iconst (v := 0) hx hb dX3_pass_11 (by decide) ?_
    refine lv_goto (tgt := 16) hx hb dX3_pass_12 (by decide) ?_
    refine va_calli (va_runV (As := [.int 0]) (rest := []) ⟨hx, hb, hml, hown, hts⟩ (c_X3_holds l9 dC dI s.heap.size h a th n p F 0) (cwV 1 hts gX3_pass_X3_holds rfl rfl rfl (by decide +kernel) ⟨Nat.le_of_ble_eq_true rfl, Nat.le_of_ble_eq_true rfl⟩) ⟨PWr.blind, va_recv hK hP (ci := 3) (q0 := 0) rfl rfl, PWr.pre hP hK hD hE ((hH.kept hS.2.1).narrow (A_in hD hS hA))⟩ rfl rfl hl.1 rfl (lv_room (Nat.le_of_ble_eq_true rfl)) dX3_pass_16 ⟨Nat.le_of_ble_eq_true rfl, Nat.le_of_ble_eq_true rfl⟩) hS (fun q _ hq => A_in hD hS hA q hq) (A_in hD hS hA) (fun r9 u9 t9 H locs ht9 hvm hw9 hB hz1 hk1 hS => ?_)
    have hP : va_P (dC, dI) vwCl (rW cI cZ h a 0 n p F) H := by rw [← ht9]; exact hB
    have hD : va_D A (rW cI cZ h a 0 n p F) := D_same hD rfl
    refine W_top (y := .int (bi (0 = 0))) (congrArg Value.int hw9) ?_
    refine W_top (y := .int 1) (congrArg Value.int (bi_t rfl)) ?_
    refine lv_if_ne (tgt := 24) hx hb dX3_pass_19 (by decide) (fun _ => ?_) (fun c_19 => absurd c_19 (by decide))
    refine lv_iconst (v := 0) hx hb dX3_pass_24 (by decide) ?_
    refine lv_istore_n (lv' := [(2, .int 0), (0, .ref h), (1, .int hs)]) hx hb dX3_pass_25 rfl hl (by decide) rfl (fun ls hl => ?_)
    refine lv_iconst (v := 0) hx hb dX3_pass_26 (by decide) ?_
    refine lv_istore_n (lv' := [(3, .int 0), (2, .int 0), (0, .ref h), (1, .int hs)]) hx hb dX3_pass_27 rfl hl (by decide) rfl (fun ls hl => ?_)
    rw [← wet_0 (F := F) (h := hs)] at hP
    refine W_loopH (nL := 5) (fun i : Nat => [(2, .int (nI (cnt (fun j => decide (0 < wetv F hs j)) i))), (3, .int (nI i)), (0, .ref h), (1, .int hs)]) (fun (i : Nat) (H : Heap) (locs : List Loc) => i ≤ n ∧ va_P (dC, dI) vwCl (rW cI cZ h a 0 n p (wetF F i hs)) H ∧ va_S A s.heap H locs) (fun i => n - i) ?_ 0 (⟨Nat.zero_le _, hP, hS⟩) (lv_sub hl [1, 0, 2, 3] rfl)
    intro i H locs ls hI hl ih
    obtain ⟨hin9, hP, hS⟩ := hI
    have hl : lv_has ls 5 [(2, .int (nI (cnt (fun j => decide (0 < wetv F hs j)) i))), (3, .int (nI i)), (0, .ref h), (1, .int hs)] := hl
    have hP : va_P (dC, dI) vwCl (rW cI cZ h a 0 n p (wetF F i hs)) H := hP
    have hD : va_D A (rW cI cZ h a 0 n p (wetF F i hs)) := D_same hD rfl
    refine lv_iload_n hx hb dX3_pass_28 rfl (lv_at hl 1 rfl) ?_
    refine lv_aload_n hx hb dX3_pass_29 rfl (lv_at hl 2 rfl) ?_
    refine va_get (D := (dC, dI)) (ci := 3) (v := .int (nI n)) (C := RX3) (T := TX3) (N := 16) hx hb hts hi3 hown hK hP 0 rfl rfl 1 (by decide) lk42 (fun _ h9 => h9) rfl dX3_pass_30 ?_
    refine lv_icmp_ge (tgt := 121) hx hb dX3_pass_33 (by decide) (fun c_33 => ?_) (fun c_33 => ?_)
    · skip
      have he : i = n := by have q := (nI_leI (a := n) (b := i) (by omega) (by omega)).mp c_33; omega
      subst he
      refine lv_iload_n hx hb dX3_pass_121 rfl (lv_at hl 0 rfl) ?_
      have hS9 : S_pass i F hs = (0, nI (cnt (fun j => decide (0 < wetv F hs j)) i), wetF F i hs) := by rw [S_pass]; exact if_pos c_8
      exact W.iret (v := nI (cnt (fun j => decide (0 < wetv F hs j)) i)) hx hb hr (fun t ht hW => ⟨⟨_, (), rfl, (by rw [hS9]), by show va_P _ _ _ t.heap; rw [hS9, ht]; exact hP⟩, hS.F ht⟩) hS.2.2 dX3_pass_122
    · skip
      have hlt9 : i < n := Nat.not_le.mp (fun q => c_33 ((nI_leI (a := n) (b := i) (by omega) (by omega)).mpr q))
      refine W_join (pc := 58) (rest := []) (fun v => v = bi (¬ F 9 2 = 0 ∧ ¬ F 6 i = -1)) (fun v hv => ?_) (fun K => ?_)
      · subst hv
        refine lv_istore (lv' := [(4, .int (bi (¬ F 9 2 = 0 ∧ ¬ F 6 i = -1))), (2, .int (nI (cnt (fun j => decide (0 < wetv F hs j)) i))), (3, .int (nI i)), (0, .ref h), (1, .int hs)]) hx hb dX3_pass_58 hl (by decide) rfl (fun ls hl => ?_)
        refine lv_aload_n hx hb dX3_pass_60 rfl (lv_at hl 3 rfl) ?_
        refine va_get (D := (dC, dI)) (ci := 3) (v := .ref (a 4)) (C := RX3) (T := TX3) (N := 16) hx hb hts hi3 hown hK hP 0 rfl rfl 6 (by decide) lk23 (fun _ h9 => h9) rfl dX3_pass_61 ?_
        refine lv_iload_n hx hb dX3_pass_64 rfl (lv_at hl 2 rfl) ?_
        refine lv_iload hx hb dX3_pass_65 (lv_at hl 0 rfl) ?_
        refine W_join (pc := 97) (rest := [.int (nI i), .ref (a 4)]) (fun v => v = wetv F hs i) (fun v hv => ?_) (fun K => ?_)
        · subst hv
          refine my_iast hx hb hK hP hD hS 5 0 rfl rfl (Nat.lt_of_lt_of_le hlt9 hn8) (Nat.le_of_ble_eq_true rfl) dX3_pass_97 (fun H locs hP hD hS => ?_)
          have hP : va_P (dC, dI) vwCl (rW cI cZ h a 0 n p (up (wetF F i hs) 4 i (wetv F hs i))) H := hP
          have hD : va_D A (rW cI cZ h a 0 n p (up (wetF F i hs) 4 i (wetv F hs i))) := hD
          rw [wet_step] at hP hD
          refine lv_iload_n hx hb dX3_pass_98 rfl (lv_at hl 1 rfl) ?_
          refine lv_aload_n hx hb dX3_pass_99 rfl (lv_at hl 3 rfl) ?_
          refine va_get (D := (dC, dI)) (ci := 3) (v := .ref (a 4)) (C := RX3) (T := TX3) (N := 16) hx hb hts hi3 hown hK hP 0 rfl rfl 6 (by decide) lk23 (fun _ h9 => h9) rfl dX3_pass_100 ?_
          refine lv_iload_n hx hb dX3_pass_103 rfl (lv_at hl 2 rfl) ?_
          refine my_iald hx hb hK hP 5 0 rfl rfl (Nat.lt_of_lt_of_le hlt9 hn8) (Nat.le_of_ble_eq_true rfl) dX3_pass_104 ?_
          refine W_top (y := .int ((wetF F (i + 1) hs) 4 i)) (rfl) ?_
          refine W_top (y := .int (wetv F hs i)) (congrArg Value.int wet_i1) ?_
          refine lv_if_le (tgt := 112) hx hb dX3_pass_105 (by decide) (fun c_105 => ?_) (fun c_105 => ?_)
          · skip
            refine lv_iconst (v := 0) hx hb dX3_pass_112 (by decide) ?_
            refine lv_iadd hx hb dX3_pass_113 ?_
            refine W_top (y := .int (nI (cnt (fun j => decide (0 < wetv F hs j)) (i + 1)))) (congrArg Value.int (by rw [cnt_f (by simp only [decide_eq_true_eq]; intro q; rw [i32_lt] at q; rw [i32_le] at c_105; omega)]; exact Int32.add_zero _)) ?_
            refine lv_istore_n (lv' := [(2, .int (nI (cnt (fun j => decide (0 < wetv F hs j)) (i + 1)))), (4, .int (bi (¬ F 9 2 = 0 ∧ ¬ F 6 i = -1))), (3, .int (nI i)), (0, .ref h), (1, .int hs)]) hx hb dX3_pass_114 rfl hl (by decide) rfl (fun ls hl => ?_)
            refine lv_iinc (v := nI (i + 1)) (lv' := [(3, .int (nI (i + 1))), (2, .int (nI (cnt (fun j => decide (0 < wetv F hs j)) (i + 1)))), (4, .int (bi (¬ F 9 2 = 0 ∧ ¬ F 6 i = -1))), (0, .ref h), (1, .int hs)]) hx hb dX3_pass_115 hl (k := 2) rfl (nI_1 _) (by decide) rfl (fun ls hl => ?_)
            refine lv_goto (tgt := 28) hx hb dX3_pass_118 (by decide) ?_
            exact ih (i + 1) _ _ ls (by omega) (⟨by omega, hP, hS⟩) (lv_sub hl [1, 0, 3, 4] rfl)
          · skip
            refine lv_iconst (v := 1) hx hb dX3_pass_108 (by decide) ?_
            refine lv_goto (tgt := 113) hx hb dX3_pass_109 (by decide) ?_
            refine lv_iadd hx hb dX3_pass_113 ?_
            refine W_top (y := .int (nI (cnt (fun j => decide (0 < wetv F hs j)) (i + 1)))) (congrArg Value.int (by rw [cnt_t (by simp only [decide_eq_true_eq]; rw [i32_lt]; rw [i32_le] at c_105; omega)]; exact nI_1 _)) ?_
            refine lv_istore_n (lv' := [(2, .int (nI (cnt (fun j => decide (0 < wetv F hs j)) (i + 1)))), (4, .int (bi (¬ F 9 2 = 0 ∧ ¬ F 6 i = -1))), (3, .int (nI i)), (0, .ref h), (1, .int hs)]) hx hb dX3_pass_114 rfl hl (by decide) rfl (fun ls hl => ?_)
            refine lv_iinc (v := nI (i + 1)) (lv' := [(3, .int (nI (i + 1))), (2, .int (nI (cnt (fun j => decide (0 < wetv F hs j)) (i + 1)))), (4, .int (bi (¬ F 9 2 = 0 ∧ ¬ F 6 i = -1))), (0, .ref h), (1, .int hs)]) hx hb dX3_pass_115 hl (k := 2) rfl (nI_1 _) (by decide) rfl (fun ls hl => ?_)
            refine lv_goto (tgt := 28) hx hb dX3_pass_118 (by decide) ?_
            exact ih (i + 1) _ _ ls (by omega) (⟨by omega, hP, hS⟩) (lv_sub hl [1, 0, 3, 4] rfl)
        · skip
          refine lv_if_eq (tgt := 75) hx hb dX3_pass_67 (by decide) (fun c_67 => ?_) (fun c_67 => ?_)
          · skip
            have c_67 := bi_z.mp c_67
            refine lv_aload_n hx hb dX3_pass_75 rfl (lv_at hl 3 rfl) ?_
            refine va_get (D := (dC, dI)) (ci := 3) (v := .ref (a 4)) (C := RX3) (T := TX3) (N := 16) hx hb hts hi3 hown hK hP 0 rfl rfl 6 (by decide) lk23 (fun _ h9 => h9) rfl dX3_pass_76 ?_
            refine lv_iload_n hx hb dX3_pass_79 rfl (lv_at hl 2 rfl) ?_
            refine my_iald hx hb hK hP 5 0 rfl rfl (Nat.lt_of_lt_of_le hlt9 hn8) (Nat.le_of_ble_eq_true rfl) dX3_pass_80 ?_
            refine W_top (y := .int ((wetF F i hs) 4 i)) (rfl) ?_
            refine W_top (y := .int (F 4 i)) (congrArg Value.int wet_i) ?_
            refine lv_iload_n hx hb dX3_pass_81 rfl (lv_at hl 4 rfl) ?_
            refine lv_icmp_le (tgt := 96) hx hb dX3_pass_82 (by decide) (fun c_82 => ?_) (fun c_82 => ?_)
            · skip
              refine lv_iconst (v := 0) hx hb dX3_pass_96 (by decide) ?_
              exact K _ (((if_neg c_67).trans (if_neg (fun q => by rw [i32_lt] at q; rw [i32_le] at c_82; omega))).symm)
            · skip
              refine lv_aload_n hx hb dX3_pass_85 rfl (lv_at hl 3 rfl) ?_
              refine va_get (D := (dC, dI)) (ci := 3) (v := .ref (a 4)) (C := RX3) (T := TX3) (N := 16) hx hb hts hi3 hown hK hP 0 rfl rfl 6 (by decide) lk23 (fun _ h9 => h9) rfl dX3_pass_86 ?_
              refine lv_iload_n hx hb dX3_pass_89 rfl (lv_at hl 2 rfl) ?_
              refine my_iald hx hb hK hP 5 0 rfl rfl (Nat.lt_of_lt_of_le hlt9 hn8) (Nat.le_of_ble_eq_true rfl) dX3_pass_90 ?_
              refine W_top (y := .int ((wetF F i hs) 4 i)) (rfl) ?_
              refine W_top (y := .int (F 4 i)) (congrArg Value.int wet_i) ?_
              refine lv_iload_n hx hb dX3_pass_91 rfl (lv_at hl 4 rfl) ?_
              refine lv_isub hx hb dX3_pass_92 ?_
              refine lv_goto (tgt := 97) hx hb dX3_pass_93 (by decide) ?_
              exact K _ (((if_neg c_67).trans (if_pos (by rw [i32_lt]; rw [i32_le] at c_82; omega))).symm)
          · skip
            have c_67 := bi_nz.mp c_67
            refine lv_bipush (v := 6) hx hb dX3_pass_70 (by decide) ?_
            refine lv_goto (tgt := 97) hx hb dX3_pass_72 (by decide) ?_
            exact K _ ((if_pos c_67).symm)
      · skip
        refine lv_aload_n hx hb dX3_pass_36 rfl (lv_at hl 2 rfl) ?_
        refine va_get (D := (dC, dI)) (ci := 3) (v := .int (F 9 2)) (C := RX3) (T := TX3) (N := 16) hx hb hts hi3 hown hK hP 0 rfl rfl 14 (by decide) lk107 (fun _ h9 => h9) rfl dX3_pass_37 ?_
        refine lv_if_eq (tgt := 57) hx hb dX3_pass_40 (by decide) (fun c_40 => ?_) (fun c_40 => ?_)
        · skip
          refine lv_iconst (v := 0) hx hb dX3_pass_57 (by decide) ?_
          exact K _ ((bi_f (fun q => q.1 c_40)).symm)
        · skip
          refine lv_aload_n hx hb dX3_pass_43 rfl (lv_at hl 2 rfl) ?_
          refine va_get (D := (dC, dI)) (ci := 3) (v := .ref (a 6)) (C := RX3) (T := TX3) (N := 16) hx hb hts hi3 hown hK hP 0 rfl rfl 8 (by decide) lk29 (fun _ h9 => h9) rfl dX3_pass_44 ?_
          refine lv_iload_n hx hb dX3_pass_47 rfl (lv_at hl 1 rfl) ?_
          refine my_iald hx hb hK hP 7 0 rfl rfl (Nat.lt_of_lt_of_le hlt9 hn8) (Nat.le_of_ble_eq_true rfl) dX3_pass_48 ?_
          refine W_top (y := .int ((wetF F i hs) 6 i)) (rfl) ?_
          refine W_top (y := .int (F 6 i)) (rfl) ?_
          refine lv_iconst (v := (-1)) hx hb dX3_pass_49 (by decide) ?_
          refine lv_icmp_eq (tgt := 57) hx hb dX3_pass_50 (by decide) (fun c_50 => ?_) (fun c_50 => ?_)
          · skip
            refine lv_iconst (v := 0) hx hb dX3_pass_57 (by decide) ?_
            exact K _ ((bi_f (fun q => q.2 c_50)).symm)
          · skip
            refine lv_iconst (v := 1) hx hb dX3_pass_53 (by decide) ?_
            refine lv_goto (tgt := 58) hx hb dX3_pass_54 (by decide) ?_
            exact K _ ((bi_t ⟨c_40, c_50⟩).symm)

set_option maxHeartbeats 4000000 in
set_option maxRecDepth 100000 in
theorem c_X3_pull (l9 : Launch) (dC : Nat → ClassId) (dI : Nat → Nat → Nat) (sz : Nat) {cI cZ : ClassId} (h : Nat) (a : Nat → Nat) (th : Int32) (n p : Nat) (F : Rows) (its sp : Int32) (hI : Inv n p F) : Met l9 yX3_pull wsX3_pull ({ frames := 2, cells := 0, slots := 0, locals := 43 }) (va_Pc [.ref h, .int its, .int sp] (PWr dC dI [(cI, .int), (cZ, .boolean)] (rW cI cZ h a th n p F) sz)) (va_Qi (fun r9 (_ : Unit) => r9 = (S_pull n F its sp).2) (fun _ t => va_P (dC, dI) vwCl (rW cI cZ h a ((S_pull n F its sp).1) n p F) t.heap) (va_A (rW cI cZ h a th n p F) sz)) 0 0 (va_A (rW cI cZ h a th n p F) sz) := by
  refine Met.ofW (cc := cX3_pull) (maxL := 3) (ret := (some .int)) (by decide) rfl ?_
  intro p9 e9 s m args below meth c s₁ B hml hv
  obtain ⟨rfl, hsz, hP, hK, hD0, hE, hH⟩ := hv
  have hx := B.exec
  have hb := B.bytes
  have hr := B.returns
  have hts := atoms_spec (ws := wsX3_pull) B.pre
  have hown : s.vm.findClass RX3 = some m.cls := findClass_of_methodNamed B.named
  have hlocks := B.notSynchronized
  subst hsz
  have hD := hD0.self (sz := s.heap.size)
  generalize hAe : va_A (rW cI cZ h a th n p F) s.heap.size = A at hD hH ⊢
  have hA : ∀ q : Nat, s.heap.size ≤ q → A q := fun q h => by rw [← hAe]; exact Or.inr h
  have hS : va_S A s.heap s.heap [] := va_S.rf
  have hP : va_P (dC, dI) vwCl (rW cI cZ h a th n p F) s.heap := hP
  have hn8 : n ≤ 8 := hI.1.1
  have hp8 : p ≤ 8 := hI.1.2
  have hl := lv_entry ([.ref h, .int its, .int sp]) (n := 3) (Nat.le_of_ble_eq_true rfl)
  rw [lg_entry_eq]
  generalize (lg_sl ([.ref h, .int its, .int sp]) ++ List.replicate (3 - (lg_sl ([.ref h, .int its, .int sp])).length) Slot.unset).toArray = ls at hl ⊢
  have hl : lv_has ls 3 [(0, .ref h), (1, .int its), (2, .int sp)] := hl
  rcases inR_cases n its with ⟨k, hkn, rfl⟩ | hno
  · skip
    have hixk : ix n (nI k) = some k := ix_t hkn (by omega)
    refine lv_aload_n hx hb dX3_pull_0 rfl (lv_at hl 0 rfl) ?_
    refine lv_aload_n hx hb dX3_pull_1 rfl (lv_at hl 0 rfl) ?_
    refine lv_iload_n hx hb dX3_pull_2 rfl (lv_at hl 1 rfl) ?_
    refine vp_callSi (va_Run.run (va_runV (As := [.int (nI k)]) (rest := [.ref h]) ⟨hx, hb, hml, hown, hts⟩ (c_X3_isKite l9 dC dI h a th n p F (nI k) hn8) (cwV 1 hts gX3_pull_X3_isKite rfl rfl rfl (by decide +kernel) ⟨Nat.le_of_ble_eq_true rfl, Nat.le_of_ble_eq_true rfl⟩) ⟨PRo.blind, va_recv hK hP (ci := 3) (q0 := 0) rfl rfl, PRo.pre hP hK hE⟩ rfl rfl hl.1 rfl (lv_room (Nat.le_of_ble_eq_true rfl)) dX3_pull_3 ⟨Nat.le_of_ble_eq_true rfl, Nat.le_of_ble_eq_true rfl⟩)) (fun r hr => ?_)
    subst hr
    refine lv_if_ne (tgt := 13) hx hb dX3_pull_6 (by decide) (fun _ => ?_) (fun c_6 => absurd c_6 (bi_nz.mpr (inR_nI hkn (by omega))))
    refine lv_iload_n hx hb dX3_pull_13 rfl (lv_at hl 2 rfl) ?_
    refine lv_iconst (v := 0) hx hb dX3_pull_14 (by decide) ?_
    refine lv_bipush (v := 30) hx hb dX3_pull_15 (by decide) ?_
    refine vp_callSi (va_Run.run (va_runS (As := [.int sp, .int 0, .int 30]) (rest := [.ref h]) ⟨hx, hb, hml, hown, hts⟩ (c_X3_isIn l9 sp 0 30) (va_cwS 3 hts gX3_pull_X3_isIn rfl rfl rfl (by decide +kernel) ⟨Nat.le_of_ble_eq_true rfl, Nat.le_of_ble_eq_true rfl⟩) ⟨fun a U g mk q => q, fun U hU hW => ⟨rfl, trivial⟩⟩ rfl rfl hl.1 rfl (lv_room (Nat.le_of_ble_eq_true rfl)) dX3_pull_17 ⟨Nat.le_of_ble_eq_true rfl, Nat.le_of_ble_eq_true rfl⟩)) (fun r hr => ?_)
    subst hr
    refine lv_if_eq (tgt := 27) hx hb dX3_pull_20 (by decide) (fun c_20 => ?_) (fun c_20 => ?_)
    · skip
      have c_20 := bi_z.mp c_20
      refine lv_iconst (v := 2) hx hb dX3_pull_27 (by decide) ?_
      refine va_calli (va_runV (As := [.int 2]) (rest := []) ⟨hx, hb, hml, hown, hts⟩ (c_X3_holds l9 dC dI s.heap.size h a th n p F 2) (cwV 1 hts gX3_pull_X3_holds rfl rfl rfl (by decide +kernel) ⟨Nat.le_of_ble_eq_true rfl, Nat.le_of_ble_eq_true rfl⟩) ⟨PWr.blind, va_recv hK hP (ci := 3) (q0 := 0) rfl rfl, PWr.pre hP hK hD hE ((hH.kept hS.2.1).narrow (A_in hD hS hA))⟩ rfl rfl hl.1 rfl (lv_room (Nat.le_of_ble_eq_true rfl)) dX3_pull_28 ⟨Nat.le_of_ble_eq_true rfl, Nat.le_of_ble_eq_true rfl⟩) hS (fun q _ hq => A_in hD hS hA q hq) (A_in hD hS hA) (fun r9 u9 t9 H locs ht9 hvm hw9 hB hz1 hk1 hS => ?_)
      have hP : va_P (dC, dI) vwCl (rW cI cZ h a 2 n p F) H := by rw [← ht9]; exact hB
      have hD : va_D A (rW cI cZ h a 2 n p F) := D_same hD rfl
      refine W_top (y := .int (bi (2 = 0))) (congrArg Value.int hw9) ?_
      refine W_top (y := .int 0) (congrArg Value.int (bi_f (by decide))) ?_
      refine lv_if_ne (tgt := 36) hx hb dX3_pull_31 (by decide) (fun c_31 => absurd (by decide) c_31) (fun _ => ?_)
      refine lv_iconst (v := 0) hx hb dX3_pull_34 (by decide) ?_
      have hS9 : S_pull n F (nI k) sp = (2, 0) := by rw [S_pull, hixk]; exact if_neg c_20
      exact W.iret (v := 0) hx hb hr (fun t ht hW => ⟨⟨_, (), rfl, (by rw [hS9]), by show va_P _ _ _ t.heap; rw [hS9, ht]; exact hP⟩, hS.F ht⟩) hS.2.2 dX3_pull_35
    · skip
      have c_20 := bi_nz.mp c_20
      refine lv_iconst (v := 0) hx hb dX3_pull_23 (by decide) ?_
      refine lv_goto (tgt := 28) hx hb dX3_pull_24 (by decide) ?_
      refine va_calli (va_runV (As := [.int 0]) (rest := []) ⟨hx, hb, hml, hown, hts⟩ (c_X3_holds l9 dC dI s.heap.size h a th n p F 0) (cwV 1 hts gX3_pull_X3_holds rfl rfl rfl (by decide +kernel) ⟨Nat.le_of_ble_eq_true rfl, Nat.le_of_ble_eq_true rfl⟩) ⟨PWr.blind, va_recv hK hP (ci := 3) (q0 := 0) rfl rfl, PWr.pre hP hK hD hE ((hH.kept hS.2.1).narrow (A_in hD hS hA))⟩ rfl rfl hl.1 rfl (lv_room (Nat.le_of_ble_eq_true rfl)) dX3_pull_28 ⟨Nat.le_of_ble_eq_true rfl, Nat.le_of_ble_eq_true rfl⟩) hS (fun q _ hq => A_in hD hS hA q hq) (A_in hD hS hA) (fun r9 u9 t9 H locs ht9 hvm hw9 hB hz1 hk1 hS => ?_)
      have hP : va_P (dC, dI) vwCl (rW cI cZ h a 0 n p F) H := by rw [← ht9]; exact hB
      have hD : va_D A (rW cI cZ h a 0 n p F) := D_same hD rfl
      refine W_top (y := .int (bi (0 = 0))) (congrArg Value.int hw9) ?_
      refine W_top (y := .int 1) (congrArg Value.int (bi_t rfl)) ?_
      refine lv_if_ne (tgt := 36) hx hb dX3_pull_31 (by decide) (fun _ => ?_) (fun c_31 => absurd c_31 (by decide))
      refine lv_aload_n hx hb dX3_pull_36 rfl (lv_at hl 0 rfl) ?_
      refine lv_iload_n hx hb dX3_pull_37 rfl (lv_at hl 1 rfl) ?_
      refine lv_iload_n hx hb dX3_pull_38 rfl (lv_at hl 2 rfl) ?_
      refine vp_callSi (va_Run.run (va_runV (As := [.int (nI k), .int sp]) (rest := []) ⟨hx, hb, hml, hown, hts⟩ (c_X3_pullIn l9 dC dI h a 0 n p F k sp (Nat.lt_of_lt_of_le hkn hn8) (hI.kd k hkn)) (cwV 2 hts gX3_pull_X3_pullIn rfl rfl rfl (by decide +kernel) ⟨Nat.le_of_ble_eq_true rfl, Nat.le_of_ble_eq_true rfl⟩) ⟨PRo.blind, va_recv hK hP (ci := 3) (q0 := 0) rfl rfl, PRo.pre hP hK hE⟩ rfl rfl hl.1 rfl (lv_room (Nat.le_of_ble_eq_true rfl)) dX3_pull_39 ⟨Nat.le_of_ble_eq_true rfl, Nat.le_of_ble_eq_true rfl⟩)) (fun r hr => ?_)
      subst hr
      have hS9 : S_pull n F (nI k) sp = (0, pl F k sp) := by rw [S_pull, hixk]; exact if_pos c_20
      exact W.iret (v := pl F k sp) hx hb hr (fun t ht hW => ⟨⟨_, (), rfl, (by rw [hS9]), by show va_P _ _ _ t.heap; rw [hS9, ht]; exact hP⟩, hS.F ht⟩) hS.2.2 dX3_pull_42
  · skip
    refine lv_aload_n hx hb dX3_pull_0 rfl (lv_at hl 0 rfl) ?_
    refine lv_aload_n hx hb dX3_pull_1 rfl (lv_at hl 0 rfl) ?_
    refine lv_iload_n hx hb dX3_pull_2 rfl (lv_at hl 1 rfl) ?_
    refine vp_callSi (va_Run.run (va_runV (As := [.int its]) (rest := [.ref h]) ⟨hx, hb, hml, hown, hts⟩ (c_X3_isKite l9 dC dI h a th n p F its hn8) (cwV 1 hts gX3_pull_X3_isKite rfl rfl rfl (by decide +kernel) ⟨Nat.le_of_ble_eq_true rfl, Nat.le_of_ble_eq_true rfl⟩) ⟨PRo.blind, va_recv hK hP (ci := 3) (q0 := 0) rfl rfl, PRo.pre hP hK hE⟩ rfl rfl hl.1 rfl (lv_room (Nat.le_of_ble_eq_true rfl)) dX3_pull_3 ⟨Nat.le_of_ble_eq_true rfl, Nat.le_of_ble_eq_true rfl⟩)) (fun r hr => ?_)
    subst hr
    refine lv_if_ne (tgt := 13) hx hb dX3_pull_6 (by decide) (fun c_6 => absurd (bi_f hno) c_6) (fun _ => ?_)
    refine lv_iconst (v := 1) hx hb dX3_pull_9 (by decide) ?_
    refine lv_goto (tgt := 28) hx hb dX3_pull_10 (by decide) ?_
    refine va_calli (va_runV (As := [.int 1]) (rest := []) ⟨hx, hb, hml, hown, hts⟩ (c_X3_holds l9 dC dI s.heap.size h a th n p F 1) (cwV 1 hts gX3_pull_X3_holds rfl rfl rfl (by decide +kernel) ⟨Nat.le_of_ble_eq_true rfl, Nat.le_of_ble_eq_true rfl⟩) ⟨PWr.blind, va_recv hK hP (ci := 3) (q0 := 0) rfl rfl, PWr.pre hP hK hD hE ((hH.kept hS.2.1).narrow (A_in hD hS hA))⟩ rfl rfl hl.1 rfl (lv_room (Nat.le_of_ble_eq_true rfl)) dX3_pull_28 ⟨Nat.le_of_ble_eq_true rfl, Nat.le_of_ble_eq_true rfl⟩) hS (fun q _ hq => A_in hD hS hA q hq) (A_in hD hS hA) (fun r9 u9 t9 H locs ht9 hvm hw9 hB hz1 hk1 hS => ?_)
    have hP : va_P (dC, dI) vwCl (rW cI cZ h a 1 n p F) H := by rw [← ht9]; exact hB
    have hD : va_D A (rW cI cZ h a 1 n p F) := D_same hD rfl
    refine W_top (y := .int (bi (1 = 0))) (congrArg Value.int hw9) ?_
    refine W_top (y := .int 0) (congrArg Value.int (bi_f (by decide))) ?_
    refine lv_if_ne (tgt := 36) hx hb dX3_pull_31 (by decide) (fun c_31 => absurd (by decide) c_31) (fun _ => ?_)
    refine lv_iconst (v := 0) hx hb dX3_pull_34 (by decide) ?_
    have hS9 : S_pull n F its sp = (1, 0) := by rw [S_pull, ix_f hno]
    exact W.iret (v := 0) hx hb hr (fun t ht hW => ⟨⟨_, (), rfl, (by rw [hS9]), by show va_P _ _ _ t.heap; rw [hS9, ht]; exact hP⟩, hS.F ht⟩) hS.2.2 dX3_pull_35

set_option maxHeartbeats 4000000 in
set_option maxRecDepth 100000 in
theorem c_X3_pullAnew (l9 : Launch) (dC : Nat → ClassId) (dI : Nat → Nat → Nat) (sz : Nat) {cI cZ : ClassId} (h : Nat) (a : Nat → Nat) (th : Int32) (n p : Nat) (F : Rows) (its sp : Int32) (hI : Inv n p F) : Met l9 yX3_pullAnew wsX3_pullAnew ({ frames := 3, cells := 0, slots := 0, locals := 65 }) (va_Pc [.ref h, .int its, .int sp] (PWr dC dI [(cI, .int), (cZ, .boolean)] (rW cI cZ h a th n p F) sz)) (va_Qi (fun r9 (_ : Unit) => r9 = (S_pull n F its sp).2) (fun _ t => va_P (dC, dI) vwCl (rW cI cZ h a ((S_pull n F its sp).1) n p F) t.heap) (va_A (rW cI cZ h a th n p F) sz)) 0 0 (va_A (rW cI cZ h a th n p F) sz) := by
  refine Met.ofW (cc := cX3_pullAnew) (maxL := 3) (ret := (some .int)) (by decide) rfl ?_
  intro p9 e9 s m args below meth c s₁ B hml hv
  obtain ⟨rfl, hsz, hP, hK, hD0, hE, hH⟩ := hv
  have hx := B.exec
  have hb := B.bytes
  have hr := B.returns
  have hts := atoms_spec (ws := wsX3_pullAnew) B.pre
  have hown : s.vm.findClass RX3 = some m.cls := findClass_of_methodNamed B.named
  have hlocks := B.notSynchronized
  subst hsz
  have hD := hD0.self (sz := s.heap.size)
  generalize hAe : va_A (rW cI cZ h a th n p F) s.heap.size = A at hD hH ⊢
  have hA : ∀ q : Nat, s.heap.size ≤ q → A q := fun q h => by rw [← hAe]; exact Or.inr h
  have hS : va_S A s.heap s.heap [] := va_S.rf
  have hP : va_P (dC, dI) vwCl (rW cI cZ h a th n p F) s.heap := hP
  have hn8 : n ≤ 8 := hI.1.1
  have hp8 : p ≤ 8 := hI.1.2
  have hl := lv_entry ([.ref h, .int its, .int sp]) (n := 3) (Nat.le_of_ble_eq_true rfl)
  rw [lg_entry_eq]
  generalize (lg_sl ([.ref h, .int its, .int sp]) ++ List.replicate (3 - (lg_sl ([.ref h, .int its, .int sp])).length) Slot.unset).toArray = ls at hl ⊢
  have hl : lv_has ls 3 [(0, .ref h), (1, .int its), (2, .int sp)] := hl
  refine lv_aload_n hx hb dX3_pullAnew_0 rfl (lv_at hl 0 rfl) ?_
  refine lv_iload_n hx hb dX3_pullAnew_1 rfl (lv_at hl 1 rfl) ?_
  refine lv_iload_n hx hb dX3_pullAnew_2 rfl (lv_at hl 2 rfl) ?_
  refine va_calli (va_runV (As := [.int its, .int sp]) (rest := []) ⟨hx, hb, hml, hown, hts⟩ (c_X3_pull l9 dC dI s.heap.size h a th n p F its sp hI) (cwV 2 hts gX3_pullAnew_X3_pull rfl rfl rfl (by decide +kernel) ⟨Nat.le_of_ble_eq_true rfl, Nat.le_of_ble_eq_true rfl⟩) ⟨PWr.blind, va_recv hK hP (ci := 3) (q0 := 0) rfl rfl, PWr.pre hP hK hD hE ((hH.kept hS.2.1).narrow (A_in hD hS hA))⟩ rfl rfl hl.1 rfl (lv_room (Nat.le_of_ble_eq_true rfl)) dX3_pullAnew_3 ⟨Nat.le_of_ble_eq_true rfl, Nat.le_of_ble_eq_true rfl⟩) hS (fun q _ hq => A_in hD hS hA q hq) (A_in hD hS hA) (fun r9 u9 t9 H locs ht9 hvm hw9 hB hz1 hk1 hS => ?_)
  have hP : va_P (dC, dI) vwCl (rW cI cZ h a ((S_pull n F its sp).1) n p F) H := by rw [← ht9]; exact hB
  have hD : va_D A (rW cI cZ h a ((S_pull n F its sp).1) n p F) := D_same hD rfl
  refine W_top (y := .int ((S_pull n F its sp).2)) (congrArg Value.int hw9) ?_
  exact W.iret (v := (S_pull n F its sp).2) hx hb hr (fun t ht hW => ⟨⟨_, (), rfl, (rfl), by show va_P _ _ _ t.heap; rw [ht]; exact hP⟩, hS.F ht⟩) hS.2.2 dX3_pullAnew_6

set_option maxHeartbeats 4000000 in
set_option maxRecDepth 100000 in
theorem c_X3_window (l9 : Launch) (dC : Nat → ClassId) (dI : Nat → Nat → Nat) (sz : Nat) {cI cZ : ClassId} (h : Nat) (a : Nat → Nat) (th : Int32) (n p : Nat) (F : Rows) (its g0 : Int32) (hI : Inv n p F) : Met l9 yX3_window wsX3_window ({ frames := 2, cells := 0, slots := 0, locals := 45 }) (va_Pc [.ref h, .int its, .int g0] (PWr dC dI [(cI, .int), (cZ, .boolean)] (rW cI cZ h a th n p F) sz)) (va_Qi (fun r9 (_ : Unit) => r9 = (S_window n F its g0).2) (fun _ t => va_P (dC, dI) vwCl (rW cI cZ h a ((S_window n F its g0).1) n p F) t.heap) (va_A (rW cI cZ h a th n p F) sz)) 0 0 (va_A (rW cI cZ h a th n p F) sz) := by
  refine Met.ofW (cc := cX3_window) (maxL := 5) (ret := (some .int)) (by decide) rfl ?_
  intro p9 e9 s m args below meth c s₁ B hml hv
  obtain ⟨rfl, hsz, hP, hK, hD0, hE, hH⟩ := hv
  have hx := B.exec
  have hb := B.bytes
  have hr := B.returns
  have hts := atoms_spec (ws := wsX3_window) B.pre
  have hown : s.vm.findClass RX3 = some m.cls := findClass_of_methodNamed B.named
  have hlocks := B.notSynchronized
  subst hsz
  have hD := hD0.self (sz := s.heap.size)
  generalize hAe : va_A (rW cI cZ h a th n p F) s.heap.size = A at hD hH ⊢
  have hA : ∀ q : Nat, s.heap.size ≤ q → A q := fun q h => by rw [← hAe]; exact Or.inr h
  have hS : va_S A s.heap s.heap [] := va_S.rf
  have hP : va_P (dC, dI) vwCl (rW cI cZ h a th n p F) s.heap := hP
  have hn8 : n ≤ 8 := hI.1.1
  have hp8 : p ≤ 8 := hI.1.2
  have hl := lv_entry ([.ref h, .int its, .int g0]) (n := 5) (Nat.le_of_ble_eq_true rfl)
  rw [lg_entry_eq]
  generalize (lg_sl ([.ref h, .int its, .int g0]) ++ List.replicate (5 - (lg_sl ([.ref h, .int its, .int g0])).length) Slot.unset).toArray = ls at hl ⊢
  have hl : lv_has ls 5 [(0, .ref h), (1, .int its), (2, .int g0)] := hl
  rcases inR_cases n its with ⟨k, hkn, rfl⟩ | hno
  · skip
    have hixk : ix n (nI k) = some k := ix_t hkn (by omega)
    refine lv_aload_n hx hb dX3_window_0 rfl (lv_at hl 0 rfl) ?_
    refine lv_aload_n hx hb dX3_window_1 rfl (lv_at hl 0 rfl) ?_
    refine lv_iload_n hx hb dX3_window_2 rfl (lv_at hl 1 rfl) ?_
    refine vp_callSi (va_Run.run (va_runV (As := [.int (nI k)]) (rest := [.ref h]) ⟨hx, hb, hml, hown, hts⟩ (c_X3_isKite l9 dC dI h a th n p F (nI k) hn8) (cwV 1 hts gX3_window_X3_isKite rfl rfl rfl (by decide +kernel) ⟨Nat.le_of_ble_eq_true rfl, Nat.le_of_ble_eq_true rfl⟩) ⟨PRo.blind, va_recv hK hP (ci := 3) (q0 := 0) rfl rfl, PRo.pre hP hK hE⟩ rfl rfl hl.1 rfl (lv_room (Nat.le_of_ble_eq_true rfl)) dX3_window_3 ⟨Nat.le_of_ble_eq_true rfl, Nat.le_of_ble_eq_true rfl⟩)) (fun r hr => ?_)
    subst hr
    refine lv_if_eq (tgt := 13) hx hb dX3_window_6 (by decide) (fun c_6 => absurd c_6 (bi_nz.mpr (inR_nI hkn (by omega)))) (fun _ => ?_)
    refine lv_iconst (v := 0) hx hb dX3_window_9 (by decide) ?_
    refine lv_goto (tgt := 14) hx hb dX3_window_10 (by decide) ?_
    refine va_calli (va_runV (As := [.int 0]) (rest := []) ⟨hx, hb, hml, hown, hts⟩ (c_X3_holds l9 dC dI s.heap.size h a th n p F 0) (cwV 1 hts gX3_window_X3_holds rfl rfl rfl (by decide +kernel) ⟨Nat.le_of_ble_eq_true rfl, Nat.le_of_ble_eq_true rfl⟩) ⟨PWr.blind, va_recv hK hP (ci := 3) (q0 := 0) rfl rfl, PWr.pre hP hK hD hE ((hH.kept hS.2.1).narrow (A_in hD hS hA))⟩ rfl rfl hl.1 rfl (lv_room (Nat.le_of_ble_eq_true rfl)) dX3_window_14 ⟨Nat.le_of_ble_eq_true rfl, Nat.le_of_ble_eq_true rfl⟩) hS (fun q _ hq => A_in hD hS hA q hq) (A_in hD hS hA) (fun r9 u9 t9 H locs ht9 hvm hw9 hB hz1 hk1 hS => ?_)
    have hP : va_P (dC, dI) vwCl (rW cI cZ h a 0 n p F) H := by rw [← ht9]; exact hB
    have hD : va_D A (rW cI cZ h a 0 n p F) := D_same hD rfl
    refine W_top (y := .int (bi (0 = 0))) (congrArg Value.int hw9) ?_
    refine W_top (y := .int 1) (congrArg Value.int (bi_t rfl)) ?_
    refine lv_if_ne (tgt := 22) hx hb dX3_window_17 (by decide) (fun _ => ?_) (fun c_17 => absurd c_17 (by decide))
    refine lv_iconst (v := (-1)) hx hb dX3_window_22 (by decide) ?_
    refine lv_istore_n (lv' := [(3, .int (-1)), (0, .ref h), (1, .int (nI k)), (2, .int g0)]) hx hb dX3_window_23 rfl hl (by decide) rfl (fun ls hl => ?_)
    refine lv_iconst (v := 0) hx hb dX3_window_24 (by decide) ?_
    refine lv_istore (lv' := [(4, .int 0), (3, .int (-1)), (0, .ref h), (1, .int (nI k)), (2, .int g0)]) hx hb dX3_window_25 hl (by decide) rfl (fun ls hl => ?_)
    refine W_loopR (nL := 5) (fun i : Nat => [(3, .int (wd F k g0 i)), (4, .int (nI i)), (0, .ref h), (1, .int (nI k)), (2, .int g0)]) (fun i => i ≤ 31) (fun i => 31 - i) ?_ 0 (Nat.zero_le _) (lv_sub hl [1, 0, 2, 3, 4] rfl)
    intro i ls hI9 hl ih
    have hl : lv_has ls 5 [(3, .int (wd F k g0 i)), (4, .int (nI i)), (0, .ref h), (1, .int (nI k)), (2, .int g0)] := hl
    have hi31 := hI9
    refine lv_iload hx hb dX3_window_27 (lv_at hl 1 rfl) ?_
    refine lv_bipush (v := 30) hx hb dX3_window_29 (by decide) ?_
    refine lv_icmp_gt (tgt := 66) hx hb dX3_window_31 (by decide) (fun c_31 => ?_) (fun c_31 => ?_)
    · skip
      have he : i = 31 := by have q := (nI_ltI (a := 30) (b := i) (by omega) (by omega)).mp c_31; omega
      subst he
      refine lv_iload_n hx hb dX3_window_66 rfl (lv_at hl 0 rfl) ?_
      have hS9 : S_window n F (nI k) g0 = (0, wd F k g0 31) := by rw [S_window, hixk]
      exact W.iret (v := wd F k g0 31) hx hb hr (fun t ht hW => ⟨⟨_, (), rfl, (by rw [hS9]), by show va_P _ _ _ t.heap; rw [hS9, ht]; exact hP⟩, hS.F ht⟩) hS.2.2 dX3_window_67
    · skip
      have hlt9 : i < 31 := Nat.not_le.mp (fun q => c_31 ((nI_ltI (a := 30) (b := i) (by omega) (by omega)).mpr (by omega)))
      refine lv_aload_n hx hb dX3_window_34 rfl (lv_at hl 2 rfl) ?_
      refine lv_iload_n hx hb dX3_window_35 rfl (lv_at hl 3 rfl) ?_
      refine lv_iload hx hb dX3_window_36 (lv_at hl 1 rfl) ?_
      refine vp_callSi (va_Run.run (va_runV (As := [.int (nI k), .int (nI i)]) (rest := []) ⟨hx, hb, hml, hown, hts⟩ (c_X3_isHeld l9 dC dI h a 0 n p F k (nI i) (Nat.lt_of_lt_of_le hkn hn8) (hI.kd k hkn)) (cwV 2 hts gX3_window_X3_isHeld rfl rfl rfl (by decide +kernel) ⟨Nat.le_of_ble_eq_true rfl, Nat.le_of_ble_eq_true rfl⟩) ⟨PRo.blind, va_recv hK hP (ci := 3) (q0 := 0) rfl rfl, PRo.pre hP hK hE⟩ rfl rfl hl.1 rfl (lv_room (Nat.le_of_ble_eq_true rfl)) dX3_window_38 ⟨Nat.le_of_ble_eq_true rfl, Nat.le_of_ble_eq_true rfl⟩)) (fun r hr => ?_)
      subst hr
      refine lv_if_eq (tgt := 58) hx hb dX3_window_41 (by decide) (fun c_41 => ?_) (fun c_41 => ?_)
      · skip
        have c_41 := bi_z.mp c_41
        refine lv_iload_n hx hb dX3_window_58 rfl (lv_at hl 0 rfl) ?_
        refine W_top (y := .int (wd F k g0 (i + 1))) (congrArg Value.int ((if_neg (fun q => c_41 q.1) : wd F k g0 (i + 1) = _)).symm) ?_
        refine lv_istore_n (lv' := [(3, .int (wd F k g0 (i + 1))), (4, .int (nI i)), (0, .ref h), (1, .int (nI k)), (2, .int g0)]) hx hb dX3_window_59 rfl hl (by decide) rfl (fun ls hl => ?_)
        refine lv_iinc (v := nI (i + 1)) (lv' := [(4, .int (nI (i + 1))), (3, .int (wd F k g0 (i + 1))), (0, .ref h), (1, .int (nI k)), (2, .int g0)]) hx hb dX3_window_60 hl (k := 1) rfl (nI_1 _) (by decide) rfl (fun ls hl => ?_)
        refine lv_goto (tgt := 27) hx hb dX3_window_63 (by decide) ?_
        exact ih (i + 1) ls (by omega) (by omega) (lv_sub hl [1, 0, 2, 3, 4] rfl)
      · skip
        have c_41 := bi_nz.mp c_41
        refine lv_iload_n hx hb dX3_window_44 rfl (lv_at hl 4 rfl) ?_
        refine lv_if_ne (tgt := 53) hx hb dX3_window_45 (by decide) (fun c_45 => ?_) (fun c_45 => ?_)
        · skip
          refine lv_iload hx hb dX3_window_53 (lv_at hl 1 rfl) ?_
          refine lv_goto (tgt := 59) hx hb dX3_window_55 (by decide) ?_
          refine W_top (y := .int (wd F k g0 (i + 1))) (congrArg Value.int ((if_pos ⟨c_41, Or.inl c_45⟩ : wd F k g0 (i + 1) = _)).symm) ?_
          refine lv_istore_n (lv' := [(3, .int (wd F k g0 (i + 1))), (4, .int (nI i)), (0, .ref h), (1, .int (nI k)), (2, .int g0)]) hx hb dX3_window_59 rfl hl (by decide) rfl (fun ls hl => ?_)
          refine lv_iinc (v := nI (i + 1)) (lv' := [(4, .int (nI (i + 1))), (3, .int (wd F k g0 (i + 1))), (0, .ref h), (1, .int (nI k)), (2, .int g0)]) hx hb dX3_window_60 hl (k := 1) rfl (nI_1 _) (by decide) rfl (fun ls hl => ?_)
          refine lv_goto (tgt := 27) hx hb dX3_window_63 (by decide) ?_
          exact ih (i + 1) ls (by omega) (by omega) (lv_sub hl [1, 0, 2, 3, 4] rfl)
        · skip
          refine lv_iload_n hx hb dX3_window_48 rfl (lv_at hl 0 rfl) ?_
          refine lv_iconst (v := (-1)) hx hb dX3_window_49 (by decide) ?_
          refine lv_icmp_ne (tgt := 58) hx hb dX3_window_50 (by decide) (fun c_50 => ?_) (fun c_50 => ?_)
          · skip
            refine lv_iload_n hx hb dX3_window_58 rfl (lv_at hl 0 rfl) ?_
            refine W_top (y := .int (wd F k g0 (i + 1))) (congrArg Value.int ((if_neg (fun q => q.2.elim (fun z => z c_45) (fun z => c_50 z)) : wd F k g0 (i + 1) = _)).symm) ?_
            refine lv_istore_n (lv' := [(3, .int (wd F k g0 (i + 1))), (4, .int (nI i)), (0, .ref h), (1, .int (nI k)), (2, .int g0)]) hx hb dX3_window_59 rfl hl (by decide) rfl (fun ls hl => ?_)
            refine lv_iinc (v := nI (i + 1)) (lv' := [(4, .int (nI (i + 1))), (3, .int (wd F k g0 (i + 1))), (0, .ref h), (1, .int (nI k)), (2, .int g0)]) hx hb dX3_window_60 hl (k := 1) rfl (nI_1 _) (by decide) rfl (fun ls hl => ?_)
            refine lv_goto (tgt := 27) hx hb dX3_window_63 (by decide) ?_
            exact ih (i + 1) ls (by omega) (by omega) (lv_sub hl [1, 0, 2, 3, 4] rfl)
          · skip
            refine lv_iload hx hb dX3_window_53 (lv_at hl 1 rfl) ?_
            refine lv_goto (tgt := 59) hx hb dX3_window_55 (by decide) ?_
            refine W_top (y := .int (wd F k g0 (i + 1))) (congrArg Value.int ((if_pos ⟨c_41, Or.inr c_50⟩ : wd F k g0 (i + 1) = _)).symm) ?_
            refine lv_istore_n (lv' := [(3, .int (wd F k g0 (i + 1))), (4, .int (nI i)), (0, .ref h), (1, .int (nI k)), (2, .int g0)]) hx hb dX3_window_59 rfl hl (by decide) rfl (fun ls hl => ?_)
            refine lv_iinc (v := nI (i + 1)) (lv' := [(4, .int (nI (i + 1))), (3, .int (wd F k g0 (i + 1))), (0, .ref h), (1, .int (nI k)), (2, .int g0)]) hx hb dX3_window_60 hl (k := 1) rfl (nI_1 _) (by decide) rfl (fun ls hl => ?_)
            refine lv_goto (tgt := 27) hx hb dX3_window_63 (by decide) ?_
            exact ih (i + 1) ls (by omega) (by omega) (lv_sub hl [1, 0, 2, 3, 4] rfl)
  · skip
    refine lv_aload_n hx hb dX3_window_0 rfl (lv_at hl 0 rfl) ?_
    refine lv_aload_n hx hb dX3_window_1 rfl (lv_at hl 0 rfl) ?_
    refine lv_iload_n hx hb dX3_window_2 rfl (lv_at hl 1 rfl) ?_
    refine vp_callSi (va_Run.run (va_runV (As := [.int its]) (rest := [.ref h]) ⟨hx, hb, hml, hown, hts⟩ (c_X3_isKite l9 dC dI h a th n p F its hn8) (cwV 1 hts gX3_window_X3_isKite rfl rfl rfl (by decide +kernel) ⟨Nat.le_of_ble_eq_true rfl, Nat.le_of_ble_eq_true rfl⟩) ⟨PRo.blind, va_recv hK hP (ci := 3) (q0 := 0) rfl rfl, PRo.pre hP hK hE⟩ rfl rfl hl.1 rfl (lv_room (Nat.le_of_ble_eq_true rfl)) dX3_window_3 ⟨Nat.le_of_ble_eq_true rfl, Nat.le_of_ble_eq_true rfl⟩)) (fun r hr => ?_)
    subst hr
    refine lv_if_eq (tgt := 13) hx hb dX3_window_6 (by decide) (fun _ => ?_) (fun c_6 => absurd (bi_f hno) c_6)
    refine lv_iconst (v := 1) hx hb dX3_window_13 (by decide) ?_
    refine va_calli (va_runV (As := [.int 1]) (rest := []) ⟨hx, hb, hml, hown, hts⟩ (c_X3_holds l9 dC dI s.heap.size h a th n p F 1) (cwV 1 hts gX3_window_X3_holds rfl rfl rfl (by decide +kernel) ⟨Nat.le_of_ble_eq_true rfl, Nat.le_of_ble_eq_true rfl⟩) ⟨PWr.blind, va_recv hK hP (ci := 3) (q0 := 0) rfl rfl, PWr.pre hP hK hD hE ((hH.kept hS.2.1).narrow (A_in hD hS hA))⟩ rfl rfl hl.1 rfl (lv_room (Nat.le_of_ble_eq_true rfl)) dX3_window_14 ⟨Nat.le_of_ble_eq_true rfl, Nat.le_of_ble_eq_true rfl⟩) hS (fun q _ hq => A_in hD hS hA q hq) (A_in hD hS hA) (fun r9 u9 t9 H locs ht9 hvm hw9 hB hz1 hk1 hS => ?_)
    have hP : va_P (dC, dI) vwCl (rW cI cZ h a 1 n p F) H := by rw [← ht9]; exact hB
    have hD : va_D A (rW cI cZ h a 1 n p F) := D_same hD rfl
    refine W_top (y := .int (bi (1 = 0))) (congrArg Value.int hw9) ?_
    refine W_top (y := .int 0) (congrArg Value.int (bi_f (by decide))) ?_
    refine lv_if_ne (tgt := 22) hx hb dX3_window_17 (by decide) (fun c_17 => absurd (by decide) c_17) (fun _ => ?_)
    refine lv_iconst (v := 0) hx hb dX3_window_20 (by decide) ?_
    have hS9 : S_window n F its g0 = (1, 0) := by rw [S_window, ix_f hno]
    exact W.iret (v := 0) hx hb hr (fun t ht hW => ⟨⟨_, (), rfl, (by rw [hS9]), by show va_P _ _ _ t.heap; rw [hS9, ht]; exact hP⟩, hS.F ht⟩) hS.2.2 dX3_window_21

set_option maxHeartbeats 4000000 in
set_option maxRecDepth 100000 in
theorem c_X3_about (l9 : Launch) (dC : Nat → ClassId) (dI : Nat → Nat → Nat) (sz : Nat) {cI cZ : ClassId} (h : Nat) (a : Nat → Nat) (th : Int32) (n p : Nat) (F : Rows) (its wh : Int32) (hI : Inv n p F) : Met l9 yX3_about wsX3_about ({ frames := 3, cells := 0, slots := 0, locals := 67 }) (va_Pc [.ref h, .int its, .int wh] (PWr dC dI [(cI, .int), (cZ, .boolean)] (rW cI cZ h a th n p F) sz)) (va_Qi (fun r9 (_ : Unit) => r9 = (S_about n F its wh).2) (fun _ t => va_P (dC, dI) vwCl (rW cI cZ h a ((S_about n F its wh).1) n p F) t.heap) (va_A (rW cI cZ h a th n p F) sz)) 0 0 (va_A (rW cI cZ h a th n p F) sz) := by
  refine Met.ofW (cc := cX3_about) (maxL := 3) (ret := (some .int)) (by decide) rfl ?_
  intro p9 e9 s m args below meth c s₁ B hml hv
  obtain ⟨rfl, hsz, hP, hK, hD0, hE, hH⟩ := hv
  have hx := B.exec
  have hb := B.bytes
  have hr := B.returns
  have hts := atoms_spec (ws := wsX3_about) B.pre
  have hown : s.vm.findClass RX3 = some m.cls := findClass_of_methodNamed B.named
  have hlocks := B.notSynchronized
  have hi3 : ∀ w ∈ u_ws RX3 TX3 16, w ∈ wsX3_about := by decide +kernel
  have lk16 := hts (.fieldLink RX3 16 "WindlaneModel" "weight" "[I") (by decide +kernel)
  have lk19 := hts (.fieldLink RX3 19 "WindlaneModel" "isTorn" "[Z") (by decide +kernel)
  have lk23 := hts (.fieldLink RX3 23 "WindlaneModel" "wet" "[I") (by decide +kernel)
  have lk26 := hts (.fieldLink RX3 26 "WindlaneModel" "holder" "[I") (by decide +kernel)
  have lk29 := hts (.fieldLink RX3 29 "WindlaneModel" "laneOf" "[I") (by decide +kernel)
  subst hsz
  have hD := hD0.self (sz := s.heap.size)
  generalize hAe : va_A (rW cI cZ h a th n p F) s.heap.size = A at hD hH ⊢
  have hA : ∀ q : Nat, s.heap.size ≤ q → A q := fun q h => by rw [← hAe]; exact Or.inr h
  have hS : va_S A s.heap s.heap [] := va_S.rf
  have hP : va_P (dC, dI) vwCl (rW cI cZ h a th n p F) s.heap := hP
  have hn8 : n ≤ 8 := hI.1.1
  have hp8 : p ≤ 8 := hI.1.2
  have hl := lv_entry ([.ref h, .int its, .int wh]) (n := 3) (Nat.le_of_ble_eq_true rfl)
  rw [lg_entry_eq]
  generalize (lg_sl ([.ref h, .int its, .int wh]) ++ List.replicate (3 - (lg_sl ([.ref h, .int its, .int wh])).length) Slot.unset).toArray = ls at hl ⊢
  have hl : lv_has ls 3 [(0, .ref h), (1, .int its), (2, .int wh)] := hl
  rcases inR_cases n its with ⟨k, hkn, rfl⟩ | hno
  · skip
    have hixk : ix n (nI k) = some k := ix_t hkn (by omega)
    refine lv_aload_n hx hb dX3_about_0 rfl (lv_at hl 0 rfl) ?_
    refine lv_aload_n hx hb dX3_about_1 rfl (lv_at hl 0 rfl) ?_
    refine lv_iload_n hx hb dX3_about_2 rfl (lv_at hl 1 rfl) ?_
    refine vp_callSi (va_Run.run (va_runV (As := [.int (nI k)]) (rest := [.ref h]) ⟨hx, hb, hml, hown, hts⟩ (c_X3_isKite l9 dC dI h a th n p F (nI k) hn8) (cwV 1 hts gX3_about_X3_isKite rfl rfl rfl (by decide +kernel) ⟨Nat.le_of_ble_eq_true rfl, Nat.le_of_ble_eq_true rfl⟩) ⟨PRo.blind, va_recv hK hP (ci := 3) (q0 := 0) rfl rfl, PRo.pre hP hK hE⟩ rfl rfl hl.1 rfl (lv_room (Nat.le_of_ble_eq_true rfl)) dX3_about_3 ⟨Nat.le_of_ble_eq_true rfl, Nat.le_of_ble_eq_true rfl⟩)) (fun r hr => ?_)
    subst hr
    refine lv_if_ne (tgt := 13) hx hb dX3_about_6 (by decide) (fun _ => ?_) (fun c_6 => absurd c_6 (bi_nz.mpr (inR_nI hkn (by omega))))
    refine lv_iload_n hx hb dX3_about_13 rfl (lv_at hl 2 rfl) ?_
    refine lv_iconst (v := 0) hx hb dX3_about_14 (by decide) ?_
    refine lv_iconst (v := 5) hx hb dX3_about_15 (by decide) ?_
    refine vp_callSi (va_Run.run (va_runS (As := [.int wh, .int 0, .int 5]) (rest := [.ref h]) ⟨hx, hb, hml, hown, hts⟩ (c_X3_isIn l9 wh 0 5) (va_cwS 3 hts gX3_about_X3_isIn rfl rfl rfl (by decide +kernel) ⟨Nat.le_of_ble_eq_true rfl, Nat.le_of_ble_eq_true rfl⟩) ⟨fun a U g mk q => q, fun U hU hW => ⟨rfl, trivial⟩⟩ rfl rfl hl.1 rfl (lv_room (Nat.le_of_ble_eq_true rfl)) dX3_about_16 ⟨Nat.le_of_ble_eq_true rfl, Nat.le_of_ble_eq_true rfl⟩)) (fun r hr => ?_)
    subst hr
    refine lv_if_eq (tgt := 26) hx hb dX3_about_19 (by decide) (fun c_19 => ?_) (fun c_19 => ?_)
    · skip
      have c_19 := bi_z.mp c_19
      refine lv_iconst (v := 2) hx hb dX3_about_26 (by decide) ?_
      refine va_calli (va_runV (As := [.int 2]) (rest := []) ⟨hx, hb, hml, hown, hts⟩ (c_X3_holds l9 dC dI s.heap.size h a th n p F 2) (cwV 1 hts gX3_about_X3_holds rfl rfl rfl (by decide +kernel) ⟨Nat.le_of_ble_eq_true rfl, Nat.le_of_ble_eq_true rfl⟩) ⟨PWr.blind, va_recv hK hP (ci := 3) (q0 := 0) rfl rfl, PWr.pre hP hK hD hE ((hH.kept hS.2.1).narrow (A_in hD hS hA))⟩ rfl rfl hl.1 rfl (lv_room (Nat.le_of_ble_eq_true rfl)) dX3_about_27 ⟨Nat.le_of_ble_eq_true rfl, Nat.le_of_ble_eq_true rfl⟩) hS (fun q _ hq => A_in hD hS hA q hq) (A_in hD hS hA) (fun r9 u9 t9 H locs ht9 hvm hw9 hB hz1 hk1 hS => ?_)
      have hP : va_P (dC, dI) vwCl (rW cI cZ h a 2 n p F) H := by rw [← ht9]; exact hB
      have hD : va_D A (rW cI cZ h a 2 n p F) := D_same hD rfl
      refine W_top (y := .int (bi (2 = 0))) (congrArg Value.int hw9) ?_
      refine W_top (y := .int 0) (congrArg Value.int (bi_f (by decide))) ?_
      refine lv_if_ne (tgt := 35) hx hb dX3_about_30 (by decide) (fun c_30 => absurd (by decide) c_30) (fun _ => ?_)
      refine lv_iconst (v := 0) hx hb dX3_about_33 (by decide) ?_
      have hS9 : S_about n F (nI k) wh = (2, 0) := by rw [S_about, hixk]; have hw9 : ∀ v : Int32, (0 ≤ v ∧ v ≤ 5) → ¬ wh = v := (fun v hv q => c_19 (q ▸ hv)); show (if wh = 0 then _ else if wh = 1 then _ else if wh = 2 then _ else if wh = 3 then _ else if wh = 4 then _ else if wh = 5 then _ else _) = _; rw [if_neg (hw9 0 (by decide)), if_neg (hw9 1 (by decide)), if_neg (hw9 2 (by decide)), if_neg (hw9 3 (by decide)), if_neg (hw9 4 (by decide)), if_neg (hw9 5 (by decide))]
      exact W.iret (v := 0) hx hb hr (fun t ht hW => ⟨⟨_, (), rfl, (by rw [hS9]), by show va_P _ _ _ t.heap; rw [hS9, ht]; exact hP⟩, hS.F ht⟩) hS.2.2 dX3_about_34
    · skip
      have c_19 := bi_nz.mp c_19
      refine lv_iconst (v := 0) hx hb dX3_about_22 (by decide) ?_
      refine lv_goto (tgt := 27) hx hb dX3_about_23 (by decide) ?_
      refine va_calli (va_runV (As := [.int 0]) (rest := []) ⟨hx, hb, hml, hown, hts⟩ (c_X3_holds l9 dC dI s.heap.size h a th n p F 0) (cwV 1 hts gX3_about_X3_holds rfl rfl rfl (by decide +kernel) ⟨Nat.le_of_ble_eq_true rfl, Nat.le_of_ble_eq_true rfl⟩) ⟨PWr.blind, va_recv hK hP (ci := 3) (q0 := 0) rfl rfl, PWr.pre hP hK hD hE ((hH.kept hS.2.1).narrow (A_in hD hS hA))⟩ rfl rfl hl.1 rfl (lv_room (Nat.le_of_ble_eq_true rfl)) dX3_about_27 ⟨Nat.le_of_ble_eq_true rfl, Nat.le_of_ble_eq_true rfl⟩) hS (fun q _ hq => A_in hD hS hA q hq) (A_in hD hS hA) (fun r9 u9 t9 H locs ht9 hvm hw9 hB hz1 hk1 hS => ?_)
      have hP : va_P (dC, dI) vwCl (rW cI cZ h a 0 n p F) H := by rw [← ht9]; exact hB
      have hD : va_D A (rW cI cZ h a 0 n p F) := D_same hD rfl
      refine W_top (y := .int (bi (0 = 0))) (congrArg Value.int hw9) ?_
      refine W_top (y := .int 1) (congrArg Value.int (bi_t rfl)) ?_
      refine lv_if_ne (tgt := 35) hx hb dX3_about_30 (by decide) (fun _ => ?_) (fun c_30 => absurd c_30 (by decide))
      obtain ⟨v9, hv9, rfl⟩ : ∃ v9, v9 < 6 ∧ wh = nI v9 := inR_of (win_inR c_19 (by decide) (by decide))
      obtain rfl | rfl | rfl | rfl | rfl | rfl : v9 = 0 ∨ v9 = 1 ∨ v9 = 2 ∨ v9 = 3 ∨ v9 = 4 ∨ v9 = 5 := by omega
      · skip
        have hl : lv_has ls 3 [(0, .ref h), (1, .int (nI k)), (2, .int (nI 0))] := hl
        refine lv_iload_n hx hb dX3_about_35 rfl (lv_at hl 2 rfl) ?_
        refine lv_iconst (v := 3) hx hb dX3_about_36 (by decide) ?_
        refine lv_icmp_ge (tgt := 82) hx hb dX3_about_37 (by decide) (fun c_37 => absurd c_37 (by decide)) (fun _ => ?_)
        refine lv_iload_n hx hb dX3_about_40 rfl (lv_at hl 2 rfl) ?_
        refine lv_if_ne (tgt := 53) hx hb dX3_about_41 (by decide) (fun c_41 => absurd (by decide) c_41) (fun _ => ?_)
        refine lv_aload_n hx hb dX3_about_44 rfl (lv_at hl 0 rfl) ?_
        refine va_get (D := (dC, dI)) (ci := 3) (v := .ref (a 2)) (C := RX3) (T := TX3) (N := 16) hx hb hts hi3 hown hK hP 0 rfl rfl 4 (by decide) lk16 (fun _ h9 => h9) rfl dX3_about_45 ?_
        refine lv_iload_n hx hb dX3_about_48 rfl (lv_at hl 1 rfl) ?_
        refine my_iald hx hb hK hP 3 0 rfl rfl (Nat.lt_of_lt_of_le hkn hn8) (Nat.le_of_ble_eq_true rfl) dX3_about_49 ?_
        refine W_top (y := .int (F 2 k)) (rfl) ?_
        refine lv_goto (tgt := 81) hx hb dX3_about_50 (by decide) ?_
        have hS9 : S_about n F (nI k) (nI 0) = (0, F 2 k) := by rw [S_about, hixk]; rfl
        exact W.iret (v := F 2 k) hx hb hr (fun t ht hW => ⟨⟨_, (), rfl, (by rw [hS9]), by show va_P _ _ _ t.heap; rw [hS9, ht]; exact hP⟩, hS.F ht⟩) hS.2.2 dX3_about_81
      · skip
        have hl : lv_has ls 3 [(0, .ref h), (1, .int (nI k)), (2, .int (nI 1))] := hl
        refine lv_iload_n hx hb dX3_about_35 rfl (lv_at hl 2 rfl) ?_
        refine lv_iconst (v := 3) hx hb dX3_about_36 (by decide) ?_
        refine lv_icmp_ge (tgt := 82) hx hb dX3_about_37 (by decide) (fun c_37 => absurd c_37 (by decide)) (fun _ => ?_)
        refine lv_iload_n hx hb dX3_about_40 rfl (lv_at hl 2 rfl) ?_
        refine lv_if_ne (tgt := 53) hx hb dX3_about_41 (by decide) (fun _ => ?_) (fun c_41 => absurd c_41 (by decide))
        refine lv_iload_n hx hb dX3_about_53 rfl (lv_at hl 2 rfl) ?_
        refine lv_iconst (v := 1) hx hb dX3_about_54 (by decide) ?_
        refine lv_icmp_ne (tgt := 75) hx hb dX3_about_55 (by decide) (fun c_55 => absurd (by decide) c_55) (fun _ => ?_)
        refine lv_aload_n hx hb dX3_about_58 rfl (lv_at hl 0 rfl) ?_
        refine va_get (D := (dC, dI)) (ci := 3) (v := .ref (a 3)) (C := RX3) (T := TX3) (N := 16) hx hb hts hi3 hown hK hP 0 rfl rfl 5 (by decide) lk19 (fun _ h9 => h9) rfl dX3_about_59 ?_
        refine lv_iload_n hx hb dX3_about_62 rfl (lv_at hl 1 rfl) ?_
        refine my_zald hx hb hK hP 4 1 rfl rfl (Nat.lt_of_lt_of_le hkn hn8) (Nat.le_of_ble_eq_true rfl) dX3_about_63 ?_
        refine W_top (y := .int (F 3 k)) (rfl) ?_
        refine lv_if_eq (tgt := 71) hx hb dX3_about_64 (by decide) (fun c_64 => ?_) (fun c_64 => ?_)
        · skip
          refine lv_iconst (v := 0) hx hb dX3_about_71 (by decide) ?_
          refine lv_goto (tgt := 81) hx hb dX3_about_72 (by decide) ?_
          have hS9 : S_about n F (nI k) (nI 1) = (0, 0) := by rw [S_about, hixk]; exact congrArg (fun z => ((0 : Int32), z)) (c_64)
          exact W.iret (v := 0) hx hb hr (fun t ht hW => ⟨⟨_, (), rfl, (by rw [hS9]), by show va_P _ _ _ t.heap; rw [hS9, ht]; exact hP⟩, hS.F ht⟩) hS.2.2 dX3_about_81
        · skip
          refine lv_iconst (v := 1) hx hb dX3_about_67 (by decide) ?_
          refine lv_goto (tgt := 81) hx hb dX3_about_68 (by decide) ?_
          have hS9 : S_about n F (nI k) (nI 1) = (0, 1) := by rw [S_about, hixk]; exact congrArg (fun z => ((0 : Int32), z)) ((hI.2.1 k hkn).2.2.2.1.resolve_left c_64)
          exact W.iret (v := 1) hx hb hr (fun t ht hW => ⟨⟨_, (), rfl, (by rw [hS9]), by show va_P _ _ _ t.heap; rw [hS9, ht]; exact hP⟩, hS.F ht⟩) hS.2.2 dX3_about_81
      · skip
        have hl : lv_has ls 3 [(0, .ref h), (1, .int (nI k)), (2, .int (nI 2))] := hl
        refine lv_iload_n hx hb dX3_about_35 rfl (lv_at hl 2 rfl) ?_
        refine lv_iconst (v := 3) hx hb dX3_about_36 (by decide) ?_
        refine lv_icmp_ge (tgt := 82) hx hb dX3_about_37 (by decide) (fun c_37 => absurd c_37 (by decide)) (fun _ => ?_)
        refine lv_iload_n hx hb dX3_about_40 rfl (lv_at hl 2 rfl) ?_
        refine lv_if_ne (tgt := 53) hx hb dX3_about_41 (by decide) (fun _ => ?_) (fun c_41 => absurd c_41 (by decide))
        refine lv_iload_n hx hb dX3_about_53 rfl (lv_at hl 2 rfl) ?_
        refine lv_iconst (v := 1) hx hb dX3_about_54 (by decide) ?_
        refine lv_icmp_ne (tgt := 75) hx hb dX3_about_55 (by decide) (fun _ => ?_) (fun c_55 => absurd c_55 (by decide))
        refine lv_aload_n hx hb dX3_about_75 rfl (lv_at hl 0 rfl) ?_
        refine va_get (D := (dC, dI)) (ci := 3) (v := .ref (a 4)) (C := RX3) (T := TX3) (N := 16) hx hb hts hi3 hown hK hP 0 rfl rfl 6 (by decide) lk23 (fun _ h9 => h9) rfl dX3_about_76 ?_
        refine lv_iload_n hx hb dX3_about_79 rfl (lv_at hl 1 rfl) ?_
        refine my_iald hx hb hK hP 5 0 rfl rfl (Nat.lt_of_lt_of_le hkn hn8) (Nat.le_of_ble_eq_true rfl) dX3_about_80 ?_
        refine W_top (y := .int (F 4 k)) (rfl) ?_
        have hS9 : S_about n F (nI k) (nI 2) = (0, F 4 k) := by rw [S_about, hixk]; rfl
        exact W.iret (v := F 4 k) hx hb hr (fun t ht hW => ⟨⟨_, (), rfl, (by rw [hS9]), by show va_P _ _ _ t.heap; rw [hS9, ht]; exact hP⟩, hS.F ht⟩) hS.2.2 dX3_about_81
      · skip
        have hl : lv_has ls 3 [(0, .ref h), (1, .int (nI k)), (2, .int (nI 3))] := hl
        refine lv_iload_n hx hb dX3_about_35 rfl (lv_at hl 2 rfl) ?_
        refine lv_iconst (v := 3) hx hb dX3_about_36 (by decide) ?_
        refine lv_icmp_ge (tgt := 82) hx hb dX3_about_37 (by decide) (fun _ => ?_) (fun c_37 => absurd (by decide) c_37)
        refine lv_iload_n hx hb dX3_about_82 rfl (lv_at hl 2 rfl) ?_
        refine lv_iconst (v := 3) hx hb dX3_about_83 (by decide) ?_
        refine lv_icmp_ne (tgt := 96) hx hb dX3_about_84 (by decide) (fun c_84 => absurd (by decide) c_84) (fun _ => ?_)
        refine lv_aload_n hx hb dX3_about_87 rfl (lv_at hl 0 rfl) ?_
        refine va_get (D := (dC, dI)) (ci := 3) (v := .ref (a 5)) (C := RX3) (T := TX3) (N := 16) hx hb hts hi3 hown hK hP 0 rfl rfl 7 (by decide) lk26 (fun _ h9 => h9) rfl dX3_about_88 ?_
        refine lv_iload_n hx hb dX3_about_91 rfl (lv_at hl 1 rfl) ?_
        refine my_iald hx hb hK hP 6 0 rfl rfl (Nat.lt_of_lt_of_le hkn hn8) (Nat.le_of_ble_eq_true rfl) dX3_about_92 ?_
        refine W_top (y := .int (F 5 k)) (rfl) ?_
        refine lv_goto (tgt := 129) hx hb dX3_about_93 (by decide) ?_
        have hS9 : S_about n F (nI k) (nI 3) = (0, F 5 k) := by rw [S_about, hixk]; rfl
        exact W.iret (v := F 5 k) hx hb hr (fun t ht hW => ⟨⟨_, (), rfl, (by rw [hS9]), by show va_P _ _ _ t.heap; rw [hS9, ht]; exact hP⟩, hS.F ht⟩) hS.2.2 dX3_about_129
      · skip
        have hl : lv_has ls 3 [(0, .ref h), (1, .int (nI k)), (2, .int (nI 4))] := hl
        refine lv_iload_n hx hb dX3_about_35 rfl (lv_at hl 2 rfl) ?_
        refine lv_iconst (v := 3) hx hb dX3_about_36 (by decide) ?_
        refine lv_icmp_ge (tgt := 82) hx hb dX3_about_37 (by decide) (fun _ => ?_) (fun c_37 => absurd (by decide) c_37)
        refine lv_iload_n hx hb dX3_about_82 rfl (lv_at hl 2 rfl) ?_
        refine lv_iconst (v := 3) hx hb dX3_about_83 (by decide) ?_
        refine lv_icmp_ne (tgt := 96) hx hb dX3_about_84 (by decide) (fun _ => ?_) (fun c_84 => absurd c_84 (by decide))
        refine lv_iload_n hx hb dX3_about_96 rfl (lv_at hl 2 rfl) ?_
        refine lv_iconst (v := 4) hx hb dX3_about_97 (by decide) ?_
        refine lv_icmp_ne (tgt := 110) hx hb dX3_about_98 (by decide) (fun c_98 => absurd (by decide) c_98) (fun _ => ?_)
        refine lv_aload_n hx hb dX3_about_101 rfl (lv_at hl 0 rfl) ?_
        refine va_get (D := (dC, dI)) (ci := 3) (v := .ref (a 6)) (C := RX3) (T := TX3) (N := 16) hx hb hts hi3 hown hK hP 0 rfl rfl 8 (by decide) lk29 (fun _ h9 => h9) rfl dX3_about_102 ?_
        refine lv_iload_n hx hb dX3_about_105 rfl (lv_at hl 1 rfl) ?_
        refine my_iald hx hb hK hP 7 0 rfl rfl (Nat.lt_of_lt_of_le hkn hn8) (Nat.le_of_ble_eq_true rfl) dX3_about_106 ?_
        refine W_top (y := .int (F 6 k)) (rfl) ?_
        refine lv_goto (tgt := 129) hx hb dX3_about_107 (by decide) ?_
        have hS9 : S_about n F (nI k) (nI 4) = (0, F 6 k) := by rw [S_about, hixk]; rfl
        exact W.iret (v := F 6 k) hx hb hr (fun t ht hW => ⟨⟨_, (), rfl, (by rw [hS9]), by show va_P _ _ _ t.heap; rw [hS9, ht]; exact hP⟩, hS.F ht⟩) hS.2.2 dX3_about_129
      · skip
        have hl : lv_has ls 3 [(0, .ref h), (1, .int (nI k)), (2, .int (nI 5))] := hl
        refine lv_iload_n hx hb dX3_about_35 rfl (lv_at hl 2 rfl) ?_
        refine lv_iconst (v := 3) hx hb dX3_about_36 (by decide) ?_
        refine lv_icmp_ge (tgt := 82) hx hb dX3_about_37 (by decide) (fun _ => ?_) (fun c_37 => absurd (by decide) c_37)
        refine lv_iload_n hx hb dX3_about_82 rfl (lv_at hl 2 rfl) ?_
        refine lv_iconst (v := 3) hx hb dX3_about_83 (by decide) ?_
        refine lv_icmp_ne (tgt := 96) hx hb dX3_about_84 (by decide) (fun _ => ?_) (fun c_84 => absurd c_84 (by decide))
        refine lv_iload_n hx hb dX3_about_96 rfl (lv_at hl 2 rfl) ?_
        refine lv_iconst (v := 4) hx hb dX3_about_97 (by decide) ?_
        refine lv_icmp_ne (tgt := 110) hx hb dX3_about_98 (by decide) (fun _ => ?_) (fun c_98 => absurd c_98 (by decide))
        refine lv_aload_n hx hb dX3_about_110 rfl (lv_at hl 0 rfl) ?_
        refine va_get (D := (dC, dI)) (ci := 3) (v := .ref (a 6)) (C := RX3) (T := TX3) (N := 16) hx hb hts hi3 hown hK hP 0 rfl rfl 8 (by decide) lk29 (fun _ h9 => h9) rfl dX3_about_111 ?_
        refine lv_iload_n hx hb dX3_about_114 rfl (lv_at hl 1 rfl) ?_
        refine my_iald hx hb hK hP 7 0 rfl rfl (Nat.lt_of_lt_of_le hkn hn8) (Nat.le_of_ble_eq_true rfl) dX3_about_115 ?_
        refine W_top (y := .int (F 6 k)) (rfl) ?_
        refine lv_iconst (v := (-1)) hx hb dX3_about_116 (by decide) ?_
        refine lv_icmp_ne (tgt := 124) hx hb dX3_about_117 (by decide) (fun c_117 => ?_) (fun c_117 => ?_)
        · skip
          refine lv_aload_n hx hb dX3_about_124 rfl (lv_at hl 0 rfl) ?_
          refine lv_iload_n hx hb dX3_about_125 rfl (lv_at hl 1 rfl) ?_
          refine vp_callSi (va_Run.run (va_runV (As := [.int (nI k)]) (rest := []) ⟨hx, hb, hml, hown, hts⟩ (c_X3_end l9 dC dI h a 0 n p F k (Nat.lt_of_lt_of_le hkn hn8) (hI.kd k hkn) (st_ok (hI.fl k hkn c_117))) (cwV 1 hts gX3_about_X3_end rfl rfl rfl (by decide +kernel) ⟨Nat.le_of_ble_eq_true rfl, Nat.le_of_ble_eq_true rfl⟩) ⟨PRo.blind, va_recv hK hP (ci := 3) (q0 := 0) rfl rfl, PRo.pre hP hK hE⟩ rfl rfl hl.1 rfl (lv_room (Nat.le_of_ble_eq_true rfl)) dX3_about_126 ⟨Nat.le_of_ble_eq_true rfl, Nat.le_of_ble_eq_true rfl⟩)) (fun r hr => ?_)
          subst hr
          have hS9 : S_about n F (nI k) (nI 5) = (0, ed F k) := by rw [S_about, hixk]; exact congrArg (fun z => ((0 : Int32), z)) (if_neg c_117)
          exact W.iret (v := ed F k) hx hb hr (fun t ht hW => ⟨⟨_, (), rfl, (by rw [hS9]), by show va_P _ _ _ t.heap; rw [hS9, ht]; exact hP⟩, hS.F ht⟩) hS.2.2 dX3_about_129
        · skip
          refine lv_iconst (v := (-1)) hx hb dX3_about_120 (by decide) ?_
          refine lv_goto (tgt := 129) hx hb dX3_about_121 (by decide) ?_
          have hS9 : S_about n F (nI k) (nI 5) = (0, (-1)) := by rw [S_about, hixk]; exact congrArg (fun z => ((0 : Int32), z)) (if_pos c_117)
          exact W.iret (v := (-1)) hx hb hr (fun t ht hW => ⟨⟨_, (), rfl, (by rw [hS9]), by show va_P _ _ _ t.heap; rw [hS9, ht]; exact hP⟩, hS.F ht⟩) hS.2.2 dX3_about_129
  · skip
    refine lv_aload_n hx hb dX3_about_0 rfl (lv_at hl 0 rfl) ?_
    refine lv_aload_n hx hb dX3_about_1 rfl (lv_at hl 0 rfl) ?_
    refine lv_iload_n hx hb dX3_about_2 rfl (lv_at hl 1 rfl) ?_
    refine vp_callSi (va_Run.run (va_runV (As := [.int its]) (rest := [.ref h]) ⟨hx, hb, hml, hown, hts⟩ (c_X3_isKite l9 dC dI h a th n p F its hn8) (cwV 1 hts gX3_about_X3_isKite rfl rfl rfl (by decide +kernel) ⟨Nat.le_of_ble_eq_true rfl, Nat.le_of_ble_eq_true rfl⟩) ⟨PRo.blind, va_recv hK hP (ci := 3) (q0 := 0) rfl rfl, PRo.pre hP hK hE⟩ rfl rfl hl.1 rfl (lv_room (Nat.le_of_ble_eq_true rfl)) dX3_about_3 ⟨Nat.le_of_ble_eq_true rfl, Nat.le_of_ble_eq_true rfl⟩)) (fun r hr => ?_)
    subst hr
    refine lv_if_ne (tgt := 13) hx hb dX3_about_6 (by decide) (fun c_6 => absurd (bi_f hno) c_6) (fun _ => ?_)
    refine lv_iconst (v := 1) hx hb dX3_about_9 (by decide) ?_
    refine lv_goto (tgt := 27) hx hb dX3_about_10 (by decide) ?_
    refine va_calli (va_runV (As := [.int 1]) (rest := []) ⟨hx, hb, hml, hown, hts⟩ (c_X3_holds l9 dC dI s.heap.size h a th n p F 1) (cwV 1 hts gX3_about_X3_holds rfl rfl rfl (by decide +kernel) ⟨Nat.le_of_ble_eq_true rfl, Nat.le_of_ble_eq_true rfl⟩) ⟨PWr.blind, va_recv hK hP (ci := 3) (q0 := 0) rfl rfl, PWr.pre hP hK hD hE ((hH.kept hS.2.1).narrow (A_in hD hS hA))⟩ rfl rfl hl.1 rfl (lv_room (Nat.le_of_ble_eq_true rfl)) dX3_about_27 ⟨Nat.le_of_ble_eq_true rfl, Nat.le_of_ble_eq_true rfl⟩) hS (fun q _ hq => A_in hD hS hA q hq) (A_in hD hS hA) (fun r9 u9 t9 H locs ht9 hvm hw9 hB hz1 hk1 hS => ?_)
    have hP : va_P (dC, dI) vwCl (rW cI cZ h a 1 n p F) H := by rw [← ht9]; exact hB
    have hD : va_D A (rW cI cZ h a 1 n p F) := D_same hD rfl
    refine W_top (y := .int (bi (1 = 0))) (congrArg Value.int hw9) ?_
    refine W_top (y := .int 0) (congrArg Value.int (bi_f (by decide))) ?_
    refine lv_if_ne (tgt := 35) hx hb dX3_about_30 (by decide) (fun c_30 => absurd (by decide) c_30) (fun _ => ?_)
    refine lv_iconst (v := 0) hx hb dX3_about_33 (by decide) ?_
    have hS9 : S_about n F its wh = (1, 0) := by rw [S_about, ix_f hno]
    exact W.iret (v := 0) hx hb hr (fun t ht hW => ⟨⟨_, (), rfl, (by rw [hS9]), by show va_P _ _ _ t.heap; rw [hS9, ht]; exact hP⟩, hS.F ht⟩) hS.2.2 dX3_about_34

set_option maxHeartbeats 4000000 in
set_option maxRecDepth 100000 in
theorem c_X3_lane (l9 : Launch) (dC : Nat → ClassId) (dI : Nat → Nat → Nat) (sz : Nat) {cI cZ : ClassId} (h : Nat) (a : Nat → Nat) (th : Int32) (n p : Nat) (F : Rows) (ln : Int32) (hI : Inv n p F) : Met l9 yX3_lane wsX3_lane ({ frames := 2, cells := 0, slots := 0, locals := 42 }) (va_Pc [.ref h, .int ln] (PWr dC dI [(cI, .int), (cZ, .boolean)] (rW cI cZ h a th n p F) sz)) (va_Qi (fun r9 (_ : Unit) => r9 = (S_lane n F ln).2) (fun _ t => va_P (dC, dI) vwCl (rW cI cZ h a ((S_lane n F ln).1) n p F) t.heap) (va_A (rW cI cZ h a th n p F) sz)) 0 0 (va_A (rW cI cZ h a th n p F) sz) := by
  refine Met.ofW (cc := cX3_lane) (maxL := 2) (ret := (some .int)) (by decide) rfl ?_
  intro p9 e9 s m args below meth c s₁ B hml hv
  obtain ⟨rfl, hsz, hP, hK, hD0, hE, hH⟩ := hv
  have hx := B.exec
  have hb := B.bytes
  have hr := B.returns
  have hts := atoms_spec (ws := wsX3_lane) B.pre
  have hown : s.vm.findClass RX3 = some m.cls := findClass_of_methodNamed B.named
  have hlocks := B.notSynchronized
  subst hsz
  have hD := hD0.self (sz := s.heap.size)
  generalize hAe : va_A (rW cI cZ h a th n p F) s.heap.size = A at hD hH ⊢
  have hA : ∀ q : Nat, s.heap.size ≤ q → A q := fun q h => by rw [← hAe]; exact Or.inr h
  have hS : va_S A s.heap s.heap [] := va_S.rf
  have hP : va_P (dC, dI) vwCl (rW cI cZ h a th n p F) s.heap := hP
  have hn8 : n ≤ 8 := hI.1.1
  have hp8 : p ≤ 8 := hI.1.2
  have hl := lv_entry ([.ref h, .int ln]) (n := 2) (Nat.le_of_ble_eq_true rfl)
  rw [lg_entry_eq]
  generalize (lg_sl ([.ref h, .int ln]) ++ List.replicate (2 - (lg_sl ([.ref h, .int ln])).length) Slot.unset).toArray = ls at hl ⊢
  have hl : lv_has ls 2 [(0, .ref h), (1, .int ln)] := hl
  rcases inR_cases 10 ln with ⟨l, hl10, rfl⟩ | hno
  · skip
    have hixl : ix 10 (nI l) = some l := ix_t hl10 (by omega)
    refine lv_aload_n hx hb dX3_lane_0 rfl (lv_at hl 0 rfl) ?_
    refine lv_iload_n hx hb dX3_lane_1 rfl (lv_at hl 1 rfl) ?_
    refine vp_callSi (va_Run.run (va_runS (As := [.int (nI l)]) (rest := [.ref h]) ⟨hx, hb, hml, hown, hts⟩ (c_X3_isLane l9 (nI l)) (va_cwS 1 hts gX3_lane_X3_isLane rfl rfl rfl (by decide +kernel) ⟨Nat.le_of_ble_eq_true rfl, Nat.le_of_ble_eq_true rfl⟩) ⟨fun a U g mk q => q, fun U hU hW => ⟨rfl, trivial⟩⟩ rfl rfl hl.1 rfl (lv_room (Nat.le_of_ble_eq_true rfl)) dX3_lane_2 ⟨Nat.le_of_ble_eq_true rfl, Nat.le_of_ble_eq_true rfl⟩)) (fun r hr => ?_)
    subst hr
    refine lv_if_eq (tgt := 12) hx hb dX3_lane_5 (by decide) (fun c_5 => absurd c_5 (bi_nz.mpr (inR_nI hl10 (by omega)))) (fun _ => ?_)
    refine lv_iconst (v := 0) hx hb dX3_lane_8 (by decide) ?_
    refine lv_goto (tgt := 13) hx hb dX3_lane_9 (by decide) ?_
    refine va_calli (va_runV (As := [.int 0]) (rest := []) ⟨hx, hb, hml, hown, hts⟩ (c_X3_holds l9 dC dI s.heap.size h a th n p F 0) (cwV 1 hts gX3_lane_X3_holds rfl rfl rfl (by decide +kernel) ⟨Nat.le_of_ble_eq_true rfl, Nat.le_of_ble_eq_true rfl⟩) ⟨PWr.blind, va_recv hK hP (ci := 3) (q0 := 0) rfl rfl, PWr.pre hP hK hD hE ((hH.kept hS.2.1).narrow (A_in hD hS hA))⟩ rfl rfl hl.1 rfl (lv_room (Nat.le_of_ble_eq_true rfl)) dX3_lane_13 ⟨Nat.le_of_ble_eq_true rfl, Nat.le_of_ble_eq_true rfl⟩) hS (fun q _ hq => A_in hD hS hA q hq) (A_in hD hS hA) (fun r9 u9 t9 H locs ht9 hvm hw9 hB hz1 hk1 hS => ?_)
    have hP : va_P (dC, dI) vwCl (rW cI cZ h a 0 n p F) H := by rw [← ht9]; exact hB
    have hD : va_D A (rW cI cZ h a 0 n p F) := D_same hD rfl
    refine W_top (y := .int (bi (0 = 0))) (congrArg Value.int hw9) ?_
    refine W_top (y := .int 1) (congrArg Value.int (bi_t rfl)) ?_
    refine lv_if_eq (tgt := 27) hx hb dX3_lane_16 (by decide) (fun c_16 => absurd c_16 (by decide)) (fun _ => ?_)
    refine lv_aload_n hx hb dX3_lane_19 rfl (lv_at hl 0 rfl) ?_
    refine lv_iload_n hx hb dX3_lane_20 rfl (lv_at hl 1 rfl) ?_
    refine vp_callSi (va_Run.run (va_runV (As := [.int (nI l)]) (rest := []) ⟨hx, hb, hml, hown, hts⟩ (c_X3_inLane l9 dC dI h a 0 n p F (nI l) hn8) (cwV 1 hts gX3_lane_X3_inLane rfl rfl rfl (by decide +kernel) ⟨Nat.le_of_ble_eq_true rfl, Nat.le_of_ble_eq_true rfl⟩) ⟨PRo.blind, va_recv hK hP (ci := 3) (q0 := 0) rfl rfl, PRo.pre hP hK hE⟩ rfl rfl hl.1 rfl (lv_room (Nat.le_of_ble_eq_true rfl)) dX3_lane_21 ⟨Nat.le_of_ble_eq_true rfl, Nat.le_of_ble_eq_true rfl⟩)) (fun r hr => ?_)
    subst hr
    refine lv_goto (tgt := 28) hx hb dX3_lane_24 (by decide) ?_
    have hS9 : S_lane n F (nI l) = (0, oI (lk (F 6) n (nI l))) := by rw [S_lane, hixl]
    exact W.iret (v := oI (lk (F 6) n (nI l))) hx hb hr (fun t ht hW => ⟨⟨_, (), rfl, (by rw [hS9]), by show va_P _ _ _ t.heap; rw [hS9, ht]; exact hP⟩, hS.F ht⟩) hS.2.2 dX3_lane_28
  · skip
    refine lv_aload_n hx hb dX3_lane_0 rfl (lv_at hl 0 rfl) ?_
    refine lv_iload_n hx hb dX3_lane_1 rfl (lv_at hl 1 rfl) ?_
    refine vp_callSi (va_Run.run (va_runS (As := [.int ln]) (rest := [.ref h]) ⟨hx, hb, hml, hown, hts⟩ (c_X3_isLane l9 ln) (va_cwS 1 hts gX3_lane_X3_isLane rfl rfl rfl (by decide +kernel) ⟨Nat.le_of_ble_eq_true rfl, Nat.le_of_ble_eq_true rfl⟩) ⟨fun a U g mk q => q, fun U hU hW => ⟨rfl, trivial⟩⟩ rfl rfl hl.1 rfl (lv_room (Nat.le_of_ble_eq_true rfl)) dX3_lane_2 ⟨Nat.le_of_ble_eq_true rfl, Nat.le_of_ble_eq_true rfl⟩)) (fun r hr => ?_)
    subst hr
    refine lv_if_eq (tgt := 12) hx hb dX3_lane_5 (by decide) (fun _ => ?_) (fun c_5 => absurd (bi_f hno) c_5)
    refine lv_iconst (v := 1) hx hb dX3_lane_12 (by decide) ?_
    refine va_calli (va_runV (As := [.int 1]) (rest := []) ⟨hx, hb, hml, hown, hts⟩ (c_X3_holds l9 dC dI s.heap.size h a th n p F 1) (cwV 1 hts gX3_lane_X3_holds rfl rfl rfl (by decide +kernel) ⟨Nat.le_of_ble_eq_true rfl, Nat.le_of_ble_eq_true rfl⟩) ⟨PWr.blind, va_recv hK hP (ci := 3) (q0 := 0) rfl rfl, PWr.pre hP hK hD hE ((hH.kept hS.2.1).narrow (A_in hD hS hA))⟩ rfl rfl hl.1 rfl (lv_room (Nat.le_of_ble_eq_true rfl)) dX3_lane_13 ⟨Nat.le_of_ble_eq_true rfl, Nat.le_of_ble_eq_true rfl⟩) hS (fun q _ hq => A_in hD hS hA q hq) (A_in hD hS hA) (fun r9 u9 t9 H locs ht9 hvm hw9 hB hz1 hk1 hS => ?_)
    have hP : va_P (dC, dI) vwCl (rW cI cZ h a 1 n p F) H := by rw [← ht9]; exact hB
    have hD : va_D A (rW cI cZ h a 1 n p F) := D_same hD rfl
    refine W_top (y := .int (bi (1 = 0))) (congrArg Value.int hw9) ?_
    refine W_top (y := .int 0) (congrArg Value.int (bi_f (by decide))) ?_
    refine lv_if_eq (tgt := 27) hx hb dX3_lane_16 (by decide) (fun _ => ?_) (fun c_16 => absurd (by decide) c_16)
    refine lv_iconst (v := 0) hx hb dX3_lane_27 (by decide) ?_
    have hS9 : S_lane n F ln = (1, 0) := by rw [S_lane, ix_f hno]
    exact W.iret (v := 0) hx hb hr (fun t ht hW => ⟨⟨_, (), rfl, (by rw [hS9]), by show va_P _ _ _ t.heap; rw [hS9, ht]; exact hP⟩, hS.F ht⟩) hS.2.2 dX3_lane_28
