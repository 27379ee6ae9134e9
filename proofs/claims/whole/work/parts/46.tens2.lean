/-- the same start for a method of the JDK whose class has natives of its own -/
theorem my_ofWF {l : Launch} {y : MethodName} {ws ws' : List Cond} {rm : Room} {Pc : Array Value → State → Prop} {Qc : Array Value → State → Outcome → State → Prop} {mc ms : Nat} {free : Addr → Prop} {cc : ByteArray} {maxL : Nat} {ret : Option FieldType}
    (hy : plainFor y = true) (hw : ws = Cond.code y cc maxL ret :: ws')
    (body : ∀ p e s m args below meth c s₁, BodyLoose p l y (headSpec ws rm) cc maxL ret e s m args below meth c s₁ → c.maxLocals = maxL → Pc args s → W p l e (headSpec ws rm).room s m args below meth c s.heap [] 0 0 (MQ below Qc args s mc ms free) (entryFrame m args maxL)) : Met l y ws rm Pc Qc mc ms free := by
  refine Free.MetFree.of_bodySF (code := cc) (maxLocals := maxL) (ret := ret) hy (fun args s m h hn => ?_) (fun p e s m args below meth c s₁ B hml hP _ => ?_)
  · obtain ⟨meth, c, h1, h2, h3, h4, h5, h6, -, -⟩ := Cond.code_spec hn (atoms_spec (ws := ws) h _ (by rw [hw]; exact List.mem_cons_self))
    exact ⟨meth, c, h1, h2, h3, h4, h5, h6⟩
  · obtain ⟨t, a1, o, b1, b2, b3⟩ := body p e s m args below meth c s₁ B hml hP s₁ (by rw [B.state]; rfl) (Stand.of_body B)
    exact ⟨t, o, a1, b1, b2, ⟨b3.1, b3.2⟩⟩
theorem cmp_l_ge {r : Option Ordering} (h1 : r ≠ some .lt) (h2 : r ≠ none) : ¬ Op.cmpValue r .l < 0 := by
  cases r with
  | none => exact absurd rfl h2
  | some o => cases o with
    | lt => exact absurd rfl h1
    | eq => decide
    | gt => decide
theorem cmp_g_ge {r : Option Ordering} (h1 : r ≠ some .lt) : Op.cmpValue r .g ≥ 0 := by
  cases r with
  | none => decide
  | some o => cases o with
    | lt => exact absurd rfl h1
    | eq => decide
    | gt => decide

set_option maxHeartbeats 4000000 in
set_option maxRecDepth 100000 in
theorem c_Jxf58ca_isNaN_12338 (l9 : Launch) (v : UInt32) (hv9 : v = 0 ∨ ∃ s E T, 100 ≤ E ∧ E ≤ 160 ∧ T < 8388608 ∧ v = fb s E T) : Met l9 yJxf58ca_isNaN_12338 wsJxf58ca_isNaN_12338 ({ frames := 0, cells := 0, slots := 0, locals := 0 }) (va_Pc [.float v] (fun _ => True)) (vp_Si (fun r9 => r9 = 0)) 0 0 (fun _ => False) := by
  refine my_ofWF (cc := cJxf58ca_isNaN_12338) (maxL := 1) (ret := (some .boolean)) (by decide +kernel) rfl ?_
  intro p9 e9 s m args below meth c s₁ B hml hv
  obtain ⟨rfl, -⟩ := hv
  have hx := B.exec
  have hb := B.bytes
  have hr := B.returns
  have hts := atoms_spec (ws := wsJxf58ca_isNaN_12338) B.pre
  have hown : s.vm.findClass RJxf58ca = some m.cls := findClass_of_methodNamed B.named
  have hlocks := B.notSynchronized
  have hl := lv_entry ([.float v]) (n := 1) (Nat.le_of_ble_eq_true rfl)
  rw [lg_entry_eq]
  generalize (lg_sl ([.float v]) ++ List.replicate (1 - (lg_sl ([.float v])).length) Slot.unset).toArray = ls at hl ⊢
  have hl : lv_has ls 1 [(0, .float v)] := hl
  rcases hv9 with rfl | ⟨sg9, E, T, hE1, hE2, hT, rfl⟩
  · skip
    refine lv_fload_n hx hb dJxf58ca_isNaN_12338_0 rfl (lv_at hl 0 rfl) ?_
    refine lv_fload_n hx hb dJxf58ca_isNaN_12338_1 rfl (lv_at hl 0 rfl) ?_
    refine lv_fcmp hx hb dJxf58ca_isNaN_12338_2 ?_
    refine W_top (y := .int 0) (congrArg Value.int (by decide +kernel)) ?_
    refine lv_if_eq (tgt := 10) hx hb dJxf58ca_isNaN_12338_3 (by decide) (fun _ => ?_) (fun c_3 => absurd (by decide) c_3)
    refine lv_iconst (v := 0) hx hb dJxf58ca_isNaN_12338_10 (by decide) ?_
    exact W.zret (v := 0) hx hb hr rfl (fun t ht _ => ⟨_, rfl, rfl, ht⟩) (fun q hq => absurd hq List.not_mem_nil) dJxf58ca_isNaN_12338_11
  · skip
    refine lv_fload_n hx hb dJxf58ca_isNaN_12338_0 rfl (lv_at hl 0 rfl) ?_
    refine lv_fload_n hx hb dJxf58ca_isNaN_12338_1 rfl (lv_at hl 0 rfl) ?_
    refine lv_fcmp hx hb dJxf58ca_isNaN_12338_2 ?_
    refine W_top (y := .int 0) (congrArg Value.int (congrArg (fun z => Op.cmpValue z .l) (cmp_self (by omega) (by omega) hT))) ?_
    refine lv_if_eq (tgt := 10) hx hb dJxf58ca_isNaN_12338_3 (by decide) (fun _ => ?_) (fun c_3 => absurd (by decide) c_3)
    refine lv_iconst (v := 0) hx hb dJxf58ca_isNaN_12338_10 (by decide) ?_
    exact W.zret (v := 0) hx hb hr rfl (fun t ht _ => ⟨_, rfl, rfl, ht⟩) (fun q hq => absurd hq List.not_mem_nil) dJxf58ca_isNaN_12338_11

set_option maxHeartbeats 4000000 in
set_option maxRecDepth 100000 in
theorem c_Jxf58ca_floatToIntBits_5c35a (l9 : Launch) (v : UInt32) (hv9 : v = 0 ∨ ∃ s E T, 100 ≤ E ∧ E ≤ 160 ∧ T < 8388608 ∧ v = fb s E T) : Met l9 yJxf58ca_floatToIntBits_5c35a wsJxf58ca_floatToIntBits_5c35a ({ frames := 1, cells := 0, slots := 0, locals := 20 }) (va_Pc [.float v] (fun _ => True)) (vp_Si (fun r9 => r9 = v.toInt32)) 0 0 (fun _ => False) := by
  refine my_ofWF (cc := cJxf58ca_floatToIntBits_5c35a) (maxL := 1) (ret := (some .int)) (by decide +kernel) rfl ?_
  intro p9 e9 s m args below meth c s₁ B hml hv
  obtain ⟨rfl, -⟩ := hv
  have hx := B.exec
  have hb := B.bytes
  have hr := B.returns
  have hts := atoms_spec (ws := wsJxf58ca_floatToIntBits_5c35a) B.pre
  have hown : s.vm.findClass RJxf58ca = some m.cls := findClass_of_methodNamed B.named
  have hlocks := B.notSynchronized
  have hl := lv_entry ([.float v]) (n := 1) (Nat.le_of_ble_eq_true rfl)
  rw [lg_entry_eq]
  generalize (lg_sl ([.float v]) ++ List.replicate (1 - (lg_sl ([.float v])).length) Slot.unset).toArray = ls at hl ⊢
  have hl : lv_has ls 1 [(0, .float v)] := hl
  refine lv_fload_n hx hb dJxf58ca_floatToIntBits_5c35a_0 rfl (lv_at hl 0 rfl) ?_
  refine vp_callSi (va_Run.run (va_runS (As := [.float v]) (rest := []) ⟨hx, hb, hml, hown, hts⟩ (c_Jxf58ca_isNaN_12338 l9 v hv9) (va_cwS 1 hts gJxf58ca_floatToIntBits_5c35a_Jxf58ca_isNaN_12338 rfl rfl rfl (by decide +kernel) ⟨Nat.le_of_ble_eq_true rfl, Nat.le_of_ble_eq_true rfl⟩) ⟨fun a U g mk q => q, fun U hU hW => ⟨rfl, trivial⟩⟩ rfl rfl hl.1 rfl (lv_room (Nat.le_of_ble_eq_true rfl)) dJxf58ca_floatToIntBits_5c35a_1 ⟨Nat.le_of_ble_eq_true rfl, Nat.le_of_ble_eq_true rfl⟩)) (fun r hr => ?_)
  subst hr
  refine lv_if_ne (tgt := 12) hx hb dJxf58ca_floatToIntBits_5c35a_4 (by decide) (fun c_4 => absurd (by decide) c_4) (fun _ => ?_)
  refine lv_fload_n hx hb dJxf58ca_floatToIntBits_5c35a_7 rfl (lv_at hl 0 rfl) ?_
  refine vn_f2i hx hb (hml.trans hl.1.symm) hown (hts (.methodLink RJxf58ca 74 ⟨"java/lang/Float", "floatToRawIntBits", "(F)I"⟩) (by decide +kernel)) (hts (.native ⟨"java/lang/Float", "floatToRawIntBits", "(F)I"⟩) (by decide +kernel)) (hts (.static ⟨"java/lang/Float", "floatToRawIntBits", "(F)I"⟩) (by decide +kernel)) (hts (.initialized "java/lang/Float") (by decide +kernel)) (Nat.le_of_ble_eq_true rfl) (Nat.le_of_ble_eq_true rfl) dJxf58ca_floatToIntBits_5c35a_8 ?_
  exact W.iret (v := v.toInt32) hx hb hr (fun t ht _ => ⟨_, rfl, rfl, ht⟩) (fun q hq => absurd hq List.not_mem_nil) dJxf58ca_floatToIntBits_5c35a_11

set_option maxHeartbeats 4000000 in
set_option maxRecDepth 100000 in
theorem c_X2_bitsOf (l9 : Launch) (v : UInt32) (hv9 : v = 0 ∨ ∃ s E T, 100 ≤ E ∧ E ≤ 160 ∧ T < 8388608 ∧ v = fb s E T) : Met l9 yX2_bitsOf wsX2_bitsOf ({ frames := 0, cells := 0, slots := 0, locals := 0 }) (va_Pc [.float v] (fun _ => True)) (vp_Si (fun r9 => r9 = v.toInt32)) 0 0 (fun _ => False) := by
  refine Met.ofW (cc := cX2_bitsOf) (maxL := 5) (ret := (some .int)) (by decide) rfl ?_
  intro p9 e9 s m args below meth c s₁ B hml hv
  obtain ⟨rfl, -⟩ := hv
  have hx := B.exec
  have hb := B.bytes
  have hr := B.returns
  have hts := atoms_spec (ws := wsX2_bitsOf) B.pre
  have hown : s.vm.findClass RX2 = some m.cls := findClass_of_methodNamed B.named
  have hlocks := B.notSynchronized
  have hl := lv_entry ([.float v]) (n := 5) (Nat.le_of_ble_eq_true rfl)
  rw [lg_entry_eq]
  generalize (lg_sl ([.float v]) ++ List.replicate (5 - (lg_sl ([.float v])).length) Slot.unset).toArray = ls at hl ⊢
  have hl : lv_has ls 5 [(0, .float v)] := hl
  rcases hv9 with rfl | ⟨sg9, E, T, hE1, hE2, hT, rfl⟩
  · skip
    refine lv_fload_n hx hb dX2_bitsOf_0 rfl (lv_at hl 0 rfl) ?_
    refine lv_fconst0 hx hb dX2_bitsOf_1 ?_
    refine lv_fcmp hx hb dX2_bitsOf_2 ?_
    refine W_top (y := .int 0) (congrArg Value.int (by decide +kernel)) ?_
    refine lv_if_ne (tgt := 8) hx hb dX2_bitsOf_3 (by decide) (fun c_3 => absurd (by decide) c_3) (fun _ => ?_)
    refine lv_iconst (v := 0) hx hb dX2_bitsOf_6 (by decide) ?_
    exact W.iret (v := 0) hx hb hr (fun t ht _ => ⟨_, rfl, by decide, ht⟩) (fun q hq => absurd hq List.not_mem_nil) dX2_bitsOf_7
  · skip
    cases sg9
    · skip
      refine lv_fload_n hx hb dX2_bitsOf_0 rfl (lv_at hl 0 rfl) ?_
      refine lv_fconst0 hx hb dX2_bitsOf_1 ?_
      refine lv_fcmp hx hb dX2_bitsOf_2 ?_
      refine W_top (y := .int 1) (congrArg Value.int (congrArg (fun z => Op.cmpValue z .l) (cmp_pos (by omega) (by omega) hT))) ?_
      refine lv_if_ne (tgt := 8) hx hb dX2_bitsOf_3 (by decide) (fun _ => ?_) (fun c_3 => absurd c_3 (by decide))
      refine lv_fload_n hx hb dX2_bitsOf_8 rfl (lv_at hl 0 rfl) ?_
      refine lv_fconst0 hx hb dX2_bitsOf_9 ?_
      refine lv_fcmp hx hb dX2_bitsOf_10 ?_
      refine W_top (y := .int 1) (congrArg Value.int (congrArg (fun z => Op.cmpValue z .g) (cmp_pos (by omega) (by omega) hT))) ?_
      refine lv_if_ge (tgt := 19) hx hb dX2_bitsOf_11 (by decide) (fun _ => ?_) (fun c_11 => absurd (by decide) c_11)
      refine lv_iconst (v := 0) hx hb dX2_bitsOf_19 (by decide) ?_
      refine lv_istore_n (lv' := [(1, .int 0), (0, .float (fb false E T))]) hx hb dX2_bitsOf_20 rfl hl (by decide) rfl (fun ls hl => ?_)
      refine lv_fload_n hx hb dX2_bitsOf_21 rfl (lv_at hl 1 rfl) ?_
      refine lv_fconst0 hx hb dX2_bitsOf_22 ?_
      refine lv_fcmp hx hb dX2_bitsOf_23 ?_
      refine W_top (y := .int 1) (congrArg Value.int (congrArg (fun z => Op.cmpValue z .g) (cmp_pos (by omega) (by omega) hT))) ?_
      refine lv_if_ge (tgt := 32) hx hb dX2_bitsOf_24 (by decide) (fun _ => ?_) (fun c_24 => absurd (by decide) c_24)
      refine lv_fload_n hx hb dX2_bitsOf_32 rfl (lv_at hl 1 rfl) ?_
      refine lv_fstore_n (lv' := [(2, .float (fb false E T)), (1, .int 0), (0, .float (fb false E T))]) hx hb dX2_bitsOf_33 rfl hl (by decide) rfl (fun ls hl => ?_)
      refine lv_bipush (v := 127) hx hb dX2_bitsOf_34 (by decide) ?_
      refine W_top (y := .int (nI (E + 127 - E))) (congrArg Value.int (by rw [show E + 127 - E = 127 by omega]; rfl)) ?_
      refine lv_istore_n (lv' := [(3, .int (nI (E + 127 - E))), (2, .float (fb false E T)), (1, .int 0), (0, .float (fb false E T))]) hx hb dX2_bitsOf_36 rfl hl (by decide) rfl (fun ls hl => ?_)
      refine W_loopR (nL := 5) (fun e2 : Nat => [(2, .float (fb false e2 T)), (3, .int (nI (E + 127 - e2))), (0, .float (fb false E T)), (1, .int 0)]) (fun e2 => 100 ≤ e2 ∧ e2 ≤ E ∧ (e2 = E ∨ 127 ≤ e2)) (fun e2 => e2) ?_ E (⟨hE1, Nat.le_refl _, Or.inl rfl⟩) (lv_sub hl [1, 0, 3, 2] rfl)
      intro e2 ls hI hl ih
      have hl : lv_has ls 5 [(2, .float (fb false e2 T)), (3, .int (nI (E + 127 - e2))), (0, .float (fb false E T)), (1, .int 0)] := hl
      obtain ⟨hI1, hI2, hI3⟩ := hI
      refine lv_fload_n hx hb dX2_bitsOf_37 rfl (lv_at hl 0 rfl) ?_
      refine lv_fconst2 hx hb dX2_bitsOf_38 ?_
      refine lv_fcmp hx hb dX2_bitsOf_39 ?_
      rcases Nat.lt_or_ge e2 128 with q2 | q2
      · skip
        refine W_top (y := .int (-1)) (congrArg Value.int (congrArg (fun z => Op.cmpValue z .l) ((cmp_2 (K := 128) (by omega) (by omega) (by omega) (by omega) hT).1 q2))) ?_
        refine lv_if_lt (tgt := 60) hx hb dX2_bitsOf_40 (by decide) (fun _ => ?_) (fun c_40 => absurd (by decide) c_40)
        refine W_loopR (nL := 5) (fun e3 : Nat => [(2, .float (fb false e3 T)), (3, .int (nI (E + 127 - e3))), (0, .float (fb false E T)), (1, .int 0)]) (fun e3 => 100 ≤ e3 ∧ e3 ≤ 127) (fun e3 => 127 - e3) ?_ e2 (⟨hI1, by omega⟩) (lv_sub hl [0, 1, 2, 3] rfl)
        intro e3 ls hI9 hl ih
        have hl : lv_has ls 5 [(2, .float (fb false e3 T)), (3, .int (nI (E + 127 - e3))), (0, .float (fb false E T)), (1, .int 0)] := hl
        obtain ⟨hJ1, hJ2⟩ := hI9
        refine lv_fload_n hx hb dX2_bitsOf_60 rfl (lv_at hl 0 rfl) ?_
        refine lv_fconst1 hx hb dX2_bitsOf_61 ?_
        refine lv_fcmp hx hb dX2_bitsOf_62 ?_
        rcases Nat.lt_or_ge e3 127 with q3 | q3
        · skip
          refine W_top (y := .int (-1)) (congrArg Value.int (congrArg (fun z => Op.cmpValue z .g) ((cmp_2 (K := 127) (by omega) (by omega) (by omega) (by omega) hT).1 q3))) ?_
          refine lv_if_ge (tgt := 81) hx hb dX2_bitsOf_63 (by decide) (fun c_63 => absurd c_63 (by decide)) (fun _ => ?_)
          refine lv_iload_n hx hb dX2_bitsOf_66 rfl (lv_at hl 1 rfl) ?_
          refine lv_iconst (v := 1) hx hb dX2_bitsOf_67 (by decide) ?_
          refine lv_icmp_le (tgt := 81) hx hb dX2_bitsOf_68 (by decide) (fun c_68 => absurd c_68 (fun q => by have q9 := (nI_leI (a := E + 127 - e3) (b := 1) (by omega) (by omega)).mp q; omega)) (fun _ => ?_)
          refine lv_fload_n hx hb dX2_bitsOf_71 rfl (lv_at hl 0 rfl) ?_
          refine lv_fconst2 hx hb dX2_bitsOf_72 ?_
          refine lv_fmul hx hb dX2_bitsOf_73 (by rw [show FP.fmul (fb false e3 T) FP.fconst2 = fb false (e3 + 1) T from fb_dbl (by omega) (by omega) hT]; exact fb_n32 (by omega) hT) ?_
          refine W_top (y := .float (fb false (e3 + 1) T)) (congrArg Value.float (fb_dbl (by omega) (by omega) hT)) ?_
          refine lv_fstore_n (lv' := [(2, .float (fb false (e3 + 1) T)), (3, .int (nI (E + 127 - e3))), (0, .float (fb false E T)), (1, .int 0)]) hx hb dX2_bitsOf_74 rfl hl (by decide) rfl (fun ls hl => ?_)
          refine lv_iinc (v := nI (E + 127 - (e3 + 1))) (lv' := [(3, .int (nI (E + 127 - (e3 + 1)))), (2, .float (fb false (e3 + 1) T)), (0, .float (fb false E T)), (1, .int 0)]) hx hb dX2_bitsOf_75 hl (k := 1) rfl (by rw [show E + 127 - e3 = (E + 127 - (e3 + 1)) + 1 by omega, ← nI_1, Int32.add_assoc]; exact Int32.add_zero _) (by decide) rfl (fun ls hl => ?_)
          refine lv_goto (tgt := 60) hx hb dX2_bitsOf_78 (by decide) ?_
          exact ih (e3 + 1) ls (by omega) (⟨by omega, by omega⟩) (lv_sub hl [1, 0, 2, 3] rfl)
        · skip
          have he3 : e3 = 127 := by omega
          refine lv_if_ge (tgt := 81) hx hb dX2_bitsOf_63 (by decide) (fun _ => ?_) (fun c_63 => absurd (cmp_g_ge ((cmp_2 (K := 127) (by omega) (by omega) (by omega) (by omega) hT).2 q3).1) c_63)
          refine lv_fload_n hx hb dX2_bitsOf_81 rfl (lv_at hl 0 rfl) ?_
          refine W_top (y := .float (fb false 127 T)) (by rw [he3]) ?_
          refine lv_ldcf (v := 1258291200) hx hb hown (hts (.constantFloat RX2 213 (1258291200)) (by decide +kernel)) dX2_bitsOf_82 ?_
          refine lv_fmul hx hb dX2_bitsOf_84 (by rw [c23_fb, fb_mul2 (by omega) (by omega) (by omega) (by omega) (by omega) hT]; exact fb_n32 (by omega) hT) ?_
          refine W_top (y := .float (fb false 150 T)) (congrArg Value.float (by rw [c23_fb]; exact fb_mul2 (E := 127) (by omega) (by omega) (by omega) (by omega) (by omega) hT)) ?_
          refine lv_f2i hx hb dX2_bitsOf_85 ?_
          refine W_top (y := .int (nI (8388608 + T))) (congrArg Value.int (fb_f2i hT)) ?_
          refine lv_ldc (v := 8388608) hx hb hown (hts (.constant RX2 214 (8388608)) (by decide +kernel)) dX2_bitsOf_86 ?_
          refine lv_isub hx hb dX2_bitsOf_88 ?_
          refine W_top (y := .int (nI T)) (congrArg Value.int ((nI_sub (a := 8388608 + T) (b := 8388608) (by omega) (by omega)).trans (congrArg nI (by omega)))) ?_
          refine lv_istore (lv' := [(4, .int (nI T)), (2, .float (fb false e3 T)), (3, .int (nI (E + 127 - e3))), (0, .float (fb false E T)), (1, .int 0)]) hx hb dX2_bitsOf_89 hl (by decide) rfl (fun ls hl => ?_)
          refine lv_iload_n hx hb dX2_bitsOf_91 rfl (lv_at hl 4 rfl) ?_
          refine lv_iload_n hx hb dX2_bitsOf_92 rfl (lv_at hl 2 rfl) ?_
          refine W_top (y := .int (nI E)) (congrArg Value.int (congrArg nI (by omega))) ?_
          refine lv_bipush (v := 23) hx hb dX2_bitsOf_93 (by decide) ?_
          refine lv_ishl hx hb dX2_bitsOf_95 ?_
          refine lv_ior hx hb dX2_bitsOf_96 ?_
          refine lv_iload hx hb dX2_bitsOf_97 (lv_at hl 0 rfl) ?_
          refine lv_ior hx hb dX2_bitsOf_99 ?_
          refine W_top (y := .int ((fb false E T).toInt32)) (congrArg Value.int (fb_bits (s := false) (by omega) hT)) ?_
          exact W.iret (v := (fb false E T).toInt32) hx hb hr (fun t ht _ => ⟨_, rfl, rfl, ht⟩) (fun q hq => absurd hq List.not_mem_nil) dX2_bitsOf_100
      · skip
        refine lv_if_lt (tgt := 60) hx hb dX2_bitsOf_40 (by decide) (fun c_40 => absurd c_40 (cmp_l_ge ((cmp_2 (K := 128) (by omega) (by omega) (by omega) (by omega) hT).2 q2).1 ((cmp_2 (K := 128) (by omega) (by omega) (by omega) (by omega) hT).2 q2).2)) (fun _ => ?_)
        refine lv_iload_n hx hb dX2_bitsOf_43 rfl (lv_at hl 1 rfl) ?_
        refine lv_sipush (v := 254) hx hb dX2_bitsOf_44 (by decide) ?_
        refine lv_icmp_ge (tgt := 60) hx hb dX2_bitsOf_47 (by decide) (fun c_47 => absurd c_47 (fun q => by have q3 := (nI_leI (a := 254) (b := E + 127 - e2) (by omega) (by omega)).mp q; omega)) (fun _ => ?_)
        refine lv_fload_n hx hb dX2_bitsOf_50 rfl (lv_at hl 0 rfl) ?_
        refine lv_fconst2 hx hb dX2_bitsOf_51 ?_
        refine lv_fdiv hx hb dX2_bitsOf_52 (by rw [show FP.fdiv (fb false e2 T) FP.fconst2 = fb false (e2 - 1) T from fb_half (by omega) (by omega) hT]; exact fb_n32 (by omega) hT) ?_
        refine W_top (y := .float (fb false (e2 - 1) T)) (congrArg Value.float (fb_half (by omega) (by omega) hT)) ?_
        refine lv_fstore_n (lv' := [(2, .float (fb false (e2 - 1) T)), (3, .int (nI (E + 127 - e2))), (0, .float (fb false E T)), (1, .int 0)]) hx hb dX2_bitsOf_53 rfl hl (by decide) rfl (fun ls hl => ?_)
        refine lv_iinc (v := nI (E + 127 - (e2 - 1))) (lv' := [(3, .int (nI (E + 127 - (e2 - 1)))), (2, .float (fb false (e2 - 1) T)), (0, .float (fb false E T)), (1, .int 0)]) hx hb dX2_bitsOf_54 hl (k := 1) rfl (by rw [show E + 127 - (e2 - 1) = (E + 127 - e2) + 1 by omega]; exact nI_1 _) (by decide) rfl (fun ls hl => ?_)
        refine lv_goto (tgt := 37) hx hb dX2_bitsOf_57 (by decide) ?_
        exact ih (e2 - 1) ls (by omega) (⟨by omega, by omega, by omega⟩) (lv_sub hl [1, 0, 2, 3] rfl)
    · skip
      refine lv_fload_n hx hb dX2_bitsOf_0 rfl (lv_at hl 0 rfl) ?_
      refine lv_fconst0 hx hb dX2_bitsOf_1 ?_
      refine lv_fcmp hx hb dX2_bitsOf_2 ?_
      refine W_top (y := .int (-1)) (congrArg Value.int (congrArg (fun z => Op.cmpValue z .l) (cmp_neg (by omega) (by omega) hT))) ?_
      refine lv_if_ne (tgt := 8) hx hb dX2_bitsOf_3 (by decide) (fun _ => ?_) (fun c_3 => absurd c_3 (by decide))
      refine lv_fload_n hx hb dX2_bitsOf_8 rfl (lv_at hl 0 rfl) ?_
      refine lv_fconst0 hx hb dX2_bitsOf_9 ?_
      refine lv_fcmp hx hb dX2_bitsOf_10 ?_
      refine W_top (y := .int (-1)) (congrArg Value.int (congrArg (fun z => Op.cmpValue z .g) (cmp_neg (by omega) (by omega) hT))) ?_
      refine lv_if_ge (tgt := 19) hx hb dX2_bitsOf_11 (by decide) (fun c_11 => absurd c_11 (by decide)) (fun _ => ?_)
      refine lv_ldc (v := (-2147483648)) hx hb hown (hts (.constant RX2 212 (-2147483648)) (by decide +kernel)) dX2_bitsOf_14 ?_
      refine lv_goto (tgt := 20) hx hb dX2_bitsOf_16 (by decide) ?_
      refine lv_istore_n (lv' := [(1, .int (-2147483648)), (0, .float (fb true E T))]) hx hb dX2_bitsOf_20 rfl hl (by decide) rfl (fun ls hl => ?_)
      refine lv_fload_n hx hb dX2_bitsOf_21 rfl (lv_at hl 1 rfl) ?_
      refine lv_fconst0 hx hb dX2_bitsOf_22 ?_
      refine lv_fcmp hx hb dX2_bitsOf_23 ?_
      refine W_top (y := .int (-1)) (congrArg Value.int (congrArg (fun z => Op.cmpValue z .g) (cmp_neg (by omega) (by omega) hT))) ?_
      refine lv_if_ge (tgt := 32) hx hb dX2_bitsOf_24 (by decide) (fun c_24 => absurd c_24 (by decide)) (fun _ => ?_)
      refine lv_fload_n hx hb dX2_bitsOf_27 rfl (lv_at hl 1 rfl) ?_
      refine lv_fneg hx hb dX2_bitsOf_28 ?_
      refine W_top (y := .float (fb false E T)) (congrArg Value.float (fb_neg (by omega) hT)) ?_
      refine lv_goto (tgt := 33) hx hb dX2_bitsOf_29 (by decide) ?_
      refine lv_fstore_n (lv' := [(2, .float (fb false E T)), (1, .int (-2147483648)), (0, .float (fb true E T))]) hx hb dX2_bitsOf_33 rfl hl (by decide) rfl (fun ls hl => ?_)
      refine lv_bipush (v := 127) hx hb dX2_bitsOf_34 (by decide) ?_
      refine W_top (y := .int (nI (E + 127 - E))) (congrArg Value.int (by rw [show E + 127 - E = 127 by omega]; rfl)) ?_
      refine lv_istore_n (lv' := [(3, .int (nI (E + 127 - E))), (2, .float (fb false E T)), (1, .int (-2147483648)), (0, .float (fb true E T))]) hx hb dX2_bitsOf_36 rfl hl (by decide) rfl (fun ls hl => ?_)
      refine W_loopR (nL := 5) (fun e2 : Nat => [(2, .float (fb false e2 T)), (3, .int (nI (E + 127 - e2))), (0, .float (fb true E T)), (1, .int (-2147483648))]) (fun e2 => 100 ≤ e2 ∧ e2 ≤ E ∧ (e2 = E ∨ 127 ≤ e2)) (fun e2 => e2) ?_ E (⟨hE1, Nat.le_refl _, Or.inl rfl⟩) (lv_sub hl [1, 0, 3, 2] rfl)
      intro e2 ls hI hl ih
      have hl : lv_has ls 5 [(2, .float (fb false e2 T)), (3, .int (nI (E + 127 - e2))), (0, .float (fb true E T)), (1, .int (-2147483648))] := hl
      obtain ⟨hI1, hI2, hI3⟩ := hI
      refine lv_fload_n hx hb dX2_bitsOf_37 rfl (lv_at hl 0 rfl) ?_
      refine lv_fconst2 hx hb dX2_bitsOf_38 ?_
      refine lv_fcmp hx hb dX2_bitsOf_39 ?_
      rcases Nat.lt_or_ge e2 128 with q2 | q2
      · skip
        refine W_top (y := .int (-1)) (congrArg Value.int (congrArg (fun z => Op.cmpValue z .l) ((cmp_2 (K := 128) (by omega) (by omega) (by omega) (by omega) hT).1 q2))) ?_
        refine lv_if_lt (tgt := 60) hx hb dX2_bitsOf_40 (by decide) (fun _ => ?_) (fun c_40 => absurd (by decide) c_40)
        refine W_loopR (nL := 5) (fun e3 : Nat => [(2, .float (fb false e3 T)), (3, .int (nI (E + 127 - e3))), (0, .float (fb true E T)), (1, .int (-2147483648))]) (fun e3 => 100 ≤ e3 ∧ e3 ≤ 127) (fun e3 => 127 - e3) ?_ e2 (⟨hI1, by omega⟩) (lv_sub hl [0, 1, 2, 3] rfl)
        intro e3 ls hI9 hl ih
        have hl : lv_has ls 5 [(2, .float (fb false e3 T)), (3, .int (nI (E + 127 - e3))), (0, .float (fb true E T)), (1, .int (-2147483648))] := hl
        obtain ⟨hJ1, hJ2⟩ := hI9
        refine lv_fload_n hx hb dX2_bitsOf_60 rfl (lv_at hl 0 rfl) ?_
        refine lv_fconst1 hx hb dX2_bitsOf_61 ?_
        refine lv_fcmp hx hb dX2_bitsOf_62 ?_
        rcases Nat.lt_or_ge e3 127 with q3 | q3
        · skip
          refine W_top (y := .int (-1)) (congrArg Value.int (congrArg (fun z => Op.cmpValue z .g) ((cmp_2 (K := 127) (by omega) (by omega) (by omega) (by omega) hT).1 q3))) ?_
          refine lv_if_ge (tgt := 81) hx hb dX2_bitsOf_63 (by decide) (fun c_63 => absurd c_63 (by decide)) (fun _ => ?_)
          refine lv_iload_n hx hb dX2_bitsOf_66 rfl (lv_at hl 1 rfl) ?_
          refine lv_iconst (v := 1) hx hb dX2_bitsOf_67 (by decide) ?_
          refine lv_icmp_le (tgt := 81) hx hb dX2_bitsOf_68 (by decide) (fun c_68 => absurd c_68 (fun q => by have q9 := (nI_leI (a := E + 127 - e3) (b := 1) (by omega) (by omega)).mp q; omega)) (fun _ => ?_)
          refine lv_fload_n hx hb dX2_bitsOf_71 rfl (lv_at hl 0 rfl) ?_
          refine lv_fconst2 hx hb dX2_bitsOf_72 ?_
          refine lv_fmul hx hb dX2_bitsOf_73 (by rw [show FP.fmul (fb false e3 T) FP.fconst2 = fb false (e3 + 1) T from fb_dbl (by omega) (by omega) hT]; exact fb_n32 (by omega) hT) ?_
          refine W_top (y := .float (fb false (e3 + 1) T)) (congrArg Value.float (fb_dbl (by omega) (by omega) hT)) ?_
          refine lv_fstore_n (lv' := [(2, .float (fb false (e3 + 1) T)), (3, .int (nI (E + 127 - e3))), (0, .float (fb true E T)), (1, .int (-2147483648))]) hx hb dX2_bitsOf_74 rfl hl (by decide) rfl (fun ls hl => ?_)
          refine lv_iinc (v := nI (E + 127 - (e3 + 1))) (lv' := [(3, .int (nI (E + 127 - (e3 + 1)))), (2, .float (fb false (e3 + 1) T)), (0, .float (fb true E T)), (1, .int (-2147483648))]) hx hb dX2_bitsOf_75 hl (k := 1) rfl (by rw [show E + 127 - e3 = (E + 127 - (e3 + 1)) + 1 by omega, ← nI_1, Int32.add_assoc]; exact Int32.add_zero _) (by decide) rfl (fun ls hl => ?_)
          refine lv_goto (tgt := 60) hx hb dX2_bitsOf_78 (by decide) ?_
          exact ih (e3 + 1) ls (by omega) (⟨by omega, by omega⟩) (lv_sub hl [1, 0, 2, 3] rfl)
        · skip
          have he3 : e3 = 127 := by omega
          refine lv_if_ge (tgt := 81) hx hb dX2_bitsOf_63 (by decide) (fun _ => ?_) (fun c_63 => absurd (cmp_g_ge ((cmp_2 (K := 127) (by omega) (by omega) (by omega) (by omega) hT).2 q3).1) c_63)
          refine lv_fload_n hx hb dX2_bitsOf_81 rfl (lv_at hl 0 rfl) ?_
          refine W_top (y := .float (fb false 127 T)) (by rw [he3]) ?_
          refine lv_ldcf (v := 1258291200) hx hb hown (hts (.constantFloat RX2 213 (1258291200)) (by decide +kernel)) dX2_bitsOf_82 ?_
          refine lv_fmul hx hb dX2_bitsOf_84 (by rw [c23_fb, fb_mul2 (by omega) (by omega) (by omega) (by omega) (by omega) hT]; exact fb_n32 (by omega) hT) ?_
          refine W_top (y := .float (fb false 150 T)) (congrArg Value.float (by rw [c23_fb]; exact fb_mul2 (E := 127) (by omega) (by omega) (by omega) (by omega) (by omega) hT)) ?_
          refine lv_f2i hx hb dX2_bitsOf_85 ?_
          refine W_top (y := .int (nI (8388608 + T))) (congrArg Value.int (fb_f2i hT)) ?_
          refine lv_ldc (v := 8388608) hx hb hown (hts (.constant RX2 214 (8388608)) (by decide +kernel)) dX2_bitsOf_86 ?_
          refine lv_isub hx hb dX2_bitsOf_88 ?_
          refine W_top (y := .int (nI T)) (congrArg Value.int ((nI_sub (a := 8388608 + T) (b := 8388608) (by omega) (by omega)).trans (congrArg nI (by omega)))) ?_
          refine lv_istore (lv' := [(4, .int (nI T)), (2, .float (fb false e3 T)), (3, .int (nI (E + 127 - e3))), (0, .float (fb true E T)), (1, .int (-2147483648))]) hx hb dX2_bitsOf_89 hl (by decide) rfl (fun ls hl => ?_)
          refine lv_iload_n hx hb dX2_bitsOf_91 rfl (lv_at hl 4 rfl) ?_
          refine lv_iload_n hx hb dX2_bitsOf_92 rfl (lv_at hl 2 rfl) ?_
          refine W_top (y := .int (nI E)) (congrArg Value.int (congrArg nI (by omega))) ?_
          refine lv_bipush (v := 23) hx hb dX2_bitsOf_93 (by decide) ?_
          refine lv_ishl hx hb dX2_bitsOf_95 ?_
          refine lv_ior hx hb dX2_bitsOf_96 ?_
          refine lv_iload hx hb dX2_bitsOf_97 (lv_at hl 0 rfl) ?_
          refine lv_ior hx hb dX2_bitsOf_99 ?_
          refine W_top (y := .int ((fb true E T).toInt32)) (congrArg Value.int (fb_bits (s := true) (by omega) hT)) ?_
          exact W.iret (v := (fb true E T).toInt32) hx hb hr (fun t ht _ => ⟨_, rfl, rfl, ht⟩) (fun q hq => absurd hq List.not_mem_nil) dX2_bitsOf_100
      · skip
        refine lv_if_lt (tgt := 60) hx hb dX2_bitsOf_40 (by decide) (fun c_40 => absurd c_40 (cmp_l_ge ((cmp_2 (K := 128) (by omega) (by omega) (by omega) (by omega) hT).2 q2).1 ((cmp_2 (K := 128) (by omega) (by omega) (by omega) (by omega) hT).2 q2).2)) (fun _ => ?_)
        refine lv_iload_n hx hb dX2_bitsOf_43 rfl (lv_at hl 1 rfl) ?_
        refine lv_sipush (v := 254) hx hb dX2_bitsOf_44 (by decide) ?_
        refine lv_icmp_ge (tgt := 60) hx hb dX2_bitsOf_47 (by decide) (fun c_47 => absurd c_47 (fun q => by have q3 := (nI_leI (a := 254) (b := E + 127 - e2) (by omega) (by omega)).mp q; omega)) (fun _ => ?_)
        refine lv_fload_n hx hb dX2_bitsOf_50 rfl (lv_at hl 0 rfl) ?_
        refine lv_fconst2 hx hb dX2_bitsOf_51 ?_
        refine lv_fdiv hx hb dX2_bitsOf_52 (by rw [show FP.fdiv (fb false e2 T) FP.fconst2 = fb false (e2 - 1) T from fb_half (by omega) (by omega) hT]; exact fb_n32 (by omega) hT) ?_
        refine W_top (y := .float (fb false (e2 - 1) T)) (congrArg Value.float (fb_half (by omega) (by omega) hT)) ?_
        refine lv_fstore_n (lv' := [(2, .float (fb false (e2 - 1) T)), (3, .int (nI (E + 127 - e2))), (0, .float (fb true E T)), (1, .int (-2147483648))]) hx hb dX2_bitsOf_53 rfl hl (by decide) rfl (fun ls hl => ?_)
        refine lv_iinc (v := nI (E + 127 - (e2 - 1))) (lv' := [(3, .int (nI (E + 127 - (e2 - 1)))), (2, .float (fb false (e2 - 1) T)), (0, .float (fb true E T)), (1, .int (-2147483648))]) hx hb dX2_bitsOf_54 hl (k := 1) rfl (by rw [show E + 127 - (e2 - 1) = (E + 127 - e2) + 1 by omega]; exact nI_1 _) (by decide) rfl (fun ls hl => ?_)
        refine lv_goto (tgt := 37) hx hb dX2_bitsOf_57 (by decide) ?_
        exact ih (e2 - 1) ls (by omega) (⟨by omega, by omega, by omega⟩) (lv_sub hl [1, 0, 2, 3] rfl)
