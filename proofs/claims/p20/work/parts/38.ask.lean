/-! ===== the questions, rightly asked: the heap stays as it is ===== -/
/-- what 'about' tells -/
def abt (F : Rows) (k : Nat) : Nat → Int32
  | 0 => F 2 k
  | 1 => F 3 k
  | 2 => F 4 k
  | 3 => F 5 k
  | 4 => F 6 k
  | _ => if F 6 k = -1 then -1 else ed F k

set_option maxHeartbeats 4000000 in
set_option maxRecDepth 100000 in
theorem r_X2_kiteAt (l9 : Launch) (dC : Nat → ClassId) (dI : Nat → Nat → Nat) {tK tB : ClassId} (h ak ab af : Nat) (ka kb : Nat → Nat) (n p : Nat) (F : Rows) (k : Nat) (hn8 : n ≤ 8) (hkn : k < n) : Met l9 yX2_kiteAt wsX2_kiteAt ({ frames := 1, cells := 0, slots := 0, locals := 22 }) (va_Pc [.ref h, .int (nI k)] (PRo dC dI [(tK, .object "Windlane$Kite"), (tB, .object "Windlane$Borrower")] (cW tK tB h ak ab af ka kb n p F))) (va_Sq (fun r9 => r9 = some (ka k))) 0 0 (fun _ => False) := by
  refine Met.ofW (cc := cX2_kiteAt) (maxL := 3) (ret := (some (.object "Windlane$Kite"))) (by decide) rfl ?_
  intro p9 e9 s m args below meth c s₁ B hml hv
  obtain ⟨rfl, hP, hK, hE⟩ := hv
  have hx := B.exec
  have hb := B.bytes
  have hr := B.returns
  have hts := atoms_spec (ws := wsX2_kiteAt) B.pre
  have hown : s.vm.findClass RX2 = some m.cls := findClass_of_methodNamed B.named
  have hlocks := B.notSynchronized
  have hP : va_P (dC, dI) vwCl (cW tK tB h ak ab af ka kb n p F) s.heap := hP
  have hi2 : ∀ w ∈ u_ws RX2 TX2 9, w ∈ wsX2_kiteAt := by decide +kernel
  have lk11 := hts (.fieldLink RX2 11 "Windlane" "kites" "[LWindlane$Kite;") (by decide +kernel)
  have hl := lv_entry ([.ref h, .int (nI k)]) (n := 3) (Nat.le_of_ble_eq_true rfl)
  rw [lg_entry_eq]
  generalize (lg_sl ([.ref h, .int (nI k)]) ++ List.replicate (3 - (lg_sl ([.ref h, .int (nI k)])).length) Slot.unset).toArray = ls at hl ⊢
  have hl : lv_has ls 3 [(0, .ref h), (1, .int (nI k))] := hl
  have hk8 : k < 8 := by omega
  refine lv_iload_n hx hb dX2_kiteAt_0 rfl (lv_at hl 1 rfl) ?_
  refine lv_iconst (v := 0) hx hb dX2_kiteAt_1 (by decide) ?_
  refine lv_bipush (v := 7) hx hb dX2_kiteAt_2 (by decide) ?_
  refine vp_callSi (va_Run.run (va_runS (As := [.int (nI k), .int 0, .int 7]) (rest := []) ⟨hx, hb, hml, hown, hts⟩ (c_X2_isWithin l9 (nI k) 0 7) (va_cwS 3 hts gX2_kiteAt_X2_isWithin rfl rfl rfl (by decide +kernel) ⟨Nat.le_of_ble_eq_true rfl, Nat.le_of_ble_eq_true rfl⟩) ⟨fun a U g mk q => q, fun U hU hW => ⟨rfl, trivial⟩⟩ rfl rfl hl.1 rfl (lv_room (Nat.le_of_ble_eq_true rfl)) dX2_kiteAt_4 ⟨Nat.le_of_ble_eq_true rfl, Nat.le_of_ble_eq_true rfl⟩)) (fun r hr => ?_)
  subst hr
  refine lv_if_eq (tgt := 19) hx hb dX2_kiteAt_7 (by decide) (fun c_7 => absurd c_7 (bi_nz.mpr ((inR_lit (n := 8) (by decide) _).mpr (inR_nI hk8 (by decide))))) (fun _ => ?_)
  refine lv_aload_n hx hb dX2_kiteAt_10 rfl (lv_at hl 0 rfl) ?_
  refine va_get (D := (dC, dI)) (ci := 2) (v := .ref ak) (C := RX2) (T := TX2) (N := 9) hx hb hts hi2 hown hK hP 0 rfl rfl 0 (by decide) lk11 (fun _ h9 => h9) rfl dX2_kiteAt_11 ?_
  refine lv_iload_n hx hb dX2_kiteAt_14 rfl (lv_at hl 1 rfl) ?_
  refine my_aldq hx hb hK hP 1 0 rfl rfl hk8 (Nat.le_of_ble_eq_true rfl) dX2_kiteAt_15 ?_
  refine W_top (y := .ref (ka k)) (show va_rf (if k < n then some (ka k) else none) = _ by rw [if_pos hkn]; rfl) ?_
  refine lv_goto (tgt := 20) hx hb dX2_kiteAt_16 (by decide) ?_
  refine lv_astore_n (lv' := [(2, .ref (ka k)), (0, .ref h), (1, .int (nI k))]) hx hb dX2_kiteAt_20 rfl hl (by decide) rfl (fun ls hl => ?_)
  refine lv_aload_n hx hb dX2_kiteAt_21 rfl (lv_at hl 0 rfl) ?_
  refine lv_ifnonnull (tgt := 35) hx hb dX2_kiteAt_22 (by decide) ?_
  refine lv_aload_n hx hb dX2_kiteAt_35 rfl (lv_at hl 0 rfl) ?_
  exact W.aret (v := .ref (ka k)) hx hb hr (Or.inl ⟨_, rfl⟩) (Or.inr ⟨_, rfl⟩) (fun t ht _ => ⟨some (ka k), rfl, rfl, ht⟩) (fun z hz => absurd hz List.not_mem_nil) dX2_kiteAt_36

set_option maxHeartbeats 4000000 in
set_option maxRecDepth 100000 in
theorem r_X2_about (l9 : Launch) (dC : Nat → ClassId) (dI : Nat → Nat → Nat) {tK tB : ClassId} (h ak ab af : Nat) (ka kb : Nat → Nat) (n p : Nat) (F : Rows) (k v : Nat) (hI : Inv n p F) (hkn : k < n) (hv : v < 6) : Met l9 yX2_about wsX2_about ({ frames := 4, cells := 0, slots := 0, locals := 90 }) (va_Pc [.ref h, .int (nI k), .int (nI v)] (PRo dC dI [(tK, .object "Windlane$Kite"), (tB, .object "Windlane$Borrower")] (cW tK tB h ak ab af ka kb n p F))) (vp_Si (fun r9 => r9 = abt F k v)) 0 0 (fun _ => False) := by
  refine Met.ofW (cc := cX2_about) (maxL := 4) (ret := (some .int)) (by decide) rfl ?_
  intro p9 e9 s m args below meth c s₁ B hml hv
  obtain ⟨rfl, hP, hK, hE⟩ := hv
  have hx := B.exec
  have hb := B.bytes
  have hr := B.returns
  have hts := atoms_spec (ws := wsX2_about) B.pre
  have hown : s.vm.findClass RX2 = some m.cls := findClass_of_methodNamed B.named
  have hlocks := B.notSynchronized
  have hP : va_P (dC, dI) vwCl (cW tK tB h ak ab af ka kb n p F) s.heap := hP
  have hn8 : n ≤ 8 := hI.1.1
  have hp8 : p ≤ 8 := hI.1.2
  have hi1 : ∀ w ∈ u_ws RX1 TX1 9, w ∈ wsX2_about := by decide +kernel
  have hi2 : ∀ w ∈ u_ws RX2 TX2 9, w ∈ wsX2_about := by decide +kernel
  have lk51 := hts (.fieldLink RX2 51 "Windlane$Kite" "isTorn" "Z") (by decide +kernel)
  have lk57 := hts (.fieldLink RX2 57 "Windlane$Kite" "weight" "I") (by decide +kernel)
  have lk86 := hts (.fieldLink RX2 86 "Windlane$Kite" "borrower" "I") (by decide +kernel)
  have lk112 := hts (.fieldLink RX2 112 "Windlane" "windSpeed" "I") (by decide +kernel)
  have lk120 := hts (.fieldLink RX2 120 "Windlane" "windSide" "I") (by decide +kernel)
  have lk133 := hts (.fieldLink RX2 133 "Windlane$Kite" "lane" "I") (by decide +kernel)
  have lk190 := hts (.fieldLink RX2 190 "Windlane$Kite" "wetHours" "I") (by decide +kernel)
  have hl := lv_entry ([.ref h, .int (nI k), .int (nI v)]) (n := 4) (Nat.le_of_ble_eq_true rfl)
  rw [lg_entry_eq]
  generalize (lg_sl ([.ref h, .int (nI k), .int (nI v)]) ++ List.replicate (4 - (lg_sl ([.ref h, .int (nI k), .int (nI v)])).length) Slot.unset).toArray = ls at hl ⊢
  have hl : lv_has ls 4 [(0, .ref h), (1, .int (nI k)), (2, .int (nI v))] := hl
  refine lv_aload_n hx hb dX2_about_0 rfl (lv_at hl 0 rfl) ?_
  refine lv_iload_n hx hb dX2_about_1 rfl (lv_at hl 1 rfl) ?_
  refine va_csq (va_Run.run (va_runV (As := [.int (nI k)]) (rest := []) ⟨hx, hb, hml, hown, hts⟩ (r_X2_kiteAt l9 dC dI h ak ab af ka kb n p F k hn8 hkn) (cwV 1 hts gX2_about_X2_kiteAt rfl rfl rfl (by decide +kernel) ⟨Nat.le_of_ble_eq_true rfl, Nat.le_of_ble_eq_true rfl⟩) ⟨PRo.blind, va_recv hK hP (ci := 2) (q0 := 0) rfl rfl, PRo.pre hP hK hE⟩ rfl rfl hl.1 rfl (lv_room (Nat.le_of_ble_eq_true rfl)) dX2_about_2 ⟨Nat.le_of_ble_eq_true rfl, Nat.le_of_ble_eq_true rfl⟩)) (fun r hr => ?_)
  subst hr
  refine W_top (y := .ref (ka k)) (show va_rf (some (ka k)) = _ from rfl) ?_
  refine lv_astore_n (lv' := [(3, .ref (ka k)), (0, .ref h), (1, .int (nI k)), (2, .int (nI v))]) hx hb dX2_about_5 rfl hl (by decide) rfl (fun ls hl => ?_)
  refine lv_iload_n hx hb dX2_about_6 rfl (lv_at hl 3 rfl) ?_
  obtain rfl | rfl | rfl | rfl | rfl | rfl : v = 0 ∨ v = 1 ∨ v = 2 ∨ v = 3 ∨ v = 4 ∨ v = 5 := by omega
  · skip
    refine lv_tableIn (off := 37) (tgt := 44) hx hb dX2_about_7 (by decide) (by decide) (by decide) (by decide) ?_
    refine lv_aload_n hx hb dX2_about_44 rfl (lv_at hl 0 rfl) ?_
    refine va_get (D := (dC, dI)) (ci := 1) (v := .int (F 2 k)) (C := RX1) (T := TX1) (N := 9) hx hb hts hi1 hown hK hP (k + 4) (cG_k hkn) rfl 3 (by decide) lk57 (fun _ h9 => h9) rfl dX2_about_45 ?_
    exact W.iret (v := F 2 k) hx hb hr (fun t ht _ => ⟨_, rfl, rfl, ht⟩) (fun q hq => absurd hq List.not_mem_nil) dX2_about_48
  · skip
    refine lv_tableIn (off := 42) (tgt := 49) hx hb dX2_about_7 (by decide) (by decide) (by decide) (by decide) ?_
    refine lv_aload_n hx hb dX2_about_49 rfl (lv_at hl 0 rfl) ?_
    refine va_get (D := (dC, dI)) (ci := 1) (v := .int (F 3 k)) (C := RX1) (T := TX1) (N := 9) hx hb hts hi1 hown hK hP (k + 4) (cG_k hkn) rfl 4 (by decide) lk51 (fun _ h9 => h9) rfl dX2_about_50 ?_
    refine lv_if_eq (tgt := 60) hx hb dX2_about_53 (by decide) (fun c_53 => ?_) (fun c_53 => ?_)
    · skip
      refine lv_iconst (v := 0) hx hb dX2_about_60 (by decide) ?_
      exact W.iret (v := 0) hx hb hr (fun t ht _ => ⟨_, rfl, (c_53 : F 3 k = 0).symm, ht⟩) (fun q hq => absurd hq List.not_mem_nil) dX2_about_61
    · skip
      refine lv_iconst (v := 1) hx hb dX2_about_56 (by decide) ?_
      refine lv_goto (tgt := 61) hx hb dX2_about_57 (by decide) ?_
      exact W.iret (v := 1) hx hb hr (fun t ht _ => ⟨_, rfl, ((hI.2.1 k hkn).2.2.2.1.resolve_left c_53).symm, ht⟩) (fun q hq => absurd hq List.not_mem_nil) dX2_about_61
  · skip
    refine lv_tableIn (off := 55) (tgt := 62) hx hb dX2_about_7 (by decide) (by decide) (by decide) (by decide) ?_
    refine lv_aload_n hx hb dX2_about_62 rfl (lv_at hl 0 rfl) ?_
    refine va_get (D := (dC, dI)) (ci := 1) (v := .int (F 4 k)) (C := RX1) (T := TX1) (N := 9) hx hb hts hi1 hown hK hP (k + 4) (cG_k hkn) rfl 5 (by decide) lk190 (fun _ h9 => h9) rfl dX2_about_63 ?_
    exact W.iret (v := F 4 k) hx hb hr (fun t ht _ => ⟨_, rfl, rfl, ht⟩) (fun q hq => absurd hq List.not_mem_nil) dX2_about_66
  · skip
    refine lv_tableIn (off := 60) (tgt := 67) hx hb dX2_about_7 (by decide) (by decide) (by decide) (by decide) ?_
    refine lv_aload_n hx hb dX2_about_67 rfl (lv_at hl 0 rfl) ?_
    refine va_get (D := (dC, dI)) (ci := 1) (v := .int (F 5 k)) (C := RX1) (T := TX1) (N := 9) hx hb hts hi1 hown hK hP (k + 4) (cG_k hkn) rfl 6 (by decide) lk86 (fun _ h9 => h9) rfl dX2_about_68 ?_
    exact W.iret (v := F 5 k) hx hb hr (fun t ht _ => ⟨_, rfl, rfl, ht⟩) (fun q hq => absurd hq List.not_mem_nil) dX2_about_71
  · skip
    refine lv_tableIn (off := 65) (tgt := 72) hx hb dX2_about_7 (by decide) (by decide) (by decide) (by decide) ?_
    refine lv_aload_n hx hb dX2_about_72 rfl (lv_at hl 0 rfl) ?_
    refine va_get (D := (dC, dI)) (ci := 1) (v := .int (F 6 k)) (C := RX1) (T := TX1) (N := 9) hx hb hts hi1 hown hK hP (k + 4) (cG_k hkn) rfl 7 (by decide) lk133 (fun _ h9 => h9) rfl dX2_about_73 ?_
    exact W.iret (v := F 6 k) hx hb hr (fun t ht _ => ⟨_, rfl, rfl, ht⟩) (fun q hq => absurd hq List.not_mem_nil) dX2_about_76
  · skip
    refine lv_tableIn (off := 70) (tgt := 77) hx hb dX2_about_7 (by decide) (by decide) (by decide) (by decide) ?_
    refine lv_aload_n hx hb dX2_about_77 rfl (lv_at hl 0 rfl) ?_
    have hq1 := one_P hP (cG_k hkn)
    refine vp_callSi (va_Run.run (va_runV (As := []) (rest := []) ⟨hx, hb, hml, hown, hts⟩ (c_X1_isFlying l9 dC dI (ka k) k F) (cwV 0 hts gX2_about_X1_isFlying rfl rfl rfl (by decide +kernel) ⟨Nat.le_of_ble_eq_true rfl, Nat.le_of_ble_eq_true rfl⟩) ⟨PRo.blind, va_recv (hK.sub (tys' := []) [] rfl) hq1 (ci := 1) (q0 := 0) rfl rfl, PRo.pre hq1 (hK.sub (tys' := []) [] rfl) hE⟩ rfl rfl hl.1 rfl (lv_room (Nat.le_of_ble_eq_true rfl)) dX2_about_78 ⟨Nat.le_of_ble_eq_true rfl, Nat.le_of_ble_eq_true rfl⟩)) (fun r hr => ?_)
    subst hr
    refine lv_if_eq (tgt := 99) hx hb dX2_about_81 (by decide) (fun c_81 => ?_) (fun c_81 => ?_)
    · skip
      have c_81 := bi_z.mp c_81
      refine lv_iconst (v := (-1)) hx hb dX2_about_99 (by decide) ?_
      exact W.iret (v := (-1)) hx hb hr (fun t ht _ => ⟨_, rfl, (if_pos (Decidable.not_not.mp c_81) : (if F 6 k = -1 then (-1 : Int32) else ed F k) = -1).symm, ht⟩) (fun q hq => absurd hq List.not_mem_nil) dX2_about_100
    · skip
      have c_81 := bi_nz.mp c_81
      refine lv_aload_n hx hb dX2_about_84 rfl (lv_at hl 0 rfl) ?_
      refine lv_aload_n hx hb dX2_about_85 rfl (lv_at hl 1 rfl) ?_
      refine va_get (D := (dC, dI)) (ci := 2) (v := .int (F 9 0)) (C := RX2) (T := TX2) (N := 9) hx hb hts hi2 hown hK hP 0 rfl rfl 5 (by decide) lk112 (fun _ h9 => h9) rfl dX2_about_86 ?_
      refine lv_aload_n hx hb dX2_about_89 rfl (lv_at hl 1 rfl) ?_
      refine va_get (D := (dC, dI)) (ci := 2) (v := .int (F 9 1)) (C := RX2) (T := TX2) (N := 9) hx hb hts hi2 hown hK hP 0 rfl rfl 6 (by decide) lk120 (fun _ h9 => h9) rfl dX2_about_90 ?_
      have hq1 := one_P hP (cG_k hkn)
      refine vp_callSi (va_Run.run (va_runV (As := [.int (F 9 0), .int (F 9 1)]) (rest := []) ⟨hx, hb, hml, hown, hts⟩ (c_X1_endIn l9 dC dI (ka k) k F (F 9 0) (F 9 1) (hI.kd k hkn) (st_ok (hI.fl k hkn c_81))) (cwV 2 hts gX2_about_X1_endIn rfl rfl rfl (by decide +kernel) ⟨Nat.le_of_ble_eq_true rfl, Nat.le_of_ble_eq_true rfl⟩) ⟨PRo.blind, va_recv (hK.sub (tys' := []) [] rfl) hq1 (ci := 1) (q0 := 0) rfl rfl, PRo.pre hq1 (hK.sub (tys' := []) [] rfl) hE⟩ rfl rfl hl.1 rfl (lv_room (Nat.le_of_ble_eq_true rfl)) dX2_about_93 ⟨Nat.le_of_ble_eq_true rfl, Nat.le_of_ble_eq_true rfl⟩)) (fun r hr => ?_)
      subst hr
      refine W_top (y := .int (ed F k)) (rfl) ?_
      refine lv_goto (tgt := 100) hx hb dX2_about_96 (by decide) ?_
      exact W.iret (v := ed F k) hx hb hr (fun t ht _ => ⟨_, rfl, (if_neg c_81 : (if F 6 k = -1 then (-1 : Int32) else ed F k) = ed F k).symm, ht⟩) (fun q hq => absurd hq List.not_mem_nil) dX2_about_100

set_option maxHeartbeats 4000000 in
set_option maxRecDepth 100000 in
theorem r_X2_pull (l9 : Launch) (dC : Nat → ClassId) (dI : Nat → Nat → Nat) {tK tB : ClassId} (h ak ab af : Nat) (ka kb : Nat → Nat) (n p : Nat) (F : Rows) (k : Nat) (sp : Int32) (hI : Inv n p F) (hkn : k < n) (hs : 0 ≤ sp ∧ sp ≤ 30) : Met l9 yX2_pull wsX2_pull ({ frames := 2, cells := 0, slots := 0, locals := 44 }) (va_Pc [.ref h, .int (nI k), .int sp] (PRo dC dI [(tK, .object "Windlane$Kite"), (tB, .object "Windlane$Borrower")] (cW tK tB h ak ab af ka kb n p F))) (vp_Si (fun r9 => r9 = pl F k sp)) 0 0 (fun _ => False) := by
  refine Met.ofW (cc := cX2_pull) (maxL := 4) (ret := (some .int)) (by decide) rfl ?_
  intro p9 e9 s m args below meth c s₁ B hml hv
  obtain ⟨rfl, hP, hK, hE⟩ := hv
  have hx := B.exec
  have hb := B.bytes
  have hr := B.returns
  have hts := atoms_spec (ws := wsX2_pull) B.pre
  have hown : s.vm.findClass RX2 = some m.cls := findClass_of_methodNamed B.named
  have hlocks := B.notSynchronized
  have hP : va_P (dC, dI) vwCl (cW tK tB h ak ab af ka kb n p F) s.heap := hP
  have hn8 : n ≤ 8 := hI.1.1
  have hp8 : p ≤ 8 := hI.1.2
  have hl := lv_entry ([.ref h, .int (nI k), .int sp]) (n := 4) (Nat.le_of_ble_eq_true rfl)
  rw [lg_entry_eq]
  generalize (lg_sl ([.ref h, .int (nI k), .int sp]) ++ List.replicate (4 - (lg_sl ([.ref h, .int (nI k), .int sp])).length) Slot.unset).toArray = ls at hl ⊢
  have hl : lv_has ls 4 [(0, .ref h), (1, .int (nI k)), (2, .int sp)] := hl
  refine lv_aload_n hx hb dX2_pull_0 rfl (lv_at hl 0 rfl) ?_
  refine lv_iload_n hx hb dX2_pull_1 rfl (lv_at hl 1 rfl) ?_
  refine va_csq (va_Run.run (va_runV (As := [.int (nI k)]) (rest := []) ⟨hx, hb, hml, hown, hts⟩ (r_X2_kiteAt l9 dC dI h ak ab af ka kb n p F k hn8 hkn) (cwV 1 hts gX2_pull_X2_kiteAt rfl rfl rfl (by decide +kernel) ⟨Nat.le_of_ble_eq_true rfl, Nat.le_of_ble_eq_true rfl⟩) ⟨PRo.blind, va_recv hK hP (ci := 2) (q0 := 0) rfl rfl, PRo.pre hP hK hE⟩ rfl rfl hl.1 rfl (lv_room (Nat.le_of_ble_eq_true rfl)) dX2_pull_2 ⟨Nat.le_of_ble_eq_true rfl, Nat.le_of_ble_eq_true rfl⟩)) (fun r hr => ?_)
  subst hr
  refine W_top (y := .ref (ka k)) (show va_rf (some (ka k)) = _ from rfl) ?_
  refine lv_astore_n (lv' := [(3, .ref (ka k)), (0, .ref h), (1, .int (nI k)), (2, .int sp)]) hx hb dX2_pull_5 rfl hl (by decide) rfl (fun ls hl => ?_)
  refine lv_iload_n hx hb dX2_pull_6 rfl (lv_at hl 3 rfl) ?_
  refine vp_callSi (va_Run.run (va_runS (As := [.int sp]) (rest := []) ⟨hx, hb, hml, hown, hts⟩ (c_X2_isSpeed l9 sp) (va_cwS 1 hts gX2_pull_X2_isSpeed rfl rfl rfl (by decide +kernel) ⟨Nat.le_of_ble_eq_true rfl, Nat.le_of_ble_eq_true rfl⟩) ⟨fun a U g mk q => q, fun U hU hW => ⟨rfl, trivial⟩⟩ rfl rfl hl.1 rfl (lv_room (Nat.le_of_ble_eq_true rfl)) dX2_pull_7 ⟨Nat.le_of_ble_eq_true rfl, Nat.le_of_ble_eq_true rfl⟩)) (fun r hr => ?_)
  subst hr
  refine lv_if_ne (tgt := 23) hx hb dX2_pull_10 (by decide) (fun _ => ?_) (fun c_10 => absurd c_10 (bi_nz.mpr hs))
  refine lv_aload_n hx hb dX2_pull_23 rfl (lv_at hl 0 rfl) ?_
  refine lv_iload_n hx hb dX2_pull_24 rfl (lv_at hl 3 rfl) ?_
  have hq1 := one_P hP (cG_k hkn)
  refine vp_callSi (va_Run.run (va_runV (As := [.int sp]) (rest := []) ⟨hx, hb, hml, hown, hts⟩ (c_X1_pullIn l9 dC dI (ka k) k F sp (hI.kd k hkn)) (cwV 1 hts gX2_pull_X1_pullIn rfl rfl rfl (by decide +kernel) ⟨Nat.le_of_ble_eq_true rfl, Nat.le_of_ble_eq_true rfl⟩) ⟨PRo.blind, va_recv (hK.sub (tys' := []) [] rfl) hq1 (ci := 1) (q0 := 0) rfl rfl, PRo.pre hq1 (hK.sub (tys' := []) [] rfl) hE⟩ rfl rfl hl.1 rfl (lv_room (Nat.le_of_ble_eq_true rfl)) dX2_pull_25 ⟨Nat.le_of_ble_eq_true rfl, Nat.le_of_ble_eq_true rfl⟩)) (fun r hr => ?_)
  subst hr
  exact W.iret (v := pl F k sp) hx hb hr (fun t ht _ => ⟨_, rfl, rfl, ht⟩) (fun q hq => absurd hq List.not_mem_nil) dX2_pull_28

set_option maxHeartbeats 4000000 in
set_option maxRecDepth 100000 in
theorem r_X2_pullAnew (l9 : Launch) (dC : Nat → ClassId) (dI : Nat → Nat → Nat) {tK tB : ClassId} (h ak ab af : Nat) (ka kb : Nat → Nat) (n p : Nat) (F : Rows) (k : Nat) (sp : Int32) (hI : Inv n p F) (hkn : k < n) (hs : 0 ≤ sp ∧ sp ≤ 30) : Met l9 yX2_pullAnew wsX2_pullAnew ({ frames := 2, cells := 0, slots := 0, locals := 44 }) (va_Pc [.ref h, .int (nI k), .int sp] (PRo dC dI [(tK, .object "Windlane$Kite"), (tB, .object "Windlane$Borrower")] (cW tK tB h ak ab af ka kb n p F))) (vp_Si (fun r9 => r9 = pl F k sp)) 0 0 (fun _ => False) := by
  refine Met.ofW (cc := cX2_pullAnew) (maxL := 4) (ret := (some .int)) (by decide) rfl ?_
  intro p9 e9 s m args below meth c s₁ B hml hv
  obtain ⟨rfl, hP, hK, hE⟩ := hv
  have hx := B.exec
  have hb := B.bytes
  have hr := B.returns
  have hts := atoms_spec (ws := wsX2_pullAnew) B.pre
  have hown : s.vm.findClass RX2 = some m.cls := findClass_of_methodNamed B.named
  have hlocks := B.notSynchronized
  have hP : va_P (dC, dI) vwCl (cW tK tB h ak ab af ka kb n p F) s.heap := hP
  have hn8 : n ≤ 8 := hI.1.1
  have hp8 : p ≤ 8 := hI.1.2
  have hl := lv_entry ([.ref h, .int (nI k), .int sp]) (n := 4) (Nat.le_of_ble_eq_true rfl)
  rw [lg_entry_eq]
  generalize (lg_sl ([.ref h, .int (nI k), .int sp]) ++ List.replicate (4 - (lg_sl ([.ref h, .int (nI k), .int sp])).length) Slot.unset).toArray = ls at hl ⊢
  have hl : lv_has ls 4 [(0, .ref h), (1, .int (nI k)), (2, .int sp)] := hl
  refine lv_aload_n hx hb dX2_pullAnew_0 rfl (lv_at hl 0 rfl) ?_
  refine lv_iload_n hx hb dX2_pullAnew_1 rfl (lv_at hl 1 rfl) ?_
  refine va_csq (va_Run.run (va_runV (As := [.int (nI k)]) (rest := []) ⟨hx, hb, hml, hown, hts⟩ (r_X2_kiteAt l9 dC dI h ak ab af ka kb n p F k hn8 hkn) (cwV 1 hts gX2_pullAnew_X2_kiteAt rfl rfl rfl (by decide +kernel) ⟨Nat.le_of_ble_eq_true rfl, Nat.le_of_ble_eq_true rfl⟩) ⟨PRo.blind, va_recv hK hP (ci := 2) (q0 := 0) rfl rfl, PRo.pre hP hK hE⟩ rfl rfl hl.1 rfl (lv_room (Nat.le_of_ble_eq_true rfl)) dX2_pullAnew_2 ⟨Nat.le_of_ble_eq_true rfl, Nat.le_of_ble_eq_true rfl⟩)) (fun r hr => ?_)
  subst hr
  refine W_top (y := .ref (ka k)) (show va_rf (some (ka k)) = _ from rfl) ?_
  refine lv_astore_n (lv' := [(3, .ref (ka k)), (0, .ref h), (1, .int (nI k)), (2, .int sp)]) hx hb dX2_pullAnew_5 rfl hl (by decide) rfl (fun ls hl => ?_)
  refine lv_iload_n hx hb dX2_pullAnew_6 rfl (lv_at hl 3 rfl) ?_
  refine vp_callSi (va_Run.run (va_runS (As := [.int sp]) (rest := []) ⟨hx, hb, hml, hown, hts⟩ (c_X2_isSpeed l9 sp) (va_cwS 1 hts gX2_pullAnew_X2_isSpeed rfl rfl rfl (by decide +kernel) ⟨Nat.le_of_ble_eq_true rfl, Nat.le_of_ble_eq_true rfl⟩) ⟨fun a U g mk q => q, fun U hU hW => ⟨rfl, trivial⟩⟩ rfl rfl hl.1 rfl (lv_room (Nat.le_of_ble_eq_true rfl)) dX2_pullAnew_7 ⟨Nat.le_of_ble_eq_true rfl, Nat.le_of_ble_eq_true rfl⟩)) (fun r hr => ?_)
  subst hr
  refine lv_if_ne (tgt := 23) hx hb dX2_pullAnew_10 (by decide) (fun _ => ?_) (fun c_10 => absurd c_10 (bi_nz.mpr hs))
  obtain ⟨m0, hm0, rfl⟩ : ∃ m0, m0 < 31 ∧ sp = nI m0 := inR_of (win_inR hs (by decide) (by decide))
  have hl : lv_has ls 4 [(3, .ref (ka k)), (0, .ref h), (1, .int (nI k)), (2, .int (nI m0))] := hl
  refine lv_aload_n hx hb dX2_pullAnew_23 rfl (lv_at hl 0 rfl) ?_
  refine lv_iload_n hx hb dX2_pullAnew_24 rfl (lv_at hl 3 rfl) ?_
  have hq1 := one_P hP (cG_k hkn)
  refine vp_callSi (va_Run.run (va_runV (As := [.int (nI m0)]) (rest := []) ⟨hx, hb, hml, hown, hts⟩ (c_X1_pullByStepsTo l9 dC dI (ka k) k F m0 (hI.kd k hkn) (by omega)) (cwV 1 hts gX2_pullAnew_X1_pullByStepsTo rfl rfl rfl (by decide +kernel) ⟨Nat.le_of_ble_eq_true rfl, Nat.le_of_ble_eq_true rfl⟩) ⟨PRo.blind, va_recv (hK.sub (tys' := []) [] rfl) hq1 (ci := 1) (q0 := 0) rfl rfl, PRo.pre hq1 (hK.sub (tys' := []) [] rfl) hE⟩ rfl rfl hl.1 rfl (lv_room (Nat.le_of_ble_eq_true rfl)) dX2_pullAnew_25 ⟨Nat.le_of_ble_eq_true rfl, Nat.le_of_ble_eq_true rfl⟩)) (fun r hr => ?_)
  subst hr
  exact W.iret (v := pl F k (nI m0)) hx hb hr (fun t ht _ => ⟨_, rfl, rfl, ht⟩) (fun q hq => absurd hq List.not_mem_nil) dX2_pullAnew_28

set_option maxHeartbeats 4000000 in
set_option maxRecDepth 100000 in
theorem r_X2_lane (l9 : Launch) (dC : Nat → ClassId) (dI : Nat → Nat → Nat) {tK tB : ClassId} (h ak ab af : Nat) (ka kb : Nat → Nat) (n p : Nat) (F : Rows) (l : Nat) (hI : Inv n p F) (hl10 : l < 10) : Met l9 yX2_lane wsX2_lane ({ frames := 2, cells := 0, slots := 0, locals := 42 }) (va_Pc [.ref h, .int (nI l)] (PRo dC dI [(tK, .object "Windlane$Kite"), (tB, .object "Windlane$Borrower")] (cW tK tB h ak ab af ka kb n p F))) (vp_Si (fun r9 => r9 = oI (lk (F 6) n (nI l)))) 0 0 (fun _ => False) := by
  refine Met.ofW (cc := cX2_lane) (maxL := 3) (ret := (some .int)) (by decide) rfl ?_
  intro p9 e9 s m args below meth c s₁ B hml hv
  obtain ⟨rfl, hP, hK, hE⟩ := hv
  have hx := B.exec
  have hb := B.bytes
  have hr := B.returns
  have hts := atoms_spec (ws := wsX2_lane) B.pre
  have hown : s.vm.findClass RX2 = some m.cls := findClass_of_methodNamed B.named
  have hlocks := B.notSynchronized
  have hP : va_P (dC, dI) vwCl (cW tK tB h ak ab af ka kb n p F) s.heap := hP
  have hn8 : n ≤ 8 := hI.1.1
  have hp8 : p ≤ 8 := hI.1.2
  have hi1 : ∀ w ∈ u_ws RX1 TX1 9, w ∈ wsX2_lane := by decide +kernel
  have hi2 : ∀ w ∈ u_ws RX2 TX2 9, w ∈ wsX2_lane := by decide +kernel
  have lk21 := hts (.fieldLink RX2 21 "Windlane" "flyers" "[LWindlane$Kite;") (by decide +kernel)
  have lk98 := hts (.fieldLink RX2 98 "Windlane$Kite" "number" "I") (by decide +kernel)
  have hl := lv_entry ([.ref h, .int (nI l)]) (n := 3) (Nat.le_of_ble_eq_true rfl)
  rw [lg_entry_eq]
  generalize (lg_sl ([.ref h, .int (nI l)]) ++ List.replicate (3 - (lg_sl ([.ref h, .int (nI l)])).length) Slot.unset).toArray = ls at hl ⊢
  have hl : lv_has ls 3 [(0, .ref h), (1, .int (nI l))] := hl
  refine lv_iload_n hx hb dX2_lane_0 rfl (lv_at hl 1 rfl) ?_
  refine vp_callSi (va_Run.run (va_runS (As := [.int (nI l)]) (rest := []) ⟨hx, hb, hml, hown, hts⟩ (c_X2_isLane l9 (nI l)) (va_cwS 1 hts gX2_lane_X2_isLane rfl rfl rfl (by decide +kernel) ⟨Nat.le_of_ble_eq_true rfl, Nat.le_of_ble_eq_true rfl⟩) ⟨fun a U g mk q => q, fun U hU hW => ⟨rfl, trivial⟩⟩ rfl rfl hl.1 rfl (lv_room (Nat.le_of_ble_eq_true rfl)) dX2_lane_1 ⟨Nat.le_of_ble_eq_true rfl, Nat.le_of_ble_eq_true rfl⟩)) (fun r hr => ?_)
  subst hr
  refine lv_if_ne (tgt := 17) hx hb dX2_lane_4 (by decide) (fun _ => ?_) (fun c_4 => absurd c_4 (bi_nz.mpr (inR_nI hl10 (by decide))))
  refine lv_aload_n hx hb dX2_lane_17 rfl (lv_at hl 0 rfl) ?_
  refine va_get (D := (dC, dI)) (ci := 2) (v := .ref af) (C := RX2) (T := TX2) (N := 9) hx hb hts hi2 hown hK hP 0 rfl rfl 4 (by decide) lk21 (fun _ h9 => h9) rfl dX2_lane_18 ?_
  refine lv_iload_n hx hb dX2_lane_21 rfl (lv_at hl 1 rfl) ?_
  refine my_aldq hx hb hK hP 3 0 rfl rfl hl10 (Nat.le_of_ble_eq_true rfl) dX2_lane_22 ?_
  rcases hlk : lk (F 6) n (nI l) with _ | k
  · skip
    refine W_top (y := .null) (show va_rf ((flF F n l).map ka) = _ by rw [flF_at hl10, hlk]; rfl) ?_
    refine lv_astore_nN (lv' := [(2, .null), (0, .ref h), (1, .int (nI l))]) hx hb dX2_lane_23 rfl hl (by decide) rfl (fun ls hl => ?_)
    refine lv_aload_nN hx hb dX2_lane_24 rfl (lv_at hl 0 rfl) ?_
    refine lv_ifnonnullN hx hb dX2_lane_25 ?_
    refine lv_iconst (v := (-1)) hx hb dX2_lane_28 (by decide) ?_
    refine lv_goto (tgt := 36) hx hb dX2_lane_29 (by decide) ?_
    exact W.iret (v := (-1)) hx hb hr (fun t ht _ => ⟨_, rfl, rfl, ht⟩) (fun q hq => absurd hq List.not_mem_nil) dX2_lane_36
  · skip
    refine W_top (y := .ref (ka k)) (show va_rf ((flF F n l).map ka) = _ by rw [flF_at hl10, hlk]; rfl) ?_
    have hlkn : k < n := (lk_some hlk).1
    refine lv_astore_n (lv' := [(2, .ref (ka k)), (0, .ref h), (1, .int (nI l))]) hx hb dX2_lane_23 rfl hl (by decide) rfl (fun ls hl => ?_)
    refine lv_aload_n hx hb dX2_lane_24 rfl (lv_at hl 0 rfl) ?_
    refine lv_ifnonnull (tgt := 32) hx hb dX2_lane_25 (by decide) ?_
    refine lv_aload_n hx hb dX2_lane_32 rfl (lv_at hl 0 rfl) ?_
    refine va_get (D := (dC, dI)) (ci := 1) (v := .int (nI k)) (C := RX1) (T := TX1) (N := 9) hx hb hts hi1 hown hK hP (k + 4) (cG_k hlkn) rfl 0 (by decide) lk98 (fun _ h9 => h9) rfl dX2_lane_33 ?_
    exact W.iret (v := nI k) hx hb hr (fun t ht _ => ⟨_, rfl, rfl, ht⟩) (fun q hq => absurd hq List.not_mem_nil) dX2_lane_36

set_option maxHeartbeats 4000000 in
set_option maxRecDepth 100000 in
theorem r_X2_window (l9 : Launch) (dC : Nat → ClassId) (dI : Nat → Nat → Nat) {tK tB : ClassId} (h ak ab af : Nat) (ka kb : Nat → Nat) (n p : Nat) (F : Rows) (k : Nat) (g0 : Int32) (hI : Inv n p F) (hkn : k < n) : Met l9 yX2_window wsX2_window ({ frames := 3, cells := 0, slots := 0, locals := 63 }) (va_Pc [.ref h, .int (nI k), .int g0] (PRo dC dI [(tK, .object "Windlane$Kite"), (tB, .object "Windlane$Borrower")] (cW tK tB h ak ab af ka kb n p F))) (vp_Si (fun r9 => r9 = wd F k g0 31)) 0 0 (fun _ => False) := by
  refine Met.ofW (cc := cX2_window) (maxL := 6) (ret := (some .int)) (by decide) rfl ?_
  intro p9 e9 s m args below meth c s₁ B hml hv
  obtain ⟨rfl, hP, hK, hE⟩ := hv
  have hx := B.exec
  have hb := B.bytes
  have hr := B.returns
  have hts := atoms_spec (ws := wsX2_window) B.pre
  have hown : s.vm.findClass RX2 = some m.cls := findClass_of_methodNamed B.named
  have hlocks := B.notSynchronized
  have hP : va_P (dC, dI) vwCl (cW tK tB h ak ab af ka kb n p F) s.heap := hP
  have hn8 : n ≤ 8 := hI.1.1
  have hp8 : p ≤ 8 := hI.1.2
  have hl := lv_entry ([.ref h, .int (nI k), .int g0]) (n := 6) (Nat.le_of_ble_eq_true rfl)
  rw [lg_entry_eq]
  generalize (lg_sl ([.ref h, .int (nI k), .int g0]) ++ List.replicate (6 - (lg_sl ([.ref h, .int (nI k), .int g0])).length) Slot.unset).toArray = ls at hl ⊢
  have hl : lv_has ls 6 [(0, .ref h), (1, .int (nI k)), (2, .int g0)] := hl
  refine lv_aload_n hx hb dX2_window_0 rfl (lv_at hl 0 rfl) ?_
  refine lv_iload_n hx hb dX2_window_1 rfl (lv_at hl 1 rfl) ?_
  refine va_csq (va_Run.run (va_runV (As := [.int (nI k)]) (rest := []) ⟨hx, hb, hml, hown, hts⟩ (r_X2_kiteAt l9 dC dI h ak ab af ka kb n p F k hn8 hkn) (cwV 1 hts gX2_window_X2_kiteAt rfl rfl rfl (by decide +kernel) ⟨Nat.le_of_ble_eq_true rfl, Nat.le_of_ble_eq_true rfl⟩) ⟨PRo.blind, va_recv hK hP (ci := 2) (q0 := 0) rfl rfl, PRo.pre hP hK hE⟩ rfl rfl hl.1 rfl (lv_room (Nat.le_of_ble_eq_true rfl)) dX2_window_2 ⟨Nat.le_of_ble_eq_true rfl, Nat.le_of_ble_eq_true rfl⟩)) (fun r hr => ?_)
  subst hr
  refine W_top (y := .ref (ka k)) (show va_rf (some (ka k)) = _ from rfl) ?_
  refine lv_astore_n (lv' := [(3, .ref (ka k)), (0, .ref h), (1, .int (nI k)), (2, .int g0)]) hx hb dX2_window_5 rfl hl (by decide) rfl (fun ls hl => ?_)
  refine lv_iconst (v := 0) hx hb dX2_window_6 (by decide) ?_
  refine lv_istore (lv' := [(4, .int 0), (3, .ref (ka k)), (0, .ref h), (1, .int (nI k)), (2, .int g0)]) hx hb dX2_window_7 hl (by decide) rfl (fun ls hl => ?_)
  refine W_loopR (nL := 6) (fun i : Nat => [(4, .int (nI i)), (0, .ref h), (1, .int (nI k)), (2, .int g0), (3, .ref (ka k))]) (fun i => i ≤ 31 ∧ (g0 = 0 → wd F k 0 i = -1) ∧ (¬ g0 = 0 → wd F k g0 (31 - i) = wd F k g0 31)) (fun i => 31 - i) ?_ 0 (⟨Nat.zero_le _, fun _ => rfl, fun _ => rfl⟩) (lv_sub hl [0, 2, 3, 4, 1] rfl)
  intro i ls hI9 hl ih
  have hl : lv_has ls 6 [(4, .int (nI i)), (0, .ref h), (1, .int (nI k)), (2, .int g0), (3, .ref (ka k))] := hl
  obtain ⟨hi31, hg0, hg1⟩ := hI9
  refine lv_iload hx hb dX2_window_9 (lv_at hl 0 rfl) ?_
  refine lv_bipush (v := 30) hx hb dX2_window_11 (by decide) ?_
  refine lv_icmp_gt (tgt := 50) hx hb dX2_window_13 (by decide) (fun c_13 => ?_) (fun c_13 => ?_)
  · skip
    have he : i = 31 := by have q := (nI_ltI (a := 30) (b := i) (by omega) (by omega)).mp c_13; omega
    subst he
    refine lv_iconst (v := (-1)) hx hb dX2_window_50 (by decide) ?_
    exact W.iret (v := (-1)) hx hb hr (fun t ht _ => ⟨_, rfl, ((Decidable.em (g0 = 0)).elim (fun q => by subst q; exact hg0 rfl) (fun q => (hg1 q).symm) : wd F k g0 31 = -1).symm, ht⟩) (fun q hq => absurd hq List.not_mem_nil) dX2_window_51
  · skip
    have hlt9 : i < 31 := Nat.not_le.mp (fun q => c_13 ((nI_ltI (a := 30) (b := i) (by omega) (by omega)).mpr (by omega)))
    refine lv_iload_n hx hb dX2_window_16 rfl (lv_at hl 3 rfl) ?_
    refine W_join (pc := 30) (rest := []) (fun v => v = nI (if g0 = 0 then i else 30 - i)) (fun v hv => ?_) (fun K => ?_)
    · subst hv
      refine lv_istore (lv' := [(5, .int (nI (if g0 = 0 then i else 30 - i))), (4, .int (nI i)), (0, .ref h), (1, .int (nI k)), (2, .int g0), (3, .ref (ka k))]) hx hb dX2_window_30 hl (by decide) rfl (fun ls hl => ?_)
      refine lv_aload_n hx hb dX2_window_32 rfl (lv_at hl 5 rfl) ?_
      refine lv_iload hx hb dX2_window_33 (lv_at hl 0 rfl) ?_
      have hq1 := one_P hP (cG_k hkn)
      refine vp_callSi (va_Run.run (va_runV (As := [.int (nI (if g0 = 0 then i else 30 - i))]) (rest := []) ⟨hx, hb, hml, hown, hts⟩ (c_X1_holdsIn l9 dC dI (ka k) k F (nI (if g0 = 0 then i else 30 - i)) (hI.kd k hkn)) (cwV 1 hts gX2_window_X1_holdsIn rfl rfl rfl (by decide +kernel) ⟨Nat.le_of_ble_eq_true rfl, Nat.le_of_ble_eq_true rfl⟩) ⟨PRo.blind, va_recv (hK.sub (tys' := []) [] rfl) hq1 (ci := 1) (q0 := 0) rfl rfl, PRo.pre hq1 (hK.sub (tys' := []) [] rfl) hE⟩ rfl rfl hl.1 rfl (lv_room (Nat.le_of_ble_eq_true rfl)) dX2_window_35 ⟨Nat.le_of_ble_eq_true rfl, Nat.le_of_ble_eq_true rfl⟩)) (fun r hr => ?_)
      subst hr
      refine lv_if_eq (tgt := 44) hx hb dX2_window_38 (by decide) (fun c_38 => ?_) (fun c_38 => ?_)
      · skip
        have c_38 := bi_z.mp c_38
        refine lv_iinc (v := nI (i + 1)) (lv' := [(4, .int (nI (i + 1))), (5, .int (nI (if g0 = 0 then i else 30 - i))), (0, .ref h), (1, .int (nI k)), (2, .int g0), (3, .ref (ka k))]) hx hb dX2_window_44 hl (k := 1) rfl (nI_1 _) (by decide) rfl (fun ls hl => ?_)
        refine lv_goto (tgt := 9) hx hb dX2_window_47 (by decide) ?_
        have hn1 : g0 = 0 → wd F k 0 (i + 1) = -1 := fun q => by rw [wd_skip (by rw [← show (if g0 = 0 then i else 30 - i) = i from if_pos q]; exact c_38), hg0 q]
        have hn2 : ¬ g0 = 0 → wd F k g0 (31 - (i + 1)) = wd F k g0 31 := fun q => by rw [← hg1 q, show 31 - i = (31 - (i + 1)) + 1 by omega, wd_skip (by rw [show 31 - (i + 1) = 30 - i by omega, ← show (if g0 = 0 then i else 30 - i) = 30 - i from if_neg q]; exact c_38)]
        exact ih (i + 1) ls (by omega) (⟨by omega, hn1, hn2⟩) (lv_sub hl [0, 2, 3, 4, 5] rfl)
      · skip
        have c_38 := bi_nz.mp c_38
        refine lv_iload hx hb dX2_window_41 (lv_at hl 0 rfl) ?_
        exact W.iret (v := nI (if g0 = 0 then i else 30 - i)) hx hb hr (fun t ht _ => ⟨_, rfl, ((Decidable.em (g0 = 0)).elim (fun q => by subst q; rw [if_pos rfl] at c_38 ⊢; exact wd_up c_38 hlt9 (hg0 rfl) hlt9) (fun q => by rw [if_neg q] at c_38 ⊢; rw [← hg1 q, show 31 - i = (30 - i) + 1 by omega]; exact wd_down q c_38) : wd F k g0 31 = nI (if g0 = 0 then i else 30 - i)).symm, ht⟩) (fun q hq => absurd hq List.not_mem_nil) dX2_window_43
    · skip
      refine lv_if_eq (tgt := 28) hx hb dX2_window_17 (by decide) (fun c_17 => ?_) (fun c_17 => ?_)
      · skip
        refine lv_iload hx hb dX2_window_28 (lv_at hl 0 rfl) ?_
        exact K _ (by rw [if_pos c_17])
      · skip
        refine lv_bipush (v := 30) hx hb dX2_window_20 (by decide) ?_
        refine lv_iload hx hb dX2_window_22 (lv_at hl 0 rfl) ?_
        refine lv_isub hx hb dX2_window_24 ?_
        refine lv_goto (tgt := 30) hx hb dX2_window_25 (by decide) ?_
        exact K _ (by rw [if_neg c_17]; exact nI_sub (a := 30) (b := i) (by omega) (by omega))
