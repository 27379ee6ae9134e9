theorem putk {tK tB : ClassId} {h ak ab af : Nat} {ka kb : Nat → Nat} {n p : Nat} {F : Rows} {fl hb : Nat → Option Nat} {k i : Nat} {v : Int32} {e : va_E} (hk : k < n) (hi : i < 8) (he : e = kE (up F i k v) k) : (cG tK tB h ak ab af ka kb n p F fl hb).set (k + 4) (ka k, e) = cG tK tB h ak ab af ka kb n p (up F i k v) fl hb := by rw [he]; exact cG_up hk hi
theorem putE {tK tB : ClassId} {h ak ab af : Nat} {ka kb : Nat → Nat} {n p : Nat} {F : Rows} {k i : Nat} {v : Int32} {e : va_E} (hk : k < n) (hi : i < 5) (he : e = kE (up F i k v) k) : (cW tK tB h ak ab af ka kb n p F).set (k + 4) (ka k, e) = cW tK tB h ak ab af ka kb n p (up F i k v) := by
  rw [putk hk (by omega) he]
  show _ = cG tK tB h ak ab af ka kb n p (up F i k v) (flF (up F i k v) n) (hbF (up F i k v) n)
  rw [flF_up (by omega), hbF_up (by omega)]

set_option maxHeartbeats 4000000 in
set_option maxRecDepth 100000 in
theorem c_X2_countWet (l9 : Launch) (dC : Nat → ClassId) (dI : Nat → Nat → Nat) {tK tB : ClassId} (h ak ab af : Nat) (ka kb : Nat → Nat) (n p : Nat) (F : Rows)  (hn8 : n ≤ 8) : Met l9 yX2_countWet wsX2_countWet ({ frames := 0, cells := 0, slots := 0, locals := 0 }) (va_Pc [.ref h] (PRo dC dI [(tK, .object "Windlane$Kite"), (tB, .object "Windlane$Borrower")] (cW tK tB h ak ab af ka kb n p F))) (vp_Si (fun r9 => r9 = nI (cnt (fun j => decide (0 < F 4 j)) n))) 0 0 (fun _ => False) := by
  refine Met.ofW (cc := cX2_countWet) (maxL := 6) (ret := (some .int)) (by decide) rfl ?_
  intro p9 e9 s m args below meth c s₁ B hml hv
  obtain ⟨rfl, hP, hK, hE⟩ := hv
  have hx := B.exec
  have hb := B.bytes
  have hr := B.returns
  have hts := atoms_spec (ws := wsX2_countWet) B.pre
  have hown : s.vm.findClass RX2 = some m.cls := findClass_of_methodNamed B.named
  have hlocks := B.notSynchronized
  have hP : va_P (dC, dI) vwCl (cW tK tB h ak ab af ka kb n p F) s.heap := hP
  have hi1 : ∀ w ∈ u_ws RX1 TX1 9, w ∈ wsX2_countWet := by decide +kernel
  have hi2 : ∀ w ∈ u_ws RX2 TX2 9, w ∈ wsX2_countWet := by decide +kernel
  have lk11 := hts (.fieldLink RX2 11 "Windlane" "kites" "[LWindlane$Kite;") (by decide +kernel)
  have lk190 := hts (.fieldLink RX2 190 "Windlane$Kite" "wetHours" "I") (by decide +kernel)
  have hl := lv_entry ([.ref h]) (n := 6) (Nat.le_of_ble_eq_true rfl)
  rw [lg_entry_eq]
  generalize (lg_sl ([.ref h]) ++ List.replicate (6 - (lg_sl ([.ref h])).length) Slot.unset).toArray = ls at hl ⊢
  have hl : lv_has ls 6 [(0, .ref h)] := hl
  refine lv_iconst (v := 0) hx hb dX2_countWet_0 (by decide) ?_
  refine lv_istore_n (lv' := [(1, .int 0), (0, .ref h)]) hx hb dX2_countWet_1 rfl hl (by decide) rfl (fun ls hl => ?_)
  refine lv_aload_n hx hb dX2_countWet_2 rfl (lv_at hl 1 rfl) ?_
  refine va_get (D := (dC, dI)) (ci := 2) (v := .ref ak) (C := RX2) (T := TX2) (N := 9) hx hb hts hi2 hown hK hP 0 rfl rfl 0 (by decide) lk11 (fun _ h9 => h9) rfl dX2_countWet_3 ?_
  refine lv_astore_n (lv' := [(2, .ref ak), (1, .int 0), (0, .ref h)]) hx hb dX2_countWet_6 rfl hl (by decide) rfl (fun ls hl => ?_)
  refine lv_aload_n hx hb dX2_countWet_7 rfl (lv_at hl 0 rfl) ?_
  refine va_alen hx hb hK hP 1 0 rfl rfl (v := nI 8) rfl dX2_countWet_8 ?_
  refine lv_istore_n (lv' := [(3, .int (nI 8)), (2, .ref ak), (1, .int 0), (0, .ref h)]) hx hb dX2_countWet_9 rfl hl (by decide) rfl (fun ls hl => ?_)
  refine lv_iconst (v := 0) hx hb dX2_countWet_10 (by decide) ?_
  refine lv_istore (lv' := [(4, .int 0), (3, .int (nI 8)), (2, .ref ak), (1, .int 0), (0, .ref h)]) hx hb dX2_countWet_11 hl (by decide) rfl (fun ls hl => ?_)
  refine W_loopR (nL := 6) (fun i : Nat => [(1, .int (nI (cnt (fun j => decide (j < n) && decide (0 < F 4 j)) i))), (4, .int (nI i)), (0, .ref h), (2, .ref ak), (3, .int (nI 8))]) (fun i => i ≤ 8) (fun i => 8 - i) ?_ 0 (Nat.zero_le _) (lv_sub hl [3, 0, 4, 2, 1] rfl)
  intro i ls hI hl ih
  have hl : lv_has ls 6 [(1, .int (nI (cnt (fun j => decide (j < n) && decide (0 < F 4 j)) i))), (4, .int (nI i)), (0, .ref h), (2, .ref ak), (3, .int (nI 8))] := hl
  refine lv_iload hx hb dX2_countWet_13 (lv_at hl 1 rfl) ?_
  refine lv_iload_n hx hb dX2_countWet_15 rfl (lv_at hl 4 rfl) ?_
  refine lv_icmp_ge (tgt := 47) hx hb dX2_countWet_16 (by decide) (fun c_16 => ?_) (fun c_16 => ?_)
  · skip
    have he : i = 8 := by have q := (nI_leI (a := 8) (b := i) (by omega) (by omega)).mp c_16; omega
    refine lv_iload_n hx hb dX2_countWet_47 rfl (lv_at hl 0 rfl) ?_
    exact W.iret (v := nI (cnt (fun j => decide (j < n) && decide (0 < F 4 j)) i)) hx hb hr (fun t ht _ => ⟨_, rfl, by rw [he]; exact congrArg nI (cnt_cut hn8), ht⟩) (fun q hq => absurd hq List.not_mem_nil) dX2_countWet_48
  · skip
    have hi : i < 8 := Nat.not_le.mp (fun q => c_16 ((nI_leI (a := 8) (b := i) (by omega) (by omega)).mpr q))
    refine lv_aload_n hx hb dX2_countWet_19 rfl (lv_at hl 3 rfl) ?_
    refine lv_iload hx hb dX2_countWet_20 (lv_at hl 1 rfl) ?_
    refine my_aldq hx hb hK hP 1 0 rfl rfl hi (Nat.le_of_ble_eq_true rfl) dX2_countWet_22 ?_
    rcases Nat.lt_or_ge i n with hin | hin
    · skip
      refine W_top (y := .ref (ka i)) (show va_rf (if i < n then some (ka i) else none) = _ by rw [if_pos hin]; rfl) ?_
      refine lv_astore (lv' := [(5, .ref (ka i)), (1, .int (nI (cnt (fun j => decide (j < n) && decide (0 < F 4 j)) i))), (4, .int (nI i)), (0, .ref h), (2, .ref ak), (3, .int (nI 8))]) hx hb dX2_countWet_23 hl (by decide) rfl (fun ls hl => ?_)
      refine lv_aload hx hb dX2_countWet_25 (lv_at hl 0 rfl) ?_
      refine lv_ifnull hx hb dX2_countWet_27 ?_
      refine lv_aload hx hb dX2_countWet_30 (lv_at hl 0 rfl) ?_
      refine va_get (D := (dC, dI)) (ci := 1) (v := .int (F 4 i)) (C := RX1) (T := TX1) (N := 9) hx hb hts hi1 hown hK hP (i + 4) (cG_k hin) rfl 5 (by decide) lk190 (fun _ h9 => h9) rfl dX2_countWet_32 ?_
      refine lv_if_le (tgt := 41) hx hb dX2_countWet_35 (by decide) (fun c_35 => ?_) (fun c_35 => ?_)
      · skip
        refine lv_iinc (v := nI (i + 1)) (lv' := [(4, .int (nI (i + 1))), (5, .ref (ka i)), (1, .int (nI (cnt (fun j => decide (j < n) && decide (0 < F 4 j)) i))), (0, .ref h), (2, .ref ak), (3, .int (nI 8))]) hx hb dX2_countWet_41 hl (k := 2) rfl (nI_1 _) (by decide) rfl (fun ls hl => ?_)
        refine lv_goto (tgt := 13) hx hb dX2_countWet_44 (by decide) ?_
        rw [show cnt (fun j => decide (j < n) && decide (0 < F 4 j)) i = cnt (fun j => decide (j < n) && decide (0 < F 4 j)) (i + 1) from (cnt_f (by have h0 : (0 : Int32).toInt = 0 := (by decide); rw [i32_le] at c_35; simp [i32_lt, hin]; omega)).symm] at hl
        exact ih (i + 1) ls (by omega) (by omega) (lv_sub hl [2, 0, 3, 4, 5] rfl)
      · skip
        rw [i32_le] at c_35
        refine lv_iinc (v := nI (cnt (fun j => decide (j < n) && decide (0 < F 4 j)) (i + 1))) (lv' := [(1, .int (nI (cnt (fun j => decide (j < n) && decide (0 < F 4 j)) (i + 1)))), (5, .ref (ka i)), (4, .int (nI i)), (0, .ref h), (2, .ref ak), (3, .int (nI 8))]) hx hb dX2_countWet_38 hl (k := 1) rfl (by have h0 : (0 : Int32).toInt = 0 := (by decide); rw [cnt_t (by simp [i32_lt, hin]; omega)]; exact nI_1 _) (by decide) rfl (fun ls hl => ?_)
        refine lv_iinc (v := nI (i + 1)) (lv' := [(4, .int (nI (i + 1))), (1, .int (nI (cnt (fun j => decide (j < n) && decide (0 < F 4 j)) (i + 1)))), (5, .ref (ka i)), (0, .ref h), (2, .ref ak), (3, .int (nI 8))]) hx hb dX2_countWet_41 hl (k := 2) rfl (nI_1 _) (by decide) rfl (fun ls hl => ?_)
        refine lv_goto (tgt := 13) hx hb dX2_countWet_44 (by decide) ?_
        exact ih (i + 1) ls (by omega) (by omega) (lv_sub hl [1, 0, 3, 4, 5] rfl)
    · skip
      refine W_top (y := .null) (show va_rf (if i < n then some (ka i) else none) = _ by rw [if_neg (Nat.not_lt.mpr hin)]; rfl) ?_
      refine lv_astoreN (lv' := [(5, .null), (1, .int (nI (cnt (fun j => decide (j < n) && decide (0 < F 4 j)) i))), (4, .int (nI i)), (0, .ref h), (2, .ref ak), (3, .int (nI 8))]) hx hb dX2_countWet_23 hl (by decide) rfl (fun ls hl => ?_)
      refine lv_aloadN hx hb dX2_countWet_25 (lv_at hl 0 rfl) ?_
      refine lv_ifnullN (tgt := 41) hx hb dX2_countWet_27 (by decide) ?_
      refine lv_iinc (v := nI (i + 1)) (lv' := [(4, .int (nI (i + 1))), (5, .null), (1, .int (nI (cnt (fun j => decide (j < n) && decide (0 < F 4 j)) i))), (0, .ref h), (2, .ref ak), (3, .int (nI 8))]) hx hb dX2_countWet_41 hl (k := 2) rfl (nI_1 _) (by decide) rfl (fun ls hl => ?_)
      refine lv_goto (tgt := 13) hx hb dX2_countWet_44 (by decide) ?_
      rw [show cnt (fun j => decide (j < n) && decide (0 < F 4 j)) i = cnt (fun j => decide (j < n) && decide (0 < F 4 j)) (i + 1) from (cnt_f (by simp; intro q; omega)).symm] at hl
      exact ih (i + 1) ls (by omega) (by omega) (lv_sub hl [2, 0, 3, 4, 5] rfl)

set_option maxHeartbeats 4000000 in
set_option maxRecDepth 100000 in
theorem c_X2_clearLane (l9 : Launch) (dC : Nat → ClassId) (dI : Nat → Nat → Nat) (sz : Nat) {tK tB : ClassId} (h ak ab af : Nat) (ka kb : Nat → Nat) (n p : Nat) (F : Rows) (l k : Nat) (hl10 : l < 10) (hlk : lk (F 6) n (nI l) = some k) (hu : uq n (F 6)) : Met l9 yX2_clearLane wsX2_clearLane ({ frames := 2, cells := 0, slots := 0, locals := 42 }) (va_Pc [.ref h, .int (nI l)] (PWr dC dI [(tK, .object "Windlane$Kite"), (tB, .object "Windlane$Borrower")] (cW tK tB h ak ab af ka kb n p F) sz)) (va_Qv (fun _ : Unit => True) (fun _ t => va_P (dC, dI) vwCl (cW tK tB h ak ab af ka kb n p (up F 6 k (-1))) t.heap) (va_A (cW tK tB h ak ab af ka kb n p F) sz)) 0 0 (va_A (cW tK tB h ak ab af ka kb n p F) sz) := by
  refine Met.ofW (cc := cX2_clearLane) (maxL := 3) (ret := none) (by decide) rfl ?_
  intro p9 e9 s m args below meth c s₁ B hml hv
  obtain ⟨rfl, hsz, hP, hK, hD0, hE, hH⟩ := hv
  have hx := B.exec
  have hb := B.bytes
  have hr := B.returns
  have hts := atoms_spec (ws := wsX2_clearLane) B.pre
  have hown : s.vm.findClass RX2 = some m.cls := findClass_of_methodNamed B.named
  have hlocks := B.notSynchronized
  have hi1 : ∀ w ∈ u_ws RX1 TX1 9, w ∈ wsX2_clearLane := by decide +kernel
  have hi2 : ∀ w ∈ u_ws RX2 TX2 9, w ∈ wsX2_clearLane := by decide +kernel
  have lk21 := hts (.fieldLink RX2 21 "Windlane" "flyers" "[LWindlane$Kite;") (by decide +kernel)
  have lk133 := hts (.fieldLink RX2 133 "Windlane$Kite" "lane" "I") (by decide +kernel)
  subst hsz
  have hD := hD0.self (sz := s.heap.size)
  generalize hAe : va_A (cW tK tB h ak ab af ka kb n p F) s.heap.size = A at hD hH ⊢
  have hA : ∀ q : Nat, s.heap.size ≤ q → A q := fun q h => by rw [← hAe]; exact Or.inr h
  have hS : va_S A s.heap s.heap [] := va_S.rf
  have hP : va_P (dC, dI) vwCl (cW tK tB h ak ab af ka kb n p F) s.heap := hP
  have hl := lv_entry ([.ref h, .int (nI l)]) (n := 3) (Nat.le_of_ble_eq_true rfl)
  rw [lg_entry_eq]
  generalize (lg_sl ([.ref h, .int (nI l)]) ++ List.replicate (3 - (lg_sl ([.ref h, .int (nI l)])).length) Slot.unset).toArray = ls at hl ⊢
  have hl : lv_has ls 3 [(0, .ref h), (1, .int (nI l))] := hl
  obtain ⟨hkn, hk6⟩ := lk_some hlk
  refine lv_iload_n hx hb dX2_clearLane_0 rfl (lv_at hl 1 rfl) ?_
  refine vp_callSi (va_Run.run (va_runS (As := [.int (nI l)]) (rest := []) ⟨hx, hb, hml, hown, hts⟩ (c_X2_isLane l9 (nI l)) (va_cwS 1 hts gX2_clearLane_X2_isLane rfl rfl rfl (by decide +kernel) ⟨Nat.le_of_ble_eq_true rfl, Nat.le_of_ble_eq_true rfl⟩) ⟨fun a U g mk q => q, fun U hU hW => ⟨rfl, trivial⟩⟩ rfl rfl hl.1 rfl (lv_room (Nat.le_of_ble_eq_true rfl)) dX2_clearLane_1 ⟨Nat.le_of_ble_eq_true rfl, Nat.le_of_ble_eq_true rfl⟩)) (fun r hr => ?_)
  subst hr
  refine lv_if_eq (tgt := 16) hx hb dX2_clearLane_4 (by decide) (fun c_4 => absurd c_4 (bi_nz.mpr (inR_nI hl10 (by decide)))) (fun _ => ?_)
  refine lv_aload_n hx hb dX2_clearLane_7 rfl (lv_at hl 0 rfl) ?_
  refine va_get (D := (dC, dI)) (ci := 2) (v := .ref af) (C := RX2) (T := TX2) (N := 9) hx hb hts hi2 hown hK hP 0 rfl rfl 4 (by decide) lk21 (fun _ h9 => h9) rfl dX2_clearLane_8 ?_
  refine lv_iload_n hx hb dX2_clearLane_11 rfl (lv_at hl 1 rfl) ?_
  refine my_aldq hx hb hK hP 3 0 rfl rfl hl10 (Nat.le_of_ble_eq_true rfl) dX2_clearLane_12 ?_
  refine W_top (y := .ref (ka k)) (show va_rf ((flF F n l).map ka) = _ by rw [flF_at hl10, hlk]; rfl) ?_
  refine lv_goto (tgt := 17) hx hb dX2_clearLane_13 (by decide) ?_
  refine lv_astore_n (lv' := [(2, .ref (ka k)), (0, .ref h), (1, .int (nI l))]) hx hb dX2_clearLane_17 rfl hl (by decide) rfl (fun ls hl => ?_)
  refine lv_aload_n hx hb dX2_clearLane_18 rfl (lv_at hl 0 rfl) ?_
  refine lv_ifnull hx hb dX2_clearLane_19 ?_
  refine lv_aload_n hx hb dX2_clearLane_22 rfl (lv_at hl 0 rfl) ?_
  refine lv_iconst (v := (-1)) hx hb dX2_clearLane_23 (by decide) ?_
  refine va_put (D := (dC, dI)) (ci := 1) (v := .int (-1)) (ty := .int) (C := RX1) (T := TX1) (N := 9) hx hb hts hi1 tyX1 tyX1_ok nmX1 hown hK hP hD hS (k + 4) (cG_k hkn) rfl 7 (by decide) lk133 (fun _ h9 => h9) rfl (by decide +kernel) rfl rfl (Nat.le_of_ble_eq_true rfl) dX2_clearLane_24 (fun H locs hP hD hS => ?_)
  have hP : va_P (dC, dI) vwCl (cG tK tB h ak ab af ka kb n p (up F 6 k (-1)) (flF F n) (hbF F n)) H := P_eq (putk (i := 6) (v := (-1)) hkn (by decide) (kE_up6 F k _)) hP
  have hD : va_D A (cG tK tB h ak ab af ka kb n p (up F 6 k (-1)) (flF F n) (hbF F n)) := D_eq (putk (i := 6) (v := (-1)) hkn (by decide) (kE_up6 F k _)) hD
  refine lv_aload_n hx hb dX2_clearLane_27 rfl (lv_at hl 1 rfl) ?_
  refine va_get (D := (dC, dI)) (ci := 2) (v := .ref af) (C := RX2) (T := TX2) (N := 9) hx hb hts hi2 hown hK hP 0 rfl rfl 4 (by decide) lk21 (fun _ h9 => h9) rfl dX2_clearLane_28 ?_
  refine lv_iload_n hx hb dX2_clearLane_31 rfl (lv_at hl 2 rfl) ?_
  refine lv_null hx hb dX2_clearLane_32 ?_
  refine my_astqN hx hb hK hP hD hS 3 0 rfl rfl hl10 (Nat.le_of_ble_eq_true rfl) dX2_clearLane_33 (fun H locs hP hD hS => ?_)
  have hP : va_P (dC, dI) vwCl (cW tK tB h ak ab af ka kb n p (up F 6 k (-1))) H := P_eq ((cG_setf (o := none)).trans (cG_flhb (flF_drop hl10 hk6 (uq_lk hu (nI_m1 (by omega)) hlk)) (fun j _ => congrFun (hbF_up (F := F) (n := n) (i := 6) (k := k) (v := -1) (by decide)).symm j))) hP
  have hD : va_D A (cW tK tB h ak ab af ka kb n p (up F 6 k (-1))) := D_eq ((cG_setf (o := none)).trans (cG_flhb (flF_drop hl10 hk6 (uq_lk hu (nI_m1 (by omega)) hlk)) (fun j _ => congrFun (hbF_up (F := F) (n := n) (i := 6) (k := k) (v := -1) (by decide)).symm j))) hD
  exact W.vret hx hb hr (fun t ht hW => ⟨⟨(), rfl, trivial, by show va_P _ _ _ t.heap; rw [ht]; exact hP⟩, hS.F ht⟩) hS.2.2 dX2_clearLane_34

set_option maxHeartbeats 4000000 in
set_option maxRecDepth 100000 in
theorem c_X2_callDown (l9 : Launch) (dC : Nat → ClassId) (dI : Nat → Nat → Nat) (sz : Nat) {tK tB : ClassId} (h ak ab af : Nat) (ka kb : Nat → Nat) (n p : Nat) (F : Rows) (l k : Nat) (hl10 : l < 10) (hlk : lk (F 6) n (nI l) = some k) (hu : uq n (F 6)) : Met l9 yX2_callDown wsX2_callDown ({ frames := 3, cells := 0, slots := 0, locals := 64 }) (va_Pc [.ref h, .int (nI l)] (PWr dC dI [(tK, .object "Windlane$Kite"), (tB, .object "Windlane$Borrower")] (cW tK tB h ak ab af ka kb n p F) sz)) (va_Qv (fun _ : Unit => True) (fun _ t => va_P (dC, dI) vwCl (cW tK tB h ak ab af ka kb n p (dn F k)) t.heap) (va_A (cW tK tB h ak ab af ka kb n p F) sz)) 0 0 (va_A (cW tK tB h ak ab af ka kb n p F) sz) := by
  refine Met.ofW (cc := cX2_callDown) (maxL := 2) (ret := none) (by decide) rfl ?_
  intro p9 e9 s m args below meth c s₁ B hml hv
  obtain ⟨rfl, hsz, hP, hK, hD0, hE, hH⟩ := hv
  have hx := B.exec
  have hb := B.bytes
  have hr := B.returns
  have hts := atoms_spec (ws := wsX2_callDown) B.pre
  have hown : s.vm.findClass RX2 = some m.cls := findClass_of_methodNamed B.named
  have hlocks := B.notSynchronized
  have hi2 : ∀ w ∈ u_ws RX2 TX2 9, w ∈ wsX2_callDown := by decide +kernel
  have lk149 := hts (.fieldLink RX2 149 "Windlane" "calledCount" "I") (by decide +kernel)
  subst hsz
  have hD := hD0.self (sz := s.heap.size)
  generalize hAe : va_A (cW tK tB h ak ab af ka kb n p F) s.heap.size = A at hD hH ⊢
  have hA : ∀ q : Nat, s.heap.size ≤ q → A q := fun q h => by rw [← hAe]; exact Or.inr h
  have hS : va_S A s.heap s.heap [] := va_S.rf
  have hP : va_P (dC, dI) vwCl (cW tK tB h ak ab af ka kb n p F) s.heap := hP
  have hl := lv_entry ([.ref h, .int (nI l)]) (n := 2) (Nat.le_of_ble_eq_true rfl)
  rw [lg_entry_eq]
  generalize (lg_sl ([.ref h, .int (nI l)]) ++ List.replicate (2 - (lg_sl ([.ref h, .int (nI l)])).length) Slot.unset).toArray = ls at hl ⊢
  have hl : lv_has ls 2 [(0, .ref h), (1, .int (nI l))] := hl
  refine lv_aload_n hx hb dX2_callDown_0 rfl (lv_at hl 0 rfl) ?_
  refine lv_iload_n hx hb dX2_callDown_1 rfl (lv_at hl 1 rfl) ?_
  refine va_callv (va_runV (As := [.int (nI l)]) (rest := []) ⟨hx, hb, hml, hown, hts⟩ (c_X2_clearLane l9 dC dI s.heap.size h ak ab af ka kb n p F l k hl10 hlk hu) (cwV 1 hts gX2_callDown_X2_clearLane rfl rfl rfl (by decide +kernel) ⟨Nat.le_of_ble_eq_true rfl, Nat.le_of_ble_eq_true rfl⟩) ⟨PWr.blind, va_recv hK hP (ci := 2) (q0 := 0) rfl rfl, PWr.pre hP hK hD hE ((hH.kept hS.2.1).narrow (A_in hD hS hA))⟩ rfl rfl hl.1 rfl (lv_room (Nat.le_of_ble_eq_true rfl)) dX2_callDown_2 ⟨Nat.le_of_ble_eq_true rfl, Nat.le_of_ble_eq_true rfl⟩) hS (fun q _ hq => A_in hD hS hA q hq) (A_in hD hS hA) (fun u9 t9 H locs ht9 hvm hw9 hB hz1 hk1 hS => ?_)
  have hP : va_P (dC, dI) vwCl (cW tK tB h ak ab af ka kb n p (up F 6 k (-1))) H := by rw [← ht9]; exact hB
  have hD : va_D A (cW tK tB h ak ab af ka kb n p (up F 6 k (-1))) := cG_D hD
  refine lv_aload_n hx hb dX2_callDown_5 rfl (lv_at hl 0 rfl) ?_
  refine lv_dup hx hb dX2_callDown_6 rfl ?_
  refine va_get (D := (dC, dI)) (ci := 2) (v := .int ((up F 6 k (-1)) 9 3)) (C := RX2) (T := TX2) (N := 9) hx hb hts hi2 hown hK hP 0 rfl rfl 8 (by decide) lk149 (fun _ h9 => h9) rfl dX2_callDown_7 ?_
  refine lv_iconst (v := 1) hx hb dX2_callDown_10 (by decide) ?_
  refine lv_iadd hx hb dX2_callDown_11 ?_
  refine va_put (D := (dC, dI)) (ci := 2) (v := .int (((up F 6 k (-1)) 9 3) + 1)) (ty := .int) (C := RX2) (T := TX2) (N := 9) hx hb hts hi2 tyX2 tyX2_ok nmX2 hown hK hP hD hS 0 rfl rfl 8 (by decide) lk149 (fun _ h9 => h9) rfl (by decide +kernel) rfl rfl (Nat.le_of_ble_eq_true rfl) dX2_callDown_12 (fun H locs hP hD hS => ?_)
  have hP : va_P (dC, dI) vwCl (cG tK tB h ak ab af ka kb n p (up (up F 6 k (-1)) 9 3 (((up F 6 k (-1)) 9 3) + 1)) (flF (up F 6 k (-1)) n) (hbF (up F 6 k (-1)) n)) H := P_eq (rfl) hP
  have hD : va_D A (cG tK tB h ak ab af ka kb n p (up (up F 6 k (-1)) 9 3 (((up F 6 k (-1)) 9 3) + 1)) (flF (up F 6 k (-1)) n) (hbF (up F 6 k (-1)) n)) := D_eq (rfl) hD
  have hP : va_P (dC, dI) vwCl (cW tK tB h ak ab af ka kb n p (dn F k)) H := hP
  exact W.vret hx hb hr (fun t ht hW => ⟨⟨(), rfl, trivial, by show va_P _ _ _ t.heap; rw [ht]; exact hP⟩, hS.F ht⟩) hS.2.2 dX2_callDown_15
