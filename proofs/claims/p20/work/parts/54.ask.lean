/-! ===== the law's own world: the object's cells, then its rows ===== -/
theorem ap_at {α : Type} {w1 w2 : List α} {i : Nat} {x : α} (h : w2[i]? = some x) : (w1 ++ w2)[w1.length + i]? = some x := by
  rw [List.getElem?_append_right (by omega), Nat.add_sub_cancel_left]; exact h
theorem ap_set {α : Type} (w1 w2 : List α) (i : Nat) (x : α) : (w1 ++ w2).set (w1.length + i) x = w1 ++ w2.set i x := by
  rw [List.set_append_right _ _ (by omega), Nat.add_sub_cancel_left]
section WC
variable {p : Program} {l : Launch} {e : Env} {R : Room} {s : State} {m : MethodId} {args : Array Value} {below : List Frame} {meth : Method} {c : Code} {H : Heap} {locs : List Loc} {cells slots : Nat} {Q : State → Prop}
theorem W_cut {pc0 pc nL : Nat} {lv : List (Nat × Value)} {ls0 : Array Slot} {st0 : List Value} (k : ∀ ls : Array Slot, lv_has ls nL lv → W p l e R s m args below meth c H locs cells slots Q (F0 m pc ls []))
    (h : (∀ ls : Array Slot, lv_has ls nL lv → W p l e R s m args below meth c H locs cells slots Q (F0 m pc ls [])) → W p l e R s m args below meth c H locs cells slots Q (F0 m pc0 ls0 st0)) : W p l e R s m args below meth c H locs cells slots Q (F0 m pc0 ls0 st0) := h k
end WC
theorem tn_step {F : Rows} {i : Nat} (h : F 3 i = 0 ∨ F 3 i = 1) : nI (cnt (fun j => decide (¬ F 3 j = 0)) i) + F 3 i = nI (cnt (fun j => decide (¬ F 3 j = 0)) (i + 1)) := by
  rcases h with h | h
  · rw [h, Int32.add_zero, cnt_f (by simp [h])]
  · rw [h, nI_1, cnt_t (by simp [h])]
theorem fl_t {F : Rows} {i : Nat} (h : ¬ F 6 i = -1) : nI (cnt (fun j => decide (¬ F 6 j = -1)) i) + 1 = nI (cnt (fun j => decide (¬ F 6 j = -1)) (i + 1)) := by
  rw [nI_1, cnt_t (by simp [h])]
theorem fl_f {F : Rows} {i : Nat} (h : F 6 i = -1) : nI (cnt (fun j => decide (¬ F 6 j = -1)) i) + 0 = nI (cnt (fun j => decide (¬ F 6 j = -1)) (i + 1)) := by
  rw [Int32.add_zero, cnt_f (by simp [h])]
theorem sp_n {m : Nat} (h : m ≤ 30) : 0 ≤ nI m ∧ nI m ≤ 30 := ⟨(nI_leI (a := 0) (b := m) (by omega) (by omega)).mpr (Nat.zero_le m), (nI_leI (a := m) (b := 30) (by omega) (by omega)).mpr h⟩
theorem pm_none {F : Rows} {i : Nat} (h : F 5 i = -1) : nI (pm F i) ||| 0 = nI (pm F (i + 1)) := by
  rw [pm, if_pos h, Int32.or_zero]
theorem pm_some {n p : Nat} {F : Rows} (hI : Inv n p F) {i j : Nat} (hi : i < n) (hj : j < 8) (h : F 5 i = nI j) : nI (pm F i) ||| (1 <<< (nI j &&& 31)) = nI (pm F (i + 1)) := by
  have h1 := pm_lt hI (i := i) (by omega)
  have h2 : (2 : Nat) ^ j < 2 ^ 8 := Nat.pow_lt_pow_right (by decide) hj
  have e : (1 : Int32) <<< (nI j &&& 31) = nI (2 ^ j) := by
    obtain rfl | rfl | rfl | rfl | rfl | rfl | rfl | rfl : j = 0 ∨ j = 1 ∨ j = 2 ∨ j = 3 ∨ j = 4 ∨ j = 5 ∨ j = 6 ∨ j = 7 := by omega
    all_goals decide
  rw [pm, if_neg (by rw [h]; exact nI_m1 (by omega)), h, nI_clamp (by omega), e, nI_or (by omega) (by omega)]
theorem pm_sh {n p : Nat} {F : Rows} (hI : Inv n p F) {i j : Nat} (hi : i < n) (hj : j < 8) (h : F 5 i = nI j) : (nI (pm F i) >>> (nI j &&& 31)) &&& 1 = 0 := by
  have h1 := pm_lt hI (i := i) (by omega)
  have h0 := pm_free hI hi h hj
  have e : nI (pm F i) >>> (nI j &&& 31) = nI (pm F i / 2 ^ j) := by
    refine pk_shrN (by omega) _ j ?_
    obtain rfl | rfl | rfl | rfl | rfl | rfl | rfl | rfl : j = 0 ∨ j = 1 ∨ j = 2 ∨ j = 3 ∨ j = 4 ∨ j = 5 ∨ j = 6 ∨ j = 7 := by omega
    all_goals decide
  have h3 : pm F i / 2 ^ j ≤ pm F i := Nat.div_le_self _ _
  rw [e, pk_andN (by omega) 1 (by decide)]
  show nI (pm F i / 2 ^ j % 2 ^ 1) = 0
  rw [show (2 : Nat) ^ 1 = 2 from rfl, h0]; rfl

set_option maxHeartbeats 4000000 in
set_option maxRecDepth 100000 in
theorem c_L_kiteOf (l9 : Launch) (dC : Nat → ClassId) (dI : Nat → Nat → Nat) {tK tB cI : ClassId} (h ak ab af : Nat) (ka kb : Nat → Nat) (n p : Nat) (F : Rows) (ad : Nat) (df : Nat → Int32) (j : Nat) (hI : Inv n p F) (hd0 : df 0 = nI n) (hj8 : j < 8) : Met l9 yL_kiteOf wsL_kiteOf ({ frames := 5, cells := 0, slots := 0, locals := 113 }) (va_Pc [.ref h, .ref ad, .int (nI j)] (PRo dC dI [(tK, .object "Windlane$Kite"), (tB, .object "Windlane$Borrower"), (cI, .int)] (cW tK tB h ak ab af ka kb n p F ++ [(ad, .inl (cI, 4, .inl df))]))) (vp_Si (fun r9 => r9 = oI (lk (F 5) n (nI j)))) 0 0 (fun _ => False) := by
  refine Met.ofW (cc := cL_kiteOf) (maxL := 4) (ret := (some .int)) (by decide) rfl ?_
  intro p9 e9 s m args below meth c s₁ B hml hv
  obtain ⟨rfl, hP, hK, hE⟩ := hv
  have hx := B.exec
  have hb := B.bytes
  have hr := B.returns
  have hts := atoms_spec (ws := wsL_kiteOf) B.pre
  have hown : s.vm.findClass RL = some m.cls := findClass_of_methodNamed B.named
  have hlocks := B.notSynchronized
  have hP : va_P (dC, dI) vwCl (cW tK tB h ak ab af ka kb n p F ++ [(ad, .inl (cI, 4, .inl df))]) s.heap := hP
  have hK2 := hK.sub (tys' := [(tK, .object "Windlane$Kite"), (tB, .object "Windlane$Borrower")]) [0, 1] rfl
  have hn8 : n ≤ 8 := hI.1.1
  have hp8 : p ≤ 8 := hI.1.2
  have hl := lv_entry ([.ref h, .ref ad, .int (nI j)]) (n := 4) (Nat.le_of_ble_eq_true rfl)
  rw [lg_entry_eq]
  generalize (lg_sl ([.ref h, .ref ad, .int (nI j)]) ++ List.replicate (4 - (lg_sl ([.ref h, .ref ad, .int (nI j)])).length) Slot.unset).toArray = ls at hl ⊢
  have hl : lv_has ls 4 [(0, .ref h), (1, .ref ad), (2, .int (nI j))] := hl
  refine lv_iconst (v := 0) hx hb dL_kiteOf_0 (by decide) ?_
  refine lv_istore_n (lv' := [(3, .int 0), (0, .ref h), (1, .ref ad), (2, .int (nI j))]) hx hb dL_kiteOf_1 rfl hl (by decide) rfl (fun ls hl => ?_)
  refine W_loopR (nL := 4) (fun i : Nat => [(3, .int (nI i)), (0, .ref h), (1, .ref ad), (2, .int (nI j))]) (fun i => i ≤ n ∧ ∀ q, q < i → ¬ F 5 q = nI j) (fun i => n - i) ?_ 0 (⟨Nat.zero_le _, fun q h => absurd h (Nat.not_lt_zero q)⟩) (lv_sub hl [0, 1, 2, 3] rfl)
  intro i ls hJ hl ih
  have hl : lv_has ls 4 [(3, .int (nI i)), (0, .ref h), (1, .ref ad), (2, .int (nI j))] := hl
  obtain ⟨hi, hno⟩ := hJ
  refine lv_iload_n hx hb dL_kiteOf_2 rfl (lv_at hl 0 rfl) ?_
  refine lv_aload_n hx hb dL_kiteOf_3 rfl (lv_at hl 2 rfl) ?_
  refine lv_iconst (v := 0) hx hb dL_kiteOf_4 (by decide) ?_
  refine W_top (y := .int (nI 0)) (rfl) ?_
  refine my_iald hx hb hK hP _ 2 (ap_at (w1 := cW tK tB h ak ab af ka kb n p F) (i := 0) rfl) rfl (k := 0) (by decide) (by decide) dL_kiteOf_5 ?_
  refine W_top (y := .int (nI n)) (congrArg Value.int (hd0)) ?_
  refine lv_icmp_ge (tgt := 27) hx hb dL_kiteOf_6 (by decide) (fun c_6 => ?_) (fun c_6 => ?_)
  · skip
    have he : i = n := by have q := (nI_leI (a := n) (b := i) (by omega) (by omega)).mp c_6; omega
    subst he
    refine lv_iconst (v := (-1)) hx hb dL_kiteOf_27 (by decide) ?_
    exact W.iret (v := (-1)) hx hb hr (fun t ht _ => ⟨_, rfl, (congrArg oI (lk_none.mpr hno)).symm, ht⟩) (fun q hq => absurd hq List.not_mem_nil) dL_kiteOf_28
  · skip
    have hin : i < n := Nat.not_le.mp (fun q => c_6 ((nI_leI (a := n) (b := i) (by omega) (by omega)).mpr q))
    refine lv_aload_n hx hb dL_kiteOf_9 rfl (lv_at hl 1 rfl) ?_
    refine lv_iload_n hx hb dL_kiteOf_10 rfl (lv_at hl 0 rfl) ?_
    refine lv_iconst (v := 3) hx hb dL_kiteOf_11 (by decide) ?_
    refine W_top (y := .int (nI 3)) (rfl) ?_
    refine vp_callSi (va_Run.run (va_runV (As := [.int (nI i), .int (nI 3)]) (rest := []) ⟨hx, hb, hml, hown, hts⟩ (r_X2_about l9 dC dI h ak ab af ka kb n p F i 3 hI hin (by decide)) (cwV 2 hts gL_kiteOf_X2_about rfl rfl rfl (by decide +kernel) ⟨Nat.le_of_ble_eq_true rfl, Nat.le_of_ble_eq_true rfl⟩) ⟨PRo.blind, va_recv hK2 (P_left hP) (ci := 2) (q0 := 0) rfl rfl, PRo.pre (P_left hP) hK2 hE⟩ rfl rfl hl.1 rfl (lv_room (Nat.le_of_ble_eq_true rfl)) dL_kiteOf_12 ⟨Nat.le_of_ble_eq_true rfl, Nat.le_of_ble_eq_true rfl⟩)) (fun r hr => ?_)
    subst hr
    refine W_top (y := .int (F 5 i)) (rfl) ?_
    refine lv_iload_n hx hb dL_kiteOf_15 rfl (lv_at hl 3 rfl) ?_
    refine lv_icmp_ne (tgt := 21) hx hb dL_kiteOf_16 (by decide) (fun c_16 => ?_) (fun c_16 => ?_)
    · skip
      refine lv_iinc (v := nI (i + 1)) (lv' := [(3, .int (nI (i + 1))), (0, .ref h), (1, .ref ad), (2, .int (nI j))]) hx hb dL_kiteOf_21 hl (k := 0) rfl (nI_1 _) (by decide) rfl (fun ls hl => ?_)
      refine lv_goto (tgt := 2) hx hb dL_kiteOf_24 (by decide) ?_
      have hnx : ∀ q, q < i + 1 → ¬ F 5 q = nI j := by
        intro q h1 h2
        rcases Nat.lt_or_ge q i with z | z
        · exact hno q z h2
        · have e9 : q = i := by omega
          subst e9
          exact c_16 h2
      exact ih (i + 1) ls (by omega) (⟨by omega, hnx⟩) (lv_sub hl [0, 1, 2, 3] rfl)
    · skip
      refine lv_iload_n hx hb dL_kiteOf_19 rfl (lv_at hl 0 rfl) ?_
      exact W.iret (v := nI i) hx hb hr (fun t ht _ => ⟨_, rfl, (congrArg oI (lk_uniq hin c_16 (fun q h1 h2 => hI.2.2.2.1.1 q i h1 hin (h2.trans c_16.symm) (by rw [h2]; exact nI_m1 (by omega))))).symm, ht⟩) (fun q hq => absurd hq List.not_mem_nil) dL_kiteOf_20

set_option maxHeartbeats 4000000 in
set_option maxRecDepth 100000 in
theorem c_L_flying (l9 : Launch) (dC : Nat → ClassId) (dI : Nat → Nat → Nat) {tK tB cI : ClassId} (h ak ab af : Nat) (ka kb : Nat → Nat) (n p : Nat) (F : Rows) (ad : Nat) (df : Nat → Int32)  (hI : Inv n p F) (hd0 : df 0 = nI n) : Met l9 yL_flying wsL_flying ({ frames := 5, cells := 0, slots := 0, locals := 113 }) (va_Pc [.ref h, .ref ad] (PRo dC dI [(tK, .object "Windlane$Kite"), (tB, .object "Windlane$Borrower"), (cI, .int)] (cW tK tB h ak ab af ka kb n p F ++ [(ad, .inl (cI, 4, .inl df))]))) (vp_Si (fun r9 => r9 = nI (fc F n))) 0 0 (fun _ => False) := by
  refine Met.ofW (cc := cL_flying) (maxL := 4) (ret := (some .int)) (by decide) rfl ?_
  intro p9 e9 s m args below meth c s₁ B hml hv
  obtain ⟨rfl, hP, hK, hE⟩ := hv
  have hx := B.exec
  have hb := B.bytes
  have hr := B.returns
  have hts := atoms_spec (ws := wsL_flying) B.pre
  have hown : s.vm.findClass RL = some m.cls := findClass_of_methodNamed B.named
  have hlocks := B.notSynchronized
  have hP : va_P (dC, dI) vwCl (cW tK tB h ak ab af ka kb n p F ++ [(ad, .inl (cI, 4, .inl df))]) s.heap := hP
  have hK2 := hK.sub (tys' := [(tK, .object "Windlane$Kite"), (tB, .object "Windlane$Borrower")]) [0, 1] rfl
  have hn8 : n ≤ 8 := hI.1.1
  have hp8 : p ≤ 8 := hI.1.2
  have hl := lv_entry ([.ref h, .ref ad]) (n := 4) (Nat.le_of_ble_eq_true rfl)
  rw [lg_entry_eq]
  generalize (lg_sl ([.ref h, .ref ad]) ++ List.replicate (4 - (lg_sl ([.ref h, .ref ad])).length) Slot.unset).toArray = ls at hl ⊢
  have hl : lv_has ls 4 [(0, .ref h), (1, .ref ad)] := hl
  refine lv_iconst (v := 0) hx hb dL_flying_0 (by decide) ?_
  refine lv_istore_n (lv' := [(2, .int 0), (0, .ref h), (1, .ref ad)]) hx hb dL_flying_1 rfl hl (by decide) rfl (fun ls hl => ?_)
  refine lv_iconst (v := 0) hx hb dL_flying_2 (by decide) ?_
  refine lv_istore_n (lv' := [(3, .int 0), (2, .int 0), (0, .ref h), (1, .ref ad)]) hx hb dL_flying_3 rfl hl (by decide) rfl (fun ls hl => ?_)
  refine W_loopR (nL := 4) (fun i : Nat => [(2, .int (nI (cnt (fun j => decide (¬ F 6 j = -1)) i))), (3, .int (nI i)), (0, .ref h), (1, .ref ad)]) (fun i => i ≤ n) (fun i => n - i) ?_ 0 (Nat.zero_le _) (lv_sub hl [1, 0, 2, 3] rfl)
  intro i ls hJ hl ih
  have hl : lv_has ls 4 [(2, .int (nI (cnt (fun j => decide (¬ F 6 j = -1)) i))), (3, .int (nI i)), (0, .ref h), (1, .ref ad)] := hl
  refine lv_iload_n hx hb dL_flying_4 rfl (lv_at hl 1 rfl) ?_
  refine lv_aload_n hx hb dL_flying_5 rfl (lv_at hl 3 rfl) ?_
  refine lv_iconst (v := 0) hx hb dL_flying_6 (by decide) ?_
  refine W_top (y := .int (nI 0)) (rfl) ?_
  refine my_iald hx hb hK hP _ 2 (ap_at (w1 := cW tK tB h ak ab af ka kb n p F) (i := 0) rfl) rfl (k := 0) (by decide) (by decide) dL_flying_7 ?_
  refine W_top (y := .int (nI n)) (congrArg Value.int (hd0)) ?_
  refine lv_icmp_ge (tgt := 35) hx hb dL_flying_8 (by decide) (fun c_8 => ?_) (fun c_8 => ?_)
  · skip
    have he : i = n := by have q := (nI_leI (a := n) (b := i) (by omega) (by omega)).mp c_8; omega
    subst he
    refine lv_iload_n hx hb dL_flying_35 rfl (lv_at hl 0 rfl) ?_
    exact W.iret (v := nI (cnt (fun j => decide (¬ F 6 j = -1)) i)) hx hb hr (fun t ht _ => ⟨_, rfl, rfl, ht⟩) (fun q hq => absurd hq List.not_mem_nil) dL_flying_36
  · skip
    have hin : i < n := Nat.not_le.mp (fun q => c_8 ((nI_leI (a := n) (b := i) (by omega) (by omega)).mpr q))
    refine lv_iload_n hx hb dL_flying_11 rfl (lv_at hl 0 rfl) ?_
    refine lv_aload_n hx hb dL_flying_12 rfl (lv_at hl 2 rfl) ?_
    refine lv_iload_n hx hb dL_flying_13 rfl (lv_at hl 1 rfl) ?_
    refine lv_iconst (v := 4) hx hb dL_flying_14 (by decide) ?_
    refine W_top (y := .int (nI 4)) (rfl) ?_
    refine vp_callSi (va_Run.run (va_runV (As := [.int (nI i), .int (nI 4)]) (rest := [.int (nI (cnt (fun j => decide (¬ F 6 j = -1)) i))]) ⟨hx, hb, hml, hown, hts⟩ (r_X2_about l9 dC dI h ak ab af ka kb n p F i 4 hI hin (by decide)) (cwV 2 hts gL_flying_X2_about rfl rfl rfl (by decide +kernel) ⟨Nat.le_of_ble_eq_true rfl, Nat.le_of_ble_eq_true rfl⟩) ⟨PRo.blind, va_recv hK2 (P_left hP) (ci := 2) (q0 := 0) rfl rfl, PRo.pre (P_left hP) hK2 hE⟩ rfl rfl hl.1 rfl (lv_room (Nat.le_of_ble_eq_true rfl)) dL_flying_15 ⟨Nat.le_of_ble_eq_true rfl, Nat.le_of_ble_eq_true rfl⟩)) (fun r hr => ?_)
    subst hr
    refine W_top (y := .int (F 6 i)) (rfl) ?_
    refine lv_iconst (v := (-1)) hx hb dL_flying_18 (by decide) ?_
    refine lv_icmp_ne (tgt := 26) hx hb dL_flying_19 (by decide) (fun c_19 => ?_) (fun c_19 => ?_)
    · skip
      refine lv_iconst (v := 1) hx hb dL_flying_26 (by decide) ?_
      refine lv_iadd hx hb dL_flying_27 ?_
      refine W_top (y := .int (nI (cnt (fun j => decide (¬ F 6 j = -1)) (i + 1)))) (congrArg Value.int (fl_t c_19)) ?_
      refine lv_istore_n (lv' := [(2, .int (nI (cnt (fun j => decide (¬ F 6 j = -1)) (i + 1)))), (3, .int (nI i)), (0, .ref h), (1, .ref ad)]) hx hb dL_flying_28 rfl hl (by decide) rfl (fun ls hl => ?_)
      refine lv_iinc (v := nI (i + 1)) (lv' := [(3, .int (nI (i + 1))), (2, .int (nI (cnt (fun j => decide (¬ F 6 j = -1)) (i + 1)))), (0, .ref h), (1, .ref ad)]) hx hb dL_flying_29 hl (k := 1) rfl (nI_1 _) (by decide) rfl (fun ls hl => ?_)
      refine lv_goto (tgt := 4) hx hb dL_flying_32 (by decide) ?_
      exact ih (i + 1) ls (by omega) (by omega) (lv_sub hl [1, 0, 2, 3] rfl)
    · skip
      refine lv_iconst (v := 0) hx hb dL_flying_22 (by decide) ?_
      refine lv_goto (tgt := 27) hx hb dL_flying_23 (by decide) ?_
      refine lv_iadd hx hb dL_flying_27 ?_
      refine W_top (y := .int (nI (cnt (fun j => decide (¬ F 6 j = -1)) (i + 1)))) (congrArg Value.int (fl_f c_19)) ?_
      refine lv_istore_n (lv' := [(2, .int (nI (cnt (fun j => decide (¬ F 6 j = -1)) (i + 1)))), (3, .int (nI i)), (0, .ref h), (1, .ref ad)]) hx hb dL_flying_28 rfl hl (by decide) rfl (fun ls hl => ?_)
      refine lv_iinc (v := nI (i + 1)) (lv' := [(3, .int (nI (i + 1))), (2, .int (nI (cnt (fun j => decide (¬ F 6 j = -1)) (i + 1)))), (0, .ref h), (1, .ref ad)]) hx hb dL_flying_29 hl (k := 1) rfl (nI_1 _) (by decide) rfl (fun ls hl => ?_)
      refine lv_goto (tgt := 4) hx hb dL_flying_32 (by decide) ?_
      exact ih (i + 1) ls (by omega) (by omega) (lv_sub hl [1, 0, 2, 3] rfl)

set_option maxHeartbeats 4000000 in
set_option maxRecDepth 100000 in
theorem c_L_torn (l9 : Launch) (dC : Nat → ClassId) (dI : Nat → Nat → Nat) {tK tB cI : ClassId} (h ak ab af : Nat) (ka kb : Nat → Nat) (n p : Nat) (F : Rows) (ad : Nat) (df : Nat → Int32)  (hI : Inv n p F) (hd0 : df 0 = nI n) : Met l9 yL_torn wsL_torn ({ frames := 5, cells := 0, slots := 0, locals := 113 }) (va_Pc [.ref h, .ref ad] (PRo dC dI [(tK, .object "Windlane$Kite"), (tB, .object "Windlane$Borrower"), (cI, .int)] (cW tK tB h ak ab af ka kb n p F ++ [(ad, .inl (cI, 4, .inl df))]))) (vp_Si (fun r9 => r9 = nI (tn F n))) 0 0 (fun _ => False) := by
  refine Met.ofW (cc := cL_torn) (maxL := 4) (ret := (some .int)) (by decide) rfl ?_
  intro p9 e9 s m args below meth c s₁ B hml hv
  obtain ⟨rfl, hP, hK, hE⟩ := hv
  have hx := B.exec
  have hb := B.bytes
  have hr := B.returns
  have hts := atoms_spec (ws := wsL_torn) B.pre
  have hown : s.vm.findClass RL = some m.cls := findClass_of_methodNamed B.named
  have hlocks := B.notSynchronized
  have hP : va_P (dC, dI) vwCl (cW tK tB h ak ab af ka kb n p F ++ [(ad, .inl (cI, 4, .inl df))]) s.heap := hP
  have hK2 := hK.sub (tys' := [(tK, .object "Windlane$Kite"), (tB, .object "Windlane$Borrower")]) [0, 1] rfl
  have hn8 : n ≤ 8 := hI.1.1
  have hp8 : p ≤ 8 := hI.1.2
  have hl := lv_entry ([.ref h, .ref ad]) (n := 4) (Nat.le_of_ble_eq_true rfl)
  rw [lg_entry_eq]
  generalize (lg_sl ([.ref h, .ref ad]) ++ List.replicate (4 - (lg_sl ([.ref h, .ref ad])).length) Slot.unset).toArray = ls at hl ⊢
  have hl : lv_has ls 4 [(0, .ref h), (1, .ref ad)] := hl
  refine lv_iconst (v := 0) hx hb dL_torn_0 (by decide) ?_
  refine lv_istore_n (lv' := [(2, .int 0), (0, .ref h), (1, .ref ad)]) hx hb dL_torn_1 rfl hl (by decide) rfl (fun ls hl => ?_)
  refine lv_iconst (v := 0) hx hb dL_torn_2 (by decide) ?_
  refine lv_istore_n (lv' := [(3, .int 0), (2, .int 0), (0, .ref h), (1, .ref ad)]) hx hb dL_torn_3 rfl hl (by decide) rfl (fun ls hl => ?_)
  refine W_loopR (nL := 4) (fun i : Nat => [(2, .int (nI (cnt (fun j => decide (¬ F 3 j = 0)) i))), (3, .int (nI i)), (0, .ref h), (1, .ref ad)]) (fun i => i ≤ n) (fun i => n - i) ?_ 0 (Nat.zero_le _) (lv_sub hl [1, 0, 2, 3] rfl)
  intro i ls hJ hl ih
  have hl : lv_has ls 4 [(2, .int (nI (cnt (fun j => decide (¬ F 3 j = 0)) i))), (3, .int (nI i)), (0, .ref h), (1, .ref ad)] := hl
  refine lv_iload_n hx hb dL_torn_4 rfl (lv_at hl 1 rfl) ?_
  refine lv_aload_n hx hb dL_torn_5 rfl (lv_at hl 3 rfl) ?_
  refine lv_iconst (v := 0) hx hb dL_torn_6 (by decide) ?_
  refine W_top (y := .int (nI 0)) (rfl) ?_
  refine my_iald hx hb hK hP _ 2 (ap_at (w1 := cW tK tB h ak ab af ka kb n p F) (i := 0) rfl) rfl (k := 0) (by decide) (by decide) dL_torn_7 ?_
  refine W_top (y := .int (nI n)) (congrArg Value.int (hd0)) ?_
  refine lv_icmp_ge (tgt := 26) hx hb dL_torn_8 (by decide) (fun c_8 => ?_) (fun c_8 => ?_)
  · skip
    have he : i = n := by have q := (nI_leI (a := n) (b := i) (by omega) (by omega)).mp c_8; omega
    subst he
    refine lv_iload_n hx hb dL_torn_26 rfl (lv_at hl 0 rfl) ?_
    exact W.iret (v := nI (cnt (fun j => decide (¬ F 3 j = 0)) i)) hx hb hr (fun t ht _ => ⟨_, rfl, rfl, ht⟩) (fun q hq => absurd hq List.not_mem_nil) dL_torn_27
  · skip
    have hin : i < n := Nat.not_le.mp (fun q => c_8 ((nI_leI (a := n) (b := i) (by omega) (by omega)).mpr q))
    refine lv_iload_n hx hb dL_torn_11 rfl (lv_at hl 0 rfl) ?_
    refine lv_aload_n hx hb dL_torn_12 rfl (lv_at hl 2 rfl) ?_
    refine lv_iload_n hx hb dL_torn_13 rfl (lv_at hl 1 rfl) ?_
    refine lv_iconst (v := 1) hx hb dL_torn_14 (by decide) ?_
    refine W_top (y := .int (nI 1)) (rfl) ?_
    refine vp_callSi (va_Run.run (va_runV (As := [.int (nI i), .int (nI 1)]) (rest := [.int (nI (cnt (fun j => decide (¬ F 3 j = 0)) i))]) ⟨hx, hb, hml, hown, hts⟩ (r_X2_about l9 dC dI h ak ab af ka kb n p F i 1 hI hin (by decide)) (cwV 2 hts gL_torn_X2_about rfl rfl rfl (by decide +kernel) ⟨Nat.le_of_ble_eq_true rfl, Nat.le_of_ble_eq_true rfl⟩) ⟨PRo.blind, va_recv hK2 (P_left hP) (ci := 2) (q0 := 0) rfl rfl, PRo.pre (P_left hP) hK2 hE⟩ rfl rfl hl.1 rfl (lv_room (Nat.le_of_ble_eq_true rfl)) dL_torn_15 ⟨Nat.le_of_ble_eq_true rfl, Nat.le_of_ble_eq_true rfl⟩)) (fun r hr => ?_)
    subst hr
    refine W_top (y := .int (F 3 i)) (rfl) ?_
    refine lv_iadd hx hb dL_torn_18 ?_
    refine W_top (y := .int (nI (cnt (fun j => decide (¬ F 3 j = 0)) (i + 1)))) (congrArg Value.int (tn_step (hI.2.1 i hin).2.2.2.1)) ?_
    refine lv_istore_n (lv' := [(2, .int (nI (cnt (fun j => decide (¬ F 3 j = 0)) (i + 1)))), (3, .int (nI i)), (0, .ref h), (1, .ref ad)]) hx hb dL_torn_19 rfl hl (by decide) rfl (fun ls hl => ?_)
    refine lv_iinc (v := nI (i + 1)) (lv' := [(3, .int (nI (i + 1))), (2, .int (nI (cnt (fun j => decide (¬ F 3 j = 0)) (i + 1)))), (0, .ref h), (1, .ref ad)]) hx hb dL_torn_20 hl (k := 1) rfl (nI_1 _) (by decide) rfl (fun ls hl => ?_)
    refine lv_goto (tgt := 4) hx hb dL_torn_23 (by decide) ?_
    exact ih (i + 1) ls (by omega) (by omega) (lv_sub hl [1, 0, 2, 3] rfl)

set_option maxHeartbeats 4000000 in
set_option maxRecDepth 100000 in
theorem c_L_isWhole (l9 : Launch) (dC : Nat → ClassId) (dI : Nat → Nat → Nat) {tK tB cI : ClassId} (h ak ab af : Nat) (ka kb : Nat → Nat) (n p : Nat) (F : Rows) (ad : Nat) (df : Nat → Int32) (k0 : Nat) (hI : Inv n p F) (hI2 : In2 n F) (hd0 : df 0 = nI n) (hd3 : df 3 = F 9 0) (hk0 : k0 < 1000) : Met l9 yL_isWhole wsL_isWhole ({ frames := 5, cells := 0, slots := 0, locals := 113 }) (va_Pc [.ref h, .ref ad, .int (nI k0)] (PRo dC dI [(tK, .object "Windlane$Kite"), (tB, .object "Windlane$Borrower"), (cI, .int)] (cW tK tB h ak ab af ka kb n p F ++ [(ad, .inl (cI, 4, .inl df))]))) (vp_Si (fun r9 => r9 = 1)) 0 0 (fun _ => False) := by
  refine Met.ofW (cc := cL_isWhole) (maxL := 10) (ret := (some .boolean)) (by decide) rfl ?_
  intro p9 e9 s m args below meth c s₁ B hml hv
  obtain ⟨rfl, hP, hK, hE⟩ := hv
  have hx := B.exec
  have hb := B.bytes
  have hr := B.returns
  have hts := atoms_spec (ws := wsL_isWhole) B.pre
  have hown : s.vm.findClass RL = some m.cls := findClass_of_methodNamed B.named
  have hlocks := B.notSynchronized
  have hP : va_P (dC, dI) vwCl (cW tK tB h ak ab af ka kb n p F ++ [(ad, .inl (cI, 4, .inl df))]) s.heap := hP
  have hK2 := hK.sub (tys' := [(tK, .object "Windlane$Kite"), (tB, .object "Windlane$Borrower")]) [0, 1] rfl
  have hn8 : n ≤ 8 := hI.1.1
  have hp8 : p ≤ 8 := hI.1.2
  have hl := lv_entry ([.ref h, .ref ad, .int (nI k0)]) (n := 10) (Nat.le_of_ble_eq_true rfl)
  rw [lg_entry_eq]
  generalize (lg_sl ([.ref h, .ref ad, .int (nI k0)]) ++ List.replicate (10 - (lg_sl ([.ref h, .ref ad, .int (nI k0)])).length) Slot.unset).toArray = ls at hl ⊢
  have hl : lv_has ls 10 [(0, .ref h), (1, .ref ad), (2, .int (nI k0))] := hl
  have hsp : 0 ≤ F 9 0 ∧ F 9 0 ≤ 30 := hI.2.2.2.2.1.1
  refine lv_iconst (v := 1) hx hb dL_isWhole_0 (by decide) ?_
  refine lv_istore_n (lv' := [(3, .int 1), (0, .ref h), (1, .ref ad), (2, .int (nI k0))]) hx hb dL_isWhole_1 rfl hl (by decide) rfl (fun ls hl => ?_)
  refine lv_ldc (v := (-100000)) hx hb hown (hts (.constant RL 111 (-100000)) (by decide +kernel)) dL_isWhole_2 ?_
  refine lv_istore (lv' := [(4, .int (-100000)), (3, .int 1), (0, .ref h), (1, .ref ad), (2, .int (nI k0))]) hx hb dL_isWhole_4 hl (by decide) rfl (fun ls hl => ?_)
  refine lv_iconst (v := 0) hx hb dL_isWhole_6 (by decide) ?_
  refine lv_istore (lv' := [(5, .int 0), (4, .int (-100000)), (3, .int 1), (0, .ref h), (1, .ref ad), (2, .int (nI k0))]) hx hb dL_isWhole_7 hl (by decide) rfl (fun ls hl => ?_)
  refine lv_iconst (v := 0) hx hb dL_isWhole_9 (by decide) ?_
  refine lv_istore (lv' := [(6, .int 0), (5, .int 0), (4, .int (-100000)), (3, .int 1), (0, .ref h), (1, .ref ad), (2, .int (nI k0))]) hx hb dL_isWhole_10 hl (by decide) rfl (fun ls hl => ?_)
  refine W_loopR (nL := 10) (fun x : Nat × Int32 => [(6, .int (nI x.1)), (3, .int 1), (4, .int x.2), (5, .int 0), (0, .ref h), (1, .ref ad), (2, .int (nI k0))]) (fun x => x.1 ≤ 10 ∧ ∀ l' a, x.1 ≤ l' → l' < 10 → lk (F 6) n (nI l') = some a → x.2.toInt < (ed F a).toInt) (fun x => 10 - x.1) ?_ (0, -100000) (⟨Nat.zero_le _, fun l' a _ h2 h3 => by have q := (ed_rng hI hI2 h2 h3).1; show (-100000 : Int32).toInt < _; rw [show (-100000 : Int32).toInt = -100000 from by decide]; omega⟩) (lv_sub hl [0, 3, 2, 1, 4, 5, 6] rfl)
  intro x ls hJ hl ih
  obtain ⟨l, last⟩ := x
  dsimp only at hJ ih
  have hl : lv_has ls 10 [(6, .int (nI l)), (3, .int 1), (4, .int last), (5, .int 0), (0, .ref h), (1, .ref ad), (2, .int (nI k0))] := hl
  obtain ⟨hl11, hlast⟩ := hJ
  refine lv_iload hx hb dL_isWhole_12 (lv_at hl 0 rfl) ?_
  refine lv_bipush (v := 10) hx hb dL_isWhole_14 (by decide) ?_
  refine lv_icmp_ge (tgt := 129) hx hb dL_isWhole_16 (by decide) (fun c_16 => ?_) (fun c_16 => ?_)
  · skip
    refine lv_iconst (v := 0) hx hb dL_isWhole_129 (by decide) ?_
    refine lv_istore (lv' := [(6, .int 0), (3, .int 1), (4, .int last), (5, .int 0), (0, .ref h), (1, .ref ad), (2, .int (nI k0))]) hx hb dL_isWhole_130 hl (by decide) rfl (fun ls hl => ?_)
    refine W_loopR (nL := 10) (fun i : Nat => [(6, .int (nI i)), (3, .int 1), (5, .int (nI (pm F i))), (0, .ref h), (1, .ref ad), (2, .int (nI k0))]) (fun i => i ≤ n) (fun i => n - i) ?_ 0 (Nat.zero_le _) (lv_sub hl [0, 1, 3, 4, 5, 6] rfl)
    intro i ls hJ hl ih
    have hl : lv_has ls 10 [(6, .int (nI i)), (3, .int 1), (5, .int (nI (pm F i))), (0, .ref h), (1, .ref ad), (2, .int (nI k0))] := hl
    refine lv_iload hx hb dL_isWhole_132 (lv_at hl 0 rfl) ?_
    refine lv_aload_n hx hb dL_isWhole_134 rfl (lv_at hl 4 rfl) ?_
    refine lv_iconst (v := 0) hx hb dL_isWhole_135 (by decide) ?_
    refine W_top (y := .int (nI 0)) (rfl) ?_
    refine my_iald hx hb hK hP _ 2 (ap_at (w1 := cW tK tB h ak ab af ka kb n p F) (i := 0) rfl) rfl (k := 0) (by decide) (by decide) dL_isWhole_136 ?_
    refine W_top (y := .int (nI n)) (congrArg Value.int (hd0)) ?_
    refine lv_icmp_ge (tgt := 407) hx hb dL_isWhole_137 (by decide) (fun c_137 => ?_) (fun c_137 => ?_)
    · skip
      have he : i = n := by have q := (nI_leI (a := n) (b := i) (by omega) (by omega)).mp c_137; omega
      subst he
      refine lv_iload_n hx hb dL_isWhole_407 rfl (lv_at hl 1 rfl) ?_
      exact W.zret (v := 1) hx hb hr rfl (fun t ht _ => ⟨_, rfl, rfl, ht⟩) (fun q hq => absurd hq List.not_mem_nil) dL_isWhole_408
    · skip
      have hin : i < n := Nat.not_le.mp (fun q => c_137 ((nI_leI (a := n) (b := i) (by omega) (by omega)).mpr q))
      refine lv_iload_n hx hb dL_isWhole_140 rfl (lv_at hl 1 rfl) ?_
      refine lv_if_eq (tgt := 407) hx hb dL_isWhole_141 (by decide) (fun c_141 => absurd c_141 (by decide)) (fun _ => ?_)
      have hok := hI.2.1 i hin
      refine W_cut (pc := 194) (nL := 10) (lv := [(6, .int (nI i)), (3, .int 1), (5, .int (nI (pm F (i + 1)))), (0, .ref h), (1, .ref ad), (2, .int (nI k0))]) (fun ls hl => ?_) (fun K194 => ?_)
      · skip
        refine lv_iload_n hx hb dL_isWhole_194 rfl (lv_at hl 1 rfl) ?_
        refine lv_if_eq (tgt := 279) hx hb dL_isWhole_195 (by decide) (fun c_195 => absurd c_195 (by decide)) (fun _ => ?_)
        refine lv_aload_n hx hb dL_isWhole_198 rfl (lv_at hl 3 rfl) ?_
        refine lv_iload hx hb dL_isWhole_199 (lv_at hl 0 rfl) ?_
        refine lv_iconst (v := 2) hx hb dL_isWhole_201 (by decide) ?_
        obtain ⟨w4, hw4, e4⟩ := hok.2.2.2.2.1
        refine W_top (y := .int (nI 2)) (rfl) ?_
        refine vp_callSi (va_Run.run (va_runV (As := [.int (nI i), .int (nI 2)]) (rest := []) ⟨hx, hb, hml, hown, hts⟩ (r_X2_about l9 dC dI h ak ab af ka kb n p F i 2 hI hin (by decide)) (cwV 2 hts gL_isWhole_X2_about rfl rfl rfl (by decide +kernel) ⟨Nat.le_of_ble_eq_true rfl, Nat.le_of_ble_eq_true rfl⟩) ⟨PRo.blind, va_recv hK2 (P_left hP) (ci := 2) (q0 := 0) rfl rfl, PRo.pre (P_left hP) hK2 hE⟩ rfl rfl hl.1 rfl (lv_room (Nat.le_of_ble_eq_true rfl)) dL_isWhole_202 ⟨Nat.le_of_ble_eq_true rfl, Nat.le_of_ble_eq_true rfl⟩)) (fun r hr => ?_)
        subst hr
        refine W_top (y := .int (nI w4)) (congrArg Value.int (e4)) ?_
        refine lv_if_lt (tgt := 279) hx hb dL_isWhole_205 (by decide) (fun c_205 => absurd c_205 (fun q => by have := (nI_ltI (a := w4) (b := 0) (by omega) (by omega)).mp q; omega)) (fun _ => ?_)
        refine lv_aload_n hx hb dL_isWhole_208 rfl (lv_at hl 3 rfl) ?_
        refine lv_iload hx hb dL_isWhole_209 (lv_at hl 0 rfl) ?_
        refine lv_iconst (v := 2) hx hb dL_isWhole_211 (by decide) ?_
        refine W_top (y := .int (nI 2)) (rfl) ?_
        refine vp_callSi (va_Run.run (va_runV (As := [.int (nI i), .int (nI 2)]) (rest := []) ⟨hx, hb, hml, hown, hts⟩ (r_X2_about l9 dC dI h ak ab af ka kb n p F i 2 hI hin (by decide)) (cwV 2 hts gL_isWhole_X2_about rfl rfl rfl (by decide +kernel) ⟨Nat.le_of_ble_eq_true rfl, Nat.le_of_ble_eq_true rfl⟩) ⟨PRo.blind, va_recv hK2 (P_left hP) (ci := 2) (q0 := 0) rfl rfl, PRo.pre (P_left hP) hK2 hE⟩ rfl rfl hl.1 rfl (lv_room (Nat.le_of_ble_eq_true rfl)) dL_isWhole_212 ⟨Nat.le_of_ble_eq_true rfl, Nat.le_of_ble_eq_true rfl⟩)) (fun r hr => ?_)
        subst hr
        refine W_top (y := .int (nI w4)) (congrArg Value.int (e4)) ?_
        refine lv_bipush (v := 6) hx hb dL_isWhole_215 (by decide) ?_
        refine lv_icmp_gt (tgt := 279) hx hb dL_isWhole_217 (by decide) (fun c_217 => absurd c_217 (fun q => by have := (nI_ltI (a := 6) (b := w4) (by omega) (by omega)).mp q; omega)) (fun _ => ?_)
        refine lv_aload_n hx hb dL_isWhole_220 rfl (lv_at hl 3 rfl) ?_
        refine lv_iload hx hb dL_isWhole_221 (lv_at hl 0 rfl) ?_
        refine lv_iload_n hx hb dL_isWhole_223 rfl (lv_at hl 5 rfl) ?_
        refine lv_bipush (v := 31) hx hb dL_isWhole_224 (by decide) ?_
        refine lv_irem hx hb dL_isWhole_226 (by decide) ?_
        refine W_top (y := .int (nI (k0 % 31))) (congrArg Value.int (pk_rem (a := k0) (d := 31) (by omega) (by decide) (by omega))) ?_
        refine vp_callSi (va_Run.run (va_runV (As := [.int (nI i), .int (nI (k0 % 31))]) (rest := []) ⟨hx, hb, hml, hown, hts⟩ (r_X2_pullAnew l9 dC dI h ak ab af ka kb n p F i (nI (k0 % 31)) hI hin (sp_n (m := k0 % 31) (by omega))) (cwV 2 hts gL_isWhole_X2_pullAnew rfl rfl rfl (by decide +kernel) ⟨Nat.le_of_ble_eq_true rfl, Nat.le_of_ble_eq_true rfl⟩) ⟨PRo.blind, va_recv hK2 (P_left hP) (ci := 2) (q0 := 0) rfl rfl, PRo.pre (P_left hP) hK2 hE⟩ rfl rfl hl.1 rfl (lv_room (Nat.le_of_ble_eq_true rfl)) dL_isWhole_227 ⟨Nat.le_of_ble_eq_true rfl, Nat.le_of_ble_eq_true rfl⟩)) (fun r hr => ?_)
        subst hr
        refine lv_aload_n hx hb dL_isWhole_230 rfl (lv_at hl 3 rfl) ?_
        refine lv_iload hx hb dL_isWhole_231 (lv_at hl 0 rfl) ?_
        refine lv_iload_n hx hb dL_isWhole_233 rfl (lv_at hl 5 rfl) ?_
        refine lv_bipush (v := 31) hx hb dL_isWhole_234 (by decide) ?_
        refine lv_irem hx hb dL_isWhole_236 (by decide) ?_
        refine W_top (y := .int (nI (k0 % 31))) (congrArg Value.int (pk_rem (a := k0) (d := 31) (by omega) (by decide) (by omega))) ?_
        refine vp_callSi (va_Run.run (va_runV (As := [.int (nI i), .int (nI (k0 % 31))]) (rest := [.int (pl F i (nI (k0 % 31)))]) ⟨hx, hb, hml, hown, hts⟩ (r_X2_pull l9 dC dI h ak ab af ka kb n p F i (nI (k0 % 31)) hI hin (sp_n (m := k0 % 31) (by omega))) (cwV 2 hts gL_isWhole_X2_pull rfl rfl rfl (by decide +kernel) ⟨Nat.le_of_ble_eq_true rfl, Nat.le_of_ble_eq_true rfl⟩) ⟨PRo.blind, va_recv hK2 (P_left hP) (ci := 2) (q0 := 0) rfl rfl, PRo.pre (P_left hP) hK2 hE⟩ rfl rfl hl.1 rfl (lv_room (Nat.le_of_ble_eq_true rfl)) dL_isWhole_237 ⟨Nat.le_of_ble_eq_true rfl, Nat.le_of_ble_eq_true rfl⟩)) (fun r hr => ?_)
        subst hr
        refine lv_icmp_ne (tgt := 279) hx hb dL_isWhole_240 (by decide) (fun c_240 => absurd (rfl) c_240) (fun _ => ?_)
        refine W_cut (pc := 281) (nL := 10) (lv := [(6, .int (nI i)), (3, .int 1), (5, .int (nI (pm F (i + 1)))), (0, .ref h), (1, .ref ad), (2, .int (nI k0))]) (fun ls hl => ?_) (fun K281 => ?_)
        · skip
          rcases wd_both hok with ⟨hw0, hw1⟩ | ⟨wa, wb, hwab, hwb, hw0, hw1, hwp, hwq, hwl, hwm⟩
          · skip
            refine lv_aload_n hx hb dL_isWhole_281 rfl (lv_at hl 3 rfl) ?_
            refine lv_iload hx hb dL_isWhole_282 (lv_at hl 0 rfl) ?_
            refine lv_iconst (v := 0) hx hb dL_isWhole_284 (by decide) ?_
            refine vp_callSi (va_Run.run (va_runV (As := [.int (nI i), .int 0]) (rest := []) ⟨hx, hb, hml, hown, hts⟩ (r_X2_window l9 dC dI h ak ab af ka kb n p F i 0 hI hin) (cwV 2 hts gL_isWhole_X2_window rfl rfl rfl (by decide +kernel) ⟨Nat.le_of_ble_eq_true rfl, Nat.le_of_ble_eq_true rfl⟩) ⟨PRo.blind, va_recv hK2 (P_left hP) (ci := 2) (q0 := 0) rfl rfl, PRo.pre (P_left hP) hK2 hE⟩ rfl rfl hl.1 rfl (lv_room (Nat.le_of_ble_eq_true rfl)) dL_isWhole_285 ⟨Nat.le_of_ble_eq_true rfl, Nat.le_of_ble_eq_true rfl⟩)) (fun r hr => ?_)
            subst hr
            refine W_top (y := .int (-1)) (congrArg Value.int hw0) ?_
            refine lv_istore (lv' := [(8, .int (-1)), (6, .int (nI i)), (3, .int 1), (5, .int (nI (pm F (i + 1)))), (0, .ref h), (1, .ref ad), (2, .int (nI k0))]) hx hb dL_isWhole_288 hl (by decide) rfl (fun ls hl => ?_)
            refine lv_aload_n hx hb dL_isWhole_290 rfl (lv_at hl 4 rfl) ?_
            refine lv_iload hx hb dL_isWhole_291 (lv_at hl 1 rfl) ?_
            refine lv_iconst (v := 1) hx hb dL_isWhole_293 (by decide) ?_
            refine vp_callSi (va_Run.run (va_runV (As := [.int (nI i), .int 1]) (rest := []) ⟨hx, hb, hml, hown, hts⟩ (r_X2_window l9 dC dI h ak ab af ka kb n p F i 1 hI hin) (cwV 2 hts gL_isWhole_X2_window rfl rfl rfl (by decide +kernel) ⟨Nat.le_of_ble_eq_true rfl, Nat.le_of_ble_eq_true rfl⟩) ⟨PRo.blind, va_recv hK2 (P_left hP) (ci := 2) (q0 := 0) rfl rfl, PRo.pre (P_left hP) hK2 hE⟩ rfl rfl hl.1 rfl (lv_room (Nat.le_of_ble_eq_true rfl)) dL_isWhole_294 ⟨Nat.le_of_ble_eq_true rfl, Nat.le_of_ble_eq_true rfl⟩)) (fun r hr => ?_)
            subst hr
            refine W_top (y := .int (-1)) (congrArg Value.int hw1) ?_
            refine lv_istore (lv' := [(9, .int (-1)), (8, .int (-1)), (6, .int (nI i)), (3, .int 1), (5, .int (nI (pm F (i + 1)))), (0, .ref h), (1, .ref ad), (2, .int (nI k0))]) hx hb dL_isWhole_297 hl (by decide) rfl (fun ls hl => ?_)
            refine lv_iload_n hx hb dL_isWhole_299 rfl (lv_at hl 3 rfl) ?_
            refine lv_if_eq (tgt := 399) hx hb dL_isWhole_300 (by decide) (fun c_300 => absurd c_300 (by decide)) (fun _ => ?_)
            refine lv_iload hx hb dL_isWhole_303 (lv_at hl 1 rfl) ?_
            refine lv_iconst (v := (-1)) hx hb dL_isWhole_305 (by decide) ?_
            refine lv_icmp_ne (tgt := 318) hx hb dL_isWhole_306 (by decide) (fun c_306 => absurd (rfl) c_306) (fun _ => ?_)
            refine lv_iload hx hb dL_isWhole_309 (lv_at hl 0 rfl) ?_
            refine lv_iconst (v := (-1)) hx hb dL_isWhole_311 (by decide) ?_
            refine lv_icmp_ne (tgt := 399) hx hb dL_isWhole_312 (by decide) (fun c_312 => absurd (by decide) c_312) (fun _ => ?_)
            refine lv_goto (tgt := 395) hx hb dL_isWhole_315 (by decide) ?_
            refine lv_iconst (v := 1) hx hb dL_isWhole_395 (by decide) ?_
            refine lv_goto (tgt := 400) hx hb dL_isWhole_396 (by decide) ?_
            refine lv_istore_n (lv' := [(3, .int 1), (9, .int (-1)), (8, .int (-1)), (6, .int (nI i)), (5, .int (nI (pm F (i + 1)))), (0, .ref h), (1, .ref ad), (2, .int (nI k0))]) hx hb dL_isWhole_400 rfl hl (by decide) rfl (fun ls hl => ?_)
            refine lv_iinc (v := nI (i + 1)) (lv' := [(6, .int (nI (i + 1))), (3, .int 1), (9, .int (-1)), (8, .int (-1)), (5, .int (nI (pm F (i + 1)))), (0, .ref h), (1, .ref ad), (2, .int (nI k0))]) hx hb dL_isWhole_401 hl (k := 3) rfl (nI_1 _) (by decide) rfl (fun ls hl => ?_)
            refine lv_goto (tgt := 132) hx hb dL_isWhole_404 (by decide) ?_
            exact ih (i + 1) ls (by omega) (by omega) (lv_sub hl [0, 1, 4, 5, 6, 7] rfl)
          · skip
            refine lv_aload_n hx hb dL_isWhole_281 rfl (lv_at hl 3 rfl) ?_
            refine lv_iload hx hb dL_isWhole_282 (lv_at hl 0 rfl) ?_
            refine lv_iconst (v := 0) hx hb dL_isWhole_284 (by decide) ?_
            refine vp_callSi (va_Run.run (va_runV (As := [.int (nI i), .int 0]) (rest := []) ⟨hx, hb, hml, hown, hts⟩ (r_X2_window l9 dC dI h ak ab af ka kb n p F i 0 hI hin) (cwV 2 hts gL_isWhole_X2_window rfl rfl rfl (by decide +kernel) ⟨Nat.le_of_ble_eq_true rfl, Nat.le_of_ble_eq_true rfl⟩) ⟨PRo.blind, va_recv hK2 (P_left hP) (ci := 2) (q0 := 0) rfl rfl, PRo.pre (P_left hP) hK2 hE⟩ rfl rfl hl.1 rfl (lv_room (Nat.le_of_ble_eq_true rfl)) dL_isWhole_285 ⟨Nat.le_of_ble_eq_true rfl, Nat.le_of_ble_eq_true rfl⟩)) (fun r hr => ?_)
            subst hr
            refine W_top (y := .int (nI wa)) (congrArg Value.int hw0) ?_
            refine lv_istore (lv' := [(8, .int (nI wa)), (6, .int (nI i)), (3, .int 1), (5, .int (nI (pm F (i + 1)))), (0, .ref h), (1, .ref ad), (2, .int (nI k0))]) hx hb dL_isWhole_288 hl (by decide) rfl (fun ls hl => ?_)
            refine lv_aload_n hx hb dL_isWhole_290 rfl (lv_at hl 4 rfl) ?_
            refine lv_iload hx hb dL_isWhole_291 (lv_at hl 1 rfl) ?_
            refine lv_iconst (v := 1) hx hb dL_isWhole_293 (by decide) ?_
            refine vp_callSi (va_Run.run (va_runV (As := [.int (nI i), .int 1]) (rest := []) ⟨hx, hb, hml, hown, hts⟩ (r_X2_window l9 dC dI h ak ab af ka kb n p F i 1 hI hin) (cwV 2 hts gL_isWhole_X2_window rfl rfl rfl (by decide +kernel) ⟨Nat.le_of_ble_eq_true rfl, Nat.le_of_ble_eq_true rfl⟩) ⟨PRo.blind, va_recv hK2 (P_left hP) (ci := 2) (q0 := 0) rfl rfl, PRo.pre (P_left hP) hK2 hE⟩ rfl rfl hl.1 rfl (lv_room (Nat.le_of_ble_eq_true rfl)) dL_isWhole_294 ⟨Nat.le_of_ble_eq_true rfl, Nat.le_of_ble_eq_true rfl⟩)) (fun r hr => ?_)
            subst hr
            refine W_top (y := .int (nI wb)) (congrArg Value.int hw1) ?_
            refine lv_istore (lv' := [(9, .int (nI wb)), (8, .int (nI wa)), (6, .int (nI i)), (3, .int 1), (5, .int (nI (pm F (i + 1)))), (0, .ref h), (1, .ref ad), (2, .int (nI k0))]) hx hb dL_isWhole_297 hl (by decide) rfl (fun ls hl => ?_)
            refine lv_iload_n hx hb dL_isWhole_299 rfl (lv_at hl 3 rfl) ?_
            refine lv_if_eq (tgt := 399) hx hb dL_isWhole_300 (by decide) (fun c_300 => absurd c_300 (by decide)) (fun _ => ?_)
            refine lv_iload hx hb dL_isWhole_303 (lv_at hl 1 rfl) ?_
            refine lv_iconst (v := (-1)) hx hb dL_isWhole_305 (by decide) ?_
            refine lv_icmp_ne (tgt := 318) hx hb dL_isWhole_306 (by decide) (fun _ => ?_) (fun c_306 => absurd c_306 (nI_m1 (by omega)))
            refine lv_iload hx hb dL_isWhole_318 (lv_at hl 1 rfl) ?_
            refine lv_iload hx hb dL_isWhole_320 (lv_at hl 0 rfl) ?_
            refine lv_icmp_gt (tgt := 399) hx hb dL_isWhole_322 (by decide) (fun c_322 => absurd c_322 (fun q => by have := (nI_ltI (a := wb) (b := wa) (by omega) (by omega)).mp q; omega)) (fun _ => ?_)
            refine lv_aload_n hx hb dL_isWhole_325 rfl (lv_at hl 5 rfl) ?_
            refine lv_iload hx hb dL_isWhole_326 (lv_at hl 2 rfl) ?_
            refine lv_iload hx hb dL_isWhole_328 (lv_at hl 1 rfl) ?_
            refine vp_callSi (va_Run.run (va_runV (As := [.int (nI i), .int (nI wa)]) (rest := []) ⟨hx, hb, hml, hown, hts⟩ (r_X2_pull l9 dC dI h ak ab af ka kb n p F i (nI wa) hI hin (sp_n (m := wa) (by omega))) (cwV 2 hts gL_isWhole_X2_pull rfl rfl rfl (by decide +kernel) ⟨Nat.le_of_ble_eq_true rfl, Nat.le_of_ble_eq_true rfl⟩) ⟨PRo.blind, va_recv hK2 (P_left hP) (ci := 2) (q0 := 0) rfl rfl, PRo.pre (P_left hP) hK2 hE⟩ rfl rfl hl.1 rfl (lv_room (Nat.le_of_ble_eq_true rfl)) dL_isWhole_330 ⟨Nat.le_of_ble_eq_true rfl, Nat.le_of_ble_eq_true rfl⟩)) (fun r hr => ?_)
            subst hr
            refine lv_bipush (v := 100) hx hb dL_isWhole_333 (by decide) ?_
            refine lv_icmp_lt (tgt := 399) hx hb dL_isWhole_335 (by decide) (fun c_335 => absurd c_335 (fun q => by rw [i32_lt] at q; rw [i32_le] at hwp; omega)) (fun _ => ?_)
            refine lv_aload_n hx hb dL_isWhole_338 rfl (lv_at hl 5 rfl) ?_
            refine lv_iload hx hb dL_isWhole_339 (lv_at hl 2 rfl) ?_
            refine lv_iload hx hb dL_isWhole_341 (lv_at hl 0 rfl) ?_
            refine vp_callSi (va_Run.run (va_runV (As := [.int (nI i), .int (nI wb)]) (rest := []) ⟨hx, hb, hml, hown, hts⟩ (r_X2_pull l9 dC dI h ak ab af ka kb n p F i (nI wb) hI hin (sp_n (m := wb) hwb)) (cwV 2 hts gL_isWhole_X2_pull rfl rfl rfl (by decide +kernel) ⟨Nat.le_of_ble_eq_true rfl, Nat.le_of_ble_eq_true rfl⟩) ⟨PRo.blind, va_recv hK2 (P_left hP) (ci := 2) (q0 := 0) rfl rfl, PRo.pre (P_left hP) hK2 hE⟩ rfl rfl hl.1 rfl (lv_room (Nat.le_of_ble_eq_true rfl)) dL_isWhole_343 ⟨Nat.le_of_ble_eq_true rfl, Nat.le_of_ble_eq_true rfl⟩)) (fun r hr => ?_)
            subst hr
            refine lv_sipush (v := 6000) hx hb dL_isWhole_346 (by decide) ?_
            refine lv_icmp_gt (tgt := 399) hx hb dL_isWhole_349 (by decide) (fun c_349 => absurd c_349 (fun q => by rw [i32_lt] at q; rw [i32_le] at hwq; omega)) (fun _ => ?_)
            refine lv_iload hx hb dL_isWhole_352 (lv_at hl 1 rfl) ?_
            refine lv_if_eq (tgt := 372) hx hb dL_isWhole_354 (by decide) (fun c_354 => ?_) (fun c_354 => ?_)
            · skip
              refine lv_iload hx hb dL_isWhole_372 (lv_at hl 0 rfl) ?_
              refine lv_bipush (v := 30) hx hb dL_isWhole_374 (by decide) ?_
              refine lv_icmp_eq (tgt := 395) hx hb dL_isWhole_376 (by decide) (fun c_376 => ?_) (fun c_376 => ?_)
              · skip
                refine lv_iconst (v := 1) hx hb dL_isWhole_395 (by decide) ?_
                refine lv_goto (tgt := 400) hx hb dL_isWhole_396 (by decide) ?_
                refine lv_istore_n (lv' := [(3, .int 1), (9, .int (nI wb)), (8, .int (nI wa)), (6, .int (nI i)), (5, .int (nI (pm F (i + 1)))), (0, .ref h), (1, .ref ad), (2, .int (nI k0))]) hx hb dL_isWhole_400 rfl hl (by decide) rfl (fun ls hl => ?_)
                refine lv_iinc (v := nI (i + 1)) (lv' := [(6, .int (nI (i + 1))), (3, .int 1), (9, .int (nI wb)), (8, .int (nI wa)), (5, .int (nI (pm F (i + 1)))), (0, .ref h), (1, .ref ad), (2, .int (nI k0))]) hx hb dL_isWhole_401 hl (k := 3) rfl (nI_1 _) (by decide) rfl (fun ls hl => ?_)
                refine lv_goto (tgt := 132) hx hb dL_isWhole_404 (by decide) ?_
                exact ih (i + 1) ls (by omega) (by omega) (lv_sub hl [0, 1, 4, 5, 6, 7] rfl)
              · skip
                have hwb2 : ¬ wb = 30 := fun q => c_376 (by rw [q]; rfl)
                have hwm := hwm.resolve_left hwb2
                refine lv_aload_n hx hb dL_isWhole_379 rfl (lv_at hl 5 rfl) ?_
                refine lv_iload hx hb dL_isWhole_380 (lv_at hl 2 rfl) ?_
                refine lv_iload hx hb dL_isWhole_382 (lv_at hl 0 rfl) ?_
                refine lv_iconst (v := 1) hx hb dL_isWhole_384 (by decide) ?_
                refine lv_iadd hx hb dL_isWhole_385 ?_
                refine W_top (y := .int (nI (wb + 1))) (congrArg Value.int (nI_add wb 1)) ?_
                refine vp_callSi (va_Run.run (va_runV (As := [.int (nI i), .int (nI (wb + 1))]) (rest := []) ⟨hx, hb, hml, hown, hts⟩ (r_X2_pull l9 dC dI h ak ab af ka kb n p F i (nI (wb + 1)) hI hin (sp_n (m := wb + 1) (by omega))) (cwV 2 hts gL_isWhole_X2_pull rfl rfl rfl (by decide +kernel) ⟨Nat.le_of_ble_eq_true rfl, Nat.le_of_ble_eq_true rfl⟩) ⟨PRo.blind, va_recv hK2 (P_left hP) (ci := 2) (q0 := 0) rfl rfl, PRo.pre (P_left hP) hK2 hE⟩ rfl rfl hl.1 rfl (lv_room (Nat.le_of_ble_eq_true rfl)) dL_isWhole_386 ⟨Nat.le_of_ble_eq_true rfl, Nat.le_of_ble_eq_true rfl⟩)) (fun r hr => ?_)
                subst hr
                refine lv_sipush (v := 6000) hx hb dL_isWhole_389 (by decide) ?_
                refine lv_icmp_le (tgt := 399) hx hb dL_isWhole_392 (by decide) (fun c_392 => absurd c_392 (fun q => by rw [i32_lt] at hwm; rw [i32_le] at q; omega)) (fun _ => ?_)
                refine lv_iconst (v := 1) hx hb dL_isWhole_395 (by decide) ?_
                refine lv_goto (tgt := 400) hx hb dL_isWhole_396 (by decide) ?_
                refine lv_istore_n (lv' := [(3, .int 1), (9, .int (nI wb)), (8, .int (nI wa)), (6, .int (nI i)), (5, .int (nI (pm F (i + 1)))), (0, .ref h), (1, .ref ad), (2, .int (nI k0))]) hx hb dL_isWhole_400 rfl hl (by decide) rfl (fun ls hl => ?_)
                refine lv_iinc (v := nI (i + 1)) (lv' := [(6, .int (nI (i + 1))), (3, .int 1), (9, .int (nI wb)), (8, .int (nI wa)), (5, .int (nI (pm F (i + 1)))), (0, .ref h), (1, .ref ad), (2, .int (nI k0))]) hx hb dL_isWhole_401 hl (k := 3) rfl (nI_1 _) (by decide) rfl (fun ls hl => ?_)
                refine lv_goto (tgt := 132) hx hb dL_isWhole_404 (by decide) ?_
                exact ih (i + 1) ls (by omega) (by omega) (lv_sub hl [0, 1, 4, 5, 6, 7] rfl)
            · skip
              have hwa : ¬ wa = 0 := fun q => c_354 (by rw [q]; rfl)
              have hwl := hwl.resolve_left hwa
              refine lv_aload_n hx hb dL_isWhole_357 rfl (lv_at hl 5 rfl) ?_
              refine lv_iload hx hb dL_isWhole_358 (lv_at hl 2 rfl) ?_
              refine lv_iload hx hb dL_isWhole_360 (lv_at hl 1 rfl) ?_
              refine lv_iconst (v := 1) hx hb dL_isWhole_362 (by decide) ?_
              refine lv_isub hx hb dL_isWhole_363 ?_
              refine W_top (y := .int (nI (wa - 1))) (congrArg Value.int (pk_sub (a := wa) (b := 1) (by omega))) ?_
              refine vp_callSi (va_Run.run (va_runV (As := [.int (nI i), .int (nI (wa - 1))]) (rest := []) ⟨hx, hb, hml, hown, hts⟩ (r_X2_pull l9 dC dI h ak ab af ka kb n p F i (nI (wa - 1)) hI hin (sp_n (m := wa - 1) (by omega))) (cwV 2 hts gL_isWhole_X2_pull rfl rfl rfl (by decide +kernel) ⟨Nat.le_of_ble_eq_true rfl, Nat.le_of_ble_eq_true rfl⟩) ⟨PRo.blind, va_recv hK2 (P_left hP) (ci := 2) (q0 := 0) rfl rfl, PRo.pre (P_left hP) hK2 hE⟩ rfl rfl hl.1 rfl (lv_room (Nat.le_of_ble_eq_true rfl)) dL_isWhole_364 ⟨Nat.le_of_ble_eq_true rfl, Nat.le_of_ble_eq_true rfl⟩)) (fun r hr => ?_)
              subst hr
              refine lv_bipush (v := 100) hx hb dL_isWhole_367 (by decide) ?_
              refine lv_icmp_ge (tgt := 399) hx hb dL_isWhole_369 (by decide) (fun c_369 => absurd c_369 (fun q => by rw [i32_lt] at hwl; rw [i32_le] at q; omega)) (fun _ => ?_)
              refine lv_iload hx hb dL_isWhole_372 (lv_at hl 0 rfl) ?_
              refine lv_bipush (v := 30) hx hb dL_isWhole_374 (by decide) ?_
              refine lv_icmp_eq (tgt := 395) hx hb dL_isWhole_376 (by decide) (fun c_376 => ?_) (fun c_376 => ?_)
              · skip
                refine lv_iconst (v := 1) hx hb dL_isWhole_395 (by decide) ?_
                refine lv_goto (tgt := 400) hx hb dL_isWhole_396 (by decide) ?_
                refine lv_istore_n (lv' := [(3, .int 1), (9, .int (nI wb)), (8, .int (nI wa)), (6, .int (nI i)), (5, .int (nI (pm F (i + 1)))), (0, .ref h), (1, .ref ad), (2, .int (nI k0))]) hx hb dL_isWhole_400 rfl hl (by decide) rfl (fun ls hl => ?_)
                refine lv_iinc (v := nI (i + 1)) (lv' := [(6, .int (nI (i + 1))), (3, .int 1), (9, .int (nI wb)), (8, .int (nI wa)), (5, .int (nI (pm F (i + 1)))), (0, .ref h), (1, .ref ad), (2, .int (nI k0))]) hx hb dL_isWhole_401 hl (k := 3) rfl (nI_1 _) (by decide) rfl (fun ls hl => ?_)
                refine lv_goto (tgt := 132) hx hb dL_isWhole_404 (by decide) ?_
                exact ih (i + 1) ls (by omega) (by omega) (lv_sub hl [0, 1, 4, 5, 6, 7] rfl)
              · skip
                have hwb2 : ¬ wb = 30 := fun q => c_376 (by rw [q]; rfl)
                have hwm := hwm.resolve_left hwb2
                refine lv_aload_n hx hb dL_isWhole_379 rfl (lv_at hl 5 rfl) ?_
                refine lv_iload hx hb dL_isWhole_380 (lv_at hl 2 rfl) ?_
                refine lv_iload hx hb dL_isWhole_382 (lv_at hl 0 rfl) ?_
                refine lv_iconst (v := 1) hx hb dL_isWhole_384 (by decide) ?_
                refine lv_iadd hx hb dL_isWhole_385 ?_
                refine W_top (y := .int (nI (wb + 1))) (congrArg Value.int (nI_add wb 1)) ?_
                refine vp_callSi (va_Run.run (va_runV (As := [.int (nI i), .int (nI (wb + 1))]) (rest := []) ⟨hx, hb, hml, hown, hts⟩ (r_X2_pull l9 dC dI h ak ab af ka kb n p F i (nI (wb + 1)) hI hin (sp_n (m := wb + 1) (by omega))) (cwV 2 hts gL_isWhole_X2_pull rfl rfl rfl (by decide +kernel) ⟨Nat.le_of_ble_eq_true rfl, Nat.le_of_ble_eq_true rfl⟩) ⟨PRo.blind, va_recv hK2 (P_left hP) (ci := 2) (q0 := 0) rfl rfl, PRo.pre (P_left hP) hK2 hE⟩ rfl rfl hl.1 rfl (lv_room (Nat.le_of_ble_eq_true rfl)) dL_isWhole_386 ⟨Nat.le_of_ble_eq_true rfl, Nat.le_of_ble_eq_true rfl⟩)) (fun r hr => ?_)
                subst hr
                refine lv_sipush (v := 6000) hx hb dL_isWhole_389 (by decide) ?_
                refine lv_icmp_le (tgt := 399) hx hb dL_isWhole_392 (by decide) (fun c_392 => absurd c_392 (fun q => by rw [i32_lt] at hwm; rw [i32_le] at q; omega)) (fun _ => ?_)
                refine lv_iconst (v := 1) hx hb dL_isWhole_395 (by decide) ?_
                refine lv_goto (tgt := 400) hx hb dL_isWhole_396 (by decide) ?_
                refine lv_istore_n (lv' := [(3, .int 1), (9, .int (nI wb)), (8, .int (nI wa)), (6, .int (nI i)), (5, .int (nI (pm F (i + 1)))), (0, .ref h), (1, .ref ad), (2, .int (nI k0))]) hx hb dL_isWhole_400 rfl hl (by decide) rfl (fun ls hl => ?_)
                refine lv_iinc (v := nI (i + 1)) (lv' := [(6, .int (nI (i + 1))), (3, .int 1), (9, .int (nI wb)), (8, .int (nI wa)), (5, .int (nI (pm F (i + 1)))), (0, .ref h), (1, .ref ad), (2, .int (nI k0))]) hx hb dL_isWhole_401 hl (k := 3) rfl (nI_1 _) (by decide) rfl (fun ls hl => ?_)
                refine lv_goto (tgt := 132) hx hb dL_isWhole_404 (by decide) ?_
                exact ih (i + 1) ls (by omega) (by omega) (lv_sub hl [0, 1, 4, 5, 6, 7] rfl)
        · skip
          refine lv_iload_n hx hb dL_isWhole_243 rfl (lv_at hl 5 rfl) ?_
          refine lv_bipush (v := 31) hx hb dL_isWhole_244 (by decide) ?_
          refine lv_irem hx hb dL_isWhole_246 (by decide) ?_
          refine W_top (y := .int (nI (k0 % 31))) (congrArg Value.int (pk_rem (a := k0) (d := 31) (by omega) (by decide) (by omega))) ?_
          refine lv_if_eq (tgt := 275) hx hb dL_isWhole_247 (by decide) (fun c_247 => ?_) (fun c_247 => ?_)
          · skip
            refine lv_iconst (v := 1) hx hb dL_isWhole_275 (by decide) ?_
            refine lv_goto (tgt := 280) hx hb dL_isWhole_276 (by decide) ?_
            refine lv_istore_n (lv' := [(3, .int 1), (6, .int (nI i)), (5, .int (nI (pm F (i + 1)))), (0, .ref h), (1, .ref ad), (2, .int (nI k0))]) hx hb dL_isWhole_280 rfl hl (by decide) rfl (fun ls hl => ?_)
            exact K281 ls (lv_sub hl [1, 0, 2, 3, 4, 5] rfl)
          · skip
            have hm1 : 1 ≤ k0 % 31 := Nat.pos_of_ne_zero (fun q => c_247 (by rw [q]; rfl))
            refine lv_aload_n hx hb dL_isWhole_250 rfl (lv_at hl 3 rfl) ?_
            refine lv_iload hx hb dL_isWhole_251 (lv_at hl 0 rfl) ?_
            refine lv_iload_n hx hb dL_isWhole_253 rfl (lv_at hl 5 rfl) ?_
            refine lv_bipush (v := 31) hx hb dL_isWhole_254 (by decide) ?_
            refine lv_irem hx hb dL_isWhole_256 (by decide) ?_
            refine W_top (y := .int (nI (k0 % 31))) (congrArg Value.int (pk_rem (a := k0) (d := 31) (by omega) (by decide) (by omega))) ?_
            refine vp_callSi (va_Run.run (va_runV (As := [.int (nI i), .int (nI (k0 % 31))]) (rest := []) ⟨hx, hb, hml, hown, hts⟩ (r_X2_pull l9 dC dI h ak ab af ka kb n p F i (nI (k0 % 31)) hI hin (sp_n (m := k0 % 31) (by omega))) (cwV 2 hts gL_isWhole_X2_pull rfl rfl rfl (by decide +kernel) ⟨Nat.le_of_ble_eq_true rfl, Nat.le_of_ble_eq_true rfl⟩) ⟨PRo.blind, va_recv hK2 (P_left hP) (ci := 2) (q0 := 0) rfl rfl, PRo.pre (P_left hP) hK2 hE⟩ rfl rfl hl.1 rfl (lv_room (Nat.le_of_ble_eq_true rfl)) dL_isWhole_257 ⟨Nat.le_of_ble_eq_true rfl, Nat.le_of_ble_eq_true rfl⟩)) (fun r hr => ?_)
            subst hr
            refine lv_aload_n hx hb dL_isWhole_260 rfl (lv_at hl 3 rfl) ?_
            refine lv_iload hx hb dL_isWhole_261 (lv_at hl 0 rfl) ?_
            refine lv_iload_n hx hb dL_isWhole_263 rfl (lv_at hl 5 rfl) ?_
            refine lv_bipush (v := 31) hx hb dL_isWhole_264 (by decide) ?_
            refine lv_irem hx hb dL_isWhole_266 (by decide) ?_
            refine W_top (y := .int (nI (k0 % 31))) (congrArg Value.int (pk_rem (a := k0) (d := 31) (by omega) (by decide) (by omega))) ?_
            refine lv_iconst (v := 1) hx hb dL_isWhole_267 (by decide) ?_
            refine lv_isub hx hb dL_isWhole_268 ?_
            refine W_top (y := .int (nI (k0 % 31 - 1))) (congrArg Value.int (pk_sub (a := k0 % 31) (b := 1) hm1)) ?_
            refine vp_callSi (va_Run.run (va_runV (As := [.int (nI i), .int (nI (k0 % 31 - 1))]) (rest := [.int (pl F i (nI (k0 % 31)))]) ⟨hx, hb, hml, hown, hts⟩ (r_X2_pull l9 dC dI h ak ab af ka kb n p F i (nI (k0 % 31 - 1)) hI hin (sp_n (m := k0 % 31 - 1) (by omega))) (cwV 2 hts gL_isWhole_X2_pull rfl rfl rfl (by decide +kernel) ⟨Nat.le_of_ble_eq_true rfl, Nat.le_of_ble_eq_true rfl⟩) ⟨PRo.blind, va_recv hK2 (P_left hP) (ci := 2) (q0 := 0) rfl rfl, PRo.pre (P_left hP) hK2 hE⟩ rfl rfl hl.1 rfl (lv_room (Nat.le_of_ble_eq_true rfl)) dL_isWhole_269 ⟨Nat.le_of_ble_eq_true rfl, Nat.le_of_ble_eq_true rfl⟩)) (fun r hr => ?_)
            subst hr
            refine lv_icmp_lt (tgt := 279) hx hb dL_isWhole_272 (by decide) (fun c_272 => absurd c_272 (fun q => by have q2 := pl_mono hok (show k0 % 31 - 1 ≤ k0 % 31 by omega) (by omega); rw [i32_le] at q2; rw [i32_lt] at q; omega)) (fun _ => ?_)
            refine lv_iconst (v := 1) hx hb dL_isWhole_275 (by decide) ?_
            refine lv_goto (tgt := 280) hx hb dL_isWhole_276 (by decide) ?_
            refine lv_istore_n (lv' := [(3, .int 1), (6, .int (nI i)), (5, .int (nI (pm F (i + 1)))), (0, .ref h), (1, .ref ad), (2, .int (nI k0))]) hx hb dL_isWhole_280 rfl hl (by decide) rfl (fun ls hl => ?_)
            exact K281 ls (lv_sub hl [1, 0, 2, 3, 4, 5] rfl)
      · skip
        refine lv_aload_n hx hb dL_isWhole_144 rfl (lv_at hl 3 rfl) ?_
        refine lv_iload hx hb dL_isWhole_145 (lv_at hl 0 rfl) ?_
        refine lv_iconst (v := 3) hx hb dL_isWhole_147 (by decide) ?_
        refine W_top (y := .int (nI 3)) (rfl) ?_
        refine vp_callSi (va_Run.run (va_runV (As := [.int (nI i), .int (nI 3)]) (rest := []) ⟨hx, hb, hml, hown, hts⟩ (r_X2_about l9 dC dI h ak ab af ka kb n p F i 3 hI hin (by decide)) (cwV 2 hts gL_isWhole_X2_about rfl rfl rfl (by decide +kernel) ⟨Nat.le_of_ble_eq_true rfl, Nat.le_of_ble_eq_true rfl⟩) ⟨PRo.blind, va_recv hK2 (P_left hP) (ci := 2) (q0 := 0) rfl rfl, PRo.pre (P_left hP) hK2 hE⟩ rfl rfl hl.1 rfl (lv_room (Nat.le_of_ble_eq_true rfl)) dL_isWhole_148 ⟨Nat.le_of_ble_eq_true rfl, Nat.le_of_ble_eq_true rfl⟩)) (fun r hr => ?_)
        subst hr
        refine W_top (y := .int (F 5 i)) (rfl) ?_
        rcases hok.2.2.2.2.2.1 with hq5 | ⟨j, hjp, hq5⟩
        · skip
          refine W_top (y := .int (-1)) (congrArg Value.int hq5) ?_
          refine lv_istore (lv' := [(7, .int (-1)), (6, .int (nI i)), (3, .int 1), (5, .int (nI (pm F i))), (0, .ref h), (1, .ref ad), (2, .int (nI k0))]) hx hb dL_isWhole_151 hl (by decide) rfl (fun ls hl => ?_)
          refine lv_iload hx hb dL_isWhole_153 (lv_at hl 0 rfl) ?_
          refine lv_iconst (v := (-1)) hx hb dL_isWhole_155 (by decide) ?_
          refine lv_icmp_eq (tgt := 169) hx hb dL_isWhole_156 (by decide) (fun _ => ?_) (fun c_156 => absurd (rfl) c_156)
          refine lv_iconst (v := 1) hx hb dL_isWhole_169 (by decide) ?_
          refine lv_goto (tgt := 174) hx hb dL_isWhole_170 (by decide) ?_
          refine lv_istore_n (lv' := [(3, .int 1), (7, .int (-1)), (6, .int (nI i)), (5, .int (nI (pm F i))), (0, .ref h), (1, .ref ad), (2, .int (nI k0))]) hx hb dL_isWhole_174 rfl hl (by decide) rfl (fun ls hl => ?_)
          refine lv_iload hx hb dL_isWhole_175 (lv_at hl 3 rfl) ?_
          refine lv_iload hx hb dL_isWhole_177 (lv_at hl 1 rfl) ?_
          refine lv_iconst (v := (-1)) hx hb dL_isWhole_179 (by decide) ?_
          refine lv_icmp_ne (tgt := 187) hx hb dL_isWhole_180 (by decide) (fun c_180 => absurd (rfl) c_180) (fun _ => ?_)
          refine lv_iconst (v := 0) hx hb dL_isWhole_183 (by decide) ?_
          refine lv_goto (tgt := 191) hx hb dL_isWhole_184 (by decide) ?_
          refine lv_ior hx hb dL_isWhole_191 ?_
          refine W_top (y := .int (nI (pm F (i + 1)))) (congrArg Value.int (pm_none hq5)) ?_
          refine lv_istore (lv' := [(5, .int (nI (pm F (i + 1)))), (3, .int 1), (7, .int (-1)), (6, .int (nI i)), (0, .ref h), (1, .ref ad), (2, .int (nI k0))]) hx hb dL_isWhole_192 hl (by decide) rfl (fun ls hl => ?_)
          exact K194 ls (lv_sub hl [3, 1, 0, 4, 5, 6] rfl)
        · skip
          refine W_top (y := .int (nI j)) (congrArg Value.int hq5) ?_
          refine lv_istore (lv' := [(7, .int (nI j)), (6, .int (nI i)), (3, .int 1), (5, .int (nI (pm F i))), (0, .ref h), (1, .ref ad), (2, .int (nI k0))]) hx hb dL_isWhole_151 hl (by decide) rfl (fun ls hl => ?_)
          refine lv_iload hx hb dL_isWhole_153 (lv_at hl 0 rfl) ?_
          refine lv_iconst (v := (-1)) hx hb dL_isWhole_155 (by decide) ?_
          refine lv_icmp_eq (tgt := 169) hx hb dL_isWhole_156 (by decide) (fun c_156 => absurd c_156 (nI_m1 (by omega))) (fun _ => ?_)
          refine lv_iload hx hb dL_isWhole_159 (lv_at hl 3 rfl) ?_
          refine lv_iload hx hb dL_isWhole_161 (lv_at hl 0 rfl) ?_
          refine lv_ishr hx hb dL_isWhole_163 ?_
          refine lv_iconst (v := 1) hx hb dL_isWhole_164 (by decide) ?_
          refine lv_iand hx hb dL_isWhole_165 ?_
          refine W_top (y := .int 0) (congrArg Value.int (pm_sh hI hin (by omega) hq5)) ?_
          refine lv_if_ne (tgt := 173) hx hb dL_isWhole_166 (by decide) (fun c_166 => absurd (by decide) c_166) (fun _ => ?_)
          refine lv_iconst (v := 1) hx hb dL_isWhole_169 (by decide) ?_
          refine lv_goto (tgt := 174) hx hb dL_isWhole_170 (by decide) ?_
          refine lv_istore_n (lv' := [(3, .int 1), (7, .int (nI j)), (6, .int (nI i)), (5, .int (nI (pm F i))), (0, .ref h), (1, .ref ad), (2, .int (nI k0))]) hx hb dL_isWhole_174 rfl hl (by decide) rfl (fun ls hl => ?_)
          refine lv_iload hx hb dL_isWhole_175 (lv_at hl 3 rfl) ?_
          refine lv_iload hx hb dL_isWhole_177 (lv_at hl 1 rfl) ?_
          refine lv_iconst (v := (-1)) hx hb dL_isWhole_179 (by decide) ?_
          refine lv_icmp_ne (tgt := 187) hx hb dL_isWhole_180 (by decide) (fun _ => ?_) (fun c_180 => absurd c_180 (nI_m1 (by omega)))
          refine lv_iconst (v := 1) hx hb dL_isWhole_187 (by decide) ?_
          refine lv_iload hx hb dL_isWhole_188 (lv_at hl 1 rfl) ?_
          refine lv_ishl hx hb dL_isWhole_190 ?_
          refine lv_ior hx hb dL_isWhole_191 ?_
          refine W_top (y := .int (nI (pm F (i + 1)))) (congrArg Value.int (pm_some hI hin (by omega) hq5)) ?_
          refine lv_istore (lv' := [(5, .int (nI (pm F (i + 1)))), (3, .int 1), (7, .int (nI j)), (6, .int (nI i)), (0, .ref h), (1, .ref ad), (2, .int (nI k0))]) hx hb dL_isWhole_192 hl (by decide) rfl (fun ls hl => ?_)
          exact K194 ls (lv_sub hl [3, 1, 0, 4, 5, 6] rfl)
  · skip
    have hl10 : l < 10 := Nat.not_le.mp (fun q => c_16 ((nI_leI (a := 10) (b := l) (by omega) (by omega)).mpr q))
    refine lv_iload_n hx hb dL_isWhole_19 rfl (lv_at hl 1 rfl) ?_
    refine lv_if_eq (tgt := 129) hx hb dL_isWhole_20 (by decide) (fun c_20 => absurd c_20 (by decide)) (fun _ => ?_)
    refine lv_aload_n hx hb dL_isWhole_23 rfl (lv_at hl 4 rfl) ?_
    refine lv_iload hx hb dL_isWhole_24 (lv_at hl 0 rfl) ?_
    refine vp_callSi (va_Run.run (va_runV (As := [.int (nI l)]) (rest := []) ⟨hx, hb, hml, hown, hts⟩ (r_X2_lane l9 dC dI h ak ab af ka kb n p F l hI hl10) (cwV 1 hts gL_isWhole_X2_lane rfl rfl rfl (by decide +kernel) ⟨Nat.le_of_ble_eq_true rfl, Nat.le_of_ble_eq_true rfl⟩) ⟨PRo.blind, va_recv hK2 (P_left hP) (ci := 2) (q0 := 0) rfl rfl, PRo.pre (P_left hP) hK2 hE⟩ rfl rfl hl.1 rfl (lv_room (Nat.le_of_ble_eq_true rfl)) dL_isWhole_26 ⟨Nat.le_of_ble_eq_true rfl, Nat.le_of_ble_eq_true rfl⟩)) (fun r hr => ?_)
    subst hr
    rcases hlk : lk (F 6) n (nI l) with _ | a
    · skip
      refine W_top (y := .int (-1)) (rfl) ?_
      refine lv_istore (lv' := [(7, .int (-1)), (6, .int (nI l)), (3, .int 1), (4, .int last), (5, .int 0), (0, .ref h), (1, .ref ad), (2, .int (nI k0))]) hx hb dL_isWhole_29 hl (by decide) rfl (fun ls hl => ?_)
      refine lv_iload hx hb dL_isWhole_31 (lv_at hl 0 rfl) ?_
      refine lv_iconst (v := (-1)) hx hb dL_isWhole_33 (by decide) ?_
      refine lv_icmp_eq (tgt := 123) hx hb dL_isWhole_34 (by decide) (fun _ => ?_) (fun c_34 => absurd (rfl) c_34)
      refine lv_iinc (v := nI (l + 1)) (lv' := [(6, .int (nI (l + 1))), (7, .int (-1)), (3, .int 1), (4, .int last), (5, .int 0), (0, .ref h), (1, .ref ad), (2, .int (nI k0))]) hx hb dL_isWhole_123 hl (k := 1) rfl (nI_1 _) (by decide) rfl (fun ls hl => ?_)
      refine lv_goto (tgt := 12) hx hb dL_isWhole_126 (by decide) ?_
      exact ih ((l + 1, last)) ls (by show 10 - (l + 1) < 10 - l; omega) (⟨by show l + 1 ≤ 10; omega, fun l' a' h1 h2 h3 => hlast l' a' (by have h1 : l + 1 ≤ l' := h1; omega) h2 h3⟩) (lv_sub hl [0, 2, 3, 4, 5, 6, 7] rfl)
    · skip
      obtain ⟨han, ha6⟩ := lk_some hlk
      have hne : ¬ F 6 a = -1 := by rw [ha6]; exact nI_m1 (by omega)
      obtain ⟨hv1, hv2, hv3⟩ := (hI.2.1 a han).2.2.2.2.2.2.2 hne
      have hv4 := hlast l a (Nat.le_refl l) hl10 hlk
      refine W_top (y := .int (nI a)) (rfl) ?_
      refine lv_istore (lv' := [(7, .int (nI a)), (6, .int (nI l)), (3, .int 1), (4, .int last), (5, .int 0), (0, .ref h), (1, .ref ad), (2, .int (nI k0))]) hx hb dL_isWhole_29 hl (by decide) rfl (fun ls hl => ?_)
      refine lv_iload hx hb dL_isWhole_31 (lv_at hl 0 rfl) ?_
      refine lv_iconst (v := (-1)) hx hb dL_isWhole_33 (by decide) ?_
      refine lv_icmp_eq (tgt := 123) hx hb dL_isWhole_34 (by decide) (fun c_34 => absurd c_34 (nI_m1 (by omega))) (fun _ => ?_)
      refine lv_aload_n hx hb dL_isWhole_37 rfl (lv_at hl 5 rfl) ?_
      refine lv_iload hx hb dL_isWhole_38 (lv_at hl 0 rfl) ?_
      refine lv_aload_n hx hb dL_isWhole_40 rfl (lv_at hl 6 rfl) ?_
      refine lv_iconst (v := 3) hx hb dL_isWhole_41 (by decide) ?_
      refine W_top (y := .int (nI 3)) (rfl) ?_
      refine my_iald hx hb hK hP _ 2 (ap_at (w1 := cW tK tB h ak ab af ka kb n p F) (i := 0) rfl) rfl (k := 3) (by decide) (by decide) dL_isWhole_42 ?_
      refine W_top (y := .int (F 9 0)) (congrArg Value.int (hd3)) ?_
      refine vp_callSi (va_Run.run (va_runV (As := [.int (nI a), .int (F 9 0)]) (rest := []) ⟨hx, hb, hml, hown, hts⟩ (r_X2_pull l9 dC dI h ak ab af ka kb n p F a (F 9 0) hI han hsp) (cwV 2 hts gL_isWhole_X2_pull rfl rfl rfl (by decide +kernel) ⟨Nat.le_of_ble_eq_true rfl, Nat.le_of_ble_eq_true rfl⟩) ⟨PRo.blind, va_recv hK2 (P_left hP) (ci := 2) (q0 := 0) rfl rfl, PRo.pre (P_left hP) hK2 hE⟩ rfl rfl hl.1 rfl (lv_room (Nat.le_of_ble_eq_true rfl)) dL_isWhole_43 ⟨Nat.le_of_ble_eq_true rfl, Nat.le_of_ble_eq_true rfl⟩)) (fun r hr => ?_)
      subst hr
      refine lv_istore (lv' := [(8, .int (pl F a (F 9 0))), (7, .int (nI a)), (6, .int (nI l)), (3, .int 1), (4, .int last), (5, .int 0), (0, .ref h), (1, .ref ad), (2, .int (nI k0))]) hx hb dL_isWhole_46 hl (by decide) rfl (fun ls hl => ?_)
      refine lv_aload_n hx hb dL_isWhole_48 rfl (lv_at hl 6 rfl) ?_
      refine lv_iload hx hb dL_isWhole_49 (lv_at hl 1 rfl) ?_
      refine lv_iconst (v := 4) hx hb dL_isWhole_51 (by decide) ?_
      refine W_top (y := .int (nI 4)) (rfl) ?_
      refine vp_callSi (va_Run.run (va_runV (As := [.int (nI a), .int (nI 4)]) (rest := []) ⟨hx, hb, hml, hown, hts⟩ (r_X2_about l9 dC dI h ak ab af ka kb n p F a 4 hI han (by decide)) (cwV 2 hts gL_isWhole_X2_about rfl rfl rfl (by decide +kernel) ⟨Nat.le_of_ble_eq_true rfl, Nat.le_of_ble_eq_true rfl⟩) ⟨PRo.blind, va_recv hK2 (P_left hP) (ci := 2) (q0 := 0) rfl rfl, PRo.pre (P_left hP) hK2 hE⟩ rfl rfl hl.1 rfl (lv_room (Nat.le_of_ble_eq_true rfl)) dL_isWhole_52 ⟨Nat.le_of_ble_eq_true rfl, Nat.le_of_ble_eq_true rfl⟩)) (fun r hr => ?_)
      subst hr
      refine W_top (y := .int (nI l)) (congrArg Value.int (ha6)) ?_
      refine lv_iload hx hb dL_isWhole_55 (lv_at hl 2 rfl) ?_
      refine lv_icmp_ne (tgt := 112) hx hb dL_isWhole_57 (by decide) (fun c_57 => absurd (rfl) c_57) (fun _ => ?_)
      refine lv_aload_n hx hb dL_isWhole_60 rfl (lv_at hl 6 rfl) ?_
      refine lv_iload hx hb dL_isWhole_61 (lv_at hl 1 rfl) ?_
      refine lv_iconst (v := 1) hx hb dL_isWhole_63 (by decide) ?_
      refine W_top (y := .int (nI 1)) (rfl) ?_
      refine vp_callSi (va_Run.run (va_runV (As := [.int (nI a), .int (nI 1)]) (rest := []) ⟨hx, hb, hml, hown, hts⟩ (r_X2_about l9 dC dI h ak ab af ka kb n p F a 1 hI han (by decide)) (cwV 2 hts gL_isWhole_X2_about rfl rfl rfl (by decide +kernel) ⟨Nat.le_of_ble_eq_true rfl, Nat.le_of_ble_eq_true rfl⟩) ⟨PRo.blind, va_recv hK2 (P_left hP) (ci := 2) (q0 := 0) rfl rfl, PRo.pre (P_left hP) hK2 hE⟩ rfl rfl hl.1 rfl (lv_room (Nat.le_of_ble_eq_true rfl)) dL_isWhole_64 ⟨Nat.le_of_ble_eq_true rfl, Nat.le_of_ble_eq_true rfl⟩)) (fun r hr => ?_)
      subst hr
      refine W_top (y := .int 0) (congrArg Value.int (hv1)) ?_
      refine lv_if_ne (tgt := 112) hx hb dL_isWhole_67 (by decide) (fun c_67 => absurd (by decide) c_67) (fun _ => ?_)
      refine lv_aload_n hx hb dL_isWhole_70 rfl (lv_at hl 6 rfl) ?_
      refine lv_iload hx hb dL_isWhole_71 (lv_at hl 1 rfl) ?_
      refine lv_iconst (v := 3) hx hb dL_isWhole_73 (by decide) ?_
      refine W_top (y := .int (nI 3)) (rfl) ?_
      refine vp_callSi (va_Run.run (va_runV (As := [.int (nI a), .int (nI 3)]) (rest := []) ⟨hx, hb, hml, hown, hts⟩ (r_X2_about l9 dC dI h ak ab af ka kb n p F a 3 hI han (by decide)) (cwV 2 hts gL_isWhole_X2_about rfl rfl rfl (by decide +kernel) ⟨Nat.le_of_ble_eq_true rfl, Nat.le_of_ble_eq_true rfl⟩) ⟨PRo.blind, va_recv hK2 (P_left hP) (ci := 2) (q0 := 0) rfl rfl, PRo.pre (P_left hP) hK2 hE⟩ rfl rfl hl.1 rfl (lv_room (Nat.le_of_ble_eq_true rfl)) dL_isWhole_74 ⟨Nat.le_of_ble_eq_true rfl, Nat.le_of_ble_eq_true rfl⟩)) (fun r hr => ?_)
      subst hr
      refine W_top (y := .int (F 5 a)) (rfl) ?_
      refine lv_iconst (v := (-1)) hx hb dL_isWhole_77 (by decide) ?_
      refine lv_icmp_eq (tgt := 112) hx hb dL_isWhole_78 (by decide) (fun c_78 => absurd c_78 (hv2)) (fun _ => ?_)
      refine lv_iload hx hb dL_isWhole_81 (lv_at hl 0 rfl) ?_
      refine lv_bipush (v := 100) hx hb dL_isWhole_83 (by decide) ?_
      refine lv_icmp_lt (tgt := 112) hx hb dL_isWhole_85 (by decide) (fun c_85 => absurd c_85 (fun q => by have q2 := hv3.1; rw [i32_lt] at q; rw [i32_le] at q2; omega)) (fun _ => ?_)
      refine lv_iload hx hb dL_isWhole_88 (lv_at hl 0 rfl) ?_
      refine lv_sipush (v := 6000) hx hb dL_isWhole_90 (by decide) ?_
      refine lv_icmp_gt (tgt := 112) hx hb dL_isWhole_93 (by decide) (fun c_93 => absurd c_93 (fun q => by have q2 := hv3.2; rw [i32_lt] at q; rw [i32_le] at q2; omega)) (fun _ => ?_)
      refine lv_aload_n hx hb dL_isWhole_96 rfl (lv_at hl 6 rfl) ?_
      refine lv_iload hx hb dL_isWhole_97 (lv_at hl 1 rfl) ?_
      refine lv_iconst (v := 5) hx hb dL_isWhole_99 (by decide) ?_
      refine W_top (y := .int (nI 5)) (rfl) ?_
      refine vp_callSi (va_Run.run (va_runV (As := [.int (nI a), .int (nI 5)]) (rest := []) ⟨hx, hb, hml, hown, hts⟩ (r_X2_about l9 dC dI h ak ab af ka kb n p F a 5 hI han (by decide)) (cwV 2 hts gL_isWhole_X2_about rfl rfl rfl (by decide +kernel) ⟨Nat.le_of_ble_eq_true rfl, Nat.le_of_ble_eq_true rfl⟩) ⟨PRo.blind, va_recv hK2 (P_left hP) (ci := 2) (q0 := 0) rfl rfl, PRo.pre (P_left hP) hK2 hE⟩ rfl rfl hl.1 rfl (lv_room (Nat.le_of_ble_eq_true rfl)) dL_isWhole_100 ⟨Nat.le_of_ble_eq_true rfl, Nat.le_of_ble_eq_true rfl⟩)) (fun r hr => ?_)
      subst hr
      refine W_top (y := .int (ed F a)) (congrArg Value.int ((if_neg hne : (if F 6 a = -1 then (-1 : Int32) else ed F a) = ed F a))) ?_
      refine lv_iload hx hb dL_isWhole_103 (lv_at hl 4 rfl) ?_
      refine lv_icmp_le (tgt := 112) hx hb dL_isWhole_105 (by decide) (fun c_105 => absurd c_105 (fun q => by rw [i32_le] at q; omega)) (fun _ => ?_)
      refine lv_iconst (v := 1) hx hb dL_isWhole_108 (by decide) ?_
      refine lv_goto (tgt := 113) hx hb dL_isWhole_109 (by decide) ?_
      refine lv_istore_n (lv' := [(3, .int 1), (8, .int (pl F a (F 9 0))), (7, .int (nI a)), (6, .int (nI l)), (4, .int last), (5, .int 0), (0, .ref h), (1, .ref ad), (2, .int (nI k0))]) hx hb dL_isWhole_113 rfl hl (by decide) rfl (fun ls hl => ?_)
      refine lv_aload_n hx hb dL_isWhole_114 rfl (lv_at hl 6 rfl) ?_
      refine lv_iload hx hb dL_isWhole_115 (lv_at hl 2 rfl) ?_
      refine lv_iconst (v := 5) hx hb dL_isWhole_117 (by decide) ?_
      refine W_top (y := .int (nI 5)) (rfl) ?_
      refine vp_callSi (va_Run.run (va_runV (As := [.int (nI a), .int (nI 5)]) (rest := []) ⟨hx, hb, hml, hown, hts⟩ (r_X2_about l9 dC dI h ak ab af ka kb n p F a 5 hI han (by decide)) (cwV 2 hts gL_isWhole_X2_about rfl rfl rfl (by decide +kernel) ⟨Nat.le_of_ble_eq_true rfl, Nat.le_of_ble_eq_true rfl⟩) ⟨PRo.blind, va_recv hK2 (P_left hP) (ci := 2) (q0 := 0) rfl rfl, PRo.pre (P_left hP) hK2 hE⟩ rfl rfl hl.1 rfl (lv_room (Nat.le_of_ble_eq_true rfl)) dL_isWhole_118 ⟨Nat.le_of_ble_eq_true rfl, Nat.le_of_ble_eq_true rfl⟩)) (fun r hr => ?_)
      subst hr
      refine W_top (y := .int (ed F a)) (congrArg Value.int ((if_neg hne : (if F 6 a = -1 then (-1 : Int32) else ed F a) = ed F a))) ?_
      refine lv_istore (lv' := [(4, .int (ed F a)), (3, .int 1), (8, .int (pl F a (F 9 0))), (7, .int (nI a)), (6, .int (nI l)), (5, .int 0), (0, .ref h), (1, .ref ad), (2, .int (nI k0))]) hx hb dL_isWhole_121 hl (by decide) rfl (fun ls hl => ?_)
      refine lv_iinc (v := nI (l + 1)) (lv' := [(6, .int (nI (l + 1))), (4, .int (ed F a)), (3, .int 1), (8, .int (pl F a (F 9 0))), (7, .int (nI a)), (5, .int 0), (0, .ref h), (1, .ref ad), (2, .int (nI k0))]) hx hb dL_isWhole_123 hl (k := 4) rfl (nI_1 _) (by decide) rfl (fun ls hl => ?_)
      refine lv_goto (tgt := 12) hx hb dL_isWhole_126 (by decide) ?_
      have hnx : ∀ l' a', l + 1 ≤ l' → l' < 10 → lk (F 6) n (nI l') = some a' → (ed F a).toInt < (ed F a').toInt := fun l' a' h1 h2 h3 => ed_lt hI (by omega) h2 hlk h3
      exact ih ((l + 1, ed F a)) ls (by show 10 - (l + 1) < 10 - l; omega) (⟨by show l + 1 ≤ 10; omega, hnx⟩) (lv_sub hl [0, 2, 1, 5, 6, 7, 8] rfl)
