def sQ (dC : Nat → ClassId) (dI : Nat → Nat → Nat) (tK tB cI : ClassId) (h ak ab af ad ag ah : Nat) (A : Nat → Prop) : Array Value → State → Outcome → State → Prop := va_Qi (S := (Nat → Nat) × (Nat → Nat) × Nat × Nat × Rows × (Nat → Int32) × (Nat → Int32) × (Nat → Int32)) (fun r9 u => r9 = 1 ∧ LI u.2.2.1 u.2.2.2.1 u.2.2.2.2.1 u.2.2.2.2.2.1 u.2.2.2.2.2.2.1 u.2.2.2.2.2.2.2) (fun u t => va_P (dC, dI) vwCl (sW tK tB cI h ak ab af ad ag ah u.1 u.2.1 u.2.2.1 u.2.2.2.1 u.2.2.2.2.1 u.2.2.2.2.2.1 u.2.2.2.2.2.2.1 u.2.2.2.2.2.2.2) t.heap ∧ va_D A (sW tK tB cI h ak ab af ad ag ah u.1 u.2.1 u.2.2.1 u.2.2.2.1 u.2.2.2.2.1 u.2.2.2.2.2.1 u.2.2.2.2.2.2.1 u.2.2.2.2.2.2.2)) A
theorem sQ_mk {dC : Nat → ClassId} {dI : Nat → Nat → Nat} {tK tB cI : ClassId} {h ak ab af ad ag ah : Nat} {A : Nat → Prop} {as : Array Value} {st t : State} (ka kb : Nat → Nat) (n p : Nat) (F : Rows) (df gf hf : Nat → Int32) (hL : LI n p F df gf hf) (h3 : va_P (dC, dI) vwCl (sW tK tB cI h ak ab af ad ag ah ka kb n p F df gf hf) t.heap) (h4 : va_D A (sW tK tB cI h ak ab af ad ag ah ka kb n p F df gf hf)) (h5 : va_F A st t) : sQ dC dI tK tB cI h ak ab af ad ag ah A as st (.returned (some (.int 1))) t := ⟨⟨1, (ka, kb, n, p, F, df, gf, hf), rfl, ⟨rfl, hL⟩, h3, h4⟩, h5⟩

set_option maxHeartbeats 4000000 in
set_option maxRecDepth 100000 in
theorem c_L_step (l9 : Launch) (hlt : l9.stackTraces = false) (dC : Nat → ClassId) (dI : Nat → Nat → Nat) (sz : Nat) {tK tB cI : ClassId} (h ak ab af ad ag ah : Nat) (ka kb : Nat → Nat) (n p : Nat) (F : Rows) (df gf hf : Nat → Int32) (w0 a0 b0 : Nat) (hL : LI n p F df gf hf) (hw0 : w0 < 2147483648) (ha0 : a0 < 2147483648) (hb0 : b0 < 2147483648) : Met l9 yL_step wsL_step ({ frames := 10, cells := 3, slots := 18, locals := 191 }) (va_Pc [.ref h, .ref ad, .ref ag, .ref ah, .int (nI w0), .int (nI a0), .int (nI b0)] (PWr dC dI [(tK, .object "Windlane$Kite"), (tB, .object "Windlane$Borrower"), (cI, .int)] (sW tK tB cI h ak ab af ad ag ah ka kb n p F df gf hf) sz)) (sQ dC dI tK tB cI h ak ab af ad ag ah (va_A (sW tK tB cI h ak ab af ad ag ah ka kb n p F df gf hf) sz)) 3 18 (va_A (sW tK tB cI h ak ab af ad ag ah ka kb n p F df gf hf) sz) := by
  refine Met.ofW (cc := cL_step) (maxL := 24) (ret := (some .boolean)) (by decide) rfl ?_
  intro p9 e9 s m args below meth c s₁ B hml hv
  obtain ⟨rfl, hsz, hP, hK, hD0, hE, hH⟩ := hv
  have hx := B.exec
  have hb := B.bytes
  have hr := B.returns
  have hts := atoms_spec (ws := wsL_step) B.pre
  have hown : s.vm.findClass RL = some m.cls := findClass_of_methodNamed B.named
  have hlocks := B.notSynchronized
  subst hsz
  have hD := hD0.self (sz := s.heap.size)
  generalize hAe : va_A (sW tK tB cI h ak ab af ad ag ah ka kb n p F df gf hf) s.heap.size = A at hD hH ⊢
  have hA : ∀ q : Nat, s.heap.size ≤ q → A q := fun q h => by rw [← hAe]; exact Or.inr h
  have hS : va_S A s.heap s.heap [] := va_S.rf
  have hP : va_P (dC, dI) vwCl (sW tK tB cI h ak ab af ad ag ah ka kb n p F df gf hf) s.heap := hP
  obtain ⟨hI, hI2, ⟨hd0, hd1, hd2, hd3⟩, hgf, hhf⟩ := id hL
  have hn8 : n ≤ 8 := hI.1.1
  have hp8 : p ≤ 8 := hI.1.2
  have hK2 := hK.sub (tys' := [(tK, .object "Windlane$Kite"), (tB, .object "Windlane$Borrower")]) [0, 1] rfl
  have hl := lv_entry ([.ref h, .ref ad, .ref ag, .ref ah, .int (nI w0), .int (nI a0), .int (nI b0)]) (n := 24) (Nat.le_of_ble_eq_true rfl)
  rw [lg_entry_eq]
  generalize (lg_sl ([.ref h, .ref ad, .ref ag, .ref ah, .int (nI w0), .int (nI a0), .int (nI b0)]) ++ List.replicate (24 - (lg_sl ([.ref h, .ref ad, .ref ag, .ref ah, .int (nI w0), .int (nI a0), .int (nI b0)])).length) Slot.unset).toArray = ls at hl ⊢
  have hl : lv_has ls 24 [(0, .ref h), (1, .ref ad), (2, .ref ag), (3, .ref ah), (4, .int (nI w0)), (5, .int (nI a0)), (6, .int (nI b0))] := hl
  have K : ∀ (pc : Nat) (ka kb : Nat → Nat) (n p : Nat) (F : Rows) (df gf hf : Nat → Int32) (H : Heap) (locs : List Loc) (ls : Array Slot), decode cL_step pc = .ok (.ireturn, 1) → LI n p F df gf hf → va_P (dC, dI) vwCl (sW tK tB cI h ak ab af ad ag ah ka kb n p F df gf hf) H → va_D A (sW tK tB cI h ak ab af ad ag ah ka kb n p F df gf hf) → va_S A s.heap H locs → W p9 l9 e9 (headSpec wsL_step ({ frames := 10, cells := 3, slots := 18, locals := 191 })).room s m #[.ref h, .ref ad, .ref ag, .ref ah, .int (nI w0), .int (nI a0), .int (nI b0)] below meth c H locs 3 18 (MQ below (sQ dC dI tK tB cI h ak ab af ad ag ah A) #[.ref h, .ref ad, .ref ag, .ref ah, .int (nI w0), .int (nI a0), .int (nI b0)] s 3 18 A) (F0 m pc ls [.int 1]) := by
    intro pc ka kb n p F df gf hf H locs ls hdg hL hP hD hS
    exact W.zret (v := 1) hx hb hr rfl (fun t ht hW => sQ_mk ka kb n p F df gf hf hL (by rw [ht]; exact hP) hD (hS.F ht)) hS.2.2 hdg
  refine lv_aload_n hx hb dL_step_0 rfl (lv_at hl 1 rfl) ?_
  refine lv_iconst (v := 0) hx hb dL_step_1 (by decide) ?_
  refine W_top (y := .int (nI 0)) (rfl) ?_
  refine my_iald hx hb hK hP _ 2 (ap_at (w1 := cW tK tB h ak ab af ka kb n p F) (i := 0) rfl) rfl (k := 0) (by decide) (by decide) dL_step_2 ?_
  refine W_top (y := .int (nI n)) (congrArg Value.int (hd0)) ?_
  refine lv_if_ne (tgt := 10) hx hb dL_step_3 (by decide) (fun c_3 => ?_) (fun c_3 => ?_)
  · skip
    have hn1 : 1 ≤ n := nI_nz c_3
    refine lv_iload hx hb dL_step_10 (lv_at hl 5 rfl) ?_
    refine lv_aload_n hx hb dL_step_12 rfl (lv_at hl 1 rfl) ?_
    refine lv_iconst (v := 0) hx hb dL_step_13 (by decide) ?_
    refine W_top (y := .int (nI 0)) (rfl) ?_
    refine my_iald hx hb hK hP _ 2 (ap_at (w1 := cW tK tB h ak ab af ka kb n p F) (i := 0) rfl) rfl (k := 0) (by decide) (by decide) dL_step_14 ?_
    refine W_top (y := .int (nI n)) (congrArg Value.int (hd0)) ?_
    refine lv_irem hx hb dL_step_15 (c_3) ?_
    refine W_top (y := .int (nI (a0 % n))) (congrArg Value.int (pk_rem (a := a0) (d := n) (by omega) (by omega) (by omega))) ?_
    refine lv_istore (lv' := [(7, .int (nI (a0 % n))), (0, .ref h), (1, .ref ad), (2, .ref ag), (3, .ref ah), (4, .int (nI w0)), (5, .int (nI a0)), (6, .int (nI b0))]) hx hb dL_step_16 hl (by decide) rfl (fun ls hl => ?_)
    refine lv_aload_n hx hb dL_step_18 rfl (lv_at hl 2 rfl) ?_
    refine lv_iconst (v := 1) hx hb dL_step_19 (by decide) ?_
    refine W_top (y := .int (nI 1)) (rfl) ?_
    refine my_iald hx hb hK hP _ 2 (ap_at (w1 := cW tK tB h ak ab af ka kb n p F) (i := 0) rfl) rfl (k := 1) (by decide) (by decide) dL_step_20 ?_
    refine W_top (y := .int (nI p)) (congrArg Value.int (hd1)) ?_
    refine lv_if_ne (tgt := 28) hx hb dL_step_21 (by decide) (fun c_21 => ?_) (fun c_21 => ?_)
    · skip
      have hp1 : 1 ≤ p := nI_nz c_21
      refine lv_iload hx hb dL_step_28 (lv_at hl 7 rfl) ?_
      refine lv_aload_n hx hb dL_step_30 rfl (lv_at hl 2 rfl) ?_
      refine lv_iconst (v := 1) hx hb dL_step_31 (by decide) ?_
      refine W_top (y := .int (nI 1)) (rfl) ?_
      refine my_iald hx hb hK hP _ 2 (ap_at (w1 := cW tK tB h ak ab af ka kb n p F) (i := 0) rfl) rfl (k := 1) (by decide) (by decide) dL_step_32 ?_
      refine W_top (y := .int (nI p)) (congrArg Value.int (hd1)) ?_
      refine lv_irem hx hb dL_step_33 (c_21) ?_
      refine W_top (y := .int (nI (b0 % p))) (congrArg Value.int (pk_rem (a := b0) (d := p) (by omega) (by omega) (by omega))) ?_
      refine lv_istore (lv' := [(8, .int (nI (b0 % p))), (7, .int (nI (a0 % n))), (0, .ref h), (1, .ref ad), (2, .ref ag), (3, .ref ah), (4, .int (nI w0)), (5, .int (nI a0)), (6, .int (nI b0))]) hx hb dL_step_34 hl (by decide) rfl (fun ls hl => ?_)
      refine lv_aload_n hx hb dL_step_36 rfl (lv_at hl 3 rfl) ?_
      refine lv_iconst (v := 0) hx hb dL_step_37 (by decide) ?_
      refine W_top (y := .int (nI 0)) (rfl) ?_
      refine my_iald hx hb hK hP _ 2 (ap_at (w1 := cW tK tB h ak ab af ka kb n p F) (i := 0) rfl) rfl (k := 0) (by decide) (by decide) dL_step_38 ?_
      refine W_top (y := .int (nI n)) (congrArg Value.int (hd0)) ?_
      refine lv_if_ne (tgt := 46) hx hb dL_step_39 (by decide) (fun _ => ?_) (fun c_39 => absurd c_39 (c_3))
      refine lv_aload_n hx hb dL_step_46 rfl (lv_at hl 3 rfl) ?_
      refine lv_iconst (v := 1) hx hb dL_step_47 (by decide) ?_
      refine W_top (y := .int (nI 1)) (rfl) ?_
      refine my_iald hx hb hK hP _ 2 (ap_at (w1 := cW tK tB h ak ab af ka kb n p F) (i := 0) rfl) rfl (k := 1) (by decide) (by decide) dL_step_48 ?_
      refine W_top (y := .int (nI p)) (congrArg Value.int (hd1)) ?_
      refine lv_if_ne (tgt := 56) hx hb dL_step_49 (by decide) (fun _ => ?_) (fun c_49 => absurd c_49 (c_21))
      refine lv_iload hx hb dL_step_56 (lv_at hl 6 rfl) ?_
      refine lv_bipush (v := 18) hx hb dL_step_58 (by decide) ?_
      refine lv_irem hx hb dL_step_60 (by decide) ?_
      refine W_top (y := .int (nI (w0 % 18))) (congrArg Value.int (pk_rem (a := w0) (d := 18) (by omega) (by decide) (by omega))) ?_
      obtain ⟨i, hi, e⟩ : ∃ i, i < 18 ∧ w0 % 18 = i := ⟨_, Nat.mod_lt _ (by decide), rfl⟩
      refine W_top (y := .int (nI i)) (congrArg (fun z => Value.int (nI z)) e) ?_
      obtain rfl | rfl | rfl | rfl | rfl | rfl | rfl | rfl | rfl | rfl | rfl | rfl | rfl | rfl | rfl | rfl | rfl | rfl : i = 0 ∨ i = 1 ∨ i = 2 ∨ i = 3 ∨ i = 4 ∨ i = 5 ∨ i = 6 ∨ i = 7 ∨ i = 8 ∨ i = 9 ∨ i = 10 ∨ i = 11 ∨ i = 12 ∨ i = 13 ∨ i = 14 ∨ i = 15 ∨ i = 16 ∨ i = 17 := by omega
      · refine lv_tableIn (off := 71) (tgt := 132) hx hb dL_step_61 (by decide) (by decide) (by decide) (by decide) ?_
        exact st_kite hlt hx hb hml hown hts hK hE hH hA hL ha0 hb0 hP hD hS (lv_sub hl [2, 3, 4, 5, 7, 8] rfl) K
      · refine lv_tableIn (off := 212) (tgt := 273) hx hb dL_step_61 (by decide) (by decide) (by decide) (by decide) ?_
        exact st_bor hlt hx hb hml hown hts hK hE hH hA hL ha0 hb0 hP hD hS (lv_sub hl [2, 3, 4, 5, 7, 8] rfl) K
      · refine lv_tableIn (off := 278) (tgt := 339) hx hb dL_step_61 (by decide) (by decide) (by decide) (by decide) ?_
        exact st_lend hlt hx hb hml hown hts hK hE hH hA hL ha0 hb0 (k := a0 % n) (j := b0 % p) (Nat.mod_lt _ hn1) (Nat.mod_lt _ hp1) hP hD hS (lv_sub hl [2, 3, 4, 5, 7, 8, 1, 0] rfl) K
      · refine lv_tableIn (off := 278) (tgt := 339) hx hb dL_step_61 (by decide) (by decide) (by decide) (by decide) ?_
        exact st_lend hlt hx hb hml hown hts hK hE hH hA hL ha0 hb0 (k := a0 % n) (j := b0 % p) (Nat.mod_lt _ hn1) (Nat.mod_lt _ hp1) hP hD hS (lv_sub hl [2, 3, 4, 5, 7, 8, 1, 0] rfl) K
      · refine lv_tableIn (off := 278) (tgt := 339) hx hb dL_step_61 (by decide) (by decide) (by decide) (by decide) ?_
        exact st_lend hlt hx hb hml hown hts hK hE hH hA hL ha0 hb0 (k := a0 % n) (j := b0 % p) (Nat.mod_lt _ hn1) (Nat.mod_lt _ hp1) hP hD hS (lv_sub hl [2, 3, 4, 5, 7, 8, 1, 0] rfl) K
      · refine lv_tableIn (off := 386) (tgt := 447) hx hb dL_step_61 (by decide) (by decide) (by decide) (by decide) ?_
        exact st_back hlt hx hb hml hown hts hK hE hH hA hL ha0 hb0 (k := a0 % n) (j := b0 % p) (Nat.mod_lt _ hn1) (Nat.mod_lt _ hp1) hP hD hS (lv_sub hl [2, 3, 4, 5, 7, 8, 1, 0] rfl) K
      · refine lv_tableIn (off := 471) (tgt := 532) hx hb dL_step_61 (by decide) (by decide) (by decide) (by decide) ?_
        exact st_fly hlt hx hb hml hown hts hK hE hH hA hL ha0 hb0 (k := a0 % n) (j := b0 % p) (Nat.mod_lt _ hn1) (Nat.mod_lt _ hp1) hP hD hS (lv_sub hl [2, 3, 4, 5, 7, 8, 1, 0] rfl) K
      · refine lv_tableIn (off := 471) (tgt := 532) hx hb dL_step_61 (by decide) (by decide) (by decide) (by decide) ?_
        exact st_fly hlt hx hb hml hown hts hK hE hH hA hL ha0 hb0 (k := a0 % n) (j := b0 % p) (Nat.mod_lt _ hn1) (Nat.mod_lt _ hp1) hP hD hS (lv_sub hl [2, 3, 4, 5, 7, 8, 1, 0] rfl) K
      · refine lv_tableIn (off := 471) (tgt := 532) hx hb dL_step_61 (by decide) (by decide) (by decide) (by decide) ?_
        exact st_fly hlt hx hb hml hown hts hK hE hH hA hL ha0 hb0 (k := a0 % n) (j := b0 % p) (Nat.mod_lt _ hn1) (Nat.mod_lt _ hp1) hP hD hS (lv_sub hl [2, 3, 4, 5, 7, 8, 1, 0] rfl) K
      · refine lv_tableIn (off := 471) (tgt := 532) hx hb dL_step_61 (by decide) (by decide) (by decide) (by decide) ?_
        exact st_fly hlt hx hb hml hown hts hK hE hH hA hL ha0 hb0 (k := a0 % n) (j := b0 % p) (Nat.mod_lt _ hn1) (Nat.mod_lt _ hp1) hP hD hS (lv_sub hl [2, 3, 4, 5, 7, 8, 1, 0] rfl) K
      · refine lv_tableIn (off := 495) (tgt := 556) hx hb dL_step_61 (by decide) (by decide) (by decide) (by decide) ?_
        exact st_land hlt hx hb hml hown hts hK hE hH hA hL ha0 hb0 (k := a0 % n) (j := b0 % p) (Nat.mod_lt _ hn1) (Nat.mod_lt _ hp1) hP hD hS (lv_sub hl [2, 3, 4, 5, 7, 8, 1, 0] rfl) K
      · refine lv_tableIn (off := 562) (tgt := 623) hx hb dL_step_61 (by decide) (by decide) (by decide) (by decide) ?_
        exact st_patch hlt hx hb hml hown hts hK hE hH hA hL ha0 hb0 (k := a0 % n) (j := b0 % p) (Nat.mod_lt _ hn1) (Nat.mod_lt _ hp1) hP hD hS (lv_sub hl [2, 3, 4, 5, 7, 8, 1, 0] rfl) K
      · refine lv_tableIn (off := 675) (tgt := 736) hx hb dL_step_61 (by decide) (by decide) (by decide) (by decide) ?_
        exact st_rain hlt hx hb hml hown hts hK hE hH hA hL ha0 hb0 (k := a0 % n) (j := b0 % p) (Nat.mod_lt _ hn1) (Nat.mod_lt _ hp1) hP hD hS (lv_sub hl [2, 3, 4, 5, 7, 8, 1, 0] rfl) K
      · refine lv_tableIn (off := 735) (tgt := 796) hx hb dL_step_61 (by decide) (by decide) (by decide) (by decide) ?_
        exact st_pass hlt hx hb hml hown hts hK hE hH hA hL ha0 hb0 (k := a0 % n) (j := b0 % p) (Nat.mod_lt _ hn1) (Nat.mod_lt _ hp1) hP hD hS (lv_sub hl [2, 3, 4, 5, 7, 8, 1, 0] rfl) K
      · refine lv_tableOut (tgt := 811) hx hb dL_step_61 (by decide) (by decide) ?_
        exact st_wind hlt hx hb hml hown hts hK hE hH hA hL ha0 hb0 (k := a0 % n) (j := b0 % p) (Nat.mod_lt _ hn1) (Nat.mod_lt _ hp1) hP hD hS (lv_sub hl [2, 3, 4, 5, 7, 8, 1, 0] rfl) K
      · refine lv_tableOut (tgt := 811) hx hb dL_step_61 (by decide) (by decide) ?_
        exact st_wind hlt hx hb hml hown hts hK hE hH hA hL ha0 hb0 (k := a0 % n) (j := b0 % p) (Nat.mod_lt _ hn1) (Nat.mod_lt _ hp1) hP hD hS (lv_sub hl [2, 3, 4, 5, 7, 8, 1, 0] rfl) K
      · refine lv_tableOut (tgt := 811) hx hb dL_step_61 (by decide) (by decide) ?_
        exact st_wind hlt hx hb hml hown hts hK hE hH hA hL ha0 hb0 (k := a0 % n) (j := b0 % p) (Nat.mod_lt _ hn1) (Nat.mod_lt _ hp1) hP hD hS (lv_sub hl [2, 3, 4, 5, 7, 8, 1, 0] rfl) K
      · refine lv_tableOut (tgt := 811) hx hb dL_step_61 (by decide) (by decide) ?_
        exact st_wind hlt hx hb hml hown hts hK hE hH hA hL ha0 hb0 (k := a0 % n) (j := b0 % p) (Nat.mod_lt _ hn1) (Nat.mod_lt _ hp1) hP hD hS (lv_sub hl [2, 3, 4, 5, 7, 8, 1, 0] rfl) K
    · skip
      refine lv_iconst (v := 0) hx hb dL_step_24 (by decide) ?_
      refine lv_goto (tgt := 34) hx hb dL_step_25 (by decide) ?_
      refine lv_istore (lv' := [(8, .int 0), (7, .int (nI (a0 % n))), (0, .ref h), (1, .ref ad), (2, .ref ag), (3, .ref ah), (4, .int (nI w0)), (5, .int (nI a0)), (6, .int (nI b0))]) hx hb dL_step_34 hl (by decide) rfl (fun ls hl => ?_)
      refine lv_aload_n hx hb dL_step_36 rfl (lv_at hl 3 rfl) ?_
      refine lv_iconst (v := 0) hx hb dL_step_37 (by decide) ?_
      refine W_top (y := .int (nI 0)) (rfl) ?_
      refine my_iald hx hb hK hP _ 2 (ap_at (w1 := cW tK tB h ak ab af ka kb n p F) (i := 0) rfl) rfl (k := 0) (by decide) (by decide) dL_step_38 ?_
      refine W_top (y := .int (nI n)) (congrArg Value.int (hd0)) ?_
      refine lv_if_ne (tgt := 46) hx hb dL_step_39 (by decide) (fun _ => ?_) (fun c_39 => absurd c_39 (c_3))
      refine lv_aload_n hx hb dL_step_46 rfl (lv_at hl 3 rfl) ?_
      refine lv_iconst (v := 1) hx hb dL_step_47 (by decide) ?_
      refine W_top (y := .int (nI 1)) (rfl) ?_
      refine my_iald hx hb hK hP _ 2 (ap_at (w1 := cW tK tB h ak ab af ka kb n p F) (i := 0) rfl) rfl (k := 1) (by decide) (by decide) dL_step_48 ?_
      refine W_top (y := .int (nI p)) (congrArg Value.int (hd1)) ?_
      refine lv_if_ne (tgt := 56) hx hb dL_step_49 (by decide) (fun c_49 => absurd (c_21) c_49) (fun _ => ?_)
      refine lv_iconst (v := 1) hx hb dL_step_52 (by decide) ?_
      refine lv_goto (tgt := 61) hx hb dL_step_53 (by decide) ?_
      refine lv_tableIn (off := 212) (tgt := 273) hx hb dL_step_61 (by decide) (by decide) (by decide) (by decide) ?_
      exact st_bor hlt hx hb hml hown hts hK hE hH hA hL ha0 hb0 hP hD hS (lv_sub hl [2, 3, 4, 5, 7, 8] rfl) K
  · skip
    refine lv_iconst (v := 0) hx hb dL_step_6 (by decide) ?_
    refine lv_goto (tgt := 16) hx hb dL_step_7 (by decide) ?_
    refine lv_istore (lv' := [(7, .int 0), (0, .ref h), (1, .ref ad), (2, .ref ag), (3, .ref ah), (4, .int (nI w0)), (5, .int (nI a0)), (6, .int (nI b0))]) hx hb dL_step_16 hl (by decide) rfl (fun ls hl => ?_)
    refine lv_aload_n hx hb dL_step_18 rfl (lv_at hl 2 rfl) ?_
    refine lv_iconst (v := 1) hx hb dL_step_19 (by decide) ?_
    refine W_top (y := .int (nI 1)) (rfl) ?_
    refine my_iald hx hb hK hP _ 2 (ap_at (w1 := cW tK tB h ak ab af ka kb n p F) (i := 0) rfl) rfl (k := 1) (by decide) (by decide) dL_step_20 ?_
    refine W_top (y := .int (nI p)) (congrArg Value.int (hd1)) ?_
    refine lv_if_ne (tgt := 28) hx hb dL_step_21 (by decide) (fun c_21 => ?_) (fun c_21 => ?_)
    · skip
      have hp1 : 1 ≤ p := nI_nz c_21
      refine lv_iload hx hb dL_step_28 (lv_at hl 7 rfl) ?_
      refine lv_aload_n hx hb dL_step_30 rfl (lv_at hl 2 rfl) ?_
      refine lv_iconst (v := 1) hx hb dL_step_31 (by decide) ?_
      refine W_top (y := .int (nI 1)) (rfl) ?_
      refine my_iald hx hb hK hP _ 2 (ap_at (w1 := cW tK tB h ak ab af ka kb n p F) (i := 0) rfl) rfl (k := 1) (by decide) (by decide) dL_step_32 ?_
      refine W_top (y := .int (nI p)) (congrArg Value.int (hd1)) ?_
      refine lv_irem hx hb dL_step_33 (c_21) ?_
      refine W_top (y := .int (nI (b0 % p))) (congrArg Value.int (pk_rem (a := b0) (d := p) (by omega) (by omega) (by omega))) ?_
      refine lv_istore (lv' := [(8, .int (nI (b0 % p))), (7, .int 0), (0, .ref h), (1, .ref ad), (2, .ref ag), (3, .ref ah), (4, .int (nI w0)), (5, .int (nI a0)), (6, .int (nI b0))]) hx hb dL_step_34 hl (by decide) rfl (fun ls hl => ?_)
      refine lv_aload_n hx hb dL_step_36 rfl (lv_at hl 3 rfl) ?_
      refine lv_iconst (v := 0) hx hb dL_step_37 (by decide) ?_
      refine W_top (y := .int (nI 0)) (rfl) ?_
      refine my_iald hx hb hK hP _ 2 (ap_at (w1 := cW tK tB h ak ab af ka kb n p F) (i := 0) rfl) rfl (k := 0) (by decide) (by decide) dL_step_38 ?_
      refine W_top (y := .int (nI n)) (congrArg Value.int (hd0)) ?_
      refine lv_if_ne (tgt := 46) hx hb dL_step_39 (by decide) (fun c_39 => absurd (c_3) c_39) (fun _ => ?_)
      refine lv_iconst (v := 0) hx hb dL_step_42 (by decide) ?_
      refine lv_goto (tgt := 61) hx hb dL_step_43 (by decide) ?_
      refine lv_tableIn (off := 71) (tgt := 132) hx hb dL_step_61 (by decide) (by decide) (by decide) (by decide) ?_
      exact st_kite hlt hx hb hml hown hts hK hE hH hA hL ha0 hb0 hP hD hS (lv_sub hl [2, 3, 4, 5, 7, 8] rfl) K
    · skip
      refine lv_iconst (v := 0) hx hb dL_step_24 (by decide) ?_
      refine lv_goto (tgt := 34) hx hb dL_step_25 (by decide) ?_
      refine lv_istore (lv' := [(8, .int 0), (7, .int 0), (0, .ref h), (1, .ref ad), (2, .ref ag), (3, .ref ah), (4, .int (nI w0)), (5, .int (nI a0)), (6, .int (nI b0))]) hx hb dL_step_34 hl (by decide) rfl (fun ls hl => ?_)
      refine lv_aload_n hx hb dL_step_36 rfl (lv_at hl 3 rfl) ?_
      refine lv_iconst (v := 0) hx hb dL_step_37 (by decide) ?_
      refine W_top (y := .int (nI 0)) (rfl) ?_
      refine my_iald hx hb hK hP _ 2 (ap_at (w1 := cW tK tB h ak ab af ka kb n p F) (i := 0) rfl) rfl (k := 0) (by decide) (by decide) dL_step_38 ?_
      refine W_top (y := .int (nI n)) (congrArg Value.int (hd0)) ?_
      refine lv_if_ne (tgt := 46) hx hb dL_step_39 (by decide) (fun c_39 => absurd (c_3) c_39) (fun _ => ?_)
      refine lv_iconst (v := 0) hx hb dL_step_42 (by decide) ?_
      refine lv_goto (tgt := 61) hx hb dL_step_43 (by decide) ?_
      refine lv_tableIn (off := 71) (tgt := 132) hx hb dL_step_61 (by decide) (by decide) (by decide) (by decide) ?_
      exact st_kite hlt hx hb hml hown hts hK hE hH hA hL ha0 hb0 hP hD hS (lv_sub hl [2, 3, 4, 5, 7, 8] rfl) K
