set_option maxHeartbeats 4000000 in
set_option maxRecDepth 100000 in
theorem law_rain {p9 : Program} {l : Launch} (hlt : l.stackTraces = false) {e9 : Env} {s : State} {m : MethodId} {below : List Frame} {meth : Method} {c : Code} {b L : Nat} {xs : Nat → Int32} (C0 : lw_At p9 s m meth c b L xs) (hL : L ≤ 2048) {dC : Nat → ClassId} {dI : Nat → Nat → Nat} {tK tB cI cZ cJ : ClassId} {h ak ab af o r : Nat} {a : Nat → Nat} (hK : va_K (dC, dI) vwCl (lTy tK tB cI cZ cJ) s) (hE : EN s) (hH0 : EH (lA s) s s.heap) {ka kb : Nat → Nat} {n p : Nat} {F : Rows} {th : Int32} {f : Nat → Int64} (hI : Inv n p F) {j : Nat} (hj : 4 * j + 4 ≤ L) {H : Heap} {locs : List Loc} {ls : Array Slot} {cells slots : Nat} (hcl9 : cells + 3 ≤ 601024) (hsl9 : slots + 18 ≤ 7293034) (hP : va_P (dC, dI) vwCl (lWd tK tB cI cZ cJ h ak ab af o r a ka kb n p F th f) H) (hD : va_D (lA s) (lWd tK tB cI cZ cJ h ak ab af o r a ka kb n p F th f)) (hS : va_S (lA s) s.heap H locs) (hl : lv_has ls 7 [(4, .int (nI (4 * j))), (0, .ref b), (1, .ref h), (2, .ref r), (3, .ref o)]) (K : ∀ (ka kb : Nat → Nat) (n p : Nat) (F : Rows) (th : Int32) (f : Nat → Int64) (H : Heap) (locs : List Loc) (ls : Array Slot), Inv n p F → va_P (dC, dI) vwCl (lWd tK tB cI cZ cJ h ak ab af o r a ka kb n p F th f) H → va_D (lA s) (lWd tK tB cI cZ cJ h ak ab af o r a ka kb n p F th f) → va_S (lA s) s.heap H locs → lv_has ls 7 [(4, .int (nI (4 * j))), (0, .ref b), (1, .ref h), (2, .ref r), (3, .ref o)] → W p9 l e9 room_1 s m #[Value.ref b] below meth c H locs (cells + 3) (slots + 18) (lw_Z below #[Value.ref b] s) (F0 m 1130 ls [])) : W p9 l e9 room_1 s m #[Value.ref b] below meth c H locs (cells) (slots) (lw_Z below #[Value.ref b] s) (F0 m 620 ls []) := by
  obtain ⟨hx, hb, -, hml, hown, hts0, hX, hbl, hlocks, -⟩ := C0
  have hown : s.vm.findClass RL = some m.cls := hown
  have hts : ∀ w ∈ wsL_law, w.before #[Value.ref b] s = true := fun w hw => hts0 w (wsL_law_in w hw)
  have hA : ∀ q : Nat, s.heap.size ≤ q → lA s q := fun q hq => hq
  have hbA : ¬ lA s b := Nat.not_le.mpr hbl
  have hb : c.code = cL_law := hb
  refine lv_aload_n hx hb dL_law_620 rfl (lv_at hl 2 rfl) ?_
  refine lv_aload_n hx hb dL_law_621 rfl (lv_at hl 1 rfl) ?_
  refine lv_iload hx hb dL_law_622 (lv_at hl 0 rfl) ?_
  refine lv_iconst (v := 1) hx hb dL_law_624 (by decide) ?_
  refine lv_iadd hx hb dL_law_625 ?_
  refine W_top (y := .int (nI (4 * j + 1))) (congrArg Value.int (nI_add (4 * j) 1)) ?_
  refine my_sld hx hb hX hbl hbA hS (k := (4 * j + 1)) (by omega) (by omega) dL_law_626 ?_
  refine lv_if_eq (tgt := 634) hx hb dL_law_627 (by decide) (fun c_627 => ?_) (fun c_627 => ?_)
  · skip
    refine lv_iconst (v := 0) hx hb dL_law_634 (by decide) ?_
    have hP9 := hP
    have hD9 := hD
    rw [show (lWd tK tB cI cZ cJ h ak ab af o r a ka kb n p F th f : va_W) = cW tK tB h ak ab af ka kb n p F ++ (oC1 cJ o f ++ rW cI cZ r a th n p F) from List.append_assoc _ _ _] at hP9 hD9
    have hF1 := A_in (D_left hD9) hS hA
    have hK3 := hK.sub (tys' := [(tK, .object "Windlane$Kite"), (tB, .object "Windlane$Borrower")]) [0, 1] rfl
    refine va_calli (va_runV (As := [.int 0]) (rest := []) ⟨hx, hb, hml, hown, hts⟩ (c_X2_rain l dC dI H.size h ak ab af ka kb n p F 0 (by decide) hI) (cwV 1 hts gL_law_X2_rain rfl rfl rfl (by decide +kernel) ⟨Nat.le_of_ble_eq_true rfl, Nat.le_of_ble_eq_true rfl⟩) ⟨PWr.blind, va_recv hK3 (P_left hP9) (ci := 2) (q0 := 0) rfl rfl, PWr.pre (P_left hP9) hK3 (D_left hD9) hE ((hH0.kept hS.2.1).narrow hF1)⟩ rfl rfl hl.1 rfl (lv_room (Nat.le_of_ble_eq_true rfl)) dL_law_635 ⟨(by show _ ≤ 601024; omega), (by show _ ≤ 7293034; omega)⟩) hS (fun q _ hq => hF1 q hq) hF1 (fun r9 u9 t9 H locs ht9 hvm hw9 hB hz1 hk1 hS => ?_)
    have hP1 : va_P (dC, dI) vwCl (cW tK tB h ak ab af ka kb n p (up F 9 2 0)) H := by rw [← ht9]; exact hB
    obtain ⟨hP, hD⟩ := join_L hP9 hD9 hk1 hF1 hP1 (cG_D (D_left hD9).self)
    rw [← List.append_assoc] at hP hD
    subst hw9
    refine lv_aload_n hx hb dL_law_638 rfl (lv_at hl 3 rfl) ?_
    refine lv_aload_n hx hb dL_law_639 rfl (lv_at hl 1 rfl) ?_
    refine lv_iload hx hb dL_law_640 (lv_at hl 0 rfl) ?_
    refine lv_iconst (v := 1) hx hb dL_law_642 (by decide) ?_
    refine lv_iadd hx hb dL_law_643 ?_
    refine W_top (y := .int (nI (4 * j + 1))) (congrArg Value.int (nI_add (4 * j) 1)) ?_
    refine my_sld hx hb hX hbl hbA hS (k := (4 * j + 1)) (by omega) (by omega) dL_law_644 ?_
    refine lv_if_eq (tgt := 652) hx hb dL_law_645 (by decide) (fun _ => ?_) (fun c_645 => absurd (c_627) c_645)
    refine lv_iconst (v := 0) hx hb dL_law_652 (by decide) ?_
    have hF2 := A_in (D_right hD) hS hA
    have hK4 := hK.sub (tys' := [(cI, .int), (cZ, .boolean)]) [3, 4] rfl
    refine va_calli (va_runV (As := [.int 0]) (rest := [.int (F 9 2)]) ⟨hx, hb, hml, hown, hts⟩ (c_X3_rain l dC dI H.size r a th n p F 0 hI (by decide)) (cwV 1 hts gL_law_X3_rain rfl rfl rfl (by decide +kernel) ⟨Nat.le_of_ble_eq_true rfl, Nat.le_of_ble_eq_true rfl⟩) ⟨PWr.blind, va_recv hK4 (P_right hP) (ci := 3) (q0 := 0) rfl rfl, PWr.pre (P_right hP) hK4 (D_right hD) hE ((hH0.kept hS.2.1).narrow hF2)⟩ rfl rfl hl.1 rfl (lv_room (Nat.le_of_ble_eq_true rfl)) dL_law_653 ⟨(by show _ ≤ 601024; omega), (by show _ ≤ 7293034; omega)⟩) hS (fun q _ hq => hF2 q hq) hF2 (fun r8 u8 t8 H locs ht8 hvm8 hw8 hB8 hz8 hk8 hS => ?_)
    have hP8 : va_P (dC, dI) vwCl (rW cI cZ r a 0 n p (up F 9 2 0)) H := by rw [← ht8]; exact hB8
    obtain ⟨hP, hD⟩ := join_R hP hD hk8 hF2 hP8 (D_same ((D_right hD).self) rfl)
    subst hw8
    refine lv_icmp_eq (tgt := 1130) hx hb dL_law_656 (by decide) (fun _ => ?_) (fun c_656 => absurd (rfl) c_656)
    refine W.widen (k := cells + 3) (n := slots + 18) (by omega) (by omega) ?_
    exact K ka kb _ _ _ _ f _ _ _ (I_rain hI (by decide)) hP hD hS (lv_sub hl [0, 1, 2, 3, 4] rfl)
  · skip
    refine lv_iconst (v := 1) hx hb dL_law_630 (by decide) ?_
    refine lv_goto (tgt := 635) hx hb dL_law_631 (by decide) ?_
    have hP9 := hP
    have hD9 := hD
    rw [show (lWd tK tB cI cZ cJ h ak ab af o r a ka kb n p F th f : va_W) = cW tK tB h ak ab af ka kb n p F ++ (oC1 cJ o f ++ rW cI cZ r a th n p F) from List.append_assoc _ _ _] at hP9 hD9
    have hF1 := A_in (D_left hD9) hS hA
    have hK3 := hK.sub (tys' := [(tK, .object "Windlane$Kite"), (tB, .object "Windlane$Borrower")]) [0, 1] rfl
    refine va_calli (va_runV (As := [.int 1]) (rest := []) ⟨hx, hb, hml, hown, hts⟩ (c_X2_rain l dC dI H.size h ak ab af ka kb n p F 1 (by decide) hI) (cwV 1 hts gL_law_X2_rain rfl rfl rfl (by decide +kernel) ⟨Nat.le_of_ble_eq_true rfl, Nat.le_of_ble_eq_true rfl⟩) ⟨PWr.blind, va_recv hK3 (P_left hP9) (ci := 2) (q0 := 0) rfl rfl, PWr.pre (P_left hP9) hK3 (D_left hD9) hE ((hH0.kept hS.2.1).narrow hF1)⟩ rfl rfl hl.1 rfl (lv_room (Nat.le_of_ble_eq_true rfl)) dL_law_635 ⟨(by show _ ≤ 601024; omega), (by show _ ≤ 7293034; omega)⟩) hS (fun q _ hq => hF1 q hq) hF1 (fun r9 u9 t9 H locs ht9 hvm hw9 hB hz1 hk1 hS => ?_)
    have hP1 : va_P (dC, dI) vwCl (cW tK tB h ak ab af ka kb n p (up F 9 2 1)) H := by rw [← ht9]; exact hB
    obtain ⟨hP, hD⟩ := join_L hP9 hD9 hk1 hF1 hP1 (cG_D (D_left hD9).self)
    rw [← List.append_assoc] at hP hD
    subst hw9
    refine lv_aload_n hx hb dL_law_638 rfl (lv_at hl 3 rfl) ?_
    refine lv_aload_n hx hb dL_law_639 rfl (lv_at hl 1 rfl) ?_
    refine lv_iload hx hb dL_law_640 (lv_at hl 0 rfl) ?_
    refine lv_iconst (v := 1) hx hb dL_law_642 (by decide) ?_
    refine lv_iadd hx hb dL_law_643 ?_
    refine W_top (y := .int (nI (4 * j + 1))) (congrArg Value.int (nI_add (4 * j) 1)) ?_
    refine my_sld hx hb hX hbl hbA hS (k := (4 * j + 1)) (by omega) (by omega) dL_law_644 ?_
    refine lv_if_eq (tgt := 652) hx hb dL_law_645 (by decide) (fun c_645 => absurd c_645 (c_627)) (fun _ => ?_)
    refine lv_iconst (v := 1) hx hb dL_law_648 (by decide) ?_
    refine lv_goto (tgt := 653) hx hb dL_law_649 (by decide) ?_
    have hF2 := A_in (D_right hD) hS hA
    have hK4 := hK.sub (tys' := [(cI, .int), (cZ, .boolean)]) [3, 4] rfl
    refine va_calli (va_runV (As := [.int 1]) (rest := [.int (F 9 2)]) ⟨hx, hb, hml, hown, hts⟩ (c_X3_rain l dC dI H.size r a th n p F 1 hI (by decide)) (cwV 1 hts gL_law_X3_rain rfl rfl rfl (by decide +kernel) ⟨Nat.le_of_ble_eq_true rfl, Nat.le_of_ble_eq_true rfl⟩) ⟨PWr.blind, va_recv hK4 (P_right hP) (ci := 3) (q0 := 0) rfl rfl, PWr.pre (P_right hP) hK4 (D_right hD) hE ((hH0.kept hS.2.1).narrow hF2)⟩ rfl rfl hl.1 rfl (lv_room (Nat.le_of_ble_eq_true rfl)) dL_law_653 ⟨(by show _ ≤ 601024; omega), (by show _ ≤ 7293034; omega)⟩) hS (fun q _ hq => hF2 q hq) hF2 (fun r8 u8 t8 H locs ht8 hvm8 hw8 hB8 hz8 hk8 hS => ?_)
    have hP8 : va_P (dC, dI) vwCl (rW cI cZ r a 0 n p (up F 9 2 1)) H := by rw [← ht8]; exact hB8
    obtain ⟨hP, hD⟩ := join_R hP hD hk8 hF2 hP8 (D_same ((D_right hD).self) rfl)
    subst hw8
    refine lv_icmp_eq (tgt := 1130) hx hb dL_law_656 (by decide) (fun _ => ?_) (fun c_656 => absurd (rfl) c_656)
    refine W.widen (k := cells + 3) (n := slots + 18) (by omega) (by omega) ?_
    exact K ka kb _ _ _ _ f _ _ _ (I_rain hI (by decide)) hP hD hS (lv_sub hl [0, 1, 2, 3, 4] rfl)

set_option maxHeartbeats 4000000 in
set_option maxRecDepth 100000 in
theorem law_called {p9 : Program} {l : Launch} (hlt : l.stackTraces = false) {e9 : Env} {s : State} {m : MethodId} {below : List Frame} {meth : Method} {c : Code} {b L : Nat} {xs : Nat → Int32} (C0 : lw_At p9 s m meth c b L xs) (hL : L ≤ 2048) {dC : Nat → ClassId} {dI : Nat → Nat → Nat} {tK tB cI cZ cJ : ClassId} {h ak ab af o r : Nat} {a : Nat → Nat} (hK : va_K (dC, dI) vwCl (lTy tK tB cI cZ cJ) s) (hE : EN s) (hH0 : EH (lA s) s s.heap) {ka kb : Nat → Nat} {n p : Nat} {F : Rows} {th : Int32} {f : Nat → Int64} (hI : Inv n p F) {j : Nat} (hj : 4 * j + 4 ≤ L) {H : Heap} {locs : List Loc} {ls : Array Slot} {cells slots : Nat} (hcl9 : cells + 3 ≤ 601024) (hsl9 : slots + 18 ≤ 7293034) (hP : va_P (dC, dI) vwCl (lWd tK tB cI cZ cJ h ak ab af o r a ka kb n p F th f) H) (hD : va_D (lA s) (lWd tK tB cI cZ cJ h ak ab af o r a ka kb n p F th f)) (hS : va_S (lA s) s.heap H locs) (hl : lv_has ls 7 [(4, .int (nI (4 * j))), (0, .ref b), (1, .ref h), (2, .ref r), (3, .ref o)]) (K : ∀ (ka kb : Nat → Nat) (n p : Nat) (F : Rows) (th : Int32) (f : Nat → Int64) (H : Heap) (locs : List Loc) (ls : Array Slot), Inv n p F → va_P (dC, dI) vwCl (lWd tK tB cI cZ cJ h ak ab af o r a ka kb n p F th f) H → va_D (lA s) (lWd tK tB cI cZ cJ h ak ab af o r a ka kb n p F th f) → va_S (lA s) s.heap H locs → lv_has ls 7 [(4, .int (nI (4 * j))), (0, .ref b), (1, .ref h), (2, .ref r), (3, .ref o)] → W p9 l e9 room_1 s m #[Value.ref b] below meth c H locs (cells + 3) (slots + 18) (lw_Z below #[Value.ref b] s) (F0 m 1130 ls [])) : W p9 l e9 room_1 s m #[Value.ref b] below meth c H locs (cells) (slots) (lw_Z below #[Value.ref b] s) (F0 m 1117 ls []) := by
  obtain ⟨hx, hb, -, hml, hown, hts0, hX, hbl, hlocks, -⟩ := C0
  have hown : s.vm.findClass RL = some m.cls := hown
  have hts : ∀ w ∈ wsL_law, w.before #[Value.ref b] s = true := fun w hw => hts0 w (wsL_law_in w hw)
  have hA : ∀ q : Nat, s.heap.size ≤ q → lA s q := fun q hq => hq
  have hbA : ¬ lA s b := Nat.not_le.mpr hbl
  have hb : c.code = cL_law := hb
  refine lv_aload_n hx hb dL_law_1117 rfl (lv_at hl 2 rfl) ?_
  have hP9 := hP
  have hD9 := hD
  rw [show (lWd tK tB cI cZ cJ h ak ab af o r a ka kb n p F th f : va_W) = cW tK tB h ak ab af ka kb n p F ++ (oC1 cJ o f ++ rW cI cZ r a th n p F) from List.append_assoc _ _ _] at hP9 hD9
  have hF1 := A_in (D_left hD9) hS hA
  have hK3 := hK.sub (tys' := [(tK, .object "Windlane$Kite"), (tB, .object "Windlane$Borrower")]) [0, 1] rfl
  refine vp_callSi (va_Run.run (va_runV (As := []) (rest := []) ⟨hx, hb, hml, hown, hts⟩ (c_X2_called l dC dI h ak ab af ka kb n p F) (cwV 0 hts gL_law_X2_called rfl rfl rfl (by decide +kernel) ⟨Nat.le_of_ble_eq_true rfl, Nat.le_of_ble_eq_true rfl⟩) ⟨PRo.blind, va_recv hK3 (P_left hP9) (ci := 2) (q0 := 0) rfl rfl, PRo.pre (P_left hP9) hK3 hE⟩ rfl rfl hl.1 rfl (lv_room (Nat.le_of_ble_eq_true rfl)) dL_law_1118 ⟨(by show _ ≤ 601024; omega), (by show _ ≤ 7293034; omega)⟩)) (fun r hr => ?_)
  subst hr
  refine lv_aload_n hx hb dL_law_1121 rfl (lv_at hl 3 rfl) ?_
  have hF2 := A_in (D_right hD) hS hA
  have hK4 := hK.sub (tys' := [(cI, .int), (cZ, .boolean)]) [3, 4] rfl
  refine va_calli (va_runV (As := []) (rest := [.int (F 9 3)]) ⟨hx, hb, hml, hown, hts⟩ (c_X3_called l dC dI H.size r a th n p F) (cwV 0 hts gL_law_X3_called rfl rfl rfl (by decide +kernel) ⟨Nat.le_of_ble_eq_true rfl, Nat.le_of_ble_eq_true rfl⟩) ⟨PWr.blind, va_recv hK4 (P_right hP) (ci := 3) (q0 := 0) rfl rfl, PWr.pre (P_right hP) hK4 (D_right hD) hE ((hH0.kept hS.2.1).narrow hF2)⟩ rfl rfl hl.1 rfl (lv_room (Nat.le_of_ble_eq_true rfl)) dL_law_1122 ⟨(by show _ ≤ 601024; omega), (by show _ ≤ 7293034; omega)⟩) hS (fun q _ hq => hF2 q hq) hF2 (fun r8 u8 t8 H locs ht8 hvm8 hw8 hB8 hz8 hk8 hS => ?_)
  have hP8 : va_P (dC, dI) vwCl (rW cI cZ r a 0 n p F) H := by rw [← ht8]; exact hB8
  obtain ⟨hP, hD⟩ := join_R hP hD hk8 hF2 hP8 (D_same ((D_right hD).self) rfl)
  subst hw8
  refine lv_icmp_eq (tgt := 1130) hx hb dL_law_1125 (by decide) (fun _ => ?_) (fun c_1125 => absurd (rfl) c_1125)
  refine W.widen (k := cells + 3) (n := slots + 18) (by omega) (by omega) ?_
  exact K ka kb _ _ _ _ f _ _ _ (hI) hP hD hS (lv_sub hl [0, 1, 2, 3, 4] rfl)

set_option maxHeartbeats 4000000 in
set_option maxRecDepth 100000 in
theorem law_borrower {p9 : Program} {l : Launch} (hlt : l.stackTraces = false) {e9 : Env} {s : State} {m : MethodId} {below : List Frame} {meth : Method} {c : Code} {b L : Nat} {xs : Nat → Int32} (C0 : lw_At p9 s m meth c b L xs) (hL : L ≤ 2048) {dC : Nat → ClassId} {dI : Nat → Nat → Nat} {tK tB cI cZ cJ : ClassId} {h ak ab af o r : Nat} {a : Nat → Nat} (hK : va_K (dC, dI) vwCl (lTy tK tB cI cZ cJ) s) (hE : EN s) (hH0 : EH (lA s) s s.heap) {ka kb : Nat → Nat} {n p : Nat} {F : Rows} {th : Int32} {f : Nat → Int64} (hI : Inv n p F) {j : Nat} (hj : 4 * j + 4 ≤ L) {H : Heap} {locs : List Loc} {ls : Array Slot} {cells slots : Nat} (hcl9 : cells + 3 ≤ 601024) (hsl9 : slots + 18 ≤ 7293034) (hP : va_P (dC, dI) vwCl (lWd tK tB cI cZ cJ h ak ab af o r a ka kb n p F th f) H) (hD : va_D (lA s) (lWd tK tB cI cZ cJ h ak ab af o r a ka kb n p F th f)) (hS : va_S (lA s) s.heap H locs) (hl : lv_has ls 7 [(4, .int (nI (4 * j))), (0, .ref b), (1, .ref h), (2, .ref r), (3, .ref o)]) (K : ∀ (ka kb : Nat → Nat) (n p : Nat) (F : Rows) (th : Int32) (f : Nat → Int64) (H : Heap) (locs : List Loc) (ls : Array Slot), Inv n p F → va_P (dC, dI) vwCl (lWd tK tB cI cZ cJ h ak ab af o r a ka kb n p F th f) H → va_D (lA s) (lWd tK tB cI cZ cJ h ak ab af o r a ka kb n p F th f) → va_S (lA s) s.heap H locs → lv_has ls 7 [(4, .int (nI (4 * j))), (0, .ref b), (1, .ref h), (2, .ref r), (3, .ref o)] → W p9 l e9 room_1 s m #[Value.ref b] below meth c H locs (cells + 3) (slots + 18) (lw_Z below #[Value.ref b] s) (F0 m 1130 ls [])) : W p9 l e9 room_1 s m #[Value.ref b] below meth c H locs (cells) (slots) (lw_Z below #[Value.ref b] s) (F0 m 256 ls []) := by
  obtain ⟨hx, hb, -, hml, hown, hts0, hX, hbl, hlocks, -⟩ := C0
  have hown : s.vm.findClass RL = some m.cls := hown
  have hts : ∀ w ∈ wsL_law, w.before #[Value.ref b] s = true := fun w hw => hts0 w (wsL_law_in w hw)
  have hA : ∀ q : Nat, s.heap.size ≤ q → lA s q := fun q hq => hq
  have hbA : ¬ lA s b := Nat.not_le.mpr hbl
  have hb : c.code = cL_law := hb
  refine lv_aload_n hx hb dL_law_256 rfl (lv_at hl 2 rfl) ?_
  refine lv_aload_n hx hb dL_law_257 rfl (lv_at hl 1 rfl) ?_
  refine lv_iload hx hb dL_law_258 (lv_at hl 0 rfl) ?_
  refine lv_iconst (v := 1) hx hb dL_law_260 (by decide) ?_
  refine lv_iadd hx hb dL_law_261 ?_
  refine W_top (y := .int (nI (4 * j + 1))) (congrArg Value.int (nI_add (4 * j) 1)) ?_
  refine my_sld hx hb hX hbl hbA hS (k := (4 * j + 1)) (by omega) (by omega) dL_law_262 ?_
  refine lv_aload_n hx hb dL_law_263 rfl (lv_at hl 4 rfl) ?_
  have hF1 := A_in (D_left hD) hS hA
  have hK3 := hK.sub (tys' := [(tK, .object "Windlane$Kite"), (tB, .object "Windlane$Borrower"), (cJ, .long)]) [0, 1, 2] rfl
  refine va_calli (vx_runSW (As := [.ref h, .int (xs (4 * j + 1)), .ref o]) (rest := []) ⟨hx, hb, hml, hown, hts⟩ (c_L_borrower l hlt dC dI H.size h ak ab af ka kb n p F o f (xs (4 * j + 1)) hI) (vx_cwSW 3 hts gL_law_L_borrower rfl rfl rfl (by decide +kernel) ⟨Nat.le_of_ble_eq_true rfl, Nat.le_of_ble_eq_true rfl⟩) ⟨PWr.blind, PWr.pre (P_left hP) hK3 (D_left hD) hE ((hH0.kept hS.2.1).narrow hF1)⟩ rfl rfl hl.1 rfl (lv_room (Nat.le_of_ble_eq_true rfl)) dL_law_264 ⟨(by show _ ≤ 601024; omega), (by show _ ≤ 7293034; omega)⟩) hS (fun q _ hq => hF1 q hq) hF1 (fun r9 u9 t9 H locs ht9 hvm hw9 hB hz1 hk1 hS => ?_)
  obtain ⟨hP1, hD1⟩ := hB
  rw [ht9] at hP1
  obtain ⟨hw9, hf9⟩ := hw9
  obtain ⟨hP, hD⟩ := join_L hP hD hk1 hF1 hP1 hD1
  subst hw9
  refine lv_istore (lv' := [(5, .int ((S_borrower p F (xs (4 * j + 1))).1)), (4, .int (nI (4 * j))), (0, .ref b), (1, .ref h), (2, .ref r), (3, .ref o)]) hx hb dL_law_267 hl (by decide) rfl (fun ls hl => ?_)
  refine lv_aload_n hx hb dL_law_269 rfl (lv_at hl 4 rfl) ?_
  refine lv_aload_n hx hb dL_law_270 rfl (lv_at hl 2 rfl) ?_
  refine lv_iload hx hb dL_law_271 (lv_at hl 1 rfl) ?_
  refine lv_iconst (v := 1) hx hb dL_law_273 (by decide) ?_
  refine lv_iadd hx hb dL_law_274 ?_
  refine W_top (y := .int (nI (4 * j + 1))) (congrArg Value.int (nI_add (4 * j) 1)) ?_
  refine my_sld hx hb hX hbl hbA hS (k := (4 * j + 1)) (by omega) (by omega) dL_law_275 ?_
  have hF2 := A_in (D_right hD) hS hA
  have hK4 := hK.sub (tys' := [(cI, .int), (cZ, .boolean)]) [3, 4] rfl
  refine va_calli (va_runV (As := [.int (xs (4 * j + 1))]) (rest := []) ⟨hx, hb, hml, hown, hts⟩ (c_X3_borrower l dC dI H.size r a th n p F (xs (4 * j + 1)) hI) (cwV 1 hts gL_law_X3_borrower rfl rfl rfl (by decide +kernel) ⟨Nat.le_of_ble_eq_true rfl, Nat.le_of_ble_eq_true rfl⟩) ⟨PWr.blind, va_recv hK4 (P_right hP) (ci := 3) (q0 := 0) rfl rfl, PWr.pre (P_right hP) hK4 (D_right hD) hE ((hH0.kept hS.2.1).narrow hF2)⟩ rfl rfl hl.1 rfl (lv_room (Nat.le_of_ble_eq_true rfl)) dL_law_276 ⟨(by show _ ≤ 601024; omega), (by show _ ≤ 7293034; omega)⟩) hS (fun q _ hq => hF2 q hq) hF2 (fun r8 u8 t8 H locs ht8 hvm8 hw8 hB8 hz8 hk8 hS => ?_)
  have hP8 : va_P (dC, dI) vwCl (rW cI cZ r a ((S_borrower p F (xs (4 * j + 1))).1) n ((S_borrower p F (xs (4 * j + 1))).2.2.1) ((S_borrower p F (xs (4 * j + 1))).2.2.2)) H := by rw [← ht8]; exact hB8
  obtain ⟨hP, hD⟩ := join_R hP hD hk8 hF2 hP8 (D_same ((D_right hD).self) rfl)
  subst hw8
  refine lv_istore (lv' := [(6, .int ((S_borrower p F (xs (4 * j + 1))).2.1)), (5, .int ((S_borrower p F (xs (4 * j + 1))).1)), (4, .int (nI (4 * j))), (0, .ref b), (1, .ref h), (2, .ref r), (3, .ref o)]) hx hb dL_law_279 hl (by decide) rfl (fun ls hl => ?_)
  refine lv_aload_n hx hb dL_law_281 rfl (lv_at hl 5 rfl) ?_
  refine vp_callSi (va_Run.run (va_runV (As := []) (rest := []) ⟨hx, hb, hml, hown, hts⟩ (c_X3_thrown l dC dI r a ((S_borrower p F (xs (4 * j + 1))).1) n ((S_borrower p F (xs (4 * j + 1))).2.2.1) ((S_borrower p F (xs (4 * j + 1))).2.2.2)) (cwV 0 hts gL_law_X3_thrown rfl rfl rfl (by decide +kernel) ⟨Nat.le_of_ble_eq_true rfl, Nat.le_of_ble_eq_true rfl⟩) ⟨PRo.blind, va_recv hK4 (P_right hP) (ci := 3) (q0 := 0) rfl rfl, PRo.pre (P_right hP) hK4 hE⟩ rfl rfl hl.1 rfl (lv_room (Nat.le_of_ble_eq_true rfl)) dL_law_282 ⟨(by show _ ≤ 601024; omega), (by show _ ≤ 7293034; omega)⟩)) (fun r hr => ?_)
  subst hr
  refine lv_iload hx hb dL_law_285 (lv_at hl 1 rfl) ?_
  refine lv_icmp_eq (tgt := 292) hx hb dL_law_287 (by decide) (fun _ => ?_) (fun c_287 => absurd (rfl) c_287)
  refine lv_iload hx hb dL_law_292 (lv_at hl 1 rfl) ?_
  refine lv_if_ne (tgt := 309) hx hb dL_law_294 (by decide) (fun c_294 => ?_) (fun c_294 => ?_)
  · skip
    refine lv_goto (tgt := 1130) hx hb dL_law_309 (by decide) ?_
    refine W.widen (k := cells + 3) (n := slots + 18) (by omega) (by omega) ?_
    exact K u9.1 u9.2.1 _ _ _ _ u9.2.2 _ _ _ (I_borrower hI _) hP hD hS (lv_sub hl [2, 3, 4, 5, 6] rfl)
  · skip
    refine lv_aload_n hx hb dL_law_297 rfl (lv_at hl 6 rfl) ?_
    refine lv_iconst (v := 0) hx hb dL_law_298 (by decide) ?_
    have hm9 := mid_at (cW tK tB h ak ab af u9.1 u9.2.1 n ((S_borrower p F (xs (4 * j + 1))).2.2.1) ((S_borrower p F (xs (4 * j + 1))).2.2.2)) ((o, .inl (cJ, 1, .inr (.inl u9.2.2))) : Nat × va_E) (rW cI cZ r a ((S_borrower p F (xs (4 * j + 1))).1) n ((S_borrower p F (xs (4 * j + 1))).2.2.1) ((S_borrower p F (xs (4 * j + 1))).2.2.2))
    refine va_lald hx hb hK hP _ 2 hm9 rfl (by unfold vp_in; decide) dL_law_299 ?_
    refine W_top (y := .long ((S_borrower p F (xs (4 * j + 1))).2.1).toInt64) (congrArg Value.long (hf9 c_294)) ?_
    refine lv_iload hx hb dL_law_300 (lv_at hl 0 rfl) ?_
    refine lv_i2l (v := ((S_borrower p F (xs (4 * j + 1))).2.1).toInt64) hx hb dL_law_302 rfl ?_
    refine W.lcmp hx hb dL_law_303 ?_
    refine W_top (y := .int 0) (congrArg Value.int (lg_same _)) ?_
    refine lv_if_eq (tgt := 309) hx hb dL_law_304 (by decide) (fun _ => ?_) (fun c_304 => absurd (by decide) c_304)
    refine lv_goto (tgt := 1130) hx hb dL_law_309 (by decide) ?_
    refine W.widen (k := cells + 3) (n := slots + 18) (by omega) (by omega) ?_
    exact K u9.1 u9.2.1 _ _ _ _ u9.2.2 _ _ _ (I_borrower hI _) hP hD hS (lv_sub hl [2, 3, 4, 5, 6] rfl)

set_option maxHeartbeats 4000000 in
set_option maxRecDepth 100000 in
theorem law_lend {p9 : Program} {l : Launch} (hlt : l.stackTraces = false) {e9 : Env} {s : State} {m : MethodId} {below : List Frame} {meth : Method} {c : Code} {b L : Nat} {xs : Nat → Int32} (C0 : lw_At p9 s m meth c b L xs) (hL : L ≤ 2048) {dC : Nat → ClassId} {dI : Nat → Nat → Nat} {tK tB cI cZ cJ : ClassId} {h ak ab af o r : Nat} {a : Nat → Nat} (hK : va_K (dC, dI) vwCl (lTy tK tB cI cZ cJ) s) (hE : EN s) (hH0 : EH (lA s) s s.heap) {ka kb : Nat → Nat} {n p : Nat} {F : Rows} {th : Int32} {f : Nat → Int64} (hI : Inv n p F) {j : Nat} (hj : 4 * j + 4 ≤ L) {H : Heap} {locs : List Loc} {ls : Array Slot} {cells slots : Nat} (hcl9 : cells + 3 ≤ 601024) (hsl9 : slots + 18 ≤ 7293034) (hP : va_P (dC, dI) vwCl (lWd tK tB cI cZ cJ h ak ab af o r a ka kb n p F th f) H) (hD : va_D (lA s) (lWd tK tB cI cZ cJ h ak ab af o r a ka kb n p F th f)) (hS : va_S (lA s) s.heap H locs) (hl : lv_has ls 7 [(4, .int (nI (4 * j))), (0, .ref b), (1, .ref h), (2, .ref r), (3, .ref o)]) (K : ∀ (ka kb : Nat → Nat) (n p : Nat) (F : Rows) (th : Int32) (f : Nat → Int64) (H : Heap) (locs : List Loc) (ls : Array Slot), Inv n p F → va_P (dC, dI) vwCl (lWd tK tB cI cZ cJ h ak ab af o r a ka kb n p F th f) H → va_D (lA s) (lWd tK tB cI cZ cJ h ak ab af o r a ka kb n p F th f) → va_S (lA s) s.heap H locs → lv_has ls 7 [(4, .int (nI (4 * j))), (0, .ref b), (1, .ref h), (2, .ref r), (3, .ref o)] → W p9 l e9 room_1 s m #[Value.ref b] below meth c H locs (cells + 3) (slots + 18) (lw_Z below #[Value.ref b] s) (F0 m 1130 ls [])) : W p9 l e9 room_1 s m #[Value.ref b] below meth c H locs (cells) (slots) (lw_Z below #[Value.ref b] s) (F0 m 312 ls []) := by
  obtain ⟨hx, hb, -, hml, hown, hts0, hX, hbl, hlocks, -⟩ := C0
  have hown : s.vm.findClass RL = some m.cls := hown
  have hts : ∀ w ∈ wsL_law, w.before #[Value.ref b] s = true := fun w hw => hts0 w (wsL_law_in w hw)
  have hA : ∀ q : Nat, s.heap.size ≤ q → lA s q := fun q hq => hq
  have hbA : ¬ lA s b := Nat.not_le.mpr hbl
  have hb : c.code = cL_law := hb
  refine lv_aload_n hx hb dL_law_312 rfl (lv_at hl 2 rfl) ?_
  refine lv_aload_n hx hb dL_law_313 rfl (lv_at hl 1 rfl) ?_
  refine lv_iload hx hb dL_law_314 (lv_at hl 0 rfl) ?_
  refine lv_iconst (v := 1) hx hb dL_law_316 (by decide) ?_
  refine lv_iadd hx hb dL_law_317 ?_
  refine W_top (y := .int (nI (4 * j + 1))) (congrArg Value.int (nI_add (4 * j) 1)) ?_
  refine my_sld hx hb hX hbl hbA hS (k := (4 * j + 1)) (by omega) (by omega) dL_law_318 ?_
  refine lv_aload_n hx hb dL_law_319 rfl (lv_at hl 1 rfl) ?_
  refine lv_iload hx hb dL_law_320 (lv_at hl 0 rfl) ?_
  refine lv_iconst (v := 2) hx hb dL_law_322 (by decide) ?_
  refine lv_iadd hx hb dL_law_323 ?_
  refine W_top (y := .int (nI (4 * j + 2))) (congrArg Value.int (nI_add (4 * j) 2)) ?_
  refine my_sld hx hb hX hbl hbA hS (k := (4 * j + 2)) (by omega) (by omega) dL_law_324 ?_
  have hP9 := hP
  have hD9 := hD
  rw [show (lWd tK tB cI cZ cJ h ak ab af o r a ka kb n p F th f : va_W) = cW tK tB h ak ab af ka kb n p F ++ (oC1 cJ o f ++ rW cI cZ r a th n p F) from List.append_assoc _ _ _] at hP9 hD9
  have hF1 := A_in (D_left hD9) hS hA
  have hK3 := hK.sub (tys' := [(tK, .object "Windlane$Kite"), (tB, .object "Windlane$Borrower")]) [0, 1] rfl
  refine va_calli (vx_runSW (As := [.ref h, .int (xs (4 * j + 1)), .int (xs (4 * j + 2))]) (rest := []) ⟨hx, hb, hml, hown, hts⟩ (c_L_lend l hlt dC dI H.size h ak ab af ka kb n p F (xs (4 * j + 1)) (xs (4 * j + 2)) hI) (vx_cwSW 3 hts gL_law_L_lend rfl rfl rfl (by decide +kernel) ⟨Nat.le_of_ble_eq_true rfl, Nat.le_of_ble_eq_true rfl⟩) ⟨PWr.blind, PWr.pre (P_left hP9) hK3 (D_left hD9) hE ((hH0.kept hS.2.1).narrow hF1)⟩ rfl rfl hl.1 rfl (lv_room (Nat.le_of_ble_eq_true rfl)) dL_law_325 ⟨(by show _ ≤ 601024; omega), (by show _ ≤ 7293034; omega)⟩) hS (fun q _ hq => hF1 q hq) hF1 (fun r9 u9 t9 H locs ht9 hvm hw9 hB hz1 hk1 hS => ?_)
  obtain ⟨hP1, hD1⟩ := hB
  rw [ht9] at hP1
  obtain ⟨hP, hD⟩ := join_L hP9 hD9 hk1 hF1 hP1 hD1
  rw [← List.append_assoc] at hP hD
  subst hw9
  refine lv_istore (lv' := [(5, .int ((S_lend n p F (xs (4 * j + 1)) (xs (4 * j + 2))).1)), (4, .int (nI (4 * j))), (0, .ref b), (1, .ref h), (2, .ref r), (3, .ref o)]) hx hb dL_law_328 hl (by decide) rfl (fun ls hl => ?_)
  refine lv_aload_n hx hb dL_law_330 rfl (lv_at hl 4 rfl) ?_
  refine lv_aload_n hx hb dL_law_331 rfl (lv_at hl 2 rfl) ?_
  refine lv_iload hx hb dL_law_332 (lv_at hl 1 rfl) ?_
  refine lv_iconst (v := 1) hx hb dL_law_334 (by decide) ?_
  refine lv_iadd hx hb dL_law_335 ?_
  refine W_top (y := .int (nI (4 * j + 1))) (congrArg Value.int (nI_add (4 * j) 1)) ?_
  refine my_sld hx hb hX hbl hbA hS (k := (4 * j + 1)) (by omega) (by omega) dL_law_336 ?_
  refine lv_aload_n hx hb dL_law_337 rfl (lv_at hl 2 rfl) ?_
  refine lv_iload hx hb dL_law_338 (lv_at hl 1 rfl) ?_
  refine lv_iconst (v := 2) hx hb dL_law_340 (by decide) ?_
  refine lv_iadd hx hb dL_law_341 ?_
  refine W_top (y := .int (nI (4 * j + 2))) (congrArg Value.int (nI_add (4 * j) 2)) ?_
  refine my_sld hx hb hX hbl hbA hS (k := (4 * j + 2)) (by omega) (by omega) dL_law_342 ?_
  have hF2 := A_in (D_right hD) hS hA
  have hK4 := hK.sub (tys' := [(cI, .int), (cZ, .boolean)]) [3, 4] rfl
  refine va_callv (va_runV (As := [.int (xs (4 * j + 1)), .int (xs (4 * j + 2))]) (rest := []) ⟨hx, hb, hml, hown, hts⟩ (c_X3_lend l dC dI H.size r a th n p F (xs (4 * j + 1)) (xs (4 * j + 2)) hI) (cwV 2 hts gL_law_X3_lend rfl rfl rfl (by decide +kernel) ⟨Nat.le_of_ble_eq_true rfl, Nat.le_of_ble_eq_true rfl⟩) ⟨PWr.blind, va_recv hK4 (P_right hP) (ci := 3) (q0 := 0) rfl rfl, PWr.pre (P_right hP) hK4 (D_right hD) hE ((hH0.kept hS.2.1).narrow hF2)⟩ rfl rfl hl.1 rfl (lv_room (Nat.le_of_ble_eq_true rfl)) dL_law_343 ⟨(by show _ ≤ 601024; omega), (by show _ ≤ 7293034; omega)⟩) hS (fun q _ hq => hF2 q hq) hF2 (fun u8 t8 H locs ht8 hvm8 hw8 hB8 hz8 hk8 hS => ?_)
  have hP8 : va_P (dC, dI) vwCl (rW cI cZ r a ((S_lend n p F (xs (4 * j + 1)) (xs (4 * j + 2))).1) n p ((S_lend n p F (xs (4 * j + 1)) (xs (4 * j + 2))).2)) H := by rw [← ht8]; exact hB8
  obtain ⟨hP, hD⟩ := join_R hP hD hk8 hF2 hP8 (D_same ((D_right hD).self) rfl)
  refine lv_aload_n hx hb dL_law_346 rfl (lv_at hl 4 rfl) ?_
  refine vp_callSi (va_Run.run (va_runV (As := []) (rest := []) ⟨hx, hb, hml, hown, hts⟩ (c_X3_thrown l dC dI r a ((S_lend n p F (xs (4 * j + 1)) (xs (4 * j + 2))).1) n p ((S_lend n p F (xs (4 * j + 1)) (xs (4 * j + 2))).2)) (cwV 0 hts gL_law_X3_thrown rfl rfl rfl (by decide +kernel) ⟨Nat.le_of_ble_eq_true rfl, Nat.le_of_ble_eq_true rfl⟩) ⟨PRo.blind, va_recv hK4 (P_right hP) (ci := 3) (q0 := 0) rfl rfl, PRo.pre (P_right hP) hK4 hE⟩ rfl rfl hl.1 rfl (lv_room (Nat.le_of_ble_eq_true rfl)) dL_law_347 ⟨(by show _ ≤ 601024; omega), (by show _ ≤ 7293034; omega)⟩)) (fun r hr => ?_)
  subst hr
  refine lv_iload hx hb dL_law_350 (lv_at hl 0 rfl) ?_
  refine lv_icmp_eq (tgt := 357) hx hb dL_law_352 (by decide) (fun _ => ?_) (fun c_352 => absurd (rfl) c_352)
  refine lv_goto (tgt := 1130) hx hb dL_law_357 (by decide) ?_
  refine W.widen (k := cells + 3) (n := slots + 18) (by omega) (by omega) ?_
  exact K u9.1 u9.2 _ _ _ _ f _ _ _ (I_lend hI _ _) hP hD hS (lv_sub hl [1, 2, 3, 4, 5] rfl)

set_option maxHeartbeats 4000000 in
set_option maxRecDepth 100000 in
theorem law_giveBack {p9 : Program} {l : Launch} (hlt : l.stackTraces = false) {e9 : Env} {s : State} {m : MethodId} {below : List Frame} {meth : Method} {c : Code} {b L : Nat} {xs : Nat → Int32} (C0 : lw_At p9 s m meth c b L xs) (hL : L ≤ 2048) {dC : Nat → ClassId} {dI : Nat → Nat → Nat} {tK tB cI cZ cJ : ClassId} {h ak ab af o r : Nat} {a : Nat → Nat} (hK : va_K (dC, dI) vwCl (lTy tK tB cI cZ cJ) s) (hE : EN s) (hH0 : EH (lA s) s s.heap) {ka kb : Nat → Nat} {n p : Nat} {F : Rows} {th : Int32} {f : Nat → Int64} (hI : Inv n p F) {j : Nat} (hj : 4 * j + 4 ≤ L) {H : Heap} {locs : List Loc} {ls : Array Slot} {cells slots : Nat} (hcl9 : cells + 3 ≤ 601024) (hsl9 : slots + 18 ≤ 7293034) (hP : va_P (dC, dI) vwCl (lWd tK tB cI cZ cJ h ak ab af o r a ka kb n p F th f) H) (hD : va_D (lA s) (lWd tK tB cI cZ cJ h ak ab af o r a ka kb n p F th f)) (hS : va_S (lA s) s.heap H locs) (hl : lv_has ls 7 [(4, .int (nI (4 * j))), (0, .ref b), (1, .ref h), (2, .ref r), (3, .ref o)]) (K : ∀ (ka kb : Nat → Nat) (n p : Nat) (F : Rows) (th : Int32) (f : Nat → Int64) (H : Heap) (locs : List Loc) (ls : Array Slot), Inv n p F → va_P (dC, dI) vwCl (lWd tK tB cI cZ cJ h ak ab af o r a ka kb n p F th f) H → va_D (lA s) (lWd tK tB cI cZ cJ h ak ab af o r a ka kb n p F th f) → va_S (lA s) s.heap H locs → lv_has ls 7 [(4, .int (nI (4 * j))), (0, .ref b), (1, .ref h), (2, .ref r), (3, .ref o)] → W p9 l e9 room_1 s m #[Value.ref b] below meth c H locs (cells + 3) (slots + 18) (lw_Z below #[Value.ref b] s) (F0 m 1130 ls [])) : W p9 l e9 room_1 s m #[Value.ref b] below meth c H locs (cells) (slots) (lw_Z below #[Value.ref b] s) (F0 m 360 ls []) := by
  obtain ⟨hx, hb, -, hml, hown, hts0, hX, hbl, hlocks, -⟩ := C0
  have hown : s.vm.findClass RL = some m.cls := hown
  have hts : ∀ w ∈ wsL_law, w.before #[Value.ref b] s = true := fun w hw => hts0 w (wsL_law_in w hw)
  have hA : ∀ q : Nat, s.heap.size ≤ q → lA s q := fun q hq => hq
  have hbA : ¬ lA s b := Nat.not_le.mpr hbl
  have hb : c.code = cL_law := hb
  refine lv_aload_n hx hb dL_law_360 rfl (lv_at hl 2 rfl) ?_
  refine lv_aload_n hx hb dL_law_361 rfl (lv_at hl 1 rfl) ?_
  refine lv_iload hx hb dL_law_362 (lv_at hl 0 rfl) ?_
  refine lv_iconst (v := 1) hx hb dL_law_364 (by decide) ?_
  refine lv_iadd hx hb dL_law_365 ?_
  refine W_top (y := .int (nI (4 * j + 1))) (congrArg Value.int (nI_add (4 * j) 1)) ?_
  refine my_sld hx hb hX hbl hbA hS (k := (4 * j + 1)) (by omega) (by omega) dL_law_366 ?_
  refine lv_aload_n hx hb dL_law_367 rfl (lv_at hl 4 rfl) ?_
  have hF1 := A_in (D_left hD) hS hA
  have hK3 := hK.sub (tys' := [(tK, .object "Windlane$Kite"), (tB, .object "Windlane$Borrower"), (cJ, .long)]) [0, 1, 2] rfl
  refine va_calli (vx_runSW (As := [.ref h, .int (xs (4 * j + 1)), .ref o]) (rest := []) ⟨hx, hb, hml, hown, hts⟩ (c_L_giveBack l hlt dC dI H.size h ak ab af ka kb n p F o f (xs (4 * j + 1)) hI) (vx_cwSW 3 hts gL_law_L_giveBack rfl rfl rfl (by decide +kernel) ⟨Nat.le_of_ble_eq_true rfl, Nat.le_of_ble_eq_true rfl⟩) ⟨PWr.blind, PWr.pre (P_left hP) hK3 (D_left hD) hE ((hH0.kept hS.2.1).narrow hF1)⟩ rfl rfl hl.1 rfl (lv_room (Nat.le_of_ble_eq_true rfl)) dL_law_368 ⟨(by show _ ≤ 601024; omega), (by show _ ≤ 7293034; omega)⟩) hS (fun q _ hq => hF1 q hq) hF1 (fun r9 u9 t9 H locs ht9 hvm hw9 hB hz1 hk1 hS => ?_)
  obtain ⟨hP1, hD1⟩ := hB
  rw [ht9] at hP1
  obtain ⟨hw9, hf9⟩ := hw9
  obtain ⟨hP, hD⟩ := join_L hP hD hk1 hF1 hP1 hD1
  subst hw9
  refine lv_istore (lv' := [(5, .int ((S_giveBack n p F (xs (4 * j + 1))).1)), (4, .int (nI (4 * j))), (0, .ref b), (1, .ref h), (2, .ref r), (3, .ref o)]) hx hb dL_law_371 hl (by decide) rfl (fun ls hl => ?_)
  refine lv_aload_n hx hb dL_law_373 rfl (lv_at hl 4 rfl) ?_
  refine lv_aload_n hx hb dL_law_374 rfl (lv_at hl 2 rfl) ?_
  refine lv_iload hx hb dL_law_375 (lv_at hl 1 rfl) ?_
  refine lv_iconst (v := 1) hx hb dL_law_377 (by decide) ?_
  refine lv_iadd hx hb dL_law_378 ?_
  refine W_top (y := .int (nI (4 * j + 1))) (congrArg Value.int (nI_add (4 * j) 1)) ?_
  refine my_sld hx hb hX hbl hbA hS (k := (4 * j + 1)) (by omega) (by omega) dL_law_379 ?_
  have hF2 := A_in (D_right hD) hS hA
  have hK4 := hK.sub (tys' := [(cI, .int), (cZ, .boolean)]) [3, 4] rfl
  refine va_calli (va_runV (As := [.int (xs (4 * j + 1))]) (rest := []) ⟨hx, hb, hml, hown, hts⟩ (c_X3_giveBack l dC dI H.size r a th n p F (xs (4 * j + 1)) hI) (cwV 1 hts gL_law_X3_giveBack rfl rfl rfl (by decide +kernel) ⟨Nat.le_of_ble_eq_true rfl, Nat.le_of_ble_eq_true rfl⟩) ⟨PWr.blind, va_recv hK4 (P_right hP) (ci := 3) (q0 := 0) rfl rfl, PWr.pre (P_right hP) hK4 (D_right hD) hE ((hH0.kept hS.2.1).narrow hF2)⟩ rfl rfl hl.1 rfl (lv_room (Nat.le_of_ble_eq_true rfl)) dL_law_380 ⟨(by show _ ≤ 601024; omega), (by show _ ≤ 7293034; omega)⟩) hS (fun q _ hq => hF2 q hq) hF2 (fun r8 u8 t8 H locs ht8 hvm8 hw8 hB8 hz8 hk8 hS => ?_)
  have hP8 : va_P (dC, dI) vwCl (rW cI cZ r a ((S_giveBack n p F (xs (4 * j + 1))).1) n p ((S_giveBack n p F (xs (4 * j + 1))).2.2)) H := by rw [← ht8]; exact hB8
  obtain ⟨hP, hD⟩ := join_R hP hD hk8 hF2 hP8 (D_same ((D_right hD).self) rfl)
  subst hw8
  refine lv_istore (lv' := [(6, .int ((S_giveBack n p F (xs (4 * j + 1))).2.1)), (5, .int ((S_giveBack n p F (xs (4 * j + 1))).1)), (4, .int (nI (4 * j))), (0, .ref b), (1, .ref h), (2, .ref r), (3, .ref o)]) hx hb dL_law_383 hl (by decide) rfl (fun ls hl => ?_)
  refine lv_aload_n hx hb dL_law_385 rfl (lv_at hl 5 rfl) ?_
  refine vp_callSi (va_Run.run (va_runV (As := []) (rest := []) ⟨hx, hb, hml, hown, hts⟩ (c_X3_thrown l dC dI r a ((S_giveBack n p F (xs (4 * j + 1))).1) n p ((S_giveBack n p F (xs (4 * j + 1))).2.2)) (cwV 0 hts gL_law_X3_thrown rfl rfl rfl (by decide +kernel) ⟨Nat.le_of_ble_eq_true rfl, Nat.le_of_ble_eq_true rfl⟩) ⟨PRo.blind, va_recv hK4 (P_right hP) (ci := 3) (q0 := 0) rfl rfl, PRo.pre (P_right hP) hK4 hE⟩ rfl rfl hl.1 rfl (lv_room (Nat.le_of_ble_eq_true rfl)) dL_law_386 ⟨(by show _ ≤ 601024; omega), (by show _ ≤ 7293034; omega)⟩)) (fun r hr => ?_)
  subst hr
  refine lv_iload hx hb dL_law_389 (lv_at hl 1 rfl) ?_
  refine lv_icmp_eq (tgt := 396) hx hb dL_law_391 (by decide) (fun _ => ?_) (fun c_391 => absurd (rfl) c_391)
  refine lv_iload hx hb dL_law_396 (lv_at hl 1 rfl) ?_
  refine lv_if_ne (tgt := 413) hx hb dL_law_398 (by decide) (fun c_398 => ?_) (fun c_398 => ?_)
  · skip
    refine lv_goto (tgt := 1130) hx hb dL_law_413 (by decide) ?_
    refine W.widen (k := cells + 3) (n := slots + 18) (by omega) (by omega) ?_
    exact K u9.1 u9.2.1 _ _ _ _ u9.2.2 _ _ _ (I_giveBack hI _) hP hD hS (lv_sub hl [2, 3, 4, 5, 6] rfl)
  · skip
    refine lv_aload_n hx hb dL_law_401 rfl (lv_at hl 6 rfl) ?_
    refine lv_iconst (v := 0) hx hb dL_law_402 (by decide) ?_
    have hm9 := mid_at (cW tK tB h ak ab af u9.1 u9.2.1 n p ((S_giveBack n p F (xs (4 * j + 1))).2.2)) ((o, .inl (cJ, 1, .inr (.inl u9.2.2))) : Nat × va_E) (rW cI cZ r a ((S_giveBack n p F (xs (4 * j + 1))).1) n p ((S_giveBack n p F (xs (4 * j + 1))).2.2))
    refine va_lald hx hb hK hP _ 2 hm9 rfl (by unfold vp_in; decide) dL_law_403 ?_
    refine W_top (y := .long ((S_giveBack n p F (xs (4 * j + 1))).2.1).toInt64) (congrArg Value.long (hf9 c_398)) ?_
    refine lv_iload hx hb dL_law_404 (lv_at hl 0 rfl) ?_
    refine lv_i2l (v := ((S_giveBack n p F (xs (4 * j + 1))).2.1).toInt64) hx hb dL_law_406 rfl ?_
    refine W.lcmp hx hb dL_law_407 ?_
    refine W_top (y := .int 0) (congrArg Value.int (lg_same _)) ?_
    refine lv_if_eq (tgt := 413) hx hb dL_law_408 (by decide) (fun _ => ?_) (fun c_408 => absurd (by decide) c_408)
    refine lv_goto (tgt := 1130) hx hb dL_law_413 (by decide) ?_
    refine W.widen (k := cells + 3) (n := slots + 18) (by omega) (by omega) ?_
    exact K u9.1 u9.2.1 _ _ _ _ u9.2.2 _ _ _ (I_giveBack hI _) hP hD hS (lv_sub hl [2, 3, 4, 5, 6] rfl)

set_option maxHeartbeats 4000000 in
set_option maxRecDepth 100000 in
theorem law_fly {p9 : Program} {l : Launch} (hlt : l.stackTraces = false) {e9 : Env} {s : State} {m : MethodId} {below : List Frame} {meth : Method} {c : Code} {b L : Nat} {xs : Nat → Int32} (C0 : lw_At p9 s m meth c b L xs) (hL : L ≤ 2048) {dC : Nat → ClassId} {dI : Nat → Nat → Nat} {tK tB cI cZ cJ : ClassId} {h ak ab af o r : Nat} {a : Nat → Nat} (hK : va_K (dC, dI) vwCl (lTy tK tB cI cZ cJ) s) (hE : EN s) (hH0 : EH (lA s) s s.heap) {ka kb : Nat → Nat} {n p : Nat} {F : Rows} {th : Int32} {f : Nat → Int64} (hI : Inv n p F) {j : Nat} (hj : 4 * j + 4 ≤ L) {H : Heap} {locs : List Loc} {ls : Array Slot} {cells slots : Nat} (hcl9 : cells + 3 ≤ 601024) (hsl9 : slots + 18 ≤ 7293034) (hP : va_P (dC, dI) vwCl (lWd tK tB cI cZ cJ h ak ab af o r a ka kb n p F th f) H) (hD : va_D (lA s) (lWd tK tB cI cZ cJ h ak ab af o r a ka kb n p F th f)) (hS : va_S (lA s) s.heap H locs) (hl : lv_has ls 7 [(4, .int (nI (4 * j))), (0, .ref b), (1, .ref h), (2, .ref r), (3, .ref o)]) (K : ∀ (ka kb : Nat → Nat) (n p : Nat) (F : Rows) (th : Int32) (f : Nat → Int64) (H : Heap) (locs : List Loc) (ls : Array Slot), Inv n p F → va_P (dC, dI) vwCl (lWd tK tB cI cZ cJ h ak ab af o r a ka kb n p F th f) H → va_D (lA s) (lWd tK tB cI cZ cJ h ak ab af o r a ka kb n p F th f) → va_S (lA s) s.heap H locs → lv_has ls 7 [(4, .int (nI (4 * j))), (0, .ref b), (1, .ref h), (2, .ref r), (3, .ref o)] → W p9 l e9 room_1 s m #[Value.ref b] below meth c H locs (cells + 3) (slots + 18) (lw_Z below #[Value.ref b] s) (F0 m 1130 ls [])) : W p9 l e9 room_1 s m #[Value.ref b] below meth c H locs (cells) (slots) (lw_Z below #[Value.ref b] s) (F0 m 416 ls []) := by
  obtain ⟨hx, hb, -, hml, hown, hts0, hX, hbl, hlocks, -⟩ := C0
  have hown : s.vm.findClass RL = some m.cls := hown
  have hts : ∀ w ∈ wsL_law, w.before #[Value.ref b] s = true := fun w hw => hts0 w (wsL_law_in w hw)
  have hA : ∀ q : Nat, s.heap.size ≤ q → lA s q := fun q hq => hq
  have hbA : ¬ lA s b := Nat.not_le.mpr hbl
  have hb : c.code = cL_law := hb
  refine lv_aload_n hx hb dL_law_416 rfl (lv_at hl 2 rfl) ?_
  refine lv_aload_n hx hb dL_law_417 rfl (lv_at hl 1 rfl) ?_
  refine lv_iload hx hb dL_law_418 (lv_at hl 0 rfl) ?_
  refine lv_iconst (v := 1) hx hb dL_law_420 (by decide) ?_
  refine lv_iadd hx hb dL_law_421 ?_
  refine W_top (y := .int (nI (4 * j + 1))) (congrArg Value.int (nI_add (4 * j) 1)) ?_
  refine my_sld hx hb hX hbl hbA hS (k := (4 * j + 1)) (by omega) (by omega) dL_law_422 ?_
  refine lv_aload_n hx hb dL_law_423 rfl (lv_at hl 1 rfl) ?_
  refine lv_iload hx hb dL_law_424 (lv_at hl 0 rfl) ?_
  refine lv_iconst (v := 2) hx hb dL_law_426 (by decide) ?_
  refine lv_iadd hx hb dL_law_427 ?_
  refine W_top (y := .int (nI (4 * j + 2))) (congrArg Value.int (nI_add (4 * j) 2)) ?_
  refine my_sld hx hb hX hbl hbA hS (k := (4 * j + 2)) (by omega) (by omega) dL_law_428 ?_
  refine lv_aload_n hx hb dL_law_429 rfl (lv_at hl 1 rfl) ?_
  refine lv_iload hx hb dL_law_430 (lv_at hl 0 rfl) ?_
  refine lv_iconst (v := 3) hx hb dL_law_432 (by decide) ?_
  refine lv_iadd hx hb dL_law_433 ?_
  refine W_top (y := .int (nI (4 * j + 3))) (congrArg Value.int (nI_add (4 * j) 3)) ?_
  refine my_sld hx hb hX hbl hbA hS (k := (4 * j + 3)) (by omega) (by omega) dL_law_434 ?_
  refine lv_aload_n hx hb dL_law_435 rfl (lv_at hl 4 rfl) ?_
  have hF1 := A_in (D_left hD) hS hA
  have hK3 := hK.sub (tys' := [(tK, .object "Windlane$Kite"), (tB, .object "Windlane$Borrower"), (cJ, .long)]) [0, 1, 2] rfl
  refine va_calli (vx_runSW (As := [.ref h, .int (xs (4 * j + 1)), .int (xs (4 * j + 2)), .int (xs (4 * j + 3)), .ref o]) (rest := []) ⟨hx, hb, hml, hown, hts⟩ (c_L_fly l hlt dC dI H.size h ak ab af ka kb n p F o f (xs (4 * j + 1)) (xs (4 * j + 2)) (xs (4 * j + 3)) hI) (vx_cwSW 5 hts gL_law_L_fly rfl rfl rfl (by decide +kernel) ⟨Nat.le_of_ble_eq_true rfl, Nat.le_of_ble_eq_true rfl⟩) ⟨PWr.blind, PWr.pre (P_left hP) hK3 (D_left hD) hE ((hH0.kept hS.2.1).narrow hF1)⟩ rfl rfl hl.1 rfl (lv_room (Nat.le_of_ble_eq_true rfl)) dL_law_436 ⟨(by show _ ≤ 601024; omega), (by show _ ≤ 7293034; omega)⟩) hS (fun q _ hq => hF1 q hq) hF1 (fun r9 u9 t9 H locs ht9 hvm hw9 hB hz1 hk1 hS => ?_)
  obtain ⟨hP1, hD1⟩ := hB
  rw [ht9] at hP1
  obtain ⟨hw9, hf9⟩ := hw9
  obtain ⟨hP, hD⟩ := join_L hP hD hk1 hF1 hP1 hD1
  subst hw9
  refine lv_istore (lv' := [(5, .int ((S_fly n F (xs (4 * j + 1)) (xs (4 * j + 2)) (xs (4 * j + 3))).1)), (4, .int (nI (4 * j))), (0, .ref b), (1, .ref h), (2, .ref r), (3, .ref o)]) hx hb dL_law_439 hl (by decide) rfl (fun ls hl => ?_)
  refine lv_aload_n hx hb dL_law_441 rfl (lv_at hl 4 rfl) ?_
  refine lv_aload_n hx hb dL_law_442 rfl (lv_at hl 2 rfl) ?_
  refine lv_iload hx hb dL_law_443 (lv_at hl 1 rfl) ?_
  refine lv_iconst (v := 1) hx hb dL_law_445 (by decide) ?_
  refine lv_iadd hx hb dL_law_446 ?_
  refine W_top (y := .int (nI (4 * j + 1))) (congrArg Value.int (nI_add (4 * j) 1)) ?_
  refine my_sld hx hb hX hbl hbA hS (k := (4 * j + 1)) (by omega) (by omega) dL_law_447 ?_
  refine lv_aload_n hx hb dL_law_448 rfl (lv_at hl 2 rfl) ?_
  refine lv_iload hx hb dL_law_449 (lv_at hl 1 rfl) ?_
  refine lv_iconst (v := 2) hx hb dL_law_451 (by decide) ?_
  refine lv_iadd hx hb dL_law_452 ?_
  refine W_top (y := .int (nI (4 * j + 2))) (congrArg Value.int (nI_add (4 * j) 2)) ?_
  refine my_sld hx hb hX hbl hbA hS (k := (4 * j + 2)) (by omega) (by omega) dL_law_453 ?_
  refine lv_aload_n hx hb dL_law_454 rfl (lv_at hl 2 rfl) ?_
  refine lv_iload hx hb dL_law_455 (lv_at hl 1 rfl) ?_
  refine lv_iconst (v := 3) hx hb dL_law_457 (by decide) ?_
  refine lv_iadd hx hb dL_law_458 ?_
  refine W_top (y := .int (nI (4 * j + 3))) (congrArg Value.int (nI_add (4 * j) 3)) ?_
  refine my_sld hx hb hX hbl hbA hS (k := (4 * j + 3)) (by omega) (by omega) dL_law_459 ?_
  have hF2 := A_in (D_right hD) hS hA
  have hK4 := hK.sub (tys' := [(cI, .int), (cZ, .boolean)]) [3, 4] rfl
  refine va_calli (va_runV (As := [.int (xs (4 * j + 1)), .int (xs (4 * j + 2)), .int (xs (4 * j + 3))]) (rest := []) ⟨hx, hb, hml, hown, hts⟩ (c_X3_fly l dC dI H.size r a th n p F (xs (4 * j + 1)) (xs (4 * j + 2)) (xs (4 * j + 3)) hI) (cwV 3 hts gL_law_X3_fly rfl rfl rfl (by decide +kernel) ⟨Nat.le_of_ble_eq_true rfl, Nat.le_of_ble_eq_true rfl⟩) ⟨PWr.blind, va_recv hK4 (P_right hP) (ci := 3) (q0 := 0) rfl rfl, PWr.pre (P_right hP) hK4 (D_right hD) hE ((hH0.kept hS.2.1).narrow hF2)⟩ rfl rfl hl.1 rfl (lv_room (Nat.le_of_ble_eq_true rfl)) dL_law_460 ⟨(by show _ ≤ 601024; omega), (by show _ ≤ 7293034; omega)⟩) hS (fun q _ hq => hF2 q hq) hF2 (fun r8 u8 t8 H locs ht8 hvm8 hw8 hB8 hz8 hk8 hS => ?_)
  have hP8 : va_P (dC, dI) vwCl (rW cI cZ r a ((S_fly n F (xs (4 * j + 1)) (xs (4 * j + 2)) (xs (4 * j + 3))).1) n p ((S_fly n F (xs (4 * j + 1)) (xs (4 * j + 2)) (xs (4 * j + 3))).2.2)) H := by rw [← ht8]; exact hB8
  obtain ⟨hP, hD⟩ := join_R hP hD hk8 hF2 hP8 (D_same ((D_right hD).self) rfl)
  subst hw8
  refine lv_istore (lv' := [(6, .int ((S_fly n F (xs (4 * j + 1)) (xs (4 * j + 2)) (xs (4 * j + 3))).2.1)), (5, .int ((S_fly n F (xs (4 * j + 1)) (xs (4 * j + 2)) (xs (4 * j + 3))).1)), (4, .int (nI (4 * j))), (0, .ref b), (1, .ref h), (2, .ref r), (3, .ref o)]) hx hb dL_law_463 hl (by decide) rfl (fun ls hl => ?_)
  refine lv_aload_n hx hb dL_law_465 rfl (lv_at hl 5 rfl) ?_
  refine vp_callSi (va_Run.run (va_runV (As := []) (rest := []) ⟨hx, hb, hml, hown, hts⟩ (c_X3_thrown l dC dI r a ((S_fly n F (xs (4 * j + 1)) (xs (4 * j + 2)) (xs (4 * j + 3))).1) n p ((S_fly n F (xs (4 * j + 1)) (xs (4 * j + 2)) (xs (4 * j + 3))).2.2)) (cwV 0 hts gL_law_X3_thrown rfl rfl rfl (by decide +kernel) ⟨Nat.le_of_ble_eq_true rfl, Nat.le_of_ble_eq_true rfl⟩) ⟨PRo.blind, va_recv hK4 (P_right hP) (ci := 3) (q0 := 0) rfl rfl, PRo.pre (P_right hP) hK4 hE⟩ rfl rfl hl.1 rfl (lv_room (Nat.le_of_ble_eq_true rfl)) dL_law_466 ⟨(by show _ ≤ 601024; omega), (by show _ ≤ 7293034; omega)⟩)) (fun r hr => ?_)
  subst hr
  refine lv_iload hx hb dL_law_469 (lv_at hl 1 rfl) ?_
  refine lv_icmp_eq (tgt := 476) hx hb dL_law_471 (by decide) (fun _ => ?_) (fun c_471 => absurd (rfl) c_471)
  refine lv_iload hx hb dL_law_476 (lv_at hl 1 rfl) ?_
  refine lv_if_ne (tgt := 493) hx hb dL_law_478 (by decide) (fun c_478 => ?_) (fun c_478 => ?_)
  · skip
    refine lv_goto (tgt := 1130) hx hb dL_law_493 (by decide) ?_
    refine W.widen (k := cells + 3) (n := slots + 18) (by omega) (by omega) ?_
    exact K u9.1 u9.2.1 _ _ _ _ u9.2.2 _ _ _ (I_fly hI _ _ _) hP hD hS (lv_sub hl [2, 3, 4, 5, 6] rfl)
  · skip
    refine lv_aload_n hx hb dL_law_481 rfl (lv_at hl 6 rfl) ?_
    refine lv_iconst (v := 0) hx hb dL_law_482 (by decide) ?_
    have hm9 := mid_at (cW tK tB h ak ab af u9.1 u9.2.1 n p ((S_fly n F (xs (4 * j + 1)) (xs (4 * j + 2)) (xs (4 * j + 3))).2.2)) ((o, .inl (cJ, 1, .inr (.inl u9.2.2))) : Nat × va_E) (rW cI cZ r a ((S_fly n F (xs (4 * j + 1)) (xs (4 * j + 2)) (xs (4 * j + 3))).1) n p ((S_fly n F (xs (4 * j + 1)) (xs (4 * j + 2)) (xs (4 * j + 3))).2.2))
    refine va_lald hx hb hK hP _ 2 hm9 rfl (by unfold vp_in; decide) dL_law_483 ?_
    refine W_top (y := .long ((S_fly n F (xs (4 * j + 1)) (xs (4 * j + 2)) (xs (4 * j + 3))).2.1).toInt64) (congrArg Value.long (hf9 c_478)) ?_
    refine lv_iload hx hb dL_law_484 (lv_at hl 0 rfl) ?_
    refine lv_i2l (v := ((S_fly n F (xs (4 * j + 1)) (xs (4 * j + 2)) (xs (4 * j + 3))).2.1).toInt64) hx hb dL_law_486 rfl ?_
    refine W.lcmp hx hb dL_law_487 ?_
    refine W_top (y := .int 0) (congrArg Value.int (lg_same _)) ?_
    refine lv_if_eq (tgt := 493) hx hb dL_law_488 (by decide) (fun _ => ?_) (fun c_488 => absurd (by decide) c_488)
    refine lv_goto (tgt := 1130) hx hb dL_law_493 (by decide) ?_
    refine W.widen (k := cells + 3) (n := slots + 18) (by omega) (by omega) ?_
    exact K u9.1 u9.2.1 _ _ _ _ u9.2.2 _ _ _ (I_fly hI _ _ _) hP hD hS (lv_sub hl [2, 3, 4, 5, 6] rfl)

set_option maxHeartbeats 4000000 in
set_option maxRecDepth 100000 in
theorem law_land {p9 : Program} {l : Launch} (hlt : l.stackTraces = false) {e9 : Env} {s : State} {m : MethodId} {below : List Frame} {meth : Method} {c : Code} {b L : Nat} {xs : Nat → Int32} (C0 : lw_At p9 s m meth c b L xs) (hL : L ≤ 2048) {dC : Nat → ClassId} {dI : Nat → Nat → Nat} {tK tB cI cZ cJ : ClassId} {h ak ab af o r : Nat} {a : Nat → Nat} (hK : va_K (dC, dI) vwCl (lTy tK tB cI cZ cJ) s) (hE : EN s) (hH0 : EH (lA s) s s.heap) {ka kb : Nat → Nat} {n p : Nat} {F : Rows} {th : Int32} {f : Nat → Int64} (hI : Inv n p F) {j : Nat} (hj : 4 * j + 4 ≤ L) {H : Heap} {locs : List Loc} {ls : Array Slot} {cells slots : Nat} (hcl9 : cells + 3 ≤ 601024) (hsl9 : slots + 18 ≤ 7293034) (hP : va_P (dC, dI) vwCl (lWd tK tB cI cZ cJ h ak ab af o r a ka kb n p F th f) H) (hD : va_D (lA s) (lWd tK tB cI cZ cJ h ak ab af o r a ka kb n p F th f)) (hS : va_S (lA s) s.heap H locs) (hl : lv_has ls 7 [(4, .int (nI (4 * j))), (0, .ref b), (1, .ref h), (2, .ref r), (3, .ref o)]) (K : ∀ (ka kb : Nat → Nat) (n p : Nat) (F : Rows) (th : Int32) (f : Nat → Int64) (H : Heap) (locs : List Loc) (ls : Array Slot), Inv n p F → va_P (dC, dI) vwCl (lWd tK tB cI cZ cJ h ak ab af o r a ka kb n p F th f) H → va_D (lA s) (lWd tK tB cI cZ cJ h ak ab af o r a ka kb n p F th f) → va_S (lA s) s.heap H locs → lv_has ls 7 [(4, .int (nI (4 * j))), (0, .ref b), (1, .ref h), (2, .ref r), (3, .ref o)] → W p9 l e9 room_1 s m #[Value.ref b] below meth c H locs (cells + 3) (slots + 18) (lw_Z below #[Value.ref b] s) (F0 m 1130 ls [])) : W p9 l e9 room_1 s m #[Value.ref b] below meth c H locs (cells) (slots) (lw_Z below #[Value.ref b] s) (F0 m 496 ls []) := by
  obtain ⟨hx, hb, -, hml, hown, hts0, hX, hbl, hlocks, -⟩ := C0
  have hown : s.vm.findClass RL = some m.cls := hown
  have hts : ∀ w ∈ wsL_law, w.before #[Value.ref b] s = true := fun w hw => hts0 w (wsL_law_in w hw)
  have hA : ∀ q : Nat, s.heap.size ≤ q → lA s q := fun q hq => hq
  have hbA : ¬ lA s b := Nat.not_le.mpr hbl
  have hb : c.code = cL_law := hb
  refine lv_aload_n hx hb dL_law_496 rfl (lv_at hl 2 rfl) ?_
  refine lv_aload_n hx hb dL_law_497 rfl (lv_at hl 1 rfl) ?_
  refine lv_iload hx hb dL_law_498 (lv_at hl 0 rfl) ?_
  refine lv_iconst (v := 1) hx hb dL_law_500 (by decide) ?_
  refine lv_iadd hx hb dL_law_501 ?_
  refine W_top (y := .int (nI (4 * j + 1))) (congrArg Value.int (nI_add (4 * j) 1)) ?_
  refine my_sld hx hb hX hbl hbA hS (k := (4 * j + 1)) (by omega) (by omega) dL_law_502 ?_
  refine lv_aload_n hx hb dL_law_503 rfl (lv_at hl 4 rfl) ?_
  have hF1 := A_in (D_left hD) hS hA
  have hK3 := hK.sub (tys' := [(tK, .object "Windlane$Kite"), (tB, .object "Windlane$Borrower"), (cJ, .long)]) [0, 1, 2] rfl
  refine va_calli (vx_runSW (As := [.ref h, .int (xs (4 * j + 1)), .ref o]) (rest := []) ⟨hx, hb, hml, hown, hts⟩ (c_L_land l hlt dC dI H.size h ak ab af ka kb n p F o f (xs (4 * j + 1)) hI) (vx_cwSW 3 hts gL_law_L_land rfl rfl rfl (by decide +kernel) ⟨Nat.le_of_ble_eq_true rfl, Nat.le_of_ble_eq_true rfl⟩) ⟨PWr.blind, PWr.pre (P_left hP) hK3 (D_left hD) hE ((hH0.kept hS.2.1).narrow hF1)⟩ rfl rfl hl.1 rfl (lv_room (Nat.le_of_ble_eq_true rfl)) dL_law_504 ⟨(by show _ ≤ 601024; omega), (by show _ ≤ 7293034; omega)⟩) hS (fun q _ hq => hF1 q hq) hF1 (fun r9 u9 t9 H locs ht9 hvm hw9 hB hz1 hk1 hS => ?_)
  obtain ⟨hP1, hD1⟩ := hB
  rw [ht9] at hP1
  obtain ⟨hw9, hf9⟩ := hw9
  obtain ⟨hP, hD⟩ := join_L hP hD hk1 hF1 hP1 hD1
  subst hw9
  refine lv_istore (lv' := [(5, .int ((S_land n F (xs (4 * j + 1))).1)), (4, .int (nI (4 * j))), (0, .ref b), (1, .ref h), (2, .ref r), (3, .ref o)]) hx hb dL_law_507 hl (by decide) rfl (fun ls hl => ?_)
  refine lv_aload_n hx hb dL_law_509 rfl (lv_at hl 4 rfl) ?_
  refine lv_aload_n hx hb dL_law_510 rfl (lv_at hl 2 rfl) ?_
  refine lv_iload hx hb dL_law_511 (lv_at hl 1 rfl) ?_
  refine lv_iconst (v := 1) hx hb dL_law_513 (by decide) ?_
  refine lv_iadd hx hb dL_law_514 ?_
  refine W_top (y := .int (nI (4 * j + 1))) (congrArg Value.int (nI_add (4 * j) 1)) ?_
  refine my_sld hx hb hX hbl hbA hS (k := (4 * j + 1)) (by omega) (by omega) dL_law_515 ?_
  have hF2 := A_in (D_right hD) hS hA
  have hK4 := hK.sub (tys' := [(cI, .int), (cZ, .boolean)]) [3, 4] rfl
  refine va_calli (va_runV (As := [.int (xs (4 * j + 1))]) (rest := []) ⟨hx, hb, hml, hown, hts⟩ (c_X3_land l dC dI H.size r a th n p F (xs (4 * j + 1)) hI) (cwV 1 hts gL_law_X3_land rfl rfl rfl (by decide +kernel) ⟨Nat.le_of_ble_eq_true rfl, Nat.le_of_ble_eq_true rfl⟩) ⟨PWr.blind, va_recv hK4 (P_right hP) (ci := 3) (q0 := 0) rfl rfl, PWr.pre (P_right hP) hK4 (D_right hD) hE ((hH0.kept hS.2.1).narrow hF2)⟩ rfl rfl hl.1 rfl (lv_room (Nat.le_of_ble_eq_true rfl)) dL_law_516 ⟨(by show _ ≤ 601024; omega), (by show _ ≤ 7293034; omega)⟩) hS (fun q _ hq => hF2 q hq) hF2 (fun r8 u8 t8 H locs ht8 hvm8 hw8 hB8 hz8 hk8 hS => ?_)
  have hP8 : va_P (dC, dI) vwCl (rW cI cZ r a ((S_land n F (xs (4 * j + 1))).1) n p ((S_land n F (xs (4 * j + 1))).2.2)) H := by rw [← ht8]; exact hB8
  obtain ⟨hP, hD⟩ := join_R hP hD hk8 hF2 hP8 (D_same ((D_right hD).self) rfl)
  subst hw8
  refine lv_istore (lv' := [(6, .int ((S_land n F (xs (4 * j + 1))).2.1)), (5, .int ((S_land n F (xs (4 * j + 1))).1)), (4, .int (nI (4 * j))), (0, .ref b), (1, .ref h), (2, .ref r), (3, .ref o)]) hx hb dL_law_519 hl (by decide) rfl (fun ls hl => ?_)
  refine lv_aload_n hx hb dL_law_521 rfl (lv_at hl 5 rfl) ?_
  refine vp_callSi (va_Run.run (va_runV (As := []) (rest := []) ⟨hx, hb, hml, hown, hts⟩ (c_X3_thrown l dC dI r a ((S_land n F (xs (4 * j + 1))).1) n p ((S_land n F (xs (4 * j + 1))).2.2)) (cwV 0 hts gL_law_X3_thrown rfl rfl rfl (by decide +kernel) ⟨Nat.le_of_ble_eq_true rfl, Nat.le_of_ble_eq_true rfl⟩) ⟨PRo.blind, va_recv hK4 (P_right hP) (ci := 3) (q0 := 0) rfl rfl, PRo.pre (P_right hP) hK4 hE⟩ rfl rfl hl.1 rfl (lv_room (Nat.le_of_ble_eq_true rfl)) dL_law_522 ⟨(by show _ ≤ 601024; omega), (by show _ ≤ 7293034; omega)⟩)) (fun r hr => ?_)
  subst hr
  refine lv_iload hx hb dL_law_525 (lv_at hl 1 rfl) ?_
  refine lv_icmp_eq (tgt := 532) hx hb dL_law_527 (by decide) (fun _ => ?_) (fun c_527 => absurd (rfl) c_527)
  refine lv_iload hx hb dL_law_532 (lv_at hl 1 rfl) ?_
  refine lv_if_ne (tgt := 549) hx hb dL_law_534 (by decide) (fun c_534 => ?_) (fun c_534 => ?_)
  · skip
    refine lv_goto (tgt := 1130) hx hb dL_law_549 (by decide) ?_
    refine W.widen (k := cells + 3) (n := slots + 18) (by omega) (by omega) ?_
    exact K u9.1 u9.2.1 _ _ _ _ u9.2.2 _ _ _ (I_land hI _) hP hD hS (lv_sub hl [2, 3, 4, 5, 6] rfl)
  · skip
    refine lv_aload_n hx hb dL_law_537 rfl (lv_at hl 6 rfl) ?_
    refine lv_iconst (v := 0) hx hb dL_law_538 (by decide) ?_
    have hm9 := mid_at (cW tK tB h ak ab af u9.1 u9.2.1 n p ((S_land n F (xs (4 * j + 1))).2.2)) ((o, .inl (cJ, 1, .inr (.inl u9.2.2))) : Nat × va_E) (rW cI cZ r a ((S_land n F (xs (4 * j + 1))).1) n p ((S_land n F (xs (4 * j + 1))).2.2))
    refine va_lald hx hb hK hP _ 2 hm9 rfl (by unfold vp_in; decide) dL_law_539 ?_
    refine W_top (y := .long ((S_land n F (xs (4 * j + 1))).2.1).toInt64) (congrArg Value.long (hf9 c_534)) ?_
    refine lv_iload hx hb dL_law_540 (lv_at hl 0 rfl) ?_
    refine lv_i2l (v := ((S_land n F (xs (4 * j + 1))).2.1).toInt64) hx hb dL_law_542 rfl ?_
    refine W.lcmp hx hb dL_law_543 ?_
    refine W_top (y := .int 0) (congrArg Value.int (lg_same _)) ?_
    refine lv_if_eq (tgt := 549) hx hb dL_law_544 (by decide) (fun _ => ?_) (fun c_544 => absurd (by decide) c_544)
    refine lv_goto (tgt := 1130) hx hb dL_law_549 (by decide) ?_
    refine W.widen (k := cells + 3) (n := slots + 18) (by omega) (by omega) ?_
    exact K u9.1 u9.2.1 _ _ _ _ u9.2.2 _ _ _ (I_land hI _) hP hD hS (lv_sub hl [2, 3, 4, 5, 6] rfl)

set_option maxHeartbeats 4000000 in
set_option maxRecDepth 100000 in
theorem law_wind {p9 : Program} {l : Launch} (hlt : l.stackTraces = false) {e9 : Env} {s : State} {m : MethodId} {below : List Frame} {meth : Method} {c : Code} {b L : Nat} {xs : Nat → Int32} (C0 : lw_At p9 s m meth c b L xs) (hL : L ≤ 2048) {dC : Nat → ClassId} {dI : Nat → Nat → Nat} {tK tB cI cZ cJ : ClassId} {h ak ab af o r : Nat} {a : Nat → Nat} (hK : va_K (dC, dI) vwCl (lTy tK tB cI cZ cJ) s) (hE : EN s) (hH0 : EH (lA s) s s.heap) {ka kb : Nat → Nat} {n p : Nat} {F : Rows} {th : Int32} {f : Nat → Int64} (hI : Inv n p F) {j : Nat} (hj : 4 * j + 4 ≤ L) {H : Heap} {locs : List Loc} {ls : Array Slot} {cells slots : Nat} (hcl9 : cells + 3 ≤ 601024) (hsl9 : slots + 18 ≤ 7293034) (hP : va_P (dC, dI) vwCl (lWd tK tB cI cZ cJ h ak ab af o r a ka kb n p F th f) H) (hD : va_D (lA s) (lWd tK tB cI cZ cJ h ak ab af o r a ka kb n p F th f)) (hS : va_S (lA s) s.heap H locs) (hl : lv_has ls 7 [(4, .int (nI (4 * j))), (0, .ref b), (1, .ref h), (2, .ref r), (3, .ref o)]) (K : ∀ (ka kb : Nat → Nat) (n p : Nat) (F : Rows) (th : Int32) (f : Nat → Int64) (H : Heap) (locs : List Loc) (ls : Array Slot), Inv n p F → va_P (dC, dI) vwCl (lWd tK tB cI cZ cJ h ak ab af o r a ka kb n p F th f) H → va_D (lA s) (lWd tK tB cI cZ cJ h ak ab af o r a ka kb n p F th f) → va_S (lA s) s.heap H locs → lv_has ls 7 [(4, .int (nI (4 * j))), (0, .ref b), (1, .ref h), (2, .ref r), (3, .ref o)] → W p9 l e9 room_1 s m #[Value.ref b] below meth c H locs (cells + 3) (slots + 18) (lw_Z below #[Value.ref b] s) (F0 m 1130 ls [])) : W p9 l e9 room_1 s m #[Value.ref b] below meth c H locs (cells) (slots) (lw_Z below #[Value.ref b] s) (F0 m 552 ls []) := by
  obtain ⟨hx, hb, -, hml, hown, hts0, hX, hbl, hlocks, -⟩ := C0
  have hown : s.vm.findClass RL = some m.cls := hown
  have hts : ∀ w ∈ wsL_law, w.before #[Value.ref b] s = true := fun w hw => hts0 w (wsL_law_in w hw)
  have hA : ∀ q : Nat, s.heap.size ≤ q → lA s q := fun q hq => hq
  have hbA : ¬ lA s b := Nat.not_le.mpr hbl
  have hb : c.code = cL_law := hb
  refine lv_aload_n hx hb dL_law_552 rfl (lv_at hl 2 rfl) ?_
  refine lv_aload_n hx hb dL_law_553 rfl (lv_at hl 1 rfl) ?_
  refine lv_iload hx hb dL_law_554 (lv_at hl 0 rfl) ?_
  refine lv_iconst (v := 1) hx hb dL_law_556 (by decide) ?_
  refine lv_iadd hx hb dL_law_557 ?_
  refine W_top (y := .int (nI (4 * j + 1))) (congrArg Value.int (nI_add (4 * j) 1)) ?_
  refine my_sld hx hb hX hbl hbA hS (k := (4 * j + 1)) (by omega) (by omega) dL_law_558 ?_
  refine lv_aload_n hx hb dL_law_559 rfl (lv_at hl 1 rfl) ?_
  refine lv_iload hx hb dL_law_560 (lv_at hl 0 rfl) ?_
  refine lv_iconst (v := 2) hx hb dL_law_562 (by decide) ?_
  refine lv_iadd hx hb dL_law_563 ?_
  refine W_top (y := .int (nI (4 * j + 2))) (congrArg Value.int (nI_add (4 * j) 2)) ?_
  refine my_sld hx hb hX hbl hbA hS (k := (4 * j + 2)) (by omega) (by omega) dL_law_564 ?_
  refine lv_aload_n hx hb dL_law_565 rfl (lv_at hl 4 rfl) ?_
  have hF1 := A_in (D_left hD) hS hA
  have hK3 := hK.sub (tys' := [(tK, .object "Windlane$Kite"), (tB, .object "Windlane$Borrower"), (cJ, .long)]) [0, 1, 2] rfl
  refine va_calli (vx_runSW (As := [.ref h, .int (xs (4 * j + 1)), .int (xs (4 * j + 2)), .ref o]) (rest := []) ⟨hx, hb, hml, hown, hts⟩ (c_L_wind l hlt dC dI H.size h ak ab af ka kb n p F o f (xs (4 * j + 1)) (xs (4 * j + 2)) hI) (vx_cwSW 4 hts gL_law_L_wind rfl rfl rfl (by decide +kernel) ⟨Nat.le_of_ble_eq_true rfl, Nat.le_of_ble_eq_true rfl⟩) ⟨PWr.blind, PWr.pre (P_left hP) hK3 (D_left hD) hE ((hH0.kept hS.2.1).narrow hF1)⟩ rfl rfl hl.1 rfl (lv_room (Nat.le_of_ble_eq_true rfl)) dL_law_566 ⟨(by show _ ≤ 601024; omega), (by show _ ≤ 7293034; omega)⟩) hS (fun q _ hq => hF1 q hq) hF1 (fun r9 u9 t9 H locs ht9 hvm hw9 hB hz1 hk1 hS => ?_)
  obtain ⟨hP1, hD1⟩ := hB
  rw [ht9] at hP1
  obtain ⟨hw9, hf9⟩ := hw9
  obtain ⟨hP, hD⟩ := join_L hP hD hk1 hF1 hP1 hD1
  subst hw9
  refine lv_istore (lv' := [(5, .int ((S_wind n F (xs (4 * j + 1)) (xs (4 * j + 2))).1)), (4, .int (nI (4 * j))), (0, .ref b), (1, .ref h), (2, .ref r), (3, .ref o)]) hx hb dL_law_569 hl (by decide) rfl (fun ls hl => ?_)
  refine lv_aload_n hx hb dL_law_571 rfl (lv_at hl 4 rfl) ?_
  refine lv_aload_n hx hb dL_law_572 rfl (lv_at hl 2 rfl) ?_
  refine lv_iload hx hb dL_law_573 (lv_at hl 1 rfl) ?_
  refine lv_iconst (v := 1) hx hb dL_law_575 (by decide) ?_
  refine lv_iadd hx hb dL_law_576 ?_
  refine W_top (y := .int (nI (4 * j + 1))) (congrArg Value.int (nI_add (4 * j) 1)) ?_
  refine my_sld hx hb hX hbl hbA hS (k := (4 * j + 1)) (by omega) (by omega) dL_law_577 ?_
  refine lv_aload_n hx hb dL_law_578 rfl (lv_at hl 2 rfl) ?_
  refine lv_iload hx hb dL_law_579 (lv_at hl 1 rfl) ?_
  refine lv_iconst (v := 2) hx hb dL_law_581 (by decide) ?_
  refine lv_iadd hx hb dL_law_582 ?_
  refine W_top (y := .int (nI (4 * j + 2))) (congrArg Value.int (nI_add (4 * j) 2)) ?_
  refine my_sld hx hb hX hbl hbA hS (k := (4 * j + 2)) (by omega) (by omega) dL_law_583 ?_
  have hF2 := A_in (D_right hD) hS hA
  have hK4 := hK.sub (tys' := [(cI, .int), (cZ, .boolean)]) [3, 4] rfl
  refine va_calli (va_runV (As := [.int (xs (4 * j + 1)), .int (xs (4 * j + 2))]) (rest := []) ⟨hx, hb, hml, hown, hts⟩ (c_X3_wind l dC dI H.size r a th n p F (xs (4 * j + 1)) (xs (4 * j + 2)) hI) (cwV 2 hts gL_law_X3_wind rfl rfl rfl (by decide +kernel) ⟨Nat.le_of_ble_eq_true rfl, Nat.le_of_ble_eq_true rfl⟩) ⟨PWr.blind, va_recv hK4 (P_right hP) (ci := 3) (q0 := 0) rfl rfl, PWr.pre (P_right hP) hK4 (D_right hD) hE ((hH0.kept hS.2.1).narrow hF2)⟩ rfl rfl hl.1 rfl (lv_room (Nat.le_of_ble_eq_true rfl)) dL_law_584 ⟨(by show _ ≤ 601024; omega), (by show _ ≤ 7293034; omega)⟩) hS (fun q _ hq => hF2 q hq) hF2 (fun r8 u8 t8 H locs ht8 hvm8 hw8 hB8 hz8 hk8 hS => ?_)
  have hP8 : va_P (dC, dI) vwCl (rW cI cZ r a ((S_wind n F (xs (4 * j + 1)) (xs (4 * j + 2))).1) n p ((S_wind n F (xs (4 * j + 1)) (xs (4 * j + 2))).2.2)) H := by rw [← ht8]; exact hB8
  obtain ⟨hP, hD⟩ := join_R hP hD hk8 hF2 hP8 (D_same ((D_right hD).self) rfl)
  subst hw8
  refine lv_istore (lv' := [(6, .int ((S_wind n F (xs (4 * j + 1)) (xs (4 * j + 2))).2.1)), (5, .int ((S_wind n F (xs (4 * j + 1)) (xs (4 * j + 2))).1)), (4, .int (nI (4 * j))), (0, .ref b), (1, .ref h), (2, .ref r), (3, .ref o)]) hx hb dL_law_587 hl (by decide) rfl (fun ls hl => ?_)
  refine lv_aload_n hx hb dL_law_589 rfl (lv_at hl 5 rfl) ?_
  refine vp_callSi (va_Run.run (va_runV (As := []) (rest := []) ⟨hx, hb, hml, hown, hts⟩ (c_X3_thrown l dC dI r a ((S_wind n F (xs (4 * j + 1)) (xs (4 * j + 2))).1) n p ((S_wind n F (xs (4 * j + 1)) (xs (4 * j + 2))).2.2)) (cwV 0 hts gL_law_X3_thrown rfl rfl rfl (by decide +kernel) ⟨Nat.le_of_ble_eq_true rfl, Nat.le_of_ble_eq_true rfl⟩) ⟨PRo.blind, va_recv hK4 (P_right hP) (ci := 3) (q0 := 0) rfl rfl, PRo.pre (P_right hP) hK4 hE⟩ rfl rfl hl.1 rfl (lv_room (Nat.le_of_ble_eq_true rfl)) dL_law_590 ⟨(by show _ ≤ 601024; omega), (by show _ ≤ 7293034; omega)⟩)) (fun r hr => ?_)
  subst hr
  refine lv_iload hx hb dL_law_593 (lv_at hl 1 rfl) ?_
  refine lv_icmp_eq (tgt := 600) hx hb dL_law_595 (by decide) (fun _ => ?_) (fun c_595 => absurd (rfl) c_595)
  refine lv_iload hx hb dL_law_600 (lv_at hl 1 rfl) ?_
  refine lv_if_ne (tgt := 617) hx hb dL_law_602 (by decide) (fun c_602 => ?_) (fun c_602 => ?_)
  · skip
    refine lv_goto (tgt := 1130) hx hb dL_law_617 (by decide) ?_
    refine W.widen (k := cells + 3) (n := slots + 18) (by omega) (by omega) ?_
    exact K u9.1 u9.2.1 _ _ _ _ u9.2.2 _ _ _ (I_wind hI _ _) hP hD hS (lv_sub hl [2, 3, 4, 5, 6] rfl)
  · skip
    refine lv_aload_n hx hb dL_law_605 rfl (lv_at hl 6 rfl) ?_
    refine lv_iconst (v := 0) hx hb dL_law_606 (by decide) ?_
    have hm9 := mid_at (cW tK tB h ak ab af u9.1 u9.2.1 n p ((S_wind n F (xs (4 * j + 1)) (xs (4 * j + 2))).2.2)) ((o, .inl (cJ, 1, .inr (.inl u9.2.2))) : Nat × va_E) (rW cI cZ r a ((S_wind n F (xs (4 * j + 1)) (xs (4 * j + 2))).1) n p ((S_wind n F (xs (4 * j + 1)) (xs (4 * j + 2))).2.2))
    refine va_lald hx hb hK hP _ 2 hm9 rfl (by unfold vp_in; decide) dL_law_607 ?_
    refine W_top (y := .long ((S_wind n F (xs (4 * j + 1)) (xs (4 * j + 2))).2.1).toInt64) (congrArg Value.long (hf9 c_602)) ?_
    refine lv_iload hx hb dL_law_608 (lv_at hl 0 rfl) ?_
    refine lv_i2l (v := ((S_wind n F (xs (4 * j + 1)) (xs (4 * j + 2))).2.1).toInt64) hx hb dL_law_610 rfl ?_
    refine W.lcmp hx hb dL_law_611 ?_
    refine W_top (y := .int 0) (congrArg Value.int (lg_same _)) ?_
    refine lv_if_eq (tgt := 617) hx hb dL_law_612 (by decide) (fun _ => ?_) (fun c_612 => absurd (by decide) c_612)
    refine lv_goto (tgt := 1130) hx hb dL_law_617 (by decide) ?_
    refine W.widen (k := cells + 3) (n := slots + 18) (by omega) (by omega) ?_
    exact K u9.1 u9.2.1 _ _ _ _ u9.2.2 _ _ _ (I_wind hI _ _) hP hD hS (lv_sub hl [2, 3, 4, 5, 6] rfl)

set_option maxHeartbeats 4000000 in
set_option maxRecDepth 100000 in
theorem law_pass {p9 : Program} {l : Launch} (hlt : l.stackTraces = false) {e9 : Env} {s : State} {m : MethodId} {below : List Frame} {meth : Method} {c : Code} {b L : Nat} {xs : Nat → Int32} (C0 : lw_At p9 s m meth c b L xs) (hL : L ≤ 2048) {dC : Nat → ClassId} {dI : Nat → Nat → Nat} {tK tB cI cZ cJ : ClassId} {h ak ab af o r : Nat} {a : Nat → Nat} (hK : va_K (dC, dI) vwCl (lTy tK tB cI cZ cJ) s) (hE : EN s) (hH0 : EH (lA s) s s.heap) {ka kb : Nat → Nat} {n p : Nat} {F : Rows} {th : Int32} {f : Nat → Int64} (hI : Inv n p F) {j : Nat} (hj : 4 * j + 4 ≤ L) {H : Heap} {locs : List Loc} {ls : Array Slot} {cells slots : Nat} (hcl9 : cells + 3 ≤ 601024) (hsl9 : slots + 18 ≤ 7293034) (hP : va_P (dC, dI) vwCl (lWd tK tB cI cZ cJ h ak ab af o r a ka kb n p F th f) H) (hD : va_D (lA s) (lWd tK tB cI cZ cJ h ak ab af o r a ka kb n p F th f)) (hS : va_S (lA s) s.heap H locs) (hl : lv_has ls 7 [(4, .int (nI (4 * j))), (0, .ref b), (1, .ref h), (2, .ref r), (3, .ref o)]) (K : ∀ (ka kb : Nat → Nat) (n p : Nat) (F : Rows) (th : Int32) (f : Nat → Int64) (H : Heap) (locs : List Loc) (ls : Array Slot), Inv n p F → va_P (dC, dI) vwCl (lWd tK tB cI cZ cJ h ak ab af o r a ka kb n p F th f) H → va_D (lA s) (lWd tK tB cI cZ cJ h ak ab af o r a ka kb n p F th f) → va_S (lA s) s.heap H locs → lv_has ls 7 [(4, .int (nI (4 * j))), (0, .ref b), (1, .ref h), (2, .ref r), (3, .ref o)] → W p9 l e9 room_1 s m #[Value.ref b] below meth c H locs (cells + 3) (slots + 18) (lw_Z below #[Value.ref b] s) (F0 m 1130 ls [])) : W p9 l e9 room_1 s m #[Value.ref b] below meth c H locs (cells) (slots) (lw_Z below #[Value.ref b] s) (F0 m 661 ls []) := by
  obtain ⟨hx, hb, -, hml, hown, hts0, hX, hbl, hlocks, -⟩ := C0
  have hown : s.vm.findClass RL = some m.cls := hown
  have hts : ∀ w ∈ wsL_law, w.before #[Value.ref b] s = true := fun w hw => hts0 w (wsL_law_in w hw)
  have hA : ∀ q : Nat, s.heap.size ≤ q → lA s q := fun q hq => hq
  have hbA : ¬ lA s b := Nat.not_le.mpr hbl
  have hb : c.code = cL_law := hb
  refine lv_aload_n hx hb dL_law_661 rfl (lv_at hl 2 rfl) ?_
  refine lv_aload_n hx hb dL_law_662 rfl (lv_at hl 1 rfl) ?_
  refine lv_iload hx hb dL_law_663 (lv_at hl 0 rfl) ?_
  refine lv_iconst (v := 1) hx hb dL_law_665 (by decide) ?_
  refine lv_iadd hx hb dL_law_666 ?_
  refine W_top (y := .int (nI (4 * j + 1))) (congrArg Value.int (nI_add (4 * j) 1)) ?_
  refine my_sld hx hb hX hbl hbA hS (k := (4 * j + 1)) (by omega) (by omega) dL_law_667 ?_
  refine lv_aload_n hx hb dL_law_668 rfl (lv_at hl 4 rfl) ?_
  have hF1 := A_in (D_left hD) hS hA
  have hK3 := hK.sub (tys' := [(tK, .object "Windlane$Kite"), (tB, .object "Windlane$Borrower"), (cJ, .long)]) [0, 1, 2] rfl
  refine va_calli (vx_runSW (As := [.ref h, .int (xs (4 * j + 1)), .ref o]) (rest := []) ⟨hx, hb, hml, hown, hts⟩ (c_L_pass l hlt dC dI H.size h ak ab af ka kb n p F o f (xs (4 * j + 1)) hI) (vx_cwSW 3 hts gL_law_L_pass rfl rfl rfl (by decide +kernel) ⟨Nat.le_of_ble_eq_true rfl, Nat.le_of_ble_eq_true rfl⟩) ⟨PWr.blind, PWr.pre (P_left hP) hK3 (D_left hD) hE ((hH0.kept hS.2.1).narrow hF1)⟩ rfl rfl hl.1 rfl (lv_room (Nat.le_of_ble_eq_true rfl)) dL_law_669 ⟨(by show _ ≤ 601024; omega), (by show _ ≤ 7293034; omega)⟩) hS (fun q _ hq => hF1 q hq) hF1 (fun r9 u9 t9 H locs ht9 hvm hw9 hB hz1 hk1 hS => ?_)
  obtain ⟨hP1, hD1⟩ := hB
  rw [ht9] at hP1
  obtain ⟨hw9, hf9⟩ := hw9
  obtain ⟨hP, hD⟩ := join_L hP hD hk1 hF1 hP1 hD1
  subst hw9
  refine lv_istore (lv' := [(5, .int ((S_pass n F (xs (4 * j + 1))).1)), (4, .int (nI (4 * j))), (0, .ref b), (1, .ref h), (2, .ref r), (3, .ref o)]) hx hb dL_law_672 hl (by decide) rfl (fun ls hl => ?_)
  refine lv_aload_n hx hb dL_law_674 rfl (lv_at hl 4 rfl) ?_
  refine lv_aload_n hx hb dL_law_675 rfl (lv_at hl 2 rfl) ?_
  refine lv_iload hx hb dL_law_676 (lv_at hl 1 rfl) ?_
  refine lv_iconst (v := 1) hx hb dL_law_678 (by decide) ?_
  refine lv_iadd hx hb dL_law_679 ?_
  refine W_top (y := .int (nI (4 * j + 1))) (congrArg Value.int (nI_add (4 * j) 1)) ?_
  refine my_sld hx hb hX hbl hbA hS (k := (4 * j + 1)) (by omega) (by omega) dL_law_680 ?_
  have hF2 := A_in (D_right hD) hS hA
  have hK4 := hK.sub (tys' := [(cI, .int), (cZ, .boolean)]) [3, 4] rfl
  refine va_calli (va_runV (As := [.int (xs (4 * j + 1))]) (rest := []) ⟨hx, hb, hml, hown, hts⟩ (c_X3_pass l dC dI H.size r a th n p F (xs (4 * j + 1)) hI) (cwV 1 hts gL_law_X3_pass rfl rfl rfl (by decide +kernel) ⟨Nat.le_of_ble_eq_true rfl, Nat.le_of_ble_eq_true rfl⟩) ⟨PWr.blind, va_recv hK4 (P_right hP) (ci := 3) (q0 := 0) rfl rfl, PWr.pre (P_right hP) hK4 (D_right hD) hE ((hH0.kept hS.2.1).narrow hF2)⟩ rfl rfl hl.1 rfl (lv_room (Nat.le_of_ble_eq_true rfl)) dL_law_681 ⟨(by show _ ≤ 601024; omega), (by show _ ≤ 7293034; omega)⟩) hS (fun q _ hq => hF2 q hq) hF2 (fun r8 u8 t8 H locs ht8 hvm8 hw8 hB8 hz8 hk8 hS => ?_)
  have hP8 : va_P (dC, dI) vwCl (rW cI cZ r a ((S_pass n F (xs (4 * j + 1))).1) n p ((S_pass n F (xs (4 * j + 1))).2.2)) H := by rw [← ht8]; exact hB8
  obtain ⟨hP, hD⟩ := join_R hP hD hk8 hF2 hP8 (D_same ((D_right hD).self) rfl)
  subst hw8
  refine lv_istore (lv' := [(6, .int ((S_pass n F (xs (4 * j + 1))).2.1)), (5, .int ((S_pass n F (xs (4 * j + 1))).1)), (4, .int (nI (4 * j))), (0, .ref b), (1, .ref h), (2, .ref r), (3, .ref o)]) hx hb dL_law_684 hl (by decide) rfl (fun ls hl => ?_)
  refine lv_aload_n hx hb dL_law_686 rfl (lv_at hl 5 rfl) ?_
  refine vp_callSi (va_Run.run (va_runV (As := []) (rest := []) ⟨hx, hb, hml, hown, hts⟩ (c_X3_thrown l dC dI r a ((S_pass n F (xs (4 * j + 1))).1) n p ((S_pass n F (xs (4 * j + 1))).2.2)) (cwV 0 hts gL_law_X3_thrown rfl rfl rfl (by decide +kernel) ⟨Nat.le_of_ble_eq_true rfl, Nat.le_of_ble_eq_true rfl⟩) ⟨PRo.blind, va_recv hK4 (P_right hP) (ci := 3) (q0 := 0) rfl rfl, PRo.pre (P_right hP) hK4 hE⟩ rfl rfl hl.1 rfl (lv_room (Nat.le_of_ble_eq_true rfl)) dL_law_687 ⟨(by show _ ≤ 601024; omega), (by show _ ≤ 7293034; omega)⟩)) (fun r hr => ?_)
  subst hr
  refine lv_iload hx hb dL_law_690 (lv_at hl 1 rfl) ?_
  refine lv_icmp_eq (tgt := 697) hx hb dL_law_692 (by decide) (fun _ => ?_) (fun c_692 => absurd (rfl) c_692)
  refine lv_iload hx hb dL_law_697 (lv_at hl 1 rfl) ?_
  refine lv_if_ne (tgt := 714) hx hb dL_law_699 (by decide) (fun c_699 => ?_) (fun c_699 => ?_)
  · skip
    refine lv_goto (tgt := 1130) hx hb dL_law_714 (by decide) ?_
    refine W.widen (k := cells + 3) (n := slots + 18) (by omega) (by omega) ?_
    exact K u9.1 u9.2.1 _ _ _ _ u9.2.2 _ _ _ (I_pass hI _) hP hD hS (lv_sub hl [2, 3, 4, 5, 6] rfl)
  · skip
    refine lv_aload_n hx hb dL_law_702 rfl (lv_at hl 6 rfl) ?_
    refine lv_iconst (v := 0) hx hb dL_law_703 (by decide) ?_
    have hm9 := mid_at (cW tK tB h ak ab af u9.1 u9.2.1 n p ((S_pass n F (xs (4 * j + 1))).2.2)) ((o, .inl (cJ, 1, .inr (.inl u9.2.2))) : Nat × va_E) (rW cI cZ r a ((S_pass n F (xs (4 * j + 1))).1) n p ((S_pass n F (xs (4 * j + 1))).2.2))
    refine va_lald hx hb hK hP _ 2 hm9 rfl (by unfold vp_in; decide) dL_law_704 ?_
    refine W_top (y := .long ((S_pass n F (xs (4 * j + 1))).2.1).toInt64) (congrArg Value.long (hf9 c_699)) ?_
    refine lv_iload hx hb dL_law_705 (lv_at hl 0 rfl) ?_
    refine lv_i2l (v := ((S_pass n F (xs (4 * j + 1))).2.1).toInt64) hx hb dL_law_707 rfl ?_
    refine W.lcmp hx hb dL_law_708 ?_
    refine W_top (y := .int 0) (congrArg Value.int (lg_same _)) ?_
    refine lv_if_eq (tgt := 714) hx hb dL_law_709 (by decide) (fun _ => ?_) (fun c_709 => absurd (by decide) c_709)
    refine lv_goto (tgt := 1130) hx hb dL_law_714 (by decide) ?_
    refine W.widen (k := cells + 3) (n := slots + 18) (by omega) (by omega) ?_
    exact K u9.1 u9.2.1 _ _ _ _ u9.2.2 _ _ _ (I_pass hI _) hP hD hS (lv_sub hl [2, 3, 4, 5, 6] rfl)

set_option maxHeartbeats 4000000 in
set_option maxRecDepth 100000 in
theorem law_pull {p9 : Program} {l : Launch} (hlt : l.stackTraces = false) {e9 : Env} {s : State} {m : MethodId} {below : List Frame} {meth : Method} {c : Code} {b L : Nat} {xs : Nat → Int32} (C0 : lw_At p9 s m meth c b L xs) (hL : L ≤ 2048) {dC : Nat → ClassId} {dI : Nat → Nat → Nat} {tK tB cI cZ cJ : ClassId} {h ak ab af o r : Nat} {a : Nat → Nat} (hK : va_K (dC, dI) vwCl (lTy tK tB cI cZ cJ) s) (hE : EN s) (hH0 : EH (lA s) s s.heap) {ka kb : Nat → Nat} {n p : Nat} {F : Rows} {th : Int32} {f : Nat → Int64} (hI : Inv n p F) {j : Nat} (hj : 4 * j + 4 ≤ L) {H : Heap} {locs : List Loc} {ls : Array Slot} {cells slots : Nat} (hcl9 : cells + 3 ≤ 601024) (hsl9 : slots + 18 ≤ 7293034) (hP : va_P (dC, dI) vwCl (lWd tK tB cI cZ cJ h ak ab af o r a ka kb n p F th f) H) (hD : va_D (lA s) (lWd tK tB cI cZ cJ h ak ab af o r a ka kb n p F th f)) (hS : va_S (lA s) s.heap H locs) (hl : lv_has ls 7 [(4, .int (nI (4 * j))), (0, .ref b), (1, .ref h), (2, .ref r), (3, .ref o)]) (K : ∀ (ka kb : Nat → Nat) (n p : Nat) (F : Rows) (th : Int32) (f : Nat → Int64) (H : Heap) (locs : List Loc) (ls : Array Slot), Inv n p F → va_P (dC, dI) vwCl (lWd tK tB cI cZ cJ h ak ab af o r a ka kb n p F th f) H → va_D (lA s) (lWd tK tB cI cZ cJ h ak ab af o r a ka kb n p F th f) → va_S (lA s) s.heap H locs → lv_has ls 7 [(4, .int (nI (4 * j))), (0, .ref b), (1, .ref h), (2, .ref r), (3, .ref o)] → W p9 l e9 room_1 s m #[Value.ref b] below meth c H locs (cells + 3) (slots + 18) (lw_Z below #[Value.ref b] s) (F0 m 1130 ls [])) : W p9 l e9 room_1 s m #[Value.ref b] below meth c H locs (cells) (slots) (lw_Z below #[Value.ref b] s) (F0 m 717 ls []) := by
  obtain ⟨hx, hb, -, hml, hown, hts0, hX, hbl, hlocks, -⟩ := C0
  have hown : s.vm.findClass RL = some m.cls := hown
  have hts : ∀ w ∈ wsL_law, w.before #[Value.ref b] s = true := fun w hw => hts0 w (wsL_law_in w hw)
  have hA : ∀ q : Nat, s.heap.size ≤ q → lA s q := fun q hq => hq
  have hbA : ¬ lA s b := Nat.not_le.mpr hbl
  have hb : c.code = cL_law := hb
  refine lv_aload_n hx hb dL_law_717 rfl (lv_at hl 2 rfl) ?_
  refine lv_aload_n hx hb dL_law_718 rfl (lv_at hl 1 rfl) ?_
  refine lv_iload hx hb dL_law_719 (lv_at hl 0 rfl) ?_
  refine lv_iconst (v := 1) hx hb dL_law_721 (by decide) ?_
  refine lv_iadd hx hb dL_law_722 ?_
  refine W_top (y := .int (nI (4 * j + 1))) (congrArg Value.int (nI_add (4 * j) 1)) ?_
  refine my_sld hx hb hX hbl hbA hS (k := (4 * j + 1)) (by omega) (by omega) dL_law_723 ?_
  refine lv_aload_n hx hb dL_law_724 rfl (lv_at hl 1 rfl) ?_
  refine lv_iload hx hb dL_law_725 (lv_at hl 0 rfl) ?_
  refine lv_iconst (v := 2) hx hb dL_law_727 (by decide) ?_
  refine lv_iadd hx hb dL_law_728 ?_
  refine W_top (y := .int (nI (4 * j + 2))) (congrArg Value.int (nI_add (4 * j) 2)) ?_
  refine my_sld hx hb hX hbl hbA hS (k := (4 * j + 2)) (by omega) (by omega) dL_law_729 ?_
  refine lv_aload_n hx hb dL_law_730 rfl (lv_at hl 4 rfl) ?_
  have hF1 := A_in (D_left hD) hS hA
  have hK3 := hK.sub (tys' := [(tK, .object "Windlane$Kite"), (tB, .object "Windlane$Borrower"), (cJ, .long)]) [0, 1, 2] rfl
  refine va_calli (vx_runSW (As := [.ref h, .int (xs (4 * j + 1)), .int (xs (4 * j + 2)), .ref o]) (rest := []) ⟨hx, hb, hml, hown, hts⟩ (c_L_pull l hlt dC dI H.size h ak ab af ka kb n p F o f (xs (4 * j + 1)) (xs (4 * j + 2)) hI) (vx_cwSW 4 hts gL_law_L_pull rfl rfl rfl (by decide +kernel) ⟨Nat.le_of_ble_eq_true rfl, Nat.le_of_ble_eq_true rfl⟩) ⟨PWr.blind, PWr.pre (P_left hP) hK3 (D_left hD) hE ((hH0.kept hS.2.1).narrow hF1)⟩ rfl rfl hl.1 rfl (lv_room (Nat.le_of_ble_eq_true rfl)) dL_law_731 ⟨(by show _ ≤ 601024; omega), (by show _ ≤ 7293034; omega)⟩) hS (fun q _ hq => hF1 q hq) hF1 (fun r9 u9 t9 H locs ht9 hvm hw9 hB hz1 hk1 hS => ?_)
  obtain ⟨hP1, hD1⟩ := hB
  rw [ht9] at hP1
  obtain ⟨hw9, hf9⟩ := hw9
  obtain ⟨hP, hD⟩ := join_L hP hD hk1 hF1 hP1 hD1
  subst hw9
  refine lv_istore (lv' := [(5, .int ((S_pull n F (xs (4 * j + 1)) (xs (4 * j + 2))).1)), (4, .int (nI (4 * j))), (0, .ref b), (1, .ref h), (2, .ref r), (3, .ref o)]) hx hb dL_law_734 hl (by decide) rfl (fun ls hl => ?_)
  refine lv_aload_n hx hb dL_law_736 rfl (lv_at hl 4 rfl) ?_
  refine lv_aload_n hx hb dL_law_737 rfl (lv_at hl 2 rfl) ?_
  refine lv_iload hx hb dL_law_738 (lv_at hl 1 rfl) ?_
  refine lv_iconst (v := 1) hx hb dL_law_740 (by decide) ?_
  refine lv_iadd hx hb dL_law_741 ?_
  refine W_top (y := .int (nI (4 * j + 1))) (congrArg Value.int (nI_add (4 * j) 1)) ?_
  refine my_sld hx hb hX hbl hbA hS (k := (4 * j + 1)) (by omega) (by omega) dL_law_742 ?_
  refine lv_aload_n hx hb dL_law_743 rfl (lv_at hl 2 rfl) ?_
  refine lv_iload hx hb dL_law_744 (lv_at hl 1 rfl) ?_
  refine lv_iconst (v := 2) hx hb dL_law_746 (by decide) ?_
  refine lv_iadd hx hb dL_law_747 ?_
  refine W_top (y := .int (nI (4 * j + 2))) (congrArg Value.int (nI_add (4 * j) 2)) ?_
  refine my_sld hx hb hX hbl hbA hS (k := (4 * j + 2)) (by omega) (by omega) dL_law_748 ?_
  have hF2 := A_in (D_right hD) hS hA
  have hK4 := hK.sub (tys' := [(cI, .int), (cZ, .boolean)]) [3, 4] rfl
  refine va_calli (va_runV (As := [.int (xs (4 * j + 1)), .int (xs (4 * j + 2))]) (rest := []) ⟨hx, hb, hml, hown, hts⟩ (c_X3_pull l dC dI H.size r a th n p F (xs (4 * j + 1)) (xs (4 * j + 2)) hI) (cwV 2 hts gL_law_X3_pull rfl rfl rfl (by decide +kernel) ⟨Nat.le_of_ble_eq_true rfl, Nat.le_of_ble_eq_true rfl⟩) ⟨PWr.blind, va_recv hK4 (P_right hP) (ci := 3) (q0 := 0) rfl rfl, PWr.pre (P_right hP) hK4 (D_right hD) hE ((hH0.kept hS.2.1).narrow hF2)⟩ rfl rfl hl.1 rfl (lv_room (Nat.le_of_ble_eq_true rfl)) dL_law_749 ⟨(by show _ ≤ 601024; omega), (by show _ ≤ 7293034; omega)⟩) hS (fun q _ hq => hF2 q hq) hF2 (fun r8 u8 t8 H locs ht8 hvm8 hw8 hB8 hz8 hk8 hS => ?_)
  have hP8 : va_P (dC, dI) vwCl (rW cI cZ r a ((S_pull n F (xs (4 * j + 1)) (xs (4 * j + 2))).1) n p F) H := by rw [← ht8]; exact hB8
  obtain ⟨hP, hD⟩ := join_R hP hD hk8 hF2 hP8 (D_same ((D_right hD).self) rfl)
  subst hw8
  refine lv_istore (lv' := [(6, .int ((S_pull n F (xs (4 * j + 1)) (xs (4 * j + 2))).2)), (5, .int ((S_pull n F (xs (4 * j + 1)) (xs (4 * j + 2))).1)), (4, .int (nI (4 * j))), (0, .ref b), (1, .ref h), (2, .ref r), (3, .ref o)]) hx hb dL_law_752 hl (by decide) rfl (fun ls hl => ?_)
  refine lv_aload_n hx hb dL_law_754 rfl (lv_at hl 5 rfl) ?_
  refine vp_callSi (va_Run.run (va_runV (As := []) (rest := []) ⟨hx, hb, hml, hown, hts⟩ (c_X3_thrown l dC dI r a ((S_pull n F (xs (4 * j + 1)) (xs (4 * j + 2))).1) n p F) (cwV 0 hts gL_law_X3_thrown rfl rfl rfl (by decide +kernel) ⟨Nat.le_of_ble_eq_true rfl, Nat.le_of_ble_eq_true rfl⟩) ⟨PRo.blind, va_recv hK4 (P_right hP) (ci := 3) (q0 := 0) rfl rfl, PRo.pre (P_right hP) hK4 hE⟩ rfl rfl hl.1 rfl (lv_room (Nat.le_of_ble_eq_true rfl)) dL_law_755 ⟨(by show _ ≤ 601024; omega), (by show _ ≤ 7293034; omega)⟩)) (fun r hr => ?_)
  subst hr
  refine lv_iload hx hb dL_law_758 (lv_at hl 1 rfl) ?_
  refine lv_icmp_eq (tgt := 765) hx hb dL_law_760 (by decide) (fun _ => ?_) (fun c_760 => absurd (rfl) c_760)
  refine lv_iload hx hb dL_law_765 (lv_at hl 1 rfl) ?_
  refine lv_if_ne (tgt := 782) hx hb dL_law_767 (by decide) (fun c_767 => ?_) (fun c_767 => ?_)
  · skip
    refine lv_goto (tgt := 1130) hx hb dL_law_782 (by decide) ?_
    refine W.widen (k := cells + 3) (n := slots + 18) (by omega) (by omega) ?_
    exact K u9.1 u9.2.1 _ _ _ _ u9.2.2 _ _ _ (hI) hP hD hS (lv_sub hl [2, 3, 4, 5, 6] rfl)
  · skip
    refine lv_aload_n hx hb dL_law_770 rfl (lv_at hl 6 rfl) ?_
    refine lv_iconst (v := 0) hx hb dL_law_771 (by decide) ?_
    have hm9 := mid_at (cW tK tB h ak ab af u9.1 u9.2.1 n p F) ((o, .inl (cJ, 1, .inr (.inl u9.2.2))) : Nat × va_E) (rW cI cZ r a ((S_pull n F (xs (4 * j + 1)) (xs (4 * j + 2))).1) n p F)
    refine va_lald hx hb hK hP _ 2 hm9 rfl (by unfold vp_in; decide) dL_law_772 ?_
    refine W_top (y := .long ((S_pull n F (xs (4 * j + 1)) (xs (4 * j + 2))).2).toInt64) (congrArg Value.long (hf9 c_767)) ?_
    refine lv_iload hx hb dL_law_773 (lv_at hl 0 rfl) ?_
    refine lv_i2l (v := ((S_pull n F (xs (4 * j + 1)) (xs (4 * j + 2))).2).toInt64) hx hb dL_law_775 rfl ?_
    refine W.lcmp hx hb dL_law_776 ?_
    refine W_top (y := .int 0) (congrArg Value.int (lg_same _)) ?_
    refine lv_if_eq (tgt := 782) hx hb dL_law_777 (by decide) (fun _ => ?_) (fun c_777 => absurd (by decide) c_777)
    refine lv_goto (tgt := 1130) hx hb dL_law_782 (by decide) ?_
    refine W.widen (k := cells + 3) (n := slots + 18) (by omega) (by omega) ?_
    exact K u9.1 u9.2.1 _ _ _ _ u9.2.2 _ _ _ (hI) hP hD hS (lv_sub hl [2, 3, 4, 5, 6] rfl)

set_option maxHeartbeats 4000000 in
set_option maxRecDepth 100000 in
theorem law_pullAnew {p9 : Program} {l : Launch} (hlt : l.stackTraces = false) {e9 : Env} {s : State} {m : MethodId} {below : List Frame} {meth : Method} {c : Code} {b L : Nat} {xs : Nat → Int32} (C0 : lw_At p9 s m meth c b L xs) (hL : L ≤ 2048) {dC : Nat → ClassId} {dI : Nat → Nat → Nat} {tK tB cI cZ cJ : ClassId} {h ak ab af o r : Nat} {a : Nat → Nat} (hK : va_K (dC, dI) vwCl (lTy tK tB cI cZ cJ) s) (hE : EN s) (hH0 : EH (lA s) s s.heap) {ka kb : Nat → Nat} {n p : Nat} {F : Rows} {th : Int32} {f : Nat → Int64} (hI : Inv n p F) {j : Nat} (hj : 4 * j + 4 ≤ L) {H : Heap} {locs : List Loc} {ls : Array Slot} {cells slots : Nat} (hcl9 : cells + 3 ≤ 601024) (hsl9 : slots + 18 ≤ 7293034) (hP : va_P (dC, dI) vwCl (lWd tK tB cI cZ cJ h ak ab af o r a ka kb n p F th f) H) (hD : va_D (lA s) (lWd tK tB cI cZ cJ h ak ab af o r a ka kb n p F th f)) (hS : va_S (lA s) s.heap H locs) (hl : lv_has ls 7 [(4, .int (nI (4 * j))), (0, .ref b), (1, .ref h), (2, .ref r), (3, .ref o)]) (K : ∀ (ka kb : Nat → Nat) (n p : Nat) (F : Rows) (th : Int32) (f : Nat → Int64) (H : Heap) (locs : List Loc) (ls : Array Slot), Inv n p F → va_P (dC, dI) vwCl (lWd tK tB cI cZ cJ h ak ab af o r a ka kb n p F th f) H → va_D (lA s) (lWd tK tB cI cZ cJ h ak ab af o r a ka kb n p F th f) → va_S (lA s) s.heap H locs → lv_has ls 7 [(4, .int (nI (4 * j))), (0, .ref b), (1, .ref h), (2, .ref r), (3, .ref o)] → W p9 l e9 room_1 s m #[Value.ref b] below meth c H locs (cells + 3) (slots + 18) (lw_Z below #[Value.ref b] s) (F0 m 1130 ls [])) : W p9 l e9 room_1 s m #[Value.ref b] below meth c H locs (cells) (slots) (lw_Z below #[Value.ref b] s) (F0 m 785 ls []) := by
  obtain ⟨hx, hb, -, hml, hown, hts0, hX, hbl, hlocks, -⟩ := C0
  have hown : s.vm.findClass RL = some m.cls := hown
  have hts : ∀ w ∈ wsL_law, w.before #[Value.ref b] s = true := fun w hw => hts0 w (wsL_law_in w hw)
  have hA : ∀ q : Nat, s.heap.size ≤ q → lA s q := fun q hq => hq
  have hbA : ¬ lA s b := Nat.not_le.mpr hbl
  have hb : c.code = cL_law := hb
  refine lv_aload_n hx hb dL_law_785 rfl (lv_at hl 2 rfl) ?_
  refine lv_aload_n hx hb dL_law_786 rfl (lv_at hl 1 rfl) ?_
  refine lv_iload hx hb dL_law_787 (lv_at hl 0 rfl) ?_
  refine lv_iconst (v := 1) hx hb dL_law_789 (by decide) ?_
  refine lv_iadd hx hb dL_law_790 ?_
  refine W_top (y := .int (nI (4 * j + 1))) (congrArg Value.int (nI_add (4 * j) 1)) ?_
  refine my_sld hx hb hX hbl hbA hS (k := (4 * j + 1)) (by omega) (by omega) dL_law_791 ?_
  refine lv_aload_n hx hb dL_law_792 rfl (lv_at hl 1 rfl) ?_
  refine lv_iload hx hb dL_law_793 (lv_at hl 0 rfl) ?_
  refine lv_iconst (v := 2) hx hb dL_law_795 (by decide) ?_
  refine lv_iadd hx hb dL_law_796 ?_
  refine W_top (y := .int (nI (4 * j + 2))) (congrArg Value.int (nI_add (4 * j) 2)) ?_
  refine my_sld hx hb hX hbl hbA hS (k := (4 * j + 2)) (by omega) (by omega) dL_law_797 ?_
  refine lv_aload_n hx hb dL_law_798 rfl (lv_at hl 4 rfl) ?_
  have hF1 := A_in (D_left hD) hS hA
  have hK3 := hK.sub (tys' := [(tK, .object "Windlane$Kite"), (tB, .object "Windlane$Borrower"), (cJ, .long)]) [0, 1, 2] rfl
  refine va_calli (vx_runSW (As := [.ref h, .int (xs (4 * j + 1)), .int (xs (4 * j + 2)), .ref o]) (rest := []) ⟨hx, hb, hml, hown, hts⟩ (c_L_pullAnew l hlt dC dI H.size h ak ab af ka kb n p F o f (xs (4 * j + 1)) (xs (4 * j + 2)) hI) (vx_cwSW 4 hts gL_law_L_pullAnew rfl rfl rfl (by decide +kernel) ⟨Nat.le_of_ble_eq_true rfl, Nat.le_of_ble_eq_true rfl⟩) ⟨PWr.blind, PWr.pre (P_left hP) hK3 (D_left hD) hE ((hH0.kept hS.2.1).narrow hF1)⟩ rfl rfl hl.1 rfl (lv_room (Nat.le_of_ble_eq_true rfl)) dL_law_799 ⟨(by show _ ≤ 601024; omega), (by show _ ≤ 7293034; omega)⟩) hS (fun q _ hq => hF1 q hq) hF1 (fun r9 u9 t9 H locs ht9 hvm hw9 hB hz1 hk1 hS => ?_)
  obtain ⟨hP1, hD1⟩ := hB
  rw [ht9] at hP1
  obtain ⟨hw9, hf9⟩ := hw9
  obtain ⟨hP, hD⟩ := join_L hP hD hk1 hF1 hP1 hD1
  subst hw9
  refine lv_istore (lv' := [(5, .int ((S_pull n F (xs (4 * j + 1)) (xs (4 * j + 2))).1)), (4, .int (nI (4 * j))), (0, .ref b), (1, .ref h), (2, .ref r), (3, .ref o)]) hx hb dL_law_802 hl (by decide) rfl (fun ls hl => ?_)
  refine lv_aload_n hx hb dL_law_804 rfl (lv_at hl 4 rfl) ?_
  refine lv_aload_n hx hb dL_law_805 rfl (lv_at hl 2 rfl) ?_
  refine lv_iload hx hb dL_law_806 (lv_at hl 1 rfl) ?_
  refine lv_iconst (v := 1) hx hb dL_law_808 (by decide) ?_
  refine lv_iadd hx hb dL_law_809 ?_
  refine W_top (y := .int (nI (4 * j + 1))) (congrArg Value.int (nI_add (4 * j) 1)) ?_
  refine my_sld hx hb hX hbl hbA hS (k := (4 * j + 1)) (by omega) (by omega) dL_law_810 ?_
  refine lv_aload_n hx hb dL_law_811 rfl (lv_at hl 2 rfl) ?_
  refine lv_iload hx hb dL_law_812 (lv_at hl 1 rfl) ?_
  refine lv_iconst (v := 2) hx hb dL_law_814 (by decide) ?_
  refine lv_iadd hx hb dL_law_815 ?_
  refine W_top (y := .int (nI (4 * j + 2))) (congrArg Value.int (nI_add (4 * j) 2)) ?_
  refine my_sld hx hb hX hbl hbA hS (k := (4 * j + 2)) (by omega) (by omega) dL_law_816 ?_
  have hF2 := A_in (D_right hD) hS hA
  have hK4 := hK.sub (tys' := [(cI, .int), (cZ, .boolean)]) [3, 4] rfl
  refine va_calli (va_runV (As := [.int (xs (4 * j + 1)), .int (xs (4 * j + 2))]) (rest := []) ⟨hx, hb, hml, hown, hts⟩ (c_X3_pullAnew l dC dI H.size r a th n p F (xs (4 * j + 1)) (xs (4 * j + 2)) hI) (cwV 2 hts gL_law_X3_pullAnew rfl rfl rfl (by decide +kernel) ⟨Nat.le_of_ble_eq_true rfl, Nat.le_of_ble_eq_true rfl⟩) ⟨PWr.blind, va_recv hK4 (P_right hP) (ci := 3) (q0 := 0) rfl rfl, PWr.pre (P_right hP) hK4 (D_right hD) hE ((hH0.kept hS.2.1).narrow hF2)⟩ rfl rfl hl.1 rfl (lv_room (Nat.le_of_ble_eq_true rfl)) dL_law_817 ⟨(by show _ ≤ 601024; omega), (by show _ ≤ 7293034; omega)⟩) hS (fun q _ hq => hF2 q hq) hF2 (fun r8 u8 t8 H locs ht8 hvm8 hw8 hB8 hz8 hk8 hS => ?_)
  have hP8 : va_P (dC, dI) vwCl (rW cI cZ r a ((S_pull n F (xs (4 * j + 1)) (xs (4 * j + 2))).1) n p F) H := by rw [← ht8]; exact hB8
  obtain ⟨hP, hD⟩ := join_R hP hD hk8 hF2 hP8 (D_same ((D_right hD).self) rfl)
  subst hw8
  refine lv_istore (lv' := [(6, .int ((S_pull n F (xs (4 * j + 1)) (xs (4 * j + 2))).2)), (5, .int ((S_pull n F (xs (4 * j + 1)) (xs (4 * j + 2))).1)), (4, .int (nI (4 * j))), (0, .ref b), (1, .ref h), (2, .ref r), (3, .ref o)]) hx hb dL_law_820 hl (by decide) rfl (fun ls hl => ?_)
  refine lv_aload_n hx hb dL_law_822 rfl (lv_at hl 5 rfl) ?_
  refine vp_callSi (va_Run.run (va_runV (As := []) (rest := []) ⟨hx, hb, hml, hown, hts⟩ (c_X3_thrown l dC dI r a ((S_pull n F (xs (4 * j + 1)) (xs (4 * j + 2))).1) n p F) (cwV 0 hts gL_law_X3_thrown rfl rfl rfl (by decide +kernel) ⟨Nat.le_of_ble_eq_true rfl, Nat.le_of_ble_eq_true rfl⟩) ⟨PRo.blind, va_recv hK4 (P_right hP) (ci := 3) (q0 := 0) rfl rfl, PRo.pre (P_right hP) hK4 hE⟩ rfl rfl hl.1 rfl (lv_room (Nat.le_of_ble_eq_true rfl)) dL_law_823 ⟨(by show _ ≤ 601024; omega), (by show _ ≤ 7293034; omega)⟩)) (fun r hr => ?_)
  subst hr
  refine lv_iload hx hb dL_law_826 (lv_at hl 1 rfl) ?_
  refine lv_icmp_eq (tgt := 833) hx hb dL_law_828 (by decide) (fun _ => ?_) (fun c_828 => absurd (rfl) c_828)
  refine lv_iload hx hb dL_law_833 (lv_at hl 1 rfl) ?_
  refine lv_if_ne (tgt := 850) hx hb dL_law_835 (by decide) (fun c_835 => ?_) (fun c_835 => ?_)
  · skip
    refine lv_goto (tgt := 1130) hx hb dL_law_850 (by decide) ?_
    refine W.widen (k := cells + 3) (n := slots + 18) (by omega) (by omega) ?_
    exact K u9.1 u9.2.1 _ _ _ _ u9.2.2 _ _ _ (hI) hP hD hS (lv_sub hl [2, 3, 4, 5, 6] rfl)
  · skip
    refine lv_aload_n hx hb dL_law_838 rfl (lv_at hl 6 rfl) ?_
    refine lv_iconst (v := 0) hx hb dL_law_839 (by decide) ?_
    have hm9 := mid_at (cW tK tB h ak ab af u9.1 u9.2.1 n p F) ((o, .inl (cJ, 1, .inr (.inl u9.2.2))) : Nat × va_E) (rW cI cZ r a ((S_pull n F (xs (4 * j + 1)) (xs (4 * j + 2))).1) n p F)
    refine va_lald hx hb hK hP _ 2 hm9 rfl (by unfold vp_in; decide) dL_law_840 ?_
    refine W_top (y := .long ((S_pull n F (xs (4 * j + 1)) (xs (4 * j + 2))).2).toInt64) (congrArg Value.long (hf9 c_835)) ?_
    refine lv_iload hx hb dL_law_841 (lv_at hl 0 rfl) ?_
    refine lv_i2l (v := ((S_pull n F (xs (4 * j + 1)) (xs (4 * j + 2))).2).toInt64) hx hb dL_law_843 rfl ?_
    refine W.lcmp hx hb dL_law_844 ?_
    refine W_top (y := .int 0) (congrArg Value.int (lg_same _)) ?_
    refine lv_if_eq (tgt := 850) hx hb dL_law_845 (by decide) (fun _ => ?_) (fun c_845 => absurd (by decide) c_845)
    refine lv_goto (tgt := 1130) hx hb dL_law_850 (by decide) ?_
    refine W.widen (k := cells + 3) (n := slots + 18) (by omega) (by omega) ?_
    exact K u9.1 u9.2.1 _ _ _ _ u9.2.2 _ _ _ (hI) hP hD hS (lv_sub hl [2, 3, 4, 5, 6] rfl)

set_option maxHeartbeats 4000000 in
set_option maxRecDepth 100000 in
theorem law_tension {p9 : Program} {l : Launch} (hlt : l.stackTraces = false) {e9 : Env} {s : State} {m : MethodId} {below : List Frame} {meth : Method} {c : Code} {b L : Nat} {xs : Nat → Int32} (C0 : lw_At p9 s m meth c b L xs) (hL : L ≤ 2048) {dC : Nat → ClassId} {dI : Nat → Nat → Nat} {tK tB cI cZ cJ : ClassId} {h ak ab af o r : Nat} {a : Nat → Nat} (hK : va_K (dC, dI) vwCl (lTy tK tB cI cZ cJ) s) (hE : EN s) (hH0 : EH (lA s) s s.heap) {ka kb : Nat → Nat} {n p : Nat} {F : Rows} {th : Int32} {f : Nat → Int64} (hI : Inv n p F) {j : Nat} (hj : 4 * j + 4 ≤ L) {H : Heap} {locs : List Loc} {ls : Array Slot} {cells slots : Nat} (hcl9 : cells + 3 ≤ 601024) (hsl9 : slots + 18 ≤ 7293034) (hP : va_P (dC, dI) vwCl (lWd tK tB cI cZ cJ h ak ab af o r a ka kb n p F th f) H) (hD : va_D (lA s) (lWd tK tB cI cZ cJ h ak ab af o r a ka kb n p F th f)) (hS : va_S (lA s) s.heap H locs) (hl : lv_has ls 7 [(4, .int (nI (4 * j))), (0, .ref b), (1, .ref h), (2, .ref r), (3, .ref o)]) (K : ∀ (ka kb : Nat → Nat) (n p : Nat) (F : Rows) (th : Int32) (f : Nat → Int64) (H : Heap) (locs : List Loc) (ls : Array Slot), Inv n p F → va_P (dC, dI) vwCl (lWd tK tB cI cZ cJ h ak ab af o r a ka kb n p F th f) H → va_D (lA s) (lWd tK tB cI cZ cJ h ak ab af o r a ka kb n p F th f) → va_S (lA s) s.heap H locs → lv_has ls 7 [(4, .int (nI (4 * j))), (0, .ref b), (1, .ref h), (2, .ref r), (3, .ref o)] → W p9 l e9 room_1 s m #[Value.ref b] below meth c H locs (cells + 3) (slots + 18) (lw_Z below #[Value.ref b] s) (F0 m 1130 ls [])) : W p9 l e9 room_1 s m #[Value.ref b] below meth c H locs (cells) (slots) (lw_Z below #[Value.ref b] s) (F0 m 853 ls []) := by
  obtain ⟨hx, hb, -, hml, hown, hts0, hX, hbl, hlocks, -⟩ := C0
  have hown : s.vm.findClass RL = some m.cls := hown
  have hts : ∀ w ∈ wsL_law, w.before #[Value.ref b] s = true := fun w hw => hts0 w (wsL_law_in w hw)
  have hA : ∀ q : Nat, s.heap.size ≤ q → lA s q := fun q hq => hq
  have hbA : ¬ lA s b := Nat.not_le.mpr hbl
  have hb : c.code = cL_law := hb
  refine lv_aload_n hx hb dL_law_853 rfl (lv_at hl 2 rfl) ?_
  refine lv_aload_n hx hb dL_law_854 rfl (lv_at hl 1 rfl) ?_
  refine lv_iload hx hb dL_law_855 (lv_at hl 0 rfl) ?_
  refine lv_iconst (v := 1) hx hb dL_law_857 (by decide) ?_
  refine lv_iadd hx hb dL_law_858 ?_
  refine W_top (y := .int (nI (4 * j + 1))) (congrArg Value.int (nI_add (4 * j) 1)) ?_
  refine my_sld hx hb hX hbl hbA hS (k := (4 * j + 1)) (by omega) (by omega) dL_law_859 ?_
  refine lv_aload_n hx hb dL_law_860 rfl (lv_at hl 4 rfl) ?_
  have hF1 := A_in (D_left hD) hS hA
  have hK3 := hK.sub (tys' := [(tK, .object "Windlane$Kite"), (tB, .object "Windlane$Borrower"), (cJ, .long)]) [0, 1, 2] rfl
  refine va_calli (vx_runSW (As := [.ref h, .int (xs (4 * j + 1)), .ref o]) (rest := []) ⟨hx, hb, hml, hown, hts⟩ (c_L_tension l hlt dC dI H.size h ak ab af ka kb n p F o f (xs (4 * j + 1)) hI) (vx_cwSW 3 hts gL_law_L_tension rfl rfl rfl (by decide +kernel) ⟨Nat.le_of_ble_eq_true rfl, Nat.le_of_ble_eq_true rfl⟩) ⟨PWr.blind, PWr.pre (P_left hP) hK3 (D_left hD) hE ((hH0.kept hS.2.1).narrow hF1)⟩ rfl rfl hl.1 rfl (lv_room (Nat.le_of_ble_eq_true rfl)) dL_law_861 ⟨(by show _ ≤ 601024; omega), (by show _ ≤ 7293034; omega)⟩) hS (fun q _ hq => hF1 q hq) hF1 (fun r9 u9 t9 H locs ht9 hvm hw9 hB hz1 hk1 hS => ?_)
  obtain ⟨hP1, hD1⟩ := hB
  rw [ht9] at hP1
  obtain ⟨hw9, hf9⟩ := hw9
  obtain ⟨hP, hD⟩ := join_L hP hD hk1 hF1 hP1 hD1
  subst hw9
  refine lv_istore (lv' := [(5, .int ((S_tension n F (xs (4 * j + 1))).1)), (4, .int (nI (4 * j))), (0, .ref b), (1, .ref h), (2, .ref r), (3, .ref o)]) hx hb dL_law_864 hl (by decide) rfl (fun ls hl => ?_)
  refine lv_aload_n hx hb dL_law_866 rfl (lv_at hl 4 rfl) ?_
  refine lv_aload_n hx hb dL_law_867 rfl (lv_at hl 2 rfl) ?_
  refine lv_iload hx hb dL_law_868 (lv_at hl 1 rfl) ?_
  refine lv_iconst (v := 1) hx hb dL_law_870 (by decide) ?_
  refine lv_iadd hx hb dL_law_871 ?_
  refine W_top (y := .int (nI (4 * j + 1))) (congrArg Value.int (nI_add (4 * j) 1)) ?_
  refine my_sld hx hb hX hbl hbA hS (k := (4 * j + 1)) (by omega) (by omega) dL_law_872 ?_
  have hF2 := A_in (D_right hD) hS hA
  have hK4 := hK.sub (tys' := [(cI, .int), (cZ, .boolean)]) [3, 4] rfl
  refine va_calli (va_runV (As := [.int (xs (4 * j + 1))]) (rest := []) ⟨hx, hb, hml, hown, hts⟩ (c_X3_tension l dC dI H.size r a th n p F (xs (4 * j + 1)) hI) (cwV 1 hts gL_law_X3_tension rfl rfl rfl (by decide +kernel) ⟨Nat.le_of_ble_eq_true rfl, Nat.le_of_ble_eq_true rfl⟩) ⟨PWr.blind, va_recv hK4 (P_right hP) (ci := 3) (q0 := 0) rfl rfl, PWr.pre (P_right hP) hK4 (D_right hD) hE ((hH0.kept hS.2.1).narrow hF2)⟩ rfl rfl hl.1 rfl (lv_room (Nat.le_of_ble_eq_true rfl)) dL_law_873 ⟨(by show _ ≤ 601024; omega), (by show _ ≤ 7293034; omega)⟩) hS (fun q _ hq => hF2 q hq) hF2 (fun r8 u8 t8 H locs ht8 hvm8 hw8 hB8 hz8 hk8 hS => ?_)
  have hP8 : va_P (dC, dI) vwCl (rW cI cZ r a ((S_tension n F (xs (4 * j + 1))).1) n p F) H := by rw [← ht8]; exact hB8
  obtain ⟨hP, hD⟩ := join_R hP hD hk8 hF2 hP8 (D_same ((D_right hD).self) rfl)
  subst hw8
  refine lv_istore (lv' := [(6, .int ((S_tension n F (xs (4 * j + 1))).2)), (5, .int ((S_tension n F (xs (4 * j + 1))).1)), (4, .int (nI (4 * j))), (0, .ref b), (1, .ref h), (2, .ref r), (3, .ref o)]) hx hb dL_law_876 hl (by decide) rfl (fun ls hl => ?_)
  refine lv_aload_n hx hb dL_law_878 rfl (lv_at hl 5 rfl) ?_
  refine vp_callSi (va_Run.run (va_runV (As := []) (rest := []) ⟨hx, hb, hml, hown, hts⟩ (c_X3_thrown l dC dI r a ((S_tension n F (xs (4 * j + 1))).1) n p F) (cwV 0 hts gL_law_X3_thrown rfl rfl rfl (by decide +kernel) ⟨Nat.le_of_ble_eq_true rfl, Nat.le_of_ble_eq_true rfl⟩) ⟨PRo.blind, va_recv hK4 (P_right hP) (ci := 3) (q0 := 0) rfl rfl, PRo.pre (P_right hP) hK4 hE⟩ rfl rfl hl.1 rfl (lv_room (Nat.le_of_ble_eq_true rfl)) dL_law_879 ⟨(by show _ ≤ 601024; omega), (by show _ ≤ 7293034; omega)⟩)) (fun r hr => ?_)
  subst hr
  refine lv_iload hx hb dL_law_882 (lv_at hl 1 rfl) ?_
  refine lv_icmp_eq (tgt := 889) hx hb dL_law_884 (by decide) (fun _ => ?_) (fun c_884 => absurd (rfl) c_884)
  refine lv_iload hx hb dL_law_889 (lv_at hl 1 rfl) ?_
  refine lv_if_ne (tgt := 906) hx hb dL_law_891 (by decide) (fun c_891 => ?_) (fun c_891 => ?_)
  · skip
    refine lv_goto (tgt := 1130) hx hb dL_law_906 (by decide) ?_
    refine W.widen (k := cells + 3) (n := slots + 18) (by omega) (by omega) ?_
    exact K u9.1 u9.2.1 _ _ _ _ u9.2.2 _ _ _ (hI) hP hD hS (lv_sub hl [2, 3, 4, 5, 6] rfl)
  · skip
    refine lv_aload_n hx hb dL_law_894 rfl (lv_at hl 6 rfl) ?_
    refine lv_iconst (v := 0) hx hb dL_law_895 (by decide) ?_
    have hm9 := mid_at (cW tK tB h ak ab af u9.1 u9.2.1 n p F) ((o, .inl (cJ, 1, .inr (.inl u9.2.2))) : Nat × va_E) (rW cI cZ r a ((S_tension n F (xs (4 * j + 1))).1) n p F)
    refine va_lald hx hb hK hP _ 2 hm9 rfl (by unfold vp_in; decide) dL_law_896 ?_
    refine W_top (y := .long ((S_tension n F (xs (4 * j + 1))).2).toInt64) (congrArg Value.long (hf9 c_891)) ?_
    refine lv_iload hx hb dL_law_897 (lv_at hl 0 rfl) ?_
    refine lv_i2l (v := ((S_tension n F (xs (4 * j + 1))).2).toInt64) hx hb dL_law_899 rfl ?_
    refine W.lcmp hx hb dL_law_900 ?_
    refine W_top (y := .int 0) (congrArg Value.int (lg_same _)) ?_
    refine lv_if_eq (tgt := 906) hx hb dL_law_901 (by decide) (fun _ => ?_) (fun c_901 => absurd (by decide) c_901)
    refine lv_goto (tgt := 1130) hx hb dL_law_906 (by decide) ?_
    refine W.widen (k := cells + 3) (n := slots + 18) (by omega) (by omega) ?_
    exact K u9.1 u9.2.1 _ _ _ _ u9.2.2 _ _ _ (hI) hP hD hS (lv_sub hl [2, 3, 4, 5, 6] rfl)

set_option maxHeartbeats 4000000 in
set_option maxRecDepth 100000 in
theorem law_window {p9 : Program} {l : Launch} (hlt : l.stackTraces = false) {e9 : Env} {s : State} {m : MethodId} {below : List Frame} {meth : Method} {c : Code} {b L : Nat} {xs : Nat → Int32} (C0 : lw_At p9 s m meth c b L xs) (hL : L ≤ 2048) {dC : Nat → ClassId} {dI : Nat → Nat → Nat} {tK tB cI cZ cJ : ClassId} {h ak ab af o r : Nat} {a : Nat → Nat} (hK : va_K (dC, dI) vwCl (lTy tK tB cI cZ cJ) s) (hE : EN s) (hH0 : EH (lA s) s s.heap) {ka kb : Nat → Nat} {n p : Nat} {F : Rows} {th : Int32} {f : Nat → Int64} (hI : Inv n p F) {j : Nat} (hj : 4 * j + 4 ≤ L) {H : Heap} {locs : List Loc} {ls : Array Slot} {cells slots : Nat} (hcl9 : cells + 3 ≤ 601024) (hsl9 : slots + 18 ≤ 7293034) (hP : va_P (dC, dI) vwCl (lWd tK tB cI cZ cJ h ak ab af o r a ka kb n p F th f) H) (hD : va_D (lA s) (lWd tK tB cI cZ cJ h ak ab af o r a ka kb n p F th f)) (hS : va_S (lA s) s.heap H locs) (hl : lv_has ls 7 [(4, .int (nI (4 * j))), (0, .ref b), (1, .ref h), (2, .ref r), (3, .ref o)]) (K : ∀ (ka kb : Nat → Nat) (n p : Nat) (F : Rows) (th : Int32) (f : Nat → Int64) (H : Heap) (locs : List Loc) (ls : Array Slot), Inv n p F → va_P (dC, dI) vwCl (lWd tK tB cI cZ cJ h ak ab af o r a ka kb n p F th f) H → va_D (lA s) (lWd tK tB cI cZ cJ h ak ab af o r a ka kb n p F th f) → va_S (lA s) s.heap H locs → lv_has ls 7 [(4, .int (nI (4 * j))), (0, .ref b), (1, .ref h), (2, .ref r), (3, .ref o)] → W p9 l e9 room_1 s m #[Value.ref b] below meth c H locs (cells + 3) (slots + 18) (lw_Z below #[Value.ref b] s) (F0 m 1130 ls [])) : W p9 l e9 room_1 s m #[Value.ref b] below meth c H locs (cells) (slots) (lw_Z below #[Value.ref b] s) (F0 m 909 ls []) := by
  obtain ⟨hx, hb, -, hml, hown, hts0, hX, hbl, hlocks, -⟩ := C0
  have hown : s.vm.findClass RL = some m.cls := hown
  have hts : ∀ w ∈ wsL_law, w.before #[Value.ref b] s = true := fun w hw => hts0 w (wsL_law_in w hw)
  have hA : ∀ q : Nat, s.heap.size ≤ q → lA s q := fun q hq => hq
  have hbA : ¬ lA s b := Nat.not_le.mpr hbl
  have hb : c.code = cL_law := hb
  refine lv_aload_n hx hb dL_law_909 rfl (lv_at hl 2 rfl) ?_
  refine lv_aload_n hx hb dL_law_910 rfl (lv_at hl 1 rfl) ?_
  refine lv_iload hx hb dL_law_911 (lv_at hl 0 rfl) ?_
  refine lv_iconst (v := 1) hx hb dL_law_913 (by decide) ?_
  refine lv_iadd hx hb dL_law_914 ?_
  refine W_top (y := .int (nI (4 * j + 1))) (congrArg Value.int (nI_add (4 * j) 1)) ?_
  refine my_sld hx hb hX hbl hbA hS (k := (4 * j + 1)) (by omega) (by omega) dL_law_915 ?_
  refine lv_aload_n hx hb dL_law_916 rfl (lv_at hl 1 rfl) ?_
  refine lv_iload hx hb dL_law_917 (lv_at hl 0 rfl) ?_
  refine lv_iconst (v := 2) hx hb dL_law_919 (by decide) ?_
  refine lv_iadd hx hb dL_law_920 ?_
  refine W_top (y := .int (nI (4 * j + 2))) (congrArg Value.int (nI_add (4 * j) 2)) ?_
  refine my_sld hx hb hX hbl hbA hS (k := (4 * j + 2)) (by omega) (by omega) dL_law_921 ?_
  refine lv_if_eq (tgt := 929) hx hb dL_law_922 (by decide) (fun c_922 => ?_) (fun c_922 => ?_)
  · skip
    refine lv_iconst (v := 0) hx hb dL_law_929 (by decide) ?_
    refine lv_aload_n hx hb dL_law_930 rfl (lv_at hl 4 rfl) ?_
    have hF1 := A_in (D_left hD) hS hA
    have hK3 := hK.sub (tys' := [(tK, .object "Windlane$Kite"), (tB, .object "Windlane$Borrower"), (cJ, .long)]) [0, 1, 2] rfl
    refine va_calli (vx_runSW (As := [.ref h, .int (xs (4 * j + 1)), .int 0, .ref o]) (rest := []) ⟨hx, hb, hml, hown, hts⟩ (c_L_window l hlt dC dI H.size h ak ab af ka kb n p F o f (xs (4 * j + 1)) 0 hI) (vx_cwSW 4 hts gL_law_L_window rfl rfl rfl (by decide +kernel) ⟨Nat.le_of_ble_eq_true rfl, Nat.le_of_ble_eq_true rfl⟩) ⟨PWr.blind, PWr.pre (P_left hP) hK3 (D_left hD) hE ((hH0.kept hS.2.1).narrow hF1)⟩ rfl rfl hl.1 rfl (lv_room (Nat.le_of_ble_eq_true rfl)) dL_law_931 ⟨(by show _ ≤ 601024; omega), (by show _ ≤ 7293034; omega)⟩) hS (fun q _ hq => hF1 q hq) hF1 (fun r9 u9 t9 H locs ht9 hvm hw9 hB hz1 hk1 hS => ?_)
    obtain ⟨hP1, hD1⟩ := hB
    rw [ht9] at hP1
    obtain ⟨hw9, hf9⟩ := hw9
    obtain ⟨hP, hD⟩ := join_L hP hD hk1 hF1 hP1 hD1
    subst hw9
    refine lv_istore (lv' := [(5, .int ((S_window n F (xs (4 * j + 1)) 0).1)), (4, .int (nI (4 * j))), (0, .ref b), (1, .ref h), (2, .ref r), (3, .ref o)]) hx hb dL_law_934 hl (by decide) rfl (fun ls hl => ?_)
    refine lv_aload_n hx hb dL_law_936 rfl (lv_at hl 4 rfl) ?_
    refine lv_aload_n hx hb dL_law_937 rfl (lv_at hl 2 rfl) ?_
    refine lv_iload hx hb dL_law_938 (lv_at hl 1 rfl) ?_
    refine lv_iconst (v := 1) hx hb dL_law_940 (by decide) ?_
    refine lv_iadd hx hb dL_law_941 ?_
    refine W_top (y := .int (nI (4 * j + 1))) (congrArg Value.int (nI_add (4 * j) 1)) ?_
    refine my_sld hx hb hX hbl hbA hS (k := (4 * j + 1)) (by omega) (by omega) dL_law_942 ?_
    refine lv_aload_n hx hb dL_law_943 rfl (lv_at hl 2 rfl) ?_
    refine lv_iload hx hb dL_law_944 (lv_at hl 1 rfl) ?_
    refine lv_iconst (v := 2) hx hb dL_law_946 (by decide) ?_
    refine lv_iadd hx hb dL_law_947 ?_
    refine W_top (y := .int (nI (4 * j + 2))) (congrArg Value.int (nI_add (4 * j) 2)) ?_
    refine my_sld hx hb hX hbl hbA hS (k := (4 * j + 2)) (by omega) (by omega) dL_law_948 ?_
    refine lv_if_eq (tgt := 956) hx hb dL_law_949 (by decide) (fun _ => ?_) (fun c_949 => absurd (c_922) c_949)
    refine lv_iconst (v := 0) hx hb dL_law_956 (by decide) ?_
    have hF2 := A_in (D_right hD) hS hA
    have hK4 := hK.sub (tys' := [(cI, .int), (cZ, .boolean)]) [3, 4] rfl
    refine va_calli (va_runV (As := [.int (xs (4 * j + 1)), .int 0]) (rest := []) ⟨hx, hb, hml, hown, hts⟩ (c_X3_window l dC dI H.size r a th n p F (xs (4 * j + 1)) 0 hI) (cwV 2 hts gL_law_X3_window rfl rfl rfl (by decide +kernel) ⟨Nat.le_of_ble_eq_true rfl, Nat.le_of_ble_eq_true rfl⟩) ⟨PWr.blind, va_recv hK4 (P_right hP) (ci := 3) (q0 := 0) rfl rfl, PWr.pre (P_right hP) hK4 (D_right hD) hE ((hH0.kept hS.2.1).narrow hF2)⟩ rfl rfl hl.1 rfl (lv_room (Nat.le_of_ble_eq_true rfl)) dL_law_957 ⟨(by show _ ≤ 601024; omega), (by show _ ≤ 7293034; omega)⟩) hS (fun q _ hq => hF2 q hq) hF2 (fun r8 u8 t8 H locs ht8 hvm8 hw8 hB8 hz8 hk8 hS => ?_)
    have hP8 : va_P (dC, dI) vwCl (rW cI cZ r a ((S_window n F (xs (4 * j + 1)) 0).1) n p F) H := by rw [← ht8]; exact hB8
    obtain ⟨hP, hD⟩ := join_R hP hD hk8 hF2 hP8 (D_same ((D_right hD).self) rfl)
    subst hw8
    refine lv_istore (lv' := [(6, .int ((S_window n F (xs (4 * j + 1)) 0).2)), (5, .int ((S_window n F (xs (4 * j + 1)) 0).1)), (4, .int (nI (4 * j))), (0, .ref b), (1, .ref h), (2, .ref r), (3, .ref o)]) hx hb dL_law_960 hl (by decide) rfl (fun ls hl => ?_)
    refine lv_aload_n hx hb dL_law_962 rfl (lv_at hl 5 rfl) ?_
    refine vp_callSi (va_Run.run (va_runV (As := []) (rest := []) ⟨hx, hb, hml, hown, hts⟩ (c_X3_thrown l dC dI r a ((S_window n F (xs (4 * j + 1)) 0).1) n p F) (cwV 0 hts gL_law_X3_thrown rfl rfl rfl (by decide +kernel) ⟨Nat.le_of_ble_eq_true rfl, Nat.le_of_ble_eq_true rfl⟩) ⟨PRo.blind, va_recv hK4 (P_right hP) (ci := 3) (q0 := 0) rfl rfl, PRo.pre (P_right hP) hK4 hE⟩ rfl rfl hl.1 rfl (lv_room (Nat.le_of_ble_eq_true rfl)) dL_law_963 ⟨(by show _ ≤ 601024; omega), (by show _ ≤ 7293034; omega)⟩)) (fun r hr => ?_)
    subst hr
    refine lv_iload hx hb dL_law_966 (lv_at hl 1 rfl) ?_
    refine lv_icmp_eq (tgt := 973) hx hb dL_law_968 (by decide) (fun _ => ?_) (fun c_968 => absurd (rfl) c_968)
    refine lv_iload hx hb dL_law_973 (lv_at hl 1 rfl) ?_
    refine lv_if_ne (tgt := 990) hx hb dL_law_975 (by decide) (fun c_975 => ?_) (fun c_975 => ?_)
    · skip
      refine lv_goto (tgt := 1130) hx hb dL_law_990 (by decide) ?_
      refine W.widen (k := cells + 3) (n := slots + 18) (by omega) (by omega) ?_
      exact K u9.1 u9.2.1 _ _ _ _ u9.2.2 _ _ _ (hI) hP hD hS (lv_sub hl [2, 3, 4, 5, 6] rfl)
    · skip
      refine lv_aload_n hx hb dL_law_978 rfl (lv_at hl 6 rfl) ?_
      refine lv_iconst (v := 0) hx hb dL_law_979 (by decide) ?_
      have hm9 := mid_at (cW tK tB h ak ab af u9.1 u9.2.1 n p F) ((o, .inl (cJ, 1, .inr (.inl u9.2.2))) : Nat × va_E) (rW cI cZ r a ((S_window n F (xs (4 * j + 1)) 0).1) n p F)
      refine va_lald hx hb hK hP _ 2 hm9 rfl (by unfold vp_in; decide) dL_law_980 ?_
      refine W_top (y := .long ((S_window n F (xs (4 * j + 1)) 0).2).toInt64) (congrArg Value.long (hf9 c_975)) ?_
      refine lv_iload hx hb dL_law_981 (lv_at hl 0 rfl) ?_
      refine lv_i2l (v := ((S_window n F (xs (4 * j + 1)) 0).2).toInt64) hx hb dL_law_983 rfl ?_
      refine W.lcmp hx hb dL_law_984 ?_
      refine W_top (y := .int 0) (congrArg Value.int (lg_same _)) ?_
      refine lv_if_eq (tgt := 990) hx hb dL_law_985 (by decide) (fun _ => ?_) (fun c_985 => absurd (by decide) c_985)
      refine lv_goto (tgt := 1130) hx hb dL_law_990 (by decide) ?_
      refine W.widen (k := cells + 3) (n := slots + 18) (by omega) (by omega) ?_
      exact K u9.1 u9.2.1 _ _ _ _ u9.2.2 _ _ _ (hI) hP hD hS (lv_sub hl [2, 3, 4, 5, 6] rfl)
  · skip
    refine lv_iconst (v := 1) hx hb dL_law_925 (by decide) ?_
    refine lv_goto (tgt := 930) hx hb dL_law_926 (by decide) ?_
    refine lv_aload_n hx hb dL_law_930 rfl (lv_at hl 4 rfl) ?_
    have hF1 := A_in (D_left hD) hS hA
    have hK3 := hK.sub (tys' := [(tK, .object "Windlane$Kite"), (tB, .object "Windlane$Borrower"), (cJ, .long)]) [0, 1, 2] rfl
    refine va_calli (vx_runSW (As := [.ref h, .int (xs (4 * j + 1)), .int 1, .ref o]) (rest := []) ⟨hx, hb, hml, hown, hts⟩ (c_L_window l hlt dC dI H.size h ak ab af ka kb n p F o f (xs (4 * j + 1)) 1 hI) (vx_cwSW 4 hts gL_law_L_window rfl rfl rfl (by decide +kernel) ⟨Nat.le_of_ble_eq_true rfl, Nat.le_of_ble_eq_true rfl⟩) ⟨PWr.blind, PWr.pre (P_left hP) hK3 (D_left hD) hE ((hH0.kept hS.2.1).narrow hF1)⟩ rfl rfl hl.1 rfl (lv_room (Nat.le_of_ble_eq_true rfl)) dL_law_931 ⟨(by show _ ≤ 601024; omega), (by show _ ≤ 7293034; omega)⟩) hS (fun q _ hq => hF1 q hq) hF1 (fun r9 u9 t9 H locs ht9 hvm hw9 hB hz1 hk1 hS => ?_)
    obtain ⟨hP1, hD1⟩ := hB
    rw [ht9] at hP1
    obtain ⟨hw9, hf9⟩ := hw9
    obtain ⟨hP, hD⟩ := join_L hP hD hk1 hF1 hP1 hD1
    subst hw9
    refine lv_istore (lv' := [(5, .int ((S_window n F (xs (4 * j + 1)) 1).1)), (4, .int (nI (4 * j))), (0, .ref b), (1, .ref h), (2, .ref r), (3, .ref o)]) hx hb dL_law_934 hl (by decide) rfl (fun ls hl => ?_)
    refine lv_aload_n hx hb dL_law_936 rfl (lv_at hl 4 rfl) ?_
    refine lv_aload_n hx hb dL_law_937 rfl (lv_at hl 2 rfl) ?_
    refine lv_iload hx hb dL_law_938 (lv_at hl 1 rfl) ?_
    refine lv_iconst (v := 1) hx hb dL_law_940 (by decide) ?_
    refine lv_iadd hx hb dL_law_941 ?_
    refine W_top (y := .int (nI (4 * j + 1))) (congrArg Value.int (nI_add (4 * j) 1)) ?_
    refine my_sld hx hb hX hbl hbA hS (k := (4 * j + 1)) (by omega) (by omega) dL_law_942 ?_
    refine lv_aload_n hx hb dL_law_943 rfl (lv_at hl 2 rfl) ?_
    refine lv_iload hx hb dL_law_944 (lv_at hl 1 rfl) ?_
    refine lv_iconst (v := 2) hx hb dL_law_946 (by decide) ?_
    refine lv_iadd hx hb dL_law_947 ?_
    refine W_top (y := .int (nI (4 * j + 2))) (congrArg Value.int (nI_add (4 * j) 2)) ?_
    refine my_sld hx hb hX hbl hbA hS (k := (4 * j + 2)) (by omega) (by omega) dL_law_948 ?_
    refine lv_if_eq (tgt := 956) hx hb dL_law_949 (by decide) (fun c_949 => absurd c_949 (c_922)) (fun _ => ?_)
    refine lv_iconst (v := 1) hx hb dL_law_952 (by decide) ?_
    refine lv_goto (tgt := 957) hx hb dL_law_953 (by decide) ?_
    have hF2 := A_in (D_right hD) hS hA
    have hK4 := hK.sub (tys' := [(cI, .int), (cZ, .boolean)]) [3, 4] rfl
    refine va_calli (va_runV (As := [.int (xs (4 * j + 1)), .int 1]) (rest := []) ⟨hx, hb, hml, hown, hts⟩ (c_X3_window l dC dI H.size r a th n p F (xs (4 * j + 1)) 1 hI) (cwV 2 hts gL_law_X3_window rfl rfl rfl (by decide +kernel) ⟨Nat.le_of_ble_eq_true rfl, Nat.le_of_ble_eq_true rfl⟩) ⟨PWr.blind, va_recv hK4 (P_right hP) (ci := 3) (q0 := 0) rfl rfl, PWr.pre (P_right hP) hK4 (D_right hD) hE ((hH0.kept hS.2.1).narrow hF2)⟩ rfl rfl hl.1 rfl (lv_room (Nat.le_of_ble_eq_true rfl)) dL_law_957 ⟨(by show _ ≤ 601024; omega), (by show _ ≤ 7293034; omega)⟩) hS (fun q _ hq => hF2 q hq) hF2 (fun r8 u8 t8 H locs ht8 hvm8 hw8 hB8 hz8 hk8 hS => ?_)
    have hP8 : va_P (dC, dI) vwCl (rW cI cZ r a ((S_window n F (xs (4 * j + 1)) 1).1) n p F) H := by rw [← ht8]; exact hB8
    obtain ⟨hP, hD⟩ := join_R hP hD hk8 hF2 hP8 (D_same ((D_right hD).self) rfl)
    subst hw8
    refine lv_istore (lv' := [(6, .int ((S_window n F (xs (4 * j + 1)) 1).2)), (5, .int ((S_window n F (xs (4 * j + 1)) 1).1)), (4, .int (nI (4 * j))), (0, .ref b), (1, .ref h), (2, .ref r), (3, .ref o)]) hx hb dL_law_960 hl (by decide) rfl (fun ls hl => ?_)
    refine lv_aload_n hx hb dL_law_962 rfl (lv_at hl 5 rfl) ?_
    refine vp_callSi (va_Run.run (va_runV (As := []) (rest := []) ⟨hx, hb, hml, hown, hts⟩ (c_X3_thrown l dC dI r a ((S_window n F (xs (4 * j + 1)) 1).1) n p F) (cwV 0 hts gL_law_X3_thrown rfl rfl rfl (by decide +kernel) ⟨Nat.le_of_ble_eq_true rfl, Nat.le_of_ble_eq_true rfl⟩) ⟨PRo.blind, va_recv hK4 (P_right hP) (ci := 3) (q0 := 0) rfl rfl, PRo.pre (P_right hP) hK4 hE⟩ rfl rfl hl.1 rfl (lv_room (Nat.le_of_ble_eq_true rfl)) dL_law_963 ⟨(by show _ ≤ 601024; omega), (by show _ ≤ 7293034; omega)⟩)) (fun r hr => ?_)
    subst hr
    refine lv_iload hx hb dL_law_966 (lv_at hl 1 rfl) ?_
    refine lv_icmp_eq (tgt := 973) hx hb dL_law_968 (by decide) (fun _ => ?_) (fun c_968 => absurd (rfl) c_968)
    refine lv_iload hx hb dL_law_973 (lv_at hl 1 rfl) ?_
    refine lv_if_ne (tgt := 990) hx hb dL_law_975 (by decide) (fun c_975 => ?_) (fun c_975 => ?_)
    · skip
      refine lv_goto (tgt := 1130) hx hb dL_law_990 (by decide) ?_
      refine W.widen (k := cells + 3) (n := slots + 18) (by omega) (by omega) ?_
      exact K u9.1 u9.2.1 _ _ _ _ u9.2.2 _ _ _ (hI) hP hD hS (lv_sub hl [2, 3, 4, 5, 6] rfl)
    · skip
      refine lv_aload_n hx hb dL_law_978 rfl (lv_at hl 6 rfl) ?_
      refine lv_iconst (v := 0) hx hb dL_law_979 (by decide) ?_
      have hm9 := mid_at (cW tK tB h ak ab af u9.1 u9.2.1 n p F) ((o, .inl (cJ, 1, .inr (.inl u9.2.2))) : Nat × va_E) (rW cI cZ r a ((S_window n F (xs (4 * j + 1)) 1).1) n p F)
      refine va_lald hx hb hK hP _ 2 hm9 rfl (by unfold vp_in; decide) dL_law_980 ?_
      refine W_top (y := .long ((S_window n F (xs (4 * j + 1)) 1).2).toInt64) (congrArg Value.long (hf9 c_975)) ?_
      refine lv_iload hx hb dL_law_981 (lv_at hl 0 rfl) ?_
      refine lv_i2l (v := ((S_window n F (xs (4 * j + 1)) 1).2).toInt64) hx hb dL_law_983 rfl ?_
      refine W.lcmp hx hb dL_law_984 ?_
      refine W_top (y := .int 0) (congrArg Value.int (lg_same _)) ?_
      refine lv_if_eq (tgt := 990) hx hb dL_law_985 (by decide) (fun _ => ?_) (fun c_985 => absurd (by decide) c_985)
      refine lv_goto (tgt := 1130) hx hb dL_law_990 (by decide) ?_
      refine W.widen (k := cells + 3) (n := slots + 18) (by omega) (by omega) ?_
      exact K u9.1 u9.2.1 _ _ _ _ u9.2.2 _ _ _ (hI) hP hD hS (lv_sub hl [2, 3, 4, 5, 6] rfl)

set_option maxHeartbeats 4000000 in
set_option maxRecDepth 100000 in
theorem law_about {p9 : Program} {l : Launch} (hlt : l.stackTraces = false) {e9 : Env} {s : State} {m : MethodId} {below : List Frame} {meth : Method} {c : Code} {b L : Nat} {xs : Nat → Int32} (C0 : lw_At p9 s m meth c b L xs) (hL : L ≤ 2048) {dC : Nat → ClassId} {dI : Nat → Nat → Nat} {tK tB cI cZ cJ : ClassId} {h ak ab af o r : Nat} {a : Nat → Nat} (hK : va_K (dC, dI) vwCl (lTy tK tB cI cZ cJ) s) (hE : EN s) (hH0 : EH (lA s) s s.heap) {ka kb : Nat → Nat} {n p : Nat} {F : Rows} {th : Int32} {f : Nat → Int64} (hI : Inv n p F) {j : Nat} (hj : 4 * j + 4 ≤ L) {H : Heap} {locs : List Loc} {ls : Array Slot} {cells slots : Nat} (hcl9 : cells + 3 ≤ 601024) (hsl9 : slots + 18 ≤ 7293034) (hP : va_P (dC, dI) vwCl (lWd tK tB cI cZ cJ h ak ab af o r a ka kb n p F th f) H) (hD : va_D (lA s) (lWd tK tB cI cZ cJ h ak ab af o r a ka kb n p F th f)) (hS : va_S (lA s) s.heap H locs) (hl : lv_has ls 7 [(4, .int (nI (4 * j))), (0, .ref b), (1, .ref h), (2, .ref r), (3, .ref o)]) (K : ∀ (ka kb : Nat → Nat) (n p : Nat) (F : Rows) (th : Int32) (f : Nat → Int64) (H : Heap) (locs : List Loc) (ls : Array Slot), Inv n p F → va_P (dC, dI) vwCl (lWd tK tB cI cZ cJ h ak ab af o r a ka kb n p F th f) H → va_D (lA s) (lWd tK tB cI cZ cJ h ak ab af o r a ka kb n p F th f) → va_S (lA s) s.heap H locs → lv_has ls 7 [(4, .int (nI (4 * j))), (0, .ref b), (1, .ref h), (2, .ref r), (3, .ref o)] → W p9 l e9 room_1 s m #[Value.ref b] below meth c H locs (cells + 3) (slots + 18) (lw_Z below #[Value.ref b] s) (F0 m 1130 ls [])) : W p9 l e9 room_1 s m #[Value.ref b] below meth c H locs (cells) (slots) (lw_Z below #[Value.ref b] s) (F0 m 993 ls []) := by
  obtain ⟨hx, hb, -, hml, hown, hts0, hX, hbl, hlocks, -⟩ := C0
  have hown : s.vm.findClass RL = some m.cls := hown
  have hts : ∀ w ∈ wsL_law, w.before #[Value.ref b] s = true := fun w hw => hts0 w (wsL_law_in w hw)
  have hA : ∀ q : Nat, s.heap.size ≤ q → lA s q := fun q hq => hq
  have hbA : ¬ lA s b := Nat.not_le.mpr hbl
  have hb : c.code = cL_law := hb
  refine lv_aload_n hx hb dL_law_993 rfl (lv_at hl 2 rfl) ?_
  refine lv_aload_n hx hb dL_law_994 rfl (lv_at hl 1 rfl) ?_
  refine lv_iload hx hb dL_law_995 (lv_at hl 0 rfl) ?_
  refine lv_iconst (v := 1) hx hb dL_law_997 (by decide) ?_
  refine lv_iadd hx hb dL_law_998 ?_
  refine W_top (y := .int (nI (4 * j + 1))) (congrArg Value.int (nI_add (4 * j) 1)) ?_
  refine my_sld hx hb hX hbl hbA hS (k := (4 * j + 1)) (by omega) (by omega) dL_law_999 ?_
  refine lv_aload_n hx hb dL_law_1000 rfl (lv_at hl 1 rfl) ?_
  refine lv_iload hx hb dL_law_1001 (lv_at hl 0 rfl) ?_
  refine lv_iconst (v := 2) hx hb dL_law_1003 (by decide) ?_
  refine lv_iadd hx hb dL_law_1004 ?_
  refine W_top (y := .int (nI (4 * j + 2))) (congrArg Value.int (nI_add (4 * j) 2)) ?_
  refine my_sld hx hb hX hbl hbA hS (k := (4 * j + 2)) (by omega) (by omega) dL_law_1005 ?_
  refine lv_aload_n hx hb dL_law_1006 rfl (lv_at hl 4 rfl) ?_
  have hF1 := A_in (D_left hD) hS hA
  have hK3 := hK.sub (tys' := [(tK, .object "Windlane$Kite"), (tB, .object "Windlane$Borrower"), (cJ, .long)]) [0, 1, 2] rfl
  refine va_calli (vx_runSW (As := [.ref h, .int (xs (4 * j + 1)), .int (xs (4 * j + 2)), .ref o]) (rest := []) ⟨hx, hb, hml, hown, hts⟩ (c_L_about l hlt dC dI H.size h ak ab af ka kb n p F o f (xs (4 * j + 1)) (xs (4 * j + 2)) hI) (vx_cwSW 4 hts gL_law_L_about rfl rfl rfl (by decide +kernel) ⟨Nat.le_of_ble_eq_true rfl, Nat.le_of_ble_eq_true rfl⟩) ⟨PWr.blind, PWr.pre (P_left hP) hK3 (D_left hD) hE ((hH0.kept hS.2.1).narrow hF1)⟩ rfl rfl hl.1 rfl (lv_room (Nat.le_of_ble_eq_true rfl)) dL_law_1007 ⟨(by show _ ≤ 601024; omega), (by show _ ≤ 7293034; omega)⟩) hS (fun q _ hq => hF1 q hq) hF1 (fun r9 u9 t9 H locs ht9 hvm hw9 hB hz1 hk1 hS => ?_)
  obtain ⟨hP1, hD1⟩ := hB
  rw [ht9] at hP1
  obtain ⟨hw9, hf9⟩ := hw9
  obtain ⟨hP, hD⟩ := join_L hP hD hk1 hF1 hP1 hD1
  subst hw9
  refine lv_istore (lv' := [(5, .int ((S_about n F (xs (4 * j + 1)) (xs (4 * j + 2))).1)), (4, .int (nI (4 * j))), (0, .ref b), (1, .ref h), (2, .ref r), (3, .ref o)]) hx hb dL_law_1010 hl (by decide) rfl (fun ls hl => ?_)
  refine lv_aload_n hx hb dL_law_1012 rfl (lv_at hl 4 rfl) ?_
  refine lv_aload_n hx hb dL_law_1013 rfl (lv_at hl 2 rfl) ?_
  refine lv_iload hx hb dL_law_1014 (lv_at hl 1 rfl) ?_
  refine lv_iconst (v := 1) hx hb dL_law_1016 (by decide) ?_
  refine lv_iadd hx hb dL_law_1017 ?_
  refine W_top (y := .int (nI (4 * j + 1))) (congrArg Value.int (nI_add (4 * j) 1)) ?_
  refine my_sld hx hb hX hbl hbA hS (k := (4 * j + 1)) (by omega) (by omega) dL_law_1018 ?_
  refine lv_aload_n hx hb dL_law_1019 rfl (lv_at hl 2 rfl) ?_
  refine lv_iload hx hb dL_law_1020 (lv_at hl 1 rfl) ?_
  refine lv_iconst (v := 2) hx hb dL_law_1022 (by decide) ?_
  refine lv_iadd hx hb dL_law_1023 ?_
  refine W_top (y := .int (nI (4 * j + 2))) (congrArg Value.int (nI_add (4 * j) 2)) ?_
  refine my_sld hx hb hX hbl hbA hS (k := (4 * j + 2)) (by omega) (by omega) dL_law_1024 ?_
  have hF2 := A_in (D_right hD) hS hA
  have hK4 := hK.sub (tys' := [(cI, .int), (cZ, .boolean)]) [3, 4] rfl
  refine va_calli (va_runV (As := [.int (xs (4 * j + 1)), .int (xs (4 * j + 2))]) (rest := []) ⟨hx, hb, hml, hown, hts⟩ (c_X3_about l dC dI H.size r a th n p F (xs (4 * j + 1)) (xs (4 * j + 2)) hI) (cwV 2 hts gL_law_X3_about rfl rfl rfl (by decide +kernel) ⟨Nat.le_of_ble_eq_true rfl, Nat.le_of_ble_eq_true rfl⟩) ⟨PWr.blind, va_recv hK4 (P_right hP) (ci := 3) (q0 := 0) rfl rfl, PWr.pre (P_right hP) hK4 (D_right hD) hE ((hH0.kept hS.2.1).narrow hF2)⟩ rfl rfl hl.1 rfl (lv_room (Nat.le_of_ble_eq_true rfl)) dL_law_1025 ⟨(by show _ ≤ 601024; omega), (by show _ ≤ 7293034; omega)⟩) hS (fun q _ hq => hF2 q hq) hF2 (fun r8 u8 t8 H locs ht8 hvm8 hw8 hB8 hz8 hk8 hS => ?_)
  have hP8 : va_P (dC, dI) vwCl (rW cI cZ r a ((S_about n F (xs (4 * j + 1)) (xs (4 * j + 2))).1) n p F) H := by rw [← ht8]; exact hB8
  obtain ⟨hP, hD⟩ := join_R hP hD hk8 hF2 hP8 (D_same ((D_right hD).self) rfl)
  subst hw8
  refine lv_istore (lv' := [(6, .int ((S_about n F (xs (4 * j + 1)) (xs (4 * j + 2))).2)), (5, .int ((S_about n F (xs (4 * j + 1)) (xs (4 * j + 2))).1)), (4, .int (nI (4 * j))), (0, .ref b), (1, .ref h), (2, .ref r), (3, .ref o)]) hx hb dL_law_1028 hl (by decide) rfl (fun ls hl => ?_)
  refine lv_aload_n hx hb dL_law_1030 rfl (lv_at hl 5 rfl) ?_
  refine vp_callSi (va_Run.run (va_runV (As := []) (rest := []) ⟨hx, hb, hml, hown, hts⟩ (c_X3_thrown l dC dI r a ((S_about n F (xs (4 * j + 1)) (xs (4 * j + 2))).1) n p F) (cwV 0 hts gL_law_X3_thrown rfl rfl rfl (by decide +kernel) ⟨Nat.le_of_ble_eq_true rfl, Nat.le_of_ble_eq_true rfl⟩) ⟨PRo.blind, va_recv hK4 (P_right hP) (ci := 3) (q0 := 0) rfl rfl, PRo.pre (P_right hP) hK4 hE⟩ rfl rfl hl.1 rfl (lv_room (Nat.le_of_ble_eq_true rfl)) dL_law_1031 ⟨(by show _ ≤ 601024; omega), (by show _ ≤ 7293034; omega)⟩)) (fun r hr => ?_)
  subst hr
  refine lv_iload hx hb dL_law_1034 (lv_at hl 1 rfl) ?_
  refine lv_icmp_eq (tgt := 1041) hx hb dL_law_1036 (by decide) (fun _ => ?_) (fun c_1036 => absurd (rfl) c_1036)
  refine lv_iload hx hb dL_law_1041 (lv_at hl 1 rfl) ?_
  refine lv_if_ne (tgt := 1058) hx hb dL_law_1043 (by decide) (fun c_1043 => ?_) (fun c_1043 => ?_)
  · skip
    refine lv_goto (tgt := 1130) hx hb dL_law_1058 (by decide) ?_
    refine W.widen (k := cells + 3) (n := slots + 18) (by omega) (by omega) ?_
    exact K u9.1 u9.2.1 _ _ _ _ u9.2.2 _ _ _ (hI) hP hD hS (lv_sub hl [2, 3, 4, 5, 6] rfl)
  · skip
    refine lv_aload_n hx hb dL_law_1046 rfl (lv_at hl 6 rfl) ?_
    refine lv_iconst (v := 0) hx hb dL_law_1047 (by decide) ?_
    have hm9 := mid_at (cW tK tB h ak ab af u9.1 u9.2.1 n p F) ((o, .inl (cJ, 1, .inr (.inl u9.2.2))) : Nat × va_E) (rW cI cZ r a ((S_about n F (xs (4 * j + 1)) (xs (4 * j + 2))).1) n p F)
    refine va_lald hx hb hK hP _ 2 hm9 rfl (by unfold vp_in; decide) dL_law_1048 ?_
    refine W_top (y := .long ((S_about n F (xs (4 * j + 1)) (xs (4 * j + 2))).2).toInt64) (congrArg Value.long (hf9 c_1043)) ?_
    refine lv_iload hx hb dL_law_1049 (lv_at hl 0 rfl) ?_
    refine lv_i2l (v := ((S_about n F (xs (4 * j + 1)) (xs (4 * j + 2))).2).toInt64) hx hb dL_law_1051 rfl ?_
    refine W.lcmp hx hb dL_law_1052 ?_
    refine W_top (y := .int 0) (congrArg Value.int (lg_same _)) ?_
    refine lv_if_eq (tgt := 1058) hx hb dL_law_1053 (by decide) (fun _ => ?_) (fun c_1053 => absurd (by decide) c_1053)
    refine lv_goto (tgt := 1130) hx hb dL_law_1058 (by decide) ?_
    refine W.widen (k := cells + 3) (n := slots + 18) (by omega) (by omega) ?_
    exact K u9.1 u9.2.1 _ _ _ _ u9.2.2 _ _ _ (hI) hP hD hS (lv_sub hl [2, 3, 4, 5, 6] rfl)

set_option maxHeartbeats 4000000 in
set_option maxRecDepth 100000 in
theorem law_lane {p9 : Program} {l : Launch} (hlt : l.stackTraces = false) {e9 : Env} {s : State} {m : MethodId} {below : List Frame} {meth : Method} {c : Code} {b L : Nat} {xs : Nat → Int32} (C0 : lw_At p9 s m meth c b L xs) (hL : L ≤ 2048) {dC : Nat → ClassId} {dI : Nat → Nat → Nat} {tK tB cI cZ cJ : ClassId} {h ak ab af o r : Nat} {a : Nat → Nat} (hK : va_K (dC, dI) vwCl (lTy tK tB cI cZ cJ) s) (hE : EN s) (hH0 : EH (lA s) s s.heap) {ka kb : Nat → Nat} {n p : Nat} {F : Rows} {th : Int32} {f : Nat → Int64} (hI : Inv n p F) {j : Nat} (hj : 4 * j + 4 ≤ L) {H : Heap} {locs : List Loc} {ls : Array Slot} {cells slots : Nat} (hcl9 : cells + 3 ≤ 601024) (hsl9 : slots + 18 ≤ 7293034) (hP : va_P (dC, dI) vwCl (lWd tK tB cI cZ cJ h ak ab af o r a ka kb n p F th f) H) (hD : va_D (lA s) (lWd tK tB cI cZ cJ h ak ab af o r a ka kb n p F th f)) (hS : va_S (lA s) s.heap H locs) (hl : lv_has ls 7 [(4, .int (nI (4 * j))), (0, .ref b), (1, .ref h), (2, .ref r), (3, .ref o)]) (K : ∀ (ka kb : Nat → Nat) (n p : Nat) (F : Rows) (th : Int32) (f : Nat → Int64) (H : Heap) (locs : List Loc) (ls : Array Slot), Inv n p F → va_P (dC, dI) vwCl (lWd tK tB cI cZ cJ h ak ab af o r a ka kb n p F th f) H → va_D (lA s) (lWd tK tB cI cZ cJ h ak ab af o r a ka kb n p F th f) → va_S (lA s) s.heap H locs → lv_has ls 7 [(4, .int (nI (4 * j))), (0, .ref b), (1, .ref h), (2, .ref r), (3, .ref o)] → W p9 l e9 room_1 s m #[Value.ref b] below meth c H locs (cells + 3) (slots + 18) (lw_Z below #[Value.ref b] s) (F0 m 1130 ls [])) : W p9 l e9 room_1 s m #[Value.ref b] below meth c H locs (cells) (slots) (lw_Z below #[Value.ref b] s) (F0 m 1061 ls []) := by
  obtain ⟨hx, hb, -, hml, hown, hts0, hX, hbl, hlocks, -⟩ := C0
  have hown : s.vm.findClass RL = some m.cls := hown
  have hts : ∀ w ∈ wsL_law, w.before #[Value.ref b] s = true := fun w hw => hts0 w (wsL_law_in w hw)
  have hA : ∀ q : Nat, s.heap.size ≤ q → lA s q := fun q hq => hq
  have hbA : ¬ lA s b := Nat.not_le.mpr hbl
  have hb : c.code = cL_law := hb
  refine lv_aload_n hx hb dL_law_1061 rfl (lv_at hl 2 rfl) ?_
  refine lv_aload_n hx hb dL_law_1062 rfl (lv_at hl 1 rfl) ?_
  refine lv_iload hx hb dL_law_1063 (lv_at hl 0 rfl) ?_
  refine lv_iconst (v := 1) hx hb dL_law_1065 (by decide) ?_
  refine lv_iadd hx hb dL_law_1066 ?_
  refine W_top (y := .int (nI (4 * j + 1))) (congrArg Value.int (nI_add (4 * j) 1)) ?_
  refine my_sld hx hb hX hbl hbA hS (k := (4 * j + 1)) (by omega) (by omega) dL_law_1067 ?_
  refine lv_aload_n hx hb dL_law_1068 rfl (lv_at hl 4 rfl) ?_
  have hF1 := A_in (D_left hD) hS hA
  have hK3 := hK.sub (tys' := [(tK, .object "Windlane$Kite"), (tB, .object "Windlane$Borrower"), (cJ, .long)]) [0, 1, 2] rfl
  refine va_calli (vx_runSW (As := [.ref h, .int (xs (4 * j + 1)), .ref o]) (rest := []) ⟨hx, hb, hml, hown, hts⟩ (c_L_lane l hlt dC dI H.size h ak ab af ka kb n p F o f (xs (4 * j + 1)) hI) (vx_cwSW 3 hts gL_law_L_lane rfl rfl rfl (by decide +kernel) ⟨Nat.le_of_ble_eq_true rfl, Nat.le_of_ble_eq_true rfl⟩) ⟨PWr.blind, PWr.pre (P_left hP) hK3 (D_left hD) hE ((hH0.kept hS.2.1).narrow hF1)⟩ rfl rfl hl.1 rfl (lv_room (Nat.le_of_ble_eq_true rfl)) dL_law_1069 ⟨(by show _ ≤ 601024; omega), (by show _ ≤ 7293034; omega)⟩) hS (fun q _ hq => hF1 q hq) hF1 (fun r9 u9 t9 H locs ht9 hvm hw9 hB hz1 hk1 hS => ?_)
  obtain ⟨hP1, hD1⟩ := hB
  rw [ht9] at hP1
  obtain ⟨hw9, hf9⟩ := hw9
  obtain ⟨hP, hD⟩ := join_L hP hD hk1 hF1 hP1 hD1
  subst hw9
  refine lv_istore (lv' := [(5, .int ((S_lane n F (xs (4 * j + 1))).1)), (4, .int (nI (4 * j))), (0, .ref b), (1, .ref h), (2, .ref r), (3, .ref o)]) hx hb dL_law_1072 hl (by decide) rfl (fun ls hl => ?_)
  refine lv_aload_n hx hb dL_law_1074 rfl (lv_at hl 4 rfl) ?_
  refine lv_aload_n hx hb dL_law_1075 rfl (lv_at hl 2 rfl) ?_
  refine lv_iload hx hb dL_law_1076 (lv_at hl 1 rfl) ?_
  refine lv_iconst (v := 1) hx hb dL_law_1078 (by decide) ?_
  refine lv_iadd hx hb dL_law_1079 ?_
  refine W_top (y := .int (nI (4 * j + 1))) (congrArg Value.int (nI_add (4 * j) 1)) ?_
  refine my_sld hx hb hX hbl hbA hS (k := (4 * j + 1)) (by omega) (by omega) dL_law_1080 ?_
  have hF2 := A_in (D_right hD) hS hA
  have hK4 := hK.sub (tys' := [(cI, .int), (cZ, .boolean)]) [3, 4] rfl
  refine va_calli (va_runV (As := [.int (xs (4 * j + 1))]) (rest := []) ⟨hx, hb, hml, hown, hts⟩ (c_X3_lane l dC dI H.size r a th n p F (xs (4 * j + 1)) hI) (cwV 1 hts gL_law_X3_lane rfl rfl rfl (by decide +kernel) ⟨Nat.le_of_ble_eq_true rfl, Nat.le_of_ble_eq_true rfl⟩) ⟨PWr.blind, va_recv hK4 (P_right hP) (ci := 3) (q0 := 0) rfl rfl, PWr.pre (P_right hP) hK4 (D_right hD) hE ((hH0.kept hS.2.1).narrow hF2)⟩ rfl rfl hl.1 rfl (lv_room (Nat.le_of_ble_eq_true rfl)) dL_law_1081 ⟨(by show _ ≤ 601024; omega), (by show _ ≤ 7293034; omega)⟩) hS (fun q _ hq => hF2 q hq) hF2 (fun r8 u8 t8 H locs ht8 hvm8 hw8 hB8 hz8 hk8 hS => ?_)
  have hP8 : va_P (dC, dI) vwCl (rW cI cZ r a ((S_lane n F (xs (4 * j + 1))).1) n p F) H := by rw [← ht8]; exact hB8
  obtain ⟨hP, hD⟩ := join_R hP hD hk8 hF2 hP8 (D_same ((D_right hD).self) rfl)
  subst hw8
  refine lv_istore (lv' := [(6, .int ((S_lane n F (xs (4 * j + 1))).2)), (5, .int ((S_lane n F (xs (4 * j + 1))).1)), (4, .int (nI (4 * j))), (0, .ref b), (1, .ref h), (2, .ref r), (3, .ref o)]) hx hb dL_law_1084 hl (by decide) rfl (fun ls hl => ?_)
  refine lv_aload_n hx hb dL_law_1086 rfl (lv_at hl 5 rfl) ?_
  refine vp_callSi (va_Run.run (va_runV (As := []) (rest := []) ⟨hx, hb, hml, hown, hts⟩ (c_X3_thrown l dC dI r a ((S_lane n F (xs (4 * j + 1))).1) n p F) (cwV 0 hts gL_law_X3_thrown rfl rfl rfl (by decide +kernel) ⟨Nat.le_of_ble_eq_true rfl, Nat.le_of_ble_eq_true rfl⟩) ⟨PRo.blind, va_recv hK4 (P_right hP) (ci := 3) (q0 := 0) rfl rfl, PRo.pre (P_right hP) hK4 hE⟩ rfl rfl hl.1 rfl (lv_room (Nat.le_of_ble_eq_true rfl)) dL_law_1087 ⟨(by show _ ≤ 601024; omega), (by show _ ≤ 7293034; omega)⟩)) (fun r hr => ?_)
  subst hr
  refine lv_iload hx hb dL_law_1090 (lv_at hl 1 rfl) ?_
  refine lv_icmp_eq (tgt := 1097) hx hb dL_law_1092 (by decide) (fun _ => ?_) (fun c_1092 => absurd (rfl) c_1092)
  refine lv_iload hx hb dL_law_1097 (lv_at hl 1 rfl) ?_
  refine lv_if_ne (tgt := 1114) hx hb dL_law_1099 (by decide) (fun c_1099 => ?_) (fun c_1099 => ?_)
  · skip
    refine lv_goto (tgt := 1130) hx hb dL_law_1114 (by decide) ?_
    refine W.widen (k := cells + 3) (n := slots + 18) (by omega) (by omega) ?_
    exact K u9.1 u9.2.1 _ _ _ _ u9.2.2 _ _ _ (hI) hP hD hS (lv_sub hl [2, 3, 4, 5, 6] rfl)
  · skip
    refine lv_aload_n hx hb dL_law_1102 rfl (lv_at hl 6 rfl) ?_
    refine lv_iconst (v := 0) hx hb dL_law_1103 (by decide) ?_
    have hm9 := mid_at (cW tK tB h ak ab af u9.1 u9.2.1 n p F) ((o, .inl (cJ, 1, .inr (.inl u9.2.2))) : Nat × va_E) (rW cI cZ r a ((S_lane n F (xs (4 * j + 1))).1) n p F)
    refine va_lald hx hb hK hP _ 2 hm9 rfl (by unfold vp_in; decide) dL_law_1104 ?_
    refine W_top (y := .long ((S_lane n F (xs (4 * j + 1))).2).toInt64) (congrArg Value.long (hf9 c_1099)) ?_
    refine lv_iload hx hb dL_law_1105 (lv_at hl 0 rfl) ?_
    refine lv_i2l (v := ((S_lane n F (xs (4 * j + 1))).2).toInt64) hx hb dL_law_1107 rfl ?_
    refine W.lcmp hx hb dL_law_1108 ?_
    refine W_top (y := .int 0) (congrArg Value.int (lg_same _)) ?_
    refine lv_if_eq (tgt := 1114) hx hb dL_law_1109 (by decide) (fun _ => ?_) (fun c_1109 => absurd (by decide) c_1109)
    refine lv_goto (tgt := 1130) hx hb dL_law_1114 (by decide) ?_
    refine W.widen (k := cells + 3) (n := slots + 18) (by omega) (by omega) ?_
    exact K u9.1 u9.2.1 _ _ _ _ u9.2.2 _ _ _ (hI) hP hD hS (lv_sub hl [2, 3, 4, 5, 6] rfl)
