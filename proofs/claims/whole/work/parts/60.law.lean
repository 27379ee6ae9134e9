set_option maxHeartbeats 4000000 in
set_option maxRecDepth 100000 in
theorem law_kite {p9 : Program} {l : Launch} (hlt : l.stackTraces = false) {e9 : Env} {s : State} {m : MethodId} {below : List Frame} {meth : Method} {c : Code} {b L : Nat} {xs : Nat → Int32} (C0 : lw_At p9 s m meth c b L xs) (hL : L ≤ 2048) {dC : Nat → ClassId} {dI : Nat → Nat → Nat} {tK tB cI cZ cJ : ClassId} {h ak ab af o r : Nat} {a : Nat → Nat} (hK : va_K (dC, dI) vwCl (lTy tK tB cI cZ cJ) s) (hE : EN s) (hH0 : EH (lA s) s s.heap) {ka kb : Nat → Nat} {n p : Nat} {F : Rows} {th : Int32} {f : Nat → Int64} (hI : Inv n p F) {j : Nat} (hj : 4 * j + 4 ≤ L) {H : Heap} {locs : List Loc} {ls : Array Slot} {cells slots : Nat} (hcl9 : cells + 3 ≤ 601024) (hsl9 : slots + 18 ≤ 7293034) (hP : va_P (dC, dI) vwCl (lWd tK tB cI cZ cJ h ak ab af o r a ka kb n p F th f) H) (hD : va_D (lA s) (lWd tK tB cI cZ cJ h ak ab af o r a ka kb n p F th f)) (hS : va_S (lA s) s.heap H locs) (hl : lv_has ls 7 [(4, .int (nI (4 * j))), (0, .ref b), (1, .ref h), (2, .ref r), (3, .ref o)]) (K : ∀ (ka kb : Nat → Nat) (n p : Nat) (F : Rows) (th : Int32) (f : Nat → Int64) (H : Heap) (locs : List Loc) (ls : Array Slot), Inv n p F → va_P (dC, dI) vwCl (lWd tK tB cI cZ cJ h ak ab af o r a ka kb n p F th f) H → va_D (lA s) (lWd tK tB cI cZ cJ h ak ab af o r a ka kb n p F th f) → va_S (lA s) s.heap H locs → lv_has ls 7 [(4, .int (nI (4 * j))), (0, .ref b), (1, .ref h), (2, .ref r), (3, .ref o)] → W p9 l e9 room_1 s m #[Value.ref b] below meth c H locs (cells + 3) (slots + 18) (lw_Z below #[Value.ref b] s) (F0 m 1130 ls [])) : W p9 l e9 room_1 s m #[Value.ref b] below meth c H locs (cells) (slots) (lw_Z below #[Value.ref b] s) (F0 m 120 ls []) := by
  obtain ⟨hx, hb, -, hml, hown, hts0, hX, hbl, hlocks, -⟩ := C0
  have hown : s.vm.findClass RL = some m.cls := hown
  have hts : ∀ w ∈ wsL_law, w.before #[Value.ref b] s = true := fun w hw => hts0 w (wsL_law_in w hw)
  have hA : ∀ q : Nat, s.heap.size ≤ q → lA s q := fun q hq => hq
  have hbA : ¬ lA s b := Nat.not_le.mpr hbl
  have hb : c.code = cL_law := hb
  refine lv_aload_n hx hb dL_law_120 rfl (lv_at hl 2 rfl) ?_
  refine lv_aload_n hx hb dL_law_121 rfl (lv_at hl 1 rfl) ?_
  refine lv_iload hx hb dL_law_122 (lv_at hl 0 rfl) ?_
  refine lv_iconst (v := 1) hx hb dL_law_124 (by decide) ?_
  refine lv_iadd hx hb dL_law_125 ?_
  refine W_top (y := .int (nI (4 * j + 1))) (congrArg Value.int (nI_add (4 * j) 1)) ?_
  refine my_sld hx hb hX hbl hbA hS (k := (4 * j + 1)) (by omega) (by omega) dL_law_126 ?_
  refine lv_aload_n hx hb dL_law_127 rfl (lv_at hl 1 rfl) ?_
  refine lv_iload hx hb dL_law_128 (lv_at hl 0 rfl) ?_
  refine lv_iconst (v := 2) hx hb dL_law_130 (by decide) ?_
  refine lv_iadd hx hb dL_law_131 ?_
  refine W_top (y := .int (nI (4 * j + 2))) (congrArg Value.int (nI_add (4 * j) 2)) ?_
  refine my_sld hx hb hX hbl hbA hS (k := (4 * j + 2)) (by omega) (by omega) dL_law_132 ?_
  refine lv_aload_n hx hb dL_law_133 rfl (lv_at hl 1 rfl) ?_
  refine lv_iload hx hb dL_law_134 (lv_at hl 0 rfl) ?_
  refine lv_iconst (v := 3) hx hb dL_law_136 (by decide) ?_
  refine lv_iadd hx hb dL_law_137 ?_
  refine W_top (y := .int (nI (4 * j + 3))) (congrArg Value.int (nI_add (4 * j) 3)) ?_
  refine my_sld hx hb hX hbl hbA hS (k := (4 * j + 3)) (by omega) (by omega) dL_law_138 ?_
  refine lv_aload_n hx hb dL_law_139 rfl (lv_at hl 4 rfl) ?_
  have hF1 := A_in (D_left hD) hS hA
  have hK3 := hK.sub (tys' := [(tK, .object "Windlane$Kite"), (tB, .object "Windlane$Borrower"), (cJ, .long)]) [0, 1, 2] rfl
  refine va_calli (vx_runSW (As := [.ref h, .int (xs (4 * j + 1)), .int (xs (4 * j + 2)), .int (xs (4 * j + 3)), .ref o]) (rest := []) ⟨hx, hb, hml, hown, hts⟩ (c_L_kite l hlt dC dI H.size h ak ab af ka kb n p F o f (xs (4 * j + 1)) (xs (4 * j + 2)) (xs (4 * j + 3)) hI) (vx_cwSW 5 hts gL_law_L_kite rfl rfl rfl (by decide +kernel) ⟨Nat.le_of_ble_eq_true rfl, Nat.le_of_ble_eq_true rfl⟩) ⟨PWr.blind, PWr.pre (P_left hP) hK3 (D_left hD) hE ((hH0.kept hS.2.1).narrow hF1)⟩ rfl rfl hl.1 rfl (lv_room (Nat.le_of_ble_eq_true rfl)) dL_law_140 ⟨(by show _ ≤ 601024; omega), (by show _ ≤ 7293034; omega)⟩) hS (fun q _ hq => hF1 q hq) hF1 (fun r9 u9 t9 H locs ht9 hvm hw9 hB hz1 hk1 hS => ?_)
  obtain ⟨hP1, hD1⟩ := hB
  rw [ht9] at hP1
  obtain ⟨hw9, hf9⟩ := hw9
  obtain ⟨hP, hD⟩ := join_L hP hD hk1 hF1 hP1 hD1
  subst hw9
  refine lv_istore (lv' := [(5, .int ((S_kite n F (xs (4 * j + 1)) (xs (4 * j + 2)) (xs (4 * j + 3))).1)), (4, .int (nI (4 * j))), (0, .ref b), (1, .ref h), (2, .ref r), (3, .ref o)]) hx hb dL_law_143 hl (by decide) rfl (fun ls hl => ?_)
  refine lv_aload_n hx hb dL_law_145 rfl (lv_at hl 4 rfl) ?_
  refine lv_aload_n hx hb dL_law_146 rfl (lv_at hl 2 rfl) ?_
  refine lv_iload hx hb dL_law_147 (lv_at hl 1 rfl) ?_
  refine lv_iconst (v := 1) hx hb dL_law_149 (by decide) ?_
  refine lv_iadd hx hb dL_law_150 ?_
  refine W_top (y := .int (nI (4 * j + 1))) (congrArg Value.int (nI_add (4 * j) 1)) ?_
  refine my_sld hx hb hX hbl hbA hS (k := (4 * j + 1)) (by omega) (by omega) dL_law_151 ?_
  refine lv_aload_n hx hb dL_law_152 rfl (lv_at hl 2 rfl) ?_
  refine lv_iload hx hb dL_law_153 (lv_at hl 1 rfl) ?_
  refine lv_iconst (v := 2) hx hb dL_law_155 (by decide) ?_
  refine lv_iadd hx hb dL_law_156 ?_
  refine W_top (y := .int (nI (4 * j + 2))) (congrArg Value.int (nI_add (4 * j) 2)) ?_
  refine my_sld hx hb hX hbl hbA hS (k := (4 * j + 2)) (by omega) (by omega) dL_law_157 ?_
  refine lv_aload_n hx hb dL_law_158 rfl (lv_at hl 2 rfl) ?_
  refine lv_iload hx hb dL_law_159 (lv_at hl 1 rfl) ?_
  refine lv_iconst (v := 3) hx hb dL_law_161 (by decide) ?_
  refine lv_iadd hx hb dL_law_162 ?_
  refine W_top (y := .int (nI (4 * j + 3))) (congrArg Value.int (nI_add (4 * j) 3)) ?_
  refine my_sld hx hb hX hbl hbA hS (k := (4 * j + 3)) (by omega) (by omega) dL_law_163 ?_
  have hF2 := A_in (D_right hD) hS hA
  have hK4 := hK.sub (tys' := [(cI, .int), (cZ, .boolean)]) [3, 4] rfl
  refine va_calli (va_runV (As := [.int (xs (4 * j + 1)), .int (xs (4 * j + 2)), .int (xs (4 * j + 3))]) (rest := []) ⟨hx, hb, hml, hown, hts⟩ (c_X3_kite l dC dI H.size r a th n p F (xs (4 * j + 1)) (xs (4 * j + 2)) (xs (4 * j + 3)) hI) (cwV 3 hts gL_law_X3_kite rfl rfl rfl (by decide +kernel) ⟨Nat.le_of_ble_eq_true rfl, Nat.le_of_ble_eq_true rfl⟩) ⟨PWr.blind, va_recv hK4 (P_right hP) (ci := 3) (q0 := 0) rfl rfl, PWr.pre (P_right hP) hK4 (D_right hD) hE ((hH0.kept hS.2.1).narrow hF2)⟩ rfl rfl hl.1 rfl (lv_room (Nat.le_of_ble_eq_true rfl)) dL_law_164 ⟨(by show _ ≤ 601024; omega), (by show _ ≤ 7293034; omega)⟩) hS (fun q _ hq => hF2 q hq) hF2 (fun r8 u8 t8 H locs ht8 hvm8 hw8 hB8 hz8 hk8 hS => ?_)
  have hP8 : va_P (dC, dI) vwCl (rW cI cZ r a ((S_kite n F (xs (4 * j + 1)) (xs (4 * j + 2)) (xs (4 * j + 3))).1) ((S_kite n F (xs (4 * j + 1)) (xs (4 * j + 2)) (xs (4 * j + 3))).2.2.1) p ((S_kite n F (xs (4 * j + 1)) (xs (4 * j + 2)) (xs (4 * j + 3))).2.2.2)) H := by rw [← ht8]; exact hB8
  obtain ⟨hP, hD⟩ := join_R hP hD hk8 hF2 hP8 (D_same ((D_right hD).self) rfl)
  subst hw8
  refine lv_istore (lv' := [(6, .int ((S_kite n F (xs (4 * j + 1)) (xs (4 * j + 2)) (xs (4 * j + 3))).2.1)), (5, .int ((S_kite n F (xs (4 * j + 1)) (xs (4 * j + 2)) (xs (4 * j + 3))).1)), (4, .int (nI (4 * j))), (0, .ref b), (1, .ref h), (2, .ref r), (3, .ref o)]) hx hb dL_law_167 hl (by decide) rfl (fun ls hl => ?_)
  refine lv_aload_n hx hb dL_law_169 rfl (lv_at hl 5 rfl) ?_
  refine vp_callSi (va_Run.run (va_runV (As := []) (rest := []) ⟨hx, hb, hml, hown, hts⟩ (c_X3_thrown l dC dI r a ((S_kite n F (xs (4 * j + 1)) (xs (4 * j + 2)) (xs (4 * j + 3))).1) ((S_kite n F (xs (4 * j + 1)) (xs (4 * j + 2)) (xs (4 * j + 3))).2.2.1) p ((S_kite n F (xs (4 * j + 1)) (xs (4 * j + 2)) (xs (4 * j + 3))).2.2.2)) (cwV 0 hts gL_law_X3_thrown rfl rfl rfl (by decide +kernel) ⟨Nat.le_of_ble_eq_true rfl, Nat.le_of_ble_eq_true rfl⟩) ⟨PRo.blind, va_recv hK4 (P_right hP) (ci := 3) (q0 := 0) rfl rfl, PRo.pre (P_right hP) hK4 hE⟩ rfl rfl hl.1 rfl (lv_room (Nat.le_of_ble_eq_true rfl)) dL_law_170 ⟨(by show _ ≤ 601024; omega), (by show _ ≤ 7293034; omega)⟩)) (fun r hr => ?_)
  subst hr
  refine lv_iload hx hb dL_law_173 (lv_at hl 1 rfl) ?_
  refine lv_icmp_eq (tgt := 180) hx hb dL_law_175 (by decide) (fun _ => ?_) (fun c_175 => absurd (rfl) c_175)
  refine lv_iload hx hb dL_law_180 (lv_at hl 1 rfl) ?_
  refine lv_if_ne (tgt := 197) hx hb dL_law_182 (by decide) (fun c_182 => ?_) (fun c_182 => ?_)
  · skip
    refine lv_goto (tgt := 1130) hx hb dL_law_197 (by decide) ?_
    refine W.widen (k := cells + 3) (n := slots + 18) (by omega) (by omega) ?_
    exact K u9.1 u9.2.1 _ _ _ _ u9.2.2 _ _ _ (I_kite hI _ _ _) hP hD hS (lv_sub hl [2, 3, 4, 5, 6] rfl)
  · skip
    refine lv_aload_n hx hb dL_law_185 rfl (lv_at hl 6 rfl) ?_
    refine lv_iconst (v := 0) hx hb dL_law_186 (by decide) ?_
    have hm9 := mid_at (cW tK tB h ak ab af u9.1 u9.2.1 ((S_kite n F (xs (4 * j + 1)) (xs (4 * j + 2)) (xs (4 * j + 3))).2.2.1) p ((S_kite n F (xs (4 * j + 1)) (xs (4 * j + 2)) (xs (4 * j + 3))).2.2.2)) ((o, .inl (cJ, 1, .inr (.inl u9.2.2))) : Nat × va_E) (rW cI cZ r a ((S_kite n F (xs (4 * j + 1)) (xs (4 * j + 2)) (xs (4 * j + 3))).1) ((S_kite n F (xs (4 * j + 1)) (xs (4 * j + 2)) (xs (4 * j + 3))).2.2.1) p ((S_kite n F (xs (4 * j + 1)) (xs (4 * j + 2)) (xs (4 * j + 3))).2.2.2))
    refine va_lald hx hb hK hP _ 2 hm9 rfl (by unfold vp_in; decide) dL_law_187 ?_
    refine W_top (y := .long ((S_kite n F (xs (4 * j + 1)) (xs (4 * j + 2)) (xs (4 * j + 3))).2.1).toInt64) (congrArg Value.long (hf9 c_182)) ?_
    refine lv_iload hx hb dL_law_188 (lv_at hl 0 rfl) ?_
    refine lv_i2l (v := ((S_kite n F (xs (4 * j + 1)) (xs (4 * j + 2)) (xs (4 * j + 3))).2.1).toInt64) hx hb dL_law_190 rfl ?_
    refine W.lcmp hx hb dL_law_191 ?_
    refine W_top (y := .int 0) (congrArg Value.int (lg_same _)) ?_
    refine lv_if_eq (tgt := 197) hx hb dL_law_192 (by decide) (fun _ => ?_) (fun c_192 => absurd (by decide) c_192)
    refine lv_goto (tgt := 1130) hx hb dL_law_197 (by decide) ?_
    refine W.widen (k := cells + 3) (n := slots + 18) (by omega) (by omega) ?_
    exact K u9.1 u9.2.1 _ _ _ _ u9.2.2 _ _ _ (I_kite hI _ _ _) hP hD hS (lv_sub hl [2, 3, 4, 5, 6] rfl)

set_option maxHeartbeats 4000000 in
set_option maxRecDepth 100000 in
theorem law_patch {p9 : Program} {l : Launch} (hlt : l.stackTraces = false) {e9 : Env} {s : State} {m : MethodId} {below : List Frame} {meth : Method} {c : Code} {b L : Nat} {xs : Nat → Int32} (C0 : lw_At p9 s m meth c b L xs) (hL : L ≤ 2048) {dC : Nat → ClassId} {dI : Nat → Nat → Nat} {tK tB cI cZ cJ : ClassId} {h ak ab af o r : Nat} {a : Nat → Nat} (hK : va_K (dC, dI) vwCl (lTy tK tB cI cZ cJ) s) (hE : EN s) (hH0 : EH (lA s) s s.heap) {ka kb : Nat → Nat} {n p : Nat} {F : Rows} {th : Int32} {f : Nat → Int64} (hI : Inv n p F) {j : Nat} (hj : 4 * j + 4 ≤ L) {H : Heap} {locs : List Loc} {ls : Array Slot} {cells slots : Nat} (hcl9 : cells + 3 ≤ 601024) (hsl9 : slots + 18 ≤ 7293034) (hP : va_P (dC, dI) vwCl (lWd tK tB cI cZ cJ h ak ab af o r a ka kb n p F th f) H) (hD : va_D (lA s) (lWd tK tB cI cZ cJ h ak ab af o r a ka kb n p F th f)) (hS : va_S (lA s) s.heap H locs) (hl : lv_has ls 7 [(4, .int (nI (4 * j))), (0, .ref b), (1, .ref h), (2, .ref r), (3, .ref o)]) (K : ∀ (ka kb : Nat → Nat) (n p : Nat) (F : Rows) (th : Int32) (f : Nat → Int64) (H : Heap) (locs : List Loc) (ls : Array Slot), Inv n p F → va_P (dC, dI) vwCl (lWd tK tB cI cZ cJ h ak ab af o r a ka kb n p F th f) H → va_D (lA s) (lWd tK tB cI cZ cJ h ak ab af o r a ka kb n p F th f) → va_S (lA s) s.heap H locs → lv_has ls 7 [(4, .int (nI (4 * j))), (0, .ref b), (1, .ref h), (2, .ref r), (3, .ref o)] → W p9 l e9 room_1 s m #[Value.ref b] below meth c H locs (cells + 3) (slots + 18) (lw_Z below #[Value.ref b] s) (F0 m 1130 ls [])) : W p9 l e9 room_1 s m #[Value.ref b] below meth c H locs (cells) (slots) (lw_Z below #[Value.ref b] s) (F0 m 200 ls []) := by
  obtain ⟨hx, hb, -, hml, hown, hts0, hX, hbl, hlocks, -⟩ := C0
  have hown : s.vm.findClass RL = some m.cls := hown
  have hts : ∀ w ∈ wsL_law, w.before #[Value.ref b] s = true := fun w hw => hts0 w (wsL_law_in w hw)
  have hA : ∀ q : Nat, s.heap.size ≤ q → lA s q := fun q hq => hq
  have hbA : ¬ lA s b := Nat.not_le.mpr hbl
  have hb : c.code = cL_law := hb
  refine lv_aload_n hx hb dL_law_200 rfl (lv_at hl 2 rfl) ?_
  refine lv_aload_n hx hb dL_law_201 rfl (lv_at hl 1 rfl) ?_
  refine lv_iload hx hb dL_law_202 (lv_at hl 0 rfl) ?_
  refine lv_iconst (v := 1) hx hb dL_law_204 (by decide) ?_
  refine lv_iadd hx hb dL_law_205 ?_
  refine W_top (y := .int (nI (4 * j + 1))) (congrArg Value.int (nI_add (4 * j) 1)) ?_
  refine my_sld hx hb hX hbl hbA hS (k := (4 * j + 1)) (by omega) (by omega) dL_law_206 ?_
  refine lv_aload_n hx hb dL_law_207 rfl (lv_at hl 4 rfl) ?_
  have hF1 := A_in (D_left hD) hS hA
  have hK3 := hK.sub (tys' := [(tK, .object "Windlane$Kite"), (tB, .object "Windlane$Borrower"), (cJ, .long)]) [0, 1, 2] rfl
  refine va_calli (vx_runSW (As := [.ref h, .int (xs (4 * j + 1)), .ref o]) (rest := []) ⟨hx, hb, hml, hown, hts⟩ (c_L_patch l hlt dC dI H.size h ak ab af ka kb n p F o f (xs (4 * j + 1)) hI) (vx_cwSW 3 hts gL_law_L_patch rfl rfl rfl (by decide +kernel) ⟨Nat.le_of_ble_eq_true rfl, Nat.le_of_ble_eq_true rfl⟩) ⟨PWr.blind, PWr.pre (P_left hP) hK3 (D_left hD) hE ((hH0.kept hS.2.1).narrow hF1)⟩ rfl rfl hl.1 rfl (lv_room (Nat.le_of_ble_eq_true rfl)) dL_law_208 ⟨(by show _ ≤ 601024; omega), (by show _ ≤ 7293034; omega)⟩) hS (fun q _ hq => hF1 q hq) hF1 (fun r9 u9 t9 H locs ht9 hvm hw9 hB hz1 hk1 hS => ?_)
  obtain ⟨hP1, hD1⟩ := hB
  rw [ht9] at hP1
  obtain ⟨hw9, hf9⟩ := hw9
  obtain ⟨hP, hD⟩ := join_L hP hD hk1 hF1 hP1 hD1
  subst hw9
  refine lv_istore (lv' := [(5, .int ((S_patch n F (xs (4 * j + 1))).1)), (4, .int (nI (4 * j))), (0, .ref b), (1, .ref h), (2, .ref r), (3, .ref o)]) hx hb dL_law_211 hl (by decide) rfl (fun ls hl => ?_)
  refine lv_aload_n hx hb dL_law_213 rfl (lv_at hl 4 rfl) ?_
  refine lv_aload_n hx hb dL_law_214 rfl (lv_at hl 2 rfl) ?_
  refine lv_iload hx hb dL_law_215 (lv_at hl 1 rfl) ?_
  refine lv_iconst (v := 1) hx hb dL_law_217 (by decide) ?_
  refine lv_iadd hx hb dL_law_218 ?_
  refine W_top (y := .int (nI (4 * j + 1))) (congrArg Value.int (nI_add (4 * j) 1)) ?_
  refine my_sld hx hb hX hbl hbA hS (k := (4 * j + 1)) (by omega) (by omega) dL_law_219 ?_
  have hF2 := A_in (D_right hD) hS hA
  have hK4 := hK.sub (tys' := [(cI, .int), (cZ, .boolean)]) [3, 4] rfl
  refine va_calli (va_runV (As := [.int (xs (4 * j + 1))]) (rest := []) ⟨hx, hb, hml, hown, hts⟩ (c_X3_patch l dC dI H.size r a th n p F (xs (4 * j + 1)) hI) (cwV 1 hts gL_law_X3_patch rfl rfl rfl (by decide +kernel) ⟨Nat.le_of_ble_eq_true rfl, Nat.le_of_ble_eq_true rfl⟩) ⟨PWr.blind, va_recv hK4 (P_right hP) (ci := 3) (q0 := 0) rfl rfl, PWr.pre (P_right hP) hK4 (D_right hD) hE ((hH0.kept hS.2.1).narrow hF2)⟩ rfl rfl hl.1 rfl (lv_room (Nat.le_of_ble_eq_true rfl)) dL_law_220 ⟨(by show _ ≤ 601024; omega), (by show _ ≤ 7293034; omega)⟩) hS (fun q _ hq => hF2 q hq) hF2 (fun r8 u8 t8 H locs ht8 hvm8 hw8 hB8 hz8 hk8 hS => ?_)
  have hP8 : va_P (dC, dI) vwCl (rW cI cZ r a ((S_patch n F (xs (4 * j + 1))).1) n p ((S_patch n F (xs (4 * j + 1))).2.2)) H := by rw [← ht8]; exact hB8
  obtain ⟨hP, hD⟩ := join_R hP hD hk8 hF2 hP8 (D_same ((D_right hD).self) rfl)
  subst hw8
  refine lv_istore (lv' := [(6, .int ((S_patch n F (xs (4 * j + 1))).2.1)), (5, .int ((S_patch n F (xs (4 * j + 1))).1)), (4, .int (nI (4 * j))), (0, .ref b), (1, .ref h), (2, .ref r), (3, .ref o)]) hx hb dL_law_223 hl (by decide) rfl (fun ls hl => ?_)
  refine lv_aload_n hx hb dL_law_225 rfl (lv_at hl 5 rfl) ?_
  refine vp_callSi (va_Run.run (va_runV (As := []) (rest := []) ⟨hx, hb, hml, hown, hts⟩ (c_X3_thrown l dC dI r a ((S_patch n F (xs (4 * j + 1))).1) n p ((S_patch n F (xs (4 * j + 1))).2.2)) (cwV 0 hts gL_law_X3_thrown rfl rfl rfl (by decide +kernel) ⟨Nat.le_of_ble_eq_true rfl, Nat.le_of_ble_eq_true rfl⟩) ⟨PRo.blind, va_recv hK4 (P_right hP) (ci := 3) (q0 := 0) rfl rfl, PRo.pre (P_right hP) hK4 hE⟩ rfl rfl hl.1 rfl (lv_room (Nat.le_of_ble_eq_true rfl)) dL_law_226 ⟨(by show _ ≤ 601024; omega), (by show _ ≤ 7293034; omega)⟩)) (fun r hr => ?_)
  subst hr
  refine lv_iload hx hb dL_law_229 (lv_at hl 1 rfl) ?_
  refine lv_icmp_eq (tgt := 236) hx hb dL_law_231 (by decide) (fun _ => ?_) (fun c_231 => absurd (rfl) c_231)
  refine lv_iload hx hb dL_law_236 (lv_at hl 1 rfl) ?_
  refine lv_if_ne (tgt := 253) hx hb dL_law_238 (by decide) (fun c_238 => ?_) (fun c_238 => ?_)
  · skip
    refine lv_goto (tgt := 1130) hx hb dL_law_253 (by decide) ?_
    refine W.widen (k := cells + 3) (n := slots + 18) (by omega) (by omega) ?_
    exact K u9.1 u9.2.1 _ _ _ _ u9.2.2 _ _ _ (I_patch hI _) hP hD hS (lv_sub hl [2, 3, 4, 5, 6] rfl)
  · skip
    refine lv_aload_n hx hb dL_law_241 rfl (lv_at hl 6 rfl) ?_
    refine lv_iconst (v := 0) hx hb dL_law_242 (by decide) ?_
    have hm9 := mid_at (cW tK tB h ak ab af u9.1 u9.2.1 n p ((S_patch n F (xs (4 * j + 1))).2.2)) ((o, .inl (cJ, 1, .inr (.inl u9.2.2))) : Nat × va_E) (rW cI cZ r a ((S_patch n F (xs (4 * j + 1))).1) n p ((S_patch n F (xs (4 * j + 1))).2.2))
    refine va_lald hx hb hK hP _ 2 hm9 rfl (by unfold vp_in; decide) dL_law_243 ?_
    refine W_top (y := .long ((S_patch n F (xs (4 * j + 1))).2.1).toInt64) (congrArg Value.long (hf9 c_238)) ?_
    refine lv_iload hx hb dL_law_244 (lv_at hl 0 rfl) ?_
    refine lv_i2l (v := ((S_patch n F (xs (4 * j + 1))).2.1).toInt64) hx hb dL_law_246 rfl ?_
    refine W.lcmp hx hb dL_law_247 ?_
    refine W_top (y := .int 0) (congrArg Value.int (lg_same _)) ?_
    refine lv_if_eq (tgt := 253) hx hb dL_law_248 (by decide) (fun _ => ?_) (fun c_248 => absurd (by decide) c_248)
    refine lv_goto (tgt := 1130) hx hb dL_law_253 (by decide) ?_
    refine W.widen (k := cells + 3) (n := slots + 18) (by omega) (by omega) ?_
    exact K u9.1 u9.2.1 _ _ _ _ u9.2.2 _ _ _ (I_patch hI _) hP hD hS (lv_sub hl [2, 3, 4, 5, 6] rfl)
