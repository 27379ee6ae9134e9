/-! ===== a step of the law ===== -/
abbrev sW (tK tB cI : ClassId) (h ak ab af ad ag ah : Nat) (ka kb : Nat → Nat) (n p : Nat) (F : Rows) (df gf hf : Nat → Int32) : va_W := cW tK tB h ak ab af ka kb n p F ++ [(ad, .inl (cI, 4, .inl df)), (ag, .inl (cI, 8, .inl gf)), (ah, .inl (cI, 8, .inl hf))]

set_option maxHeartbeats 4000000 in
set_option maxRecDepth 100000 in
theorem st_kite {p9 : Program} {l9 : Launch} (hlt : l9.stackTraces = false) {e9 : Env} {s : State} {m : MethodId} {args : Array Value} {below : List Frame} {meth : Method} {c : Code} (hx : p9.tables.exec = Jvm.exec) (hb : c.code = cL_step) (hml : c.maxLocals = 24) (hown : s.vm.findClass RL = some m.cls) (hts : ∀ w ∈ wsL_step, w.before args s = true) {dC : Nat → ClassId} {dI : Nat → Nat → Nat} {tK tB cI : ClassId} {h ak ab af ad ag ah : Nat} (hK : va_K (dC, dI) vwCl [(tK, .object "Windlane$Kite"), (tB, .object "Windlane$Borrower"), (cI, .int)] s) (hE : EN s) {A : Nat → Prop} (hH : EH A s s.heap) (hA : ∀ q : Nat, s.heap.size ≤ q → A q) {ka kb : Nat → Nat} {n p : Nat} {F : Rows} {df gf hf : Nat → Int32} (hL : LI n p F df gf hf) {H : Heap} {locs : List Loc} {ls : Array Slot} {Q : State → Prop} {a0 b0 : Nat} (ha0 : a0 < 2147483648) (hb0 : b0 < 2147483648) (hP : va_P (dC, dI) vwCl (sW tK tB cI h ak ab af ad ag ah ka kb n p F df gf hf) H) (hD : va_D A (sW tK tB cI h ak ab af ad ag ah ka kb n p F df gf hf)) (hS : va_S A s.heap H locs) (hl : lv_has ls 24 [(0, .ref h), (1, .ref ad), (2, .ref ag), (3, .ref ah), (5, .int (nI a0)), (6, .int (nI b0))]) (K : ∀ (pc : Nat) (ka kb : Nat → Nat) (n p : Nat) (F : Rows) (df gf hf : Nat → Int32) (H : Heap) (locs : List Loc) (ls : Array Slot), decode cL_step pc = .ok (.ireturn, 1) → LI n p F df gf hf → va_P (dC, dI) vwCl (sW tK tB cI h ak ab af ad ag ah ka kb n p F df gf hf) H → va_D A (sW tK tB cI h ak ab af ad ag ah ka kb n p F df gf hf) → va_S A s.heap H locs → W p9 l9 e9 (headSpec wsL_step ({ frames := 10, cells := 3, slots := 18, locals := 191 })).room s m args below meth c H locs 3 18 Q (F0 m pc ls [.int 1])) : W p9 l9 e9 (headSpec wsL_step ({ frames := 10, cells := 3, slots := 18, locals := 191 })).room s m args below meth c H locs 0 0 Q (F0 m 132 ls []) := by
  obtain ⟨hI, hI2, ⟨hd0, hd1, hd2, hd3⟩, hgf, hhf⟩ := id hL
  have hn8 : n ≤ 8 := hI.1.1
  have hp8 : p ≤ 8 := hI.1.2
  have hK2 := hK.sub (tys' := [(tK, .object "Windlane$Kite"), (tB, .object "Windlane$Borrower")]) [0, 1] rfl
  refine lv_aload_n hx hb dL_step_132 rfl (lv_at hl 0 rfl) ?_
  refine lv_iload hx hb dL_step_133 (lv_at hl 4 rfl) ?_
  refine lv_iconst (v := 3) hx hb dL_step_135 (by decide) ?_
  refine lv_irem hx hb dL_step_136 (by decide) ?_
  refine W_top (y := .int (nI (a0 % 3))) (congrArg Value.int (pk_rem (a := a0) (d := 3) (by omega) (by decide) (by omega))) ?_
  refine lv_iconst (v := 1) hx hb dL_step_137 (by decide) ?_
  refine lv_iload hx hb dL_step_138 (lv_at hl 5 rfl) ?_
  refine lv_bipush (v := 20) hx hb dL_step_140 (by decide) ?_
  refine lv_irem hx hb dL_step_142 (by decide) ?_
  refine W_top (y := .int (nI (b0 % 20))) (congrArg Value.int (pk_rem (a := b0) (d := 20) (by omega) (by decide) (by omega))) ?_
  refine lv_iadd hx hb dL_step_143 ?_
  refine W_top (y := .int (nI (1 + (b0 % 20)))) (congrArg Value.int (nI_add 1 (b0 % 20))) ?_
  refine lv_iconst (v := 1) hx hb dL_step_144 (by decide) ?_
  refine lv_iload hx hb dL_step_145 (lv_at hl 5 rfl) ?_
  refine lv_bipush (v := 20) hx hb dL_step_147 (by decide) ?_
  refine lv_idiv hx hb dL_step_149 (by decide) ?_
  refine W_top (y := .int (nI (b0 / 20))) (congrArg Value.int (pk_div (a := b0) (d := 20) (by omega) (by decide) (by decide))) ?_
  refine lv_bipush (v := 20) hx hb dL_step_150 (by decide) ?_
  refine lv_irem hx hb dL_step_152 (by decide) ?_
  refine W_top (y := .int (nI ((b0 / 20) % 20))) (congrArg Value.int (pk_rem (a := (b0 / 20)) (d := 20) (by omega) (by decide) (by omega))) ?_
  refine lv_iadd hx hb dL_step_153 ?_
  refine W_top (y := .int (nI (1 + ((b0 / 20) % 20)))) (congrArg Value.int (nI_add 1 ((b0 / 20) % 20))) ?_
  have hS9 := kite_S (n := n) (F := F) (a := a0 % 3) (b := 1 + b0 % 20) (c := 1 + b0 / 20 % 20) (by omega) ⟨by omega, by omega⟩ ⟨by omega, by omega⟩
  have hF1 := A_in (D_left hD) hS hA
  refine va_calli (vx_runSW (As := [.ref h, .int (nI (a0 % 3)), .int (nI (1 + (b0 % 20))), .int (nI (1 + ((b0 / 20) % 20)))]) (rest := []) ⟨hx, hb, hml, hown, hts⟩ (c_L_kites l9 hlt dC dI H.size h ak ab af ka kb n p F (nI (a0 % 3)) (nI (1 + b0 % 20)) (nI (1 + b0 / 20 % 20)) hI (by rw [hS9]; split; exact (by decide : (2 : Int32) ≠ 1); exact (by decide : (0 : Int32) ≠ 1))) (vx_cwSW 4 hts gL_step_L_kites rfl rfl rfl (by decide +kernel) ⟨Nat.le_of_ble_eq_true rfl, Nat.le_of_ble_eq_true rfl⟩) ⟨PWr.blind, PWr.pre (P_left hP) hK2 (D_left hD) hE ((hH.kept hS.2.1).narrow hF1)⟩ rfl rfl hl.1 rfl (lv_room (Nat.le_of_ble_eq_true rfl)) dL_step_154 ⟨Nat.le_of_ble_eq_true rfl, Nat.le_of_ble_eq_true rfl⟩) hS (fun q _ hq => hF1 q hq) hF1 (fun r9 u9 t9 H locs ht9 hvm hw9 hB hz1 hk1 hS => ?_)
  obtain ⟨hP1, hD1⟩ := hB
  rw [ht9] at hP1
  obtain ⟨hP, hD⟩ := join_L hP hD hk1 hF1 hP1 hD1
  by_cases hc9 : n = 8
  · skip
    rw [if_pos hc9] at hS9
    rw [hS9] at hw9 hP hD
    have hP : va_P (dC, dI) vwCl (cW tK tB h ak ab af u9.1 u9.2 n p F ++ [(ad, .inl (cI, 4, .inl df)), (ag, .inl (cI, 8, .inl gf)), (ah, .inl (cI, 8, .inl hf))]) H := hP
    have hD : va_D A (cW tK tB h ak ab af u9.1 u9.2 n p F ++ [(ad, .inl (cI, 4, .inl df)), (ag, .inl (cI, 8, .inl gf)), (ah, .inl (cI, 8, .inl hf))]) := hD
    have hw9 : r9 = (-2) := hw9.trans (if_neg (by decide : ¬ (2 : Int32) = 0))
    subst hw9
    refine lv_istore (lv' := [(9, .int (-2)), (0, .ref h), (1, .ref ad), (2, .ref ag), (3, .ref ah), (5, .int (nI a0)), (6, .int (nI b0))]) hx hb dL_step_157 hl (by decide) rfl (fun ls hl => ?_)
    refine lv_iload hx hb dL_step_159 (lv_at hl 0 rfl) ?_
    refine lv_bipush (v := (-2)) hx hb dL_step_161 (by decide) ?_
    refine lv_icmp_ne (tgt := 180) hx hb dL_step_163 (by decide) (fun c_163 => absurd (rfl) c_163) (fun _ => ?_)
    refine lv_aload_n hx hb dL_step_166 rfl (lv_at hl 2 rfl) ?_
    refine lv_iconst (v := 0) hx hb dL_step_167 (by decide) ?_
    refine W_top (y := .int (nI 0)) (rfl) ?_
    refine my_iald hx hb hK hP _ 2 (ap_at (w1 := cW tK tB h ak ab af u9.1 u9.2 n p F) (i := 0) rfl) rfl (k := 0) (by decide) (by decide) dL_step_168 ?_
    refine W_top (y := .int (nI n)) (congrArg Value.int (hd0)) ?_
    refine lv_bipush (v := 8) hx hb dL_step_169 (by decide) ?_
    refine lv_icmp_ne (tgt := 178) hx hb dL_step_171 (by decide) (fun c_171 => absurd (by rw [hc9]; rfl) c_171) (fun _ => ?_)
    refine lv_iconst (v := 1) hx hb dL_step_174 (by decide) ?_
    refine lv_goto (tgt := 179) hx hb dL_step_175 (by decide) ?_
    refine W.widen (k := 3) (n := 18) (Nat.le_of_ble_eq_true rfl) (Nat.le_of_ble_eq_true rfl) ?_
    exact K 179 u9.1 u9.2 n p F df gf hf _ _ _ dL_step_179 (hL) hP hD hS
  · skip
    rw [if_neg hc9] at hS9
    rw [hS9] at hw9 hP hD
    have hL9 := LI_kite hL hc9 (a := a0 % 3) (b := 1 + b0 % 20) (c := 1 + b0 / 20 % 20) (by omega) ⟨by omega, by omega⟩ ⟨by omega, by omega⟩
    have hI9 := hL9.1
    have hP : va_P (dC, dI) vwCl (cW tK tB h ak ab af u9.1 u9.2 (n + 1) p (nwF n F (nI (a0 % 3)) (nI (1 + b0 % 20)) (nI (1 + b0 / 20 % 20))) ++ [(ad, .inl (cI, 4, .inl df)), (ag, .inl (cI, 8, .inl gf)), (ah, .inl (cI, 8, .inl hf))]) H := hP
    have hD : va_D A (cW tK tB h ak ab af u9.1 u9.2 (n + 1) p (nwF n F (nI (a0 % 3)) (nI (1 + b0 % 20)) (nI (1 + b0 / 20 % 20))) ++ [(ad, .inl (cI, 4, .inl df)), (ag, .inl (cI, 8, .inl gf)), (ah, .inl (cI, 8, .inl hf))]) := hD
    have hw9 : r9 = nI n := hw9.trans (if_pos rfl)
    subst hw9
    refine lv_istore (lv' := [(9, .int (nI n)), (0, .ref h), (1, .ref ad), (2, .ref ag), (3, .ref ah), (5, .int (nI a0)), (6, .int (nI b0))]) hx hb dL_step_157 hl (by decide) rfl (fun ls hl => ?_)
    refine lv_iload hx hb dL_step_159 (lv_at hl 0 rfl) ?_
    refine lv_bipush (v := (-2)) hx hb dL_step_161 (by decide) ?_
    refine lv_icmp_ne (tgt := 180) hx hb dL_step_163 (by decide) (fun _ => ?_) (fun c_163 => absurd c_163 (nI_m2 (by omega)))
    refine lv_aload_n hx hb dL_step_180 rfl (lv_at hl 3 rfl) ?_
    refine lv_iload hx hb dL_step_181 (lv_at hl 0 rfl) ?_
    refine lv_iload hx hb dL_step_183 (lv_at hl 5 rfl) ?_
    refine lv_iconst (v := 3) hx hb dL_step_185 (by decide) ?_
    refine lv_irem hx hb dL_step_186 (by decide) ?_
    refine W_top (y := .int (nI (a0 % 3))) (congrArg Value.int (pk_rem (a := a0) (d := 3) (by omega) (by decide) (by omega))) ?_
    refine my_iast hx hb hK hP hD hS _ 2 (ap_at (w1 := cW tK tB h ak ab af u9.1 u9.2 (n + 1) p (nwF n F (nI (a0 % 3)) (nI (1 + b0 % 20)) (nI (1 + b0 / 20 % 20)))) (i := 1) rfl) rfl (k := n) (by omega) (by decide) dL_step_187 (fun H locs hP hD hS => ?_)
    rw [ap_set] at hP hD
    have hP : va_P (dC, dI) vwCl (cW tK tB h ak ab af u9.1 u9.2 (n + 1) p (nwF n F (nI (a0 % 3)) (nI (1 + b0 % 20)) (nI (1 + b0 / 20 % 20))) ++ [(ad, .inl (cI, 4, .inl df)), (ag, .inl (cI, 8, .inl (upd gf n (nI (a0 % 3))))), (ah, .inl (cI, 8, .inl hf))]) H := hP
    have hD : va_D A (cW tK tB h ak ab af u9.1 u9.2 (n + 1) p (nwF n F (nI (a0 % 3)) (nI (1 + b0 % 20)) (nI (1 + b0 / 20 % 20))) ++ [(ad, .inl (cI, 4, .inl df)), (ag, .inl (cI, 8, .inl (upd gf n (nI (a0 % 3))))), (ah, .inl (cI, 8, .inl hf))]) := hD
    refine lv_aload_n hx hb dL_step_188 rfl (lv_at hl 2 rfl) ?_
    refine lv_iconst (v := 0) hx hb dL_step_189 (by decide) ?_
    refine lv_dup2_11 hx hb dL_step_190 rfl rfl ?_
    refine W_top (y := .int (nI 0)) (rfl) ?_
    refine my_iald hx hb hK hP _ 2 (ap_at (w1 := cW tK tB h ak ab af u9.1 u9.2 (n + 1) p (nwF n F (nI (a0 % 3)) (nI (1 + b0 % 20)) (nI (1 + b0 / 20 % 20)))) (i := 0) rfl) rfl (k := 0) (by decide) (by decide) dL_step_191 ?_
    refine W_top (y := .int (nI n)) (congrArg Value.int (hd0)) ?_
    refine lv_iconst (v := 1) hx hb dL_step_192 (by decide) ?_
    refine lv_iadd hx hb dL_step_193 ?_
    refine W_top (y := .int (nI (n + 1))) (congrArg Value.int (nI_add n 1)) ?_
    refine my_iast hx hb hK hP hD hS _ 2 (ap_at (w1 := cW tK tB h ak ab af u9.1 u9.2 (n + 1) p (nwF n F (nI (a0 % 3)) (nI (1 + b0 % 20)) (nI (1 + b0 / 20 % 20)))) (i := 0) rfl) rfl (k := 0) (by decide) (by decide) dL_step_194 (fun H locs hP hD hS => ?_)
    rw [ap_set] at hP hD
    have hP : va_P (dC, dI) vwCl (cW tK tB h ak ab af u9.1 u9.2 (n + 1) p (nwF n F (nI (a0 % 3)) (nI (1 + b0 % 20)) (nI (1 + b0 / 20 % 20))) ++ [(ad, .inl (cI, 4, .inl (upd df 0 (nI (n + 1))))), (ag, .inl (cI, 8, .inl (upd gf n (nI (a0 % 3))))), (ah, .inl (cI, 8, .inl hf))]) H := hP
    have hD : va_D A (cW tK tB h ak ab af u9.1 u9.2 (n + 1) p (nwF n F (nI (a0 % 3)) (nI (1 + b0 % 20)) (nI (1 + b0 / 20 % 20))) ++ [(ad, .inl (cI, 4, .inl (upd df 0 (nI (n + 1))))), (ag, .inl (cI, 8, .inl (upd gf n (nI (a0 % 3))))), (ah, .inl (cI, 8, .inl hf))]) := hD
    refine lv_iload hx hb dL_step_195 (lv_at hl 0 rfl) ?_
    refine lv_aload_n hx hb dL_step_197 rfl (lv_at hl 2 rfl) ?_
    refine lv_iconst (v := 0) hx hb dL_step_198 (by decide) ?_
    refine W_top (y := .int (nI 0)) (rfl) ?_
    refine my_iald hx hb hK hP _ 2 (ap_at (w1 := cW tK tB h ak ab af u9.1 u9.2 (n + 1) p (nwF n F (nI (a0 % 3)) (nI (1 + b0 % 20)) (nI (1 + b0 / 20 % 20)))) (i := 0) rfl) rfl (k := 0) (by decide) (by decide) dL_step_199 ?_
    refine W_top (y := .int (nI (n + 1))) (congrArg Value.int (upd_s _ _ _)) ?_
    refine lv_iconst (v := 1) hx hb dL_step_200 (by decide) ?_
    refine lv_isub hx hb dL_step_201 ?_
    refine W_top (y := .int (nI n)) (congrArg Value.int (pk_sub (a := n + 1) (b := 1) (by omega))) ?_
    refine lv_icmp_ne (tgt := 271) hx hb dL_step_202 (by decide) (fun c_202 => absurd (rfl) c_202) (fun _ => ?_)
    refine lv_aload_n hx hb dL_step_205 rfl (lv_at hl 1 rfl) ?_
    refine lv_iload hx hb dL_step_206 (lv_at hl 0 rfl) ?_
    refine lv_iconst (v := 0) hx hb dL_step_208 (by decide) ?_
    refine W_top (y := .int (nI 0)) (rfl) ?_
    refine vp_callSi (va_Run.run (va_runV (As := [.int (nI n), .int (nI 0)]) (rest := []) ⟨hx, hb, hml, hown, hts⟩ (r_X2_about l9 dC dI h ak ab af u9.1 u9.2 (n + 1) p (nwF n F (nI (a0 % 3)) (nI (1 + b0 % 20)) (nI (1 + b0 / 20 % 20))) n 0 hI9 (by omega) (by decide)) (cwV 2 hts gL_step_X2_about rfl rfl rfl (by decide +kernel) ⟨Nat.le_of_ble_eq_true rfl, Nat.le_of_ble_eq_true rfl⟩) ⟨PRo.blind, va_recv hK2 (P_left hP) (ci := 2) (q0 := 0) rfl rfl, PRo.pre (P_left hP) hK2 hE⟩ rfl rfl hl.1 rfl (lv_room (Nat.le_of_ble_eq_true rfl)) dL_step_209 ⟨Nat.le_of_ble_eq_true rfl, Nat.le_of_ble_eq_true rfl⟩)) (fun r hr => ?_)
    subst hr
    refine W_top (y := .int (nI (1 + b0 / 20 % 20))) (congrArg Value.int ((upd_s _ _ _))) ?_
    refine lv_iconst (v := 1) hx hb dL_step_212 (by decide) ?_
    refine lv_iload hx hb dL_step_213 (lv_at hl 6 rfl) ?_
    refine lv_bipush (v := 20) hx hb dL_step_215 (by decide) ?_
    refine lv_idiv hx hb dL_step_217 (by decide) ?_
    refine W_top (y := .int (nI (b0 / 20))) (congrArg Value.int (pk_div (a := b0) (d := 20) (by omega) (by decide) (by decide))) ?_
    refine lv_bipush (v := 20) hx hb dL_step_218 (by decide) ?_
    refine lv_irem hx hb dL_step_220 (by decide) ?_
    refine W_top (y := .int (nI ((b0 / 20) % 20))) (congrArg Value.int (pk_rem (a := (b0 / 20)) (d := 20) (by omega) (by decide) (by omega))) ?_
    refine lv_iadd hx hb dL_step_221 ?_
    refine W_top (y := .int (nI (1 + ((b0 / 20) % 20)))) (congrArg Value.int (nI_add 1 ((b0 / 20) % 20))) ?_
    refine lv_icmp_ne (tgt := 271) hx hb dL_step_222 (by decide) (fun c_222 => absurd (rfl) c_222) (fun _ => ?_)
    refine lv_aload_n hx hb dL_step_225 rfl (lv_at hl 1 rfl) ?_
    refine lv_iload hx hb dL_step_226 (lv_at hl 0 rfl) ?_
    refine lv_iconst (v := 3) hx hb dL_step_228 (by decide) ?_
    refine W_top (y := .int (nI 3)) (rfl) ?_
    refine vp_callSi (va_Run.run (va_runV (As := [.int (nI n), .int (nI 3)]) (rest := []) ⟨hx, hb, hml, hown, hts⟩ (r_X2_about l9 dC dI h ak ab af u9.1 u9.2 (n + 1) p (nwF n F (nI (a0 % 3)) (nI (1 + b0 % 20)) (nI (1 + b0 / 20 % 20))) n 3 hI9 (by omega) (by decide)) (cwV 2 hts gL_step_X2_about rfl rfl rfl (by decide +kernel) ⟨Nat.le_of_ble_eq_true rfl, Nat.le_of_ble_eq_true rfl⟩) ⟨PRo.blind, va_recv hK2 (P_left hP) (ci := 2) (q0 := 0) rfl rfl, PRo.pre (P_left hP) hK2 hE⟩ rfl rfl hl.1 rfl (lv_room (Nat.le_of_ble_eq_true rfl)) dL_step_229 ⟨Nat.le_of_ble_eq_true rfl, Nat.le_of_ble_eq_true rfl⟩)) (fun r hr => ?_)
    subst hr
    refine W_top (y := .int (-1)) (congrArg Value.int ((upd_s _ _ _))) ?_
    refine lv_iconst (v := (-1)) hx hb dL_step_232 (by decide) ?_
    refine lv_icmp_ne (tgt := 271) hx hb dL_step_233 (by decide) (fun c_233 => absurd (by decide) c_233) (fun _ => ?_)
    refine lv_aload_n hx hb dL_step_236 rfl (lv_at hl 1 rfl) ?_
    refine lv_iload hx hb dL_step_237 (lv_at hl 0 rfl) ?_
    refine lv_iconst (v := 4) hx hb dL_step_239 (by decide) ?_
    refine W_top (y := .int (nI 4)) (rfl) ?_
    refine vp_callSi (va_Run.run (va_runV (As := [.int (nI n), .int (nI 4)]) (rest := []) ⟨hx, hb, hml, hown, hts⟩ (r_X2_about l9 dC dI h ak ab af u9.1 u9.2 (n + 1) p (nwF n F (nI (a0 % 3)) (nI (1 + b0 % 20)) (nI (1 + b0 / 20 % 20))) n 4 hI9 (by omega) (by decide)) (cwV 2 hts gL_step_X2_about rfl rfl rfl (by decide +kernel) ⟨Nat.le_of_ble_eq_true rfl, Nat.le_of_ble_eq_true rfl⟩) ⟨PRo.blind, va_recv hK2 (P_left hP) (ci := 2) (q0 := 0) rfl rfl, PRo.pre (P_left hP) hK2 hE⟩ rfl rfl hl.1 rfl (lv_room (Nat.le_of_ble_eq_true rfl)) dL_step_240 ⟨Nat.le_of_ble_eq_true rfl, Nat.le_of_ble_eq_true rfl⟩)) (fun r hr => ?_)
    subst hr
    refine W_top (y := .int (-1)) (congrArg Value.int ((upd_s _ _ _))) ?_
    refine lv_iconst (v := (-1)) hx hb dL_step_243 (by decide) ?_
    refine lv_icmp_ne (tgt := 271) hx hb dL_step_244 (by decide) (fun c_244 => absurd (by decide) c_244) (fun _ => ?_)
    refine lv_aload_n hx hb dL_step_247 rfl (lv_at hl 1 rfl) ?_
    refine lv_iload hx hb dL_step_248 (lv_at hl 0 rfl) ?_
    refine lv_iconst (v := 0) hx hb dL_step_250 (by decide) ?_
    refine W_top (y := .int 0) (rfl) ?_
    refine vp_callSi (va_Run.run (va_runV (As := [.int (nI n), .int 0]) (rest := []) ⟨hx, hb, hml, hown, hts⟩ (r_X2_pull l9 dC dI h ak ab af u9.1 u9.2 (n + 1) p (nwF n F (nI (a0 % 3)) (nI (1 + b0 % 20)) (nI (1 + b0 / 20 % 20))) n 0 hI9 (by omega) (by decide)) (cwV 2 hts gL_step_X2_pull rfl rfl rfl (by decide +kernel) ⟨Nat.le_of_ble_eq_true rfl, Nat.le_of_ble_eq_true rfl⟩) ⟨PRo.blind, va_recv hK2 (P_left hP) (ci := 2) (q0 := 0) rfl rfl, PRo.pre (P_left hP) hK2 hE⟩ rfl rfl hl.1 rfl (lv_room (Nat.le_of_ble_eq_true rfl)) dL_step_251 ⟨Nat.le_of_ble_eq_true rfl, Nat.le_of_ble_eq_true rfl⟩)) (fun r hr => ?_)
    subst hr
    refine lv_bipush (v := (-100)) hx hb dL_step_254 (by decide) ?_
    refine lv_aload_n hx hb dL_step_256 rfl (lv_at hl 1 rfl) ?_
    refine lv_iload hx hb dL_step_257 (lv_at hl 0 rfl) ?_
    refine lv_iconst (v := 0) hx hb dL_step_259 (by decide) ?_
    refine W_top (y := .int (nI 0)) (rfl) ?_
    refine vp_callSi (va_Run.run (va_runV (As := [.int (nI n), .int (nI 0)]) (rest := [.int (-100), .int (pl (nwF n F (nI (a0 % 3)) (nI (1 + b0 % 20)) (nI (1 + b0 / 20 % 20))) n 0)]) ⟨hx, hb, hml, hown, hts⟩ (r_X2_about l9 dC dI h ak ab af u9.1 u9.2 (n + 1) p (nwF n F (nI (a0 % 3)) (nI (1 + b0 % 20)) (nI (1 + b0 / 20 % 20))) n 0 hI9 (by omega) (by decide)) (cwV 2 hts gL_step_X2_about rfl rfl rfl (by decide +kernel) ⟨Nat.le_of_ble_eq_true rfl, Nat.le_of_ble_eq_true rfl⟩) ⟨PRo.blind, va_recv hK2 (P_left hP) (ci := 2) (q0 := 0) rfl rfl, PRo.pre (P_left hP) hK2 hE⟩ rfl rfl hl.1 rfl (lv_room (Nat.le_of_ble_eq_true rfl)) dL_step_260 ⟨Nat.le_of_ble_eq_true rfl, Nat.le_of_ble_eq_true rfl⟩)) (fun r hr => ?_)
    subst hr
    refine W_top (y := .int (nI (1 + b0 / 20 % 20))) (congrArg Value.int ((upd_s _ _ _))) ?_
    refine lv_imul hx hb dL_step_263 ?_
    refine lv_icmp_ne (tgt := 271) hx hb dL_step_264 (by decide) (fun c_264 => absurd (kite_pl) c_264) (fun _ => ?_)
    refine lv_iconst (v := 1) hx hb dL_step_267 (by decide) ?_
    refine lv_goto (tgt := 272) hx hb dL_step_268 (by decide) ?_
    refine W.widen (k := 3) (n := 18) (Nat.le_of_ble_eq_true rfl) (Nat.le_of_ble_eq_true rfl) ?_
    exact K 272 u9.1 u9.2 (n + 1) p (nwF n F (nI (a0 % 3)) (nI (1 + b0 % 20)) (nI (1 + b0 / 20 % 20))) (upd df 0 (nI (n + 1))) (upd gf n (nI (a0 % 3))) hf _ _ _ dL_step_272 (hL9) hP hD hS

set_option maxHeartbeats 4000000 in
set_option maxRecDepth 100000 in
theorem st_bor {p9 : Program} {l9 : Launch} (hlt : l9.stackTraces = false) {e9 : Env} {s : State} {m : MethodId} {args : Array Value} {below : List Frame} {meth : Method} {c : Code} (hx : p9.tables.exec = Jvm.exec) (hb : c.code = cL_step) (hml : c.maxLocals = 24) (hown : s.vm.findClass RL = some m.cls) (hts : ∀ w ∈ wsL_step, w.before args s = true) {dC : Nat → ClassId} {dI : Nat → Nat → Nat} {tK tB cI : ClassId} {h ak ab af ad ag ah : Nat} (hK : va_K (dC, dI) vwCl [(tK, .object "Windlane$Kite"), (tB, .object "Windlane$Borrower"), (cI, .int)] s) (hE : EN s) {A : Nat → Prop} (hH : EH A s s.heap) (hA : ∀ q : Nat, s.heap.size ≤ q → A q) {ka kb : Nat → Nat} {n p : Nat} {F : Rows} {df gf hf : Nat → Int32} (hL : LI n p F df gf hf) {H : Heap} {locs : List Loc} {ls : Array Slot} {Q : State → Prop} {a0 b0 : Nat} (ha0 : a0 < 2147483648) (hb0 : b0 < 2147483648) (hP : va_P (dC, dI) vwCl (sW tK tB cI h ak ab af ad ag ah ka kb n p F df gf hf) H) (hD : va_D A (sW tK tB cI h ak ab af ad ag ah ka kb n p F df gf hf)) (hS : va_S A s.heap H locs) (hl : lv_has ls 24 [(0, .ref h), (1, .ref ad), (2, .ref ag), (3, .ref ah), (5, .int (nI a0)), (6, .int (nI b0))]) (K : ∀ (pc : Nat) (ka kb : Nat → Nat) (n p : Nat) (F : Rows) (df gf hf : Nat → Int32) (H : Heap) (locs : List Loc) (ls : Array Slot), decode cL_step pc = .ok (.ireturn, 1) → LI n p F df gf hf → va_P (dC, dI) vwCl (sW tK tB cI h ak ab af ad ag ah ka kb n p F df gf hf) H → va_D A (sW tK tB cI h ak ab af ad ag ah ka kb n p F df gf hf) → va_S A s.heap H locs → W p9 l9 e9 (headSpec wsL_step ({ frames := 10, cells := 3, slots := 18, locals := 191 })).room s m args below meth c H locs 3 18 Q (F0 m pc ls [.int 1])) : W p9 l9 e9 (headSpec wsL_step ({ frames := 10, cells := 3, slots := 18, locals := 191 })).room s m args below meth c H locs 0 0 Q (F0 m 273 ls []) := by
  obtain ⟨hI, hI2, ⟨hd0, hd1, hd2, hd3⟩, hgf, hhf⟩ := id hL
  have hn8 : n ≤ 8 := hI.1.1
  have hp8 : p ≤ 8 := hI.1.2
  have hK2 := hK.sub (tys' := [(tK, .object "Windlane$Kite"), (tB, .object "Windlane$Borrower")]) [0, 1] rfl
  refine lv_aload_n hx hb dL_step_273 rfl (lv_at hl 0 rfl) ?_
  refine lv_iconst (v := 1) hx hb dL_step_274 (by decide) ?_
  refine lv_iload hx hb dL_step_275 (lv_at hl 5 rfl) ?_
  refine lv_iconst (v := 3) hx hb dL_step_277 (by decide) ?_
  refine lv_irem hx hb dL_step_278 (by decide) ?_
  refine W_top (y := .int (nI (b0 % 3))) (congrArg Value.int (pk_rem (a := b0) (d := 3) (by omega) (by decide) (by omega))) ?_
  refine lv_iadd hx hb dL_step_279 ?_
  refine W_top (y := .int (nI (1 + (b0 % 3)))) (congrArg Value.int (nI_add 1 (b0 % 3))) ?_
  have hS9 := bor_S (p := p) (F := F) (a := 1 + b0 % 3) ⟨by omega, by omega⟩
  have hF1 := A_in (D_left hD) hS hA
  refine va_calli (vx_runSW (As := [.ref h, .int (nI (1 + (b0 % 3)))]) (rest := []) ⟨hx, hb, hml, hown, hts⟩ (c_L_borrowers l9 hlt dC dI H.size h ak ab af ka kb n p F (nI (1 + b0 % 3)) hI (by rw [hS9]; split; exact (by decide : (2 : Int32) ≠ 1); exact (by decide : (0 : Int32) ≠ 1))) (vx_cwSW 2 hts gL_step_L_borrowers rfl rfl rfl (by decide +kernel) ⟨Nat.le_of_ble_eq_true rfl, Nat.le_of_ble_eq_true rfl⟩) ⟨PWr.blind, PWr.pre (P_left hP) hK2 (D_left hD) hE ((hH.kept hS.2.1).narrow hF1)⟩ rfl rfl hl.1 rfl (lv_room (Nat.le_of_ble_eq_true rfl)) dL_step_280 ⟨Nat.le_of_ble_eq_true rfl, Nat.le_of_ble_eq_true rfl⟩) hS (fun q _ hq => hF1 q hq) hF1 (fun r9 u9 t9 H locs ht9 hvm hw9 hB hz1 hk1 hS => ?_)
  obtain ⟨hP1, hD1⟩ := hB
  rw [ht9] at hP1
  obtain ⟨hP, hD⟩ := join_L hP hD hk1 hF1 hP1 hD1
  by_cases hc9 : p = 8
  · skip
    rw [if_pos hc9] at hS9
    rw [hS9] at hw9 hP hD
    have hP : va_P (dC, dI) vwCl (cW tK tB h ak ab af u9.1 u9.2 n p F ++ [(ad, .inl (cI, 4, .inl df)), (ag, .inl (cI, 8, .inl gf)), (ah, .inl (cI, 8, .inl hf))]) H := hP
    have hD : va_D A (cW tK tB h ak ab af u9.1 u9.2 n p F ++ [(ad, .inl (cI, 4, .inl df)), (ag, .inl (cI, 8, .inl gf)), (ah, .inl (cI, 8, .inl hf))]) := hD
    have hw9 : r9 = (-2) := hw9.trans (if_neg (by decide : ¬ (2 : Int32) = 0))
    subst hw9
    refine lv_istore (lv' := [(10, .int (-2)), (0, .ref h), (1, .ref ad), (2, .ref ag), (3, .ref ah), (5, .int (nI a0)), (6, .int (nI b0))]) hx hb dL_step_283 hl (by decide) rfl (fun ls hl => ?_)
    refine lv_iload hx hb dL_step_285 (lv_at hl 0 rfl) ?_
    refine lv_bipush (v := (-2)) hx hb dL_step_287 (by decide) ?_
    refine lv_icmp_ne (tgt := 306) hx hb dL_step_289 (by decide) (fun c_289 => absurd (rfl) c_289) (fun _ => ?_)
    refine lv_aload_n hx hb dL_step_292 rfl (lv_at hl 2 rfl) ?_
    refine lv_iconst (v := 1) hx hb dL_step_293 (by decide) ?_
    refine W_top (y := .int (nI 1)) (rfl) ?_
    refine my_iald hx hb hK hP _ 2 (ap_at (w1 := cW tK tB h ak ab af u9.1 u9.2 n p F) (i := 0) rfl) rfl (k := 1) (by decide) (by decide) dL_step_294 ?_
    refine W_top (y := .int (nI p)) (congrArg Value.int (hd1)) ?_
    refine lv_bipush (v := 8) hx hb dL_step_295 (by decide) ?_
    refine lv_icmp_ne (tgt := 304) hx hb dL_step_297 (by decide) (fun c_297 => absurd (by rw [hc9]; rfl) c_297) (fun _ => ?_)
    refine lv_iconst (v := 1) hx hb dL_step_300 (by decide) ?_
    refine lv_goto (tgt := 305) hx hb dL_step_301 (by decide) ?_
    refine W.widen (k := 3) (n := 18) (Nat.le_of_ble_eq_true rfl) (Nat.le_of_ble_eq_true rfl) ?_
    exact K 305 u9.1 u9.2 n p F df gf hf _ _ _ dL_step_305 (hL) hP hD hS
  · skip
    rw [if_neg hc9] at hS9
    rw [hS9] at hw9 hP hD
    have hL9 := LI_bor hL hc9 (a := 1 + b0 % 3) ⟨by omega, by omega⟩
    have hI9 := hL9.1
    have hP : va_P (dC, dI) vwCl (cW tK tB h ak ab af u9.1 u9.2 n (p + 1) (up F 8 p (nI (1 + b0 % 3))) ++ [(ad, .inl (cI, 4, .inl df)), (ag, .inl (cI, 8, .inl gf)), (ah, .inl (cI, 8, .inl hf))]) H := hP
    have hD : va_D A (cW tK tB h ak ab af u9.1 u9.2 n (p + 1) (up F 8 p (nI (1 + b0 % 3))) ++ [(ad, .inl (cI, 4, .inl df)), (ag, .inl (cI, 8, .inl gf)), (ah, .inl (cI, 8, .inl hf))]) := hD
    have hw9 : r9 = nI p := hw9.trans (if_pos rfl)
    subst hw9
    refine lv_istore (lv' := [(10, .int (nI p)), (0, .ref h), (1, .ref ad), (2, .ref ag), (3, .ref ah), (5, .int (nI a0)), (6, .int (nI b0))]) hx hb dL_step_283 hl (by decide) rfl (fun ls hl => ?_)
    refine lv_iload hx hb dL_step_285 (lv_at hl 0 rfl) ?_
    refine lv_bipush (v := (-2)) hx hb dL_step_287 (by decide) ?_
    refine lv_icmp_ne (tgt := 306) hx hb dL_step_289 (by decide) (fun _ => ?_) (fun c_289 => absurd c_289 (nI_m2 (by omega)))
    refine lv_aload_n hx hb dL_step_306 rfl (lv_at hl 4 rfl) ?_
    refine lv_iload hx hb dL_step_307 (lv_at hl 0 rfl) ?_
    refine lv_iconst (v := 1) hx hb dL_step_309 (by decide) ?_
    refine lv_iload hx hb dL_step_310 (lv_at hl 6 rfl) ?_
    refine lv_iconst (v := 3) hx hb dL_step_312 (by decide) ?_
    refine lv_irem hx hb dL_step_313 (by decide) ?_
    refine W_top (y := .int (nI (b0 % 3))) (congrArg Value.int (pk_rem (a := b0) (d := 3) (by omega) (by decide) (by omega))) ?_
    refine lv_iadd hx hb dL_step_314 ?_
    refine W_top (y := .int (nI (1 + (b0 % 3)))) (congrArg Value.int (nI_add 1 (b0 % 3))) ?_
    refine my_iast hx hb hK hP hD hS _ 2 (ap_at (w1 := cW tK tB h ak ab af u9.1 u9.2 n (p + 1) (up F 8 p (nI (1 + b0 % 3)))) (i := 2) rfl) rfl (k := p) (by omega) (by decide) dL_step_315 (fun H locs hP hD hS => ?_)
    rw [ap_set] at hP hD
    have hP : va_P (dC, dI) vwCl (cW tK tB h ak ab af u9.1 u9.2 n (p + 1) (up F 8 p (nI (1 + b0 % 3))) ++ [(ad, .inl (cI, 4, .inl df)), (ag, .inl (cI, 8, .inl gf)), (ah, .inl (cI, 8, .inl (upd hf p (nI (1 + b0 % 3)))))]) H := hP
    have hD : va_D A (cW tK tB h ak ab af u9.1 u9.2 n (p + 1) (up F 8 p (nI (1 + b0 % 3))) ++ [(ad, .inl (cI, 4, .inl df)), (ag, .inl (cI, 8, .inl gf)), (ah, .inl (cI, 8, .inl (upd hf p (nI (1 + b0 % 3)))))]) := hD
    refine lv_aload_n hx hb dL_step_316 rfl (lv_at hl 2 rfl) ?_
    refine lv_iconst (v := 1) hx hb dL_step_317 (by decide) ?_
    refine lv_dup2_11 hx hb dL_step_318 rfl rfl ?_
    refine W_top (y := .int (nI 1)) (rfl) ?_
    refine my_iald hx hb hK hP _ 2 (ap_at (w1 := cW tK tB h ak ab af u9.1 u9.2 n (p + 1) (up F 8 p (nI (1 + b0 % 3)))) (i := 0) rfl) rfl (k := 1) (by decide) (by decide) dL_step_319 ?_
    refine W_top (y := .int (nI p)) (congrArg Value.int (hd1)) ?_
    refine lv_iconst (v := 1) hx hb dL_step_320 (by decide) ?_
    refine lv_iadd hx hb dL_step_321 ?_
    refine W_top (y := .int (nI (p + 1))) (congrArg Value.int (nI_add p 1)) ?_
    refine my_iast hx hb hK hP hD hS _ 2 (ap_at (w1 := cW tK tB h ak ab af u9.1 u9.2 n (p + 1) (up F 8 p (nI (1 + b0 % 3)))) (i := 0) rfl) rfl (k := 1) (by decide) (by decide) dL_step_322 (fun H locs hP hD hS => ?_)
    rw [ap_set] at hP hD
    have hP : va_P (dC, dI) vwCl (cW tK tB h ak ab af u9.1 u9.2 n (p + 1) (up F 8 p (nI (1 + b0 % 3))) ++ [(ad, .inl (cI, 4, .inl (upd df 1 (nI (p + 1))))), (ag, .inl (cI, 8, .inl gf)), (ah, .inl (cI, 8, .inl (upd hf p (nI (1 + b0 % 3)))))]) H := hP
    have hD : va_D A (cW tK tB h ak ab af u9.1 u9.2 n (p + 1) (up F 8 p (nI (1 + b0 % 3))) ++ [(ad, .inl (cI, 4, .inl (upd df 1 (nI (p + 1))))), (ag, .inl (cI, 8, .inl gf)), (ah, .inl (cI, 8, .inl (upd hf p (nI (1 + b0 % 3)))))]) := hD
    refine lv_iload hx hb dL_step_323 (lv_at hl 0 rfl) ?_
    refine lv_aload_n hx hb dL_step_325 rfl (lv_at hl 2 rfl) ?_
    refine lv_iconst (v := 1) hx hb dL_step_326 (by decide) ?_
    refine W_top (y := .int (nI 1)) (rfl) ?_
    refine my_iald hx hb hK hP _ 2 (ap_at (w1 := cW tK tB h ak ab af u9.1 u9.2 n (p + 1) (up F 8 p (nI (1 + b0 % 3)))) (i := 0) rfl) rfl (k := 1) (by decide) (by decide) dL_step_327 ?_
    refine W_top (y := .int (nI (p + 1))) (congrArg Value.int (upd_s _ _ _)) ?_
    refine lv_iconst (v := 1) hx hb dL_step_328 (by decide) ?_
    refine lv_isub hx hb dL_step_329 ?_
    refine W_top (y := .int (nI p)) (congrArg Value.int (pk_sub (a := p + 1) (b := 1) (by omega))) ?_
    refine lv_icmp_ne (tgt := 337) hx hb dL_step_330 (by decide) (fun c_330 => absurd (rfl) c_330) (fun _ => ?_)
    refine lv_iconst (v := 1) hx hb dL_step_333 (by decide) ?_
    refine lv_goto (tgt := 338) hx hb dL_step_334 (by decide) ?_
    refine W.widen (k := 3) (n := 18) (Nat.le_of_ble_eq_true rfl) (Nat.le_of_ble_eq_true rfl) ?_
    exact K 338 u9.1 u9.2 n (p + 1) (up F 8 p (nI (1 + b0 % 3))) (upd df 1 (nI (p + 1))) gf (upd hf p (nI (1 + b0 % 3))) _ _ _ dL_step_338 (hL9) hP hD hS

set_option maxHeartbeats 4000000 in
set_option maxRecDepth 100000 in
theorem st_lend {p9 : Program} {l9 : Launch} (hlt : l9.stackTraces = false) {e9 : Env} {s : State} {m : MethodId} {args : Array Value} {below : List Frame} {meth : Method} {c : Code} (hx : p9.tables.exec = Jvm.exec) (hb : c.code = cL_step) (hml : c.maxLocals = 24) (hown : s.vm.findClass RL = some m.cls) (hts : ∀ w ∈ wsL_step, w.before args s = true) {dC : Nat → ClassId} {dI : Nat → Nat → Nat} {tK tB cI : ClassId} {h ak ab af ad ag ah : Nat} (hK : va_K (dC, dI) vwCl [(tK, .object "Windlane$Kite"), (tB, .object "Windlane$Borrower"), (cI, .int)] s) (hE : EN s) {A : Nat → Prop} (hH : EH A s s.heap) (hA : ∀ q : Nat, s.heap.size ≤ q → A q) {ka kb : Nat → Nat} {n p : Nat} {F : Rows} {df gf hf : Nat → Int32} (hL : LI n p F df gf hf) {H : Heap} {locs : List Loc} {ls : Array Slot} {Q : State → Prop} {a0 b0 : Nat} (ha0 : a0 < 2147483648) (hb0 : b0 < 2147483648) {k j : Nat} (hkn : k < n) (hjp : j < p) (hP : va_P (dC, dI) vwCl (sW tK tB cI h ak ab af ad ag ah ka kb n p F df gf hf) H) (hD : va_D A (sW tK tB cI h ak ab af ad ag ah ka kb n p F df gf hf)) (hS : va_S A s.heap H locs) (hl : lv_has ls 24 [(0, .ref h), (1, .ref ad), (2, .ref ag), (3, .ref ah), (5, .int (nI a0)), (6, .int (nI b0)), (7, .int (nI k)), (8, .int (nI j))]) (K : ∀ (pc : Nat) (ka kb : Nat → Nat) (n p : Nat) (F : Rows) (df gf hf : Nat → Int32) (H : Heap) (locs : List Loc) (ls : Array Slot), decode cL_step pc = .ok (.ireturn, 1) → LI n p F df gf hf → va_P (dC, dI) vwCl (sW tK tB cI h ak ab af ad ag ah ka kb n p F df gf hf) H → va_D A (sW tK tB cI h ak ab af ad ag ah ka kb n p F df gf hf) → va_S A s.heap H locs → W p9 l9 e9 (headSpec wsL_step ({ frames := 10, cells := 3, slots := 18, locals := 191 })).room s m args below meth c H locs 3 18 Q (F0 m pc ls [.int 1])) : W p9 l9 e9 (headSpec wsL_step ({ frames := 10, cells := 3, slots := 18, locals := 191 })).room s m args below meth c H locs 0 0 Q (F0 m 339 ls []) := by
  obtain ⟨hI, hI2, ⟨hd0, hd1, hd2, hd3⟩, hgf, hhf⟩ := id hL
  have hn8 : n ≤ 8 := hI.1.1
  have hp8 : p ≤ 8 := hI.1.2
  have hK2 := hK.sub (tys' := [(tK, .object "Windlane$Kite"), (tB, .object "Windlane$Borrower")]) [0, 1] rfl
  refine W_join (pc := 397) (rest := []) (fun v => v = bi (can F n k j)) (fun v hv => ?_) (fun K397 => ?_)
  · subst hv
    refine lv_istore (lv' := [(11, .int (bi (can F n k j))), (0, .ref h), (1, .ref ad), (2, .ref ag), (3, .ref ah), (5, .int (nI a0)), (6, .int (nI b0)), (7, .int (nI k)), (8, .int (nI j))]) hx hb dL_step_397 hl (by decide) rfl (fun ls hl => ?_)
    refine lv_aload_n hx hb dL_step_399 rfl (lv_at hl 1 rfl) ?_
    refine lv_iload hx hb dL_step_400 (lv_at hl 7 rfl) ?_
    refine lv_iload hx hb dL_step_402 (lv_at hl 8 rfl) ?_
    have hS9 := lend_S (F := F) hn8 hp8 hkn hjp
    have hF1 := A_in (D_left hD) hS hA
    refine va_calli (vx_runSW (As := [.ref h, .int (nI k), .int (nI j)]) (rest := []) ⟨hx, hb, hml, hown, hts⟩ (c_L_lends l9 hlt dC dI H.size h ak ab af ka kb n p F (nI k) (nI j) hI (by rw [hS9]; split; exact (by decide : (0 : Int32) ≠ 1); exact (by decide : (2 : Int32) ≠ 1))) (vx_cwSW 3 hts gL_step_L_lends rfl rfl rfl (by decide +kernel) ⟨Nat.le_of_ble_eq_true rfl, Nat.le_of_ble_eq_true rfl⟩) ⟨PWr.blind, PWr.pre (P_left hP) hK2 (D_left hD) hE ((hH.kept hS.2.1).narrow hF1)⟩ rfl rfl hl.1 rfl (lv_room (Nat.le_of_ble_eq_true rfl)) dL_step_404 ⟨Nat.le_of_ble_eq_true rfl, Nat.le_of_ble_eq_true rfl⟩) hS (fun q _ hq => hF1 q hq) hF1 (fun r9 u9 t9 H locs ht9 hvm hw9 hB hz1 hk1 hS => ?_)
    obtain ⟨hP1, hD1⟩ := hB
    rw [ht9] at hP1
    obtain ⟨hP, hD⟩ := join_L hP hD hk1 hF1 hP1 hD1
    by_cases hc9 : can F n k j
    · skip
      rw [if_pos hc9] at hS9
      rw [hS9] at hw9 hP hD
      have hL9 := LI_lend hL hkn hjp hc9
      have hI9 := hL9.1
      have hP : va_P (dC, dI) vwCl (cW tK tB h ak ab af u9.1 u9.2 n p (up F 5 k (nI j)) ++ [(ad, .inl (cI, 4, .inl df)), (ag, .inl (cI, 8, .inl gf)), (ah, .inl (cI, 8, .inl hf))]) H := hP
      have hD : va_D A (cW tK tB h ak ab af u9.1 u9.2 n p (up F 5 k (nI j)) ++ [(ad, .inl (cI, 4, .inl df)), (ag, .inl (cI, 8, .inl gf)), (ah, .inl (cI, 8, .inl hf))]) := hD
      have hw9 : r9 = 0 := hw9.trans (if_pos rfl)
      subst hw9
      refine lv_istore (lv' := [(12, .int 0), (11, .int (bi (can F n k j))), (0, .ref h), (1, .ref ad), (2, .ref ag), (3, .ref ah), (5, .int (nI a0)), (6, .int (nI b0)), (7, .int (nI k)), (8, .int (nI j))]) hx hb dL_step_407 hl (by decide) rfl (fun ls hl => ?_)
      refine lv_iload hx hb dL_step_409 (lv_at hl 0 rfl) ?_
      refine lv_if_ne (tgt := 418) hx hb dL_step_411 (by decide) (fun c_411 => absurd (by decide) c_411) (fun _ => ?_)
      refine lv_iconst (v := 1) hx hb dL_step_414 (by decide) ?_
      refine lv_goto (tgt := 419) hx hb dL_step_415 (by decide) ?_
      refine lv_iload hx hb dL_step_419 (lv_at hl 1 rfl) ?_
      refine lv_icmp_ne (tgt := 445) hx hb dL_step_421 (by decide) (fun c_421 => absurd ((bi_t hc9).symm) c_421) (fun _ => ?_)
      refine lv_iload hx hb dL_step_424 (lv_at hl 1 rfl) ?_
      refine lv_if_eq (tgt := 441) hx hb dL_step_426 (by decide) (fun c_426 => absurd c_426 (bi_nz.mpr hc9)) (fun _ => ?_)
      refine lv_aload_n hx hb dL_step_429 rfl (lv_at hl 2 rfl) ?_
      refine lv_iload hx hb dL_step_430 (lv_at hl 8 rfl) ?_
      refine lv_iconst (v := 3) hx hb dL_step_432 (by decide) ?_
      refine W_top (y := .int (nI 3)) (rfl) ?_
      refine vp_callSi (va_Run.run (va_runV (As := [.int (nI k), .int (nI 3)]) (rest := []) ⟨hx, hb, hml, hown, hts⟩ (r_X2_about l9 dC dI h ak ab af u9.1 u9.2 n p (up F 5 k (nI j)) k 3 hI9 hkn (by decide)) (cwV 2 hts gL_step_X2_about rfl rfl rfl (by decide +kernel) ⟨Nat.le_of_ble_eq_true rfl, Nat.le_of_ble_eq_true rfl⟩) ⟨PRo.blind, va_recv hK2 (P_left hP) (ci := 2) (q0 := 0) rfl rfl, PRo.pre (P_left hP) hK2 hE⟩ rfl rfl hl.1 rfl (lv_room (Nat.le_of_ble_eq_true rfl)) dL_step_433 ⟨Nat.le_of_ble_eq_true rfl, Nat.le_of_ble_eq_true rfl⟩)) (fun r hr => ?_)
      subst hr
      refine W_top (y := .int (nI j)) (congrArg Value.int (up_ss F 5 k (nI j))) ?_
      refine lv_iload hx hb dL_step_436 (lv_at hl 9 rfl) ?_
      refine lv_icmp_ne (tgt := 445) hx hb dL_step_438 (by decide) (fun c_438 => absurd (rfl) c_438) (fun _ => ?_)
      refine lv_iconst (v := 1) hx hb dL_step_441 (by decide) ?_
      refine lv_goto (tgt := 446) hx hb dL_step_442 (by decide) ?_
      refine W.widen (k := 3) (n := 18) (Nat.le_of_ble_eq_true rfl) (Nat.le_of_ble_eq_true rfl) ?_
      exact K 446 u9.1 u9.2 n p (up F 5 k (nI j)) df gf hf _ _ _ dL_step_446 (hL9) hP hD hS
    · skip
      rw [if_neg hc9] at hS9
      rw [hS9] at hw9 hP hD
      have hP : va_P (dC, dI) vwCl (cW tK tB h ak ab af u9.1 u9.2 n p F ++ [(ad, .inl (cI, 4, .inl df)), (ag, .inl (cI, 8, .inl gf)), (ah, .inl (cI, 8, .inl hf))]) H := hP
      have hD : va_D A (cW tK tB h ak ab af u9.1 u9.2 n p F ++ [(ad, .inl (cI, 4, .inl df)), (ag, .inl (cI, 8, .inl gf)), (ah, .inl (cI, 8, .inl hf))]) := hD
      have hw9 : r9 = (-2) := hw9.trans (if_neg (by decide : ¬ (2 : Int32) = 0))
      subst hw9
      refine lv_istore (lv' := [(12, .int (-2)), (11, .int (bi (can F n k j))), (0, .ref h), (1, .ref ad), (2, .ref ag), (3, .ref ah), (5, .int (nI a0)), (6, .int (nI b0)), (7, .int (nI k)), (8, .int (nI j))]) hx hb dL_step_407 hl (by decide) rfl (fun ls hl => ?_)
      refine lv_iload hx hb dL_step_409 (lv_at hl 0 rfl) ?_
      refine lv_if_ne (tgt := 418) hx hb dL_step_411 (by decide) (fun _ => ?_) (fun c_411 => absurd c_411 (by decide))
      refine lv_iconst (v := 0) hx hb dL_step_418 (by decide) ?_
      refine lv_iload hx hb dL_step_419 (lv_at hl 1 rfl) ?_
      refine lv_icmp_ne (tgt := 445) hx hb dL_step_421 (by decide) (fun c_421 => absurd ((bi_f hc9).symm) c_421) (fun _ => ?_)
      refine lv_iload hx hb dL_step_424 (lv_at hl 1 rfl) ?_
      refine lv_if_eq (tgt := 441) hx hb dL_step_426 (by decide) (fun _ => ?_) (fun c_426 => absurd (bi_f hc9) c_426)
      refine lv_iconst (v := 1) hx hb dL_step_441 (by decide) ?_
      refine lv_goto (tgt := 446) hx hb dL_step_442 (by decide) ?_
      refine W.widen (k := 3) (n := 18) (Nat.le_of_ble_eq_true rfl) (Nat.le_of_ble_eq_true rfl) ?_
      exact K 446 u9.1 u9.2 n p F df gf hf _ _ _ dL_step_446 (hL) hP hD hS
  · skip
    refine lv_aload_n hx hb dL_step_339 rfl (lv_at hl 0 rfl) ?_
    refine lv_iload hx hb dL_step_340 (lv_at hl 6 rfl) ?_
    refine lv_iconst (v := 1) hx hb dL_step_342 (by decide) ?_
    refine W_top (y := .int (nI 1)) (rfl) ?_
    refine vp_callSi (va_Run.run (va_runV (As := [.int (nI k), .int (nI 1)]) (rest := []) ⟨hx, hb, hml, hown, hts⟩ (r_X2_about l9 dC dI h ak ab af ka kb n p F k 1 hI hkn (by decide)) (cwV 2 hts gL_step_X2_about rfl rfl rfl (by decide +kernel) ⟨Nat.le_of_ble_eq_true rfl, Nat.le_of_ble_eq_true rfl⟩) ⟨PRo.blind, va_recv hK2 (P_left hP) (ci := 2) (q0 := 0) rfl rfl, PRo.pre (P_left hP) hK2 hE⟩ rfl rfl hl.1 rfl (lv_room (Nat.le_of_ble_eq_true rfl)) dL_step_343 ⟨Nat.le_of_ble_eq_true rfl, Nat.le_of_ble_eq_true rfl⟩)) (fun r hr => ?_)
    subst hr
    refine W_top (y := .int (F 3 k)) (rfl) ?_
    refine lv_if_ne (tgt := 396) hx hb dL_step_346 (by decide) (fun c_346 => ?_) (fun c_346 => ?_)
    · skip
      refine lv_iconst (v := 0) hx hb dL_step_396 (by decide) ?_
      exact K397 _ ((bi_f (fun q => c_346 q.1)).symm)
    · skip
      refine lv_aload_n hx hb dL_step_349 rfl (lv_at hl 0 rfl) ?_
      refine lv_iload hx hb dL_step_350 (lv_at hl 6 rfl) ?_
      refine lv_iconst (v := 2) hx hb dL_step_352 (by decide) ?_
      refine W_top (y := .int (nI 2)) (rfl) ?_
      refine vp_callSi (va_Run.run (va_runV (As := [.int (nI k), .int (nI 2)]) (rest := []) ⟨hx, hb, hml, hown, hts⟩ (r_X2_about l9 dC dI h ak ab af ka kb n p F k 2 hI hkn (by decide)) (cwV 2 hts gL_step_X2_about rfl rfl rfl (by decide +kernel) ⟨Nat.le_of_ble_eq_true rfl, Nat.le_of_ble_eq_true rfl⟩) ⟨PRo.blind, va_recv hK2 (P_left hP) (ci := 2) (q0 := 0) rfl rfl, PRo.pre (P_left hP) hK2 hE⟩ rfl rfl hl.1 rfl (lv_room (Nat.le_of_ble_eq_true rfl)) dL_step_353 ⟨Nat.le_of_ble_eq_true rfl, Nat.le_of_ble_eq_true rfl⟩)) (fun r hr => ?_)
      subst hr
      refine W_top (y := .int (F 4 k)) (rfl) ?_
      refine lv_if_ne (tgt := 396) hx hb dL_step_356 (by decide) (fun c_356 => ?_) (fun c_356 => ?_)
      · skip
        refine lv_iconst (v := 0) hx hb dL_step_396 (by decide) ?_
        exact K397 _ ((bi_f (fun q => c_356 q.2.1)).symm)
      · skip
        refine lv_aload_n hx hb dL_step_359 rfl (lv_at hl 0 rfl) ?_
        refine lv_iload hx hb dL_step_360 (lv_at hl 6 rfl) ?_
        refine lv_iconst (v := 3) hx hb dL_step_362 (by decide) ?_
        refine W_top (y := .int (nI 3)) (rfl) ?_
        refine vp_callSi (va_Run.run (va_runV (As := [.int (nI k), .int (nI 3)]) (rest := []) ⟨hx, hb, hml, hown, hts⟩ (r_X2_about l9 dC dI h ak ab af ka kb n p F k 3 hI hkn (by decide)) (cwV 2 hts gL_step_X2_about rfl rfl rfl (by decide +kernel) ⟨Nat.le_of_ble_eq_true rfl, Nat.le_of_ble_eq_true rfl⟩) ⟨PRo.blind, va_recv hK2 (P_left hP) (ci := 2) (q0 := 0) rfl rfl, PRo.pre (P_left hP) hK2 hE⟩ rfl rfl hl.1 rfl (lv_room (Nat.le_of_ble_eq_true rfl)) dL_step_363 ⟨Nat.le_of_ble_eq_true rfl, Nat.le_of_ble_eq_true rfl⟩)) (fun r hr => ?_)
        subst hr
        refine W_top (y := .int (F 5 k)) (rfl) ?_
        refine lv_iconst (v := (-1)) hx hb dL_step_366 (by decide) ?_
        refine lv_icmp_ne (tgt := 396) hx hb dL_step_367 (by decide) (fun c_367 => ?_) (fun c_367 => ?_)
        · skip
          refine lv_iconst (v := 0) hx hb dL_step_396 (by decide) ?_
          exact K397 _ ((bi_f (fun q => c_367 q.2.2.1)).symm)
        · skip
          refine lv_aload_n hx hb dL_step_370 rfl (lv_at hl 3 rfl) ?_
          refine lv_iload hx hb dL_step_371 (lv_at hl 7 rfl) ?_
          refine my_iald hx hb hK hP _ 2 (ap_at (w1 := cW tK tB h ak ab af ka kb n p F) (i := 2) rfl) rfl (k := j) (by omega) (by decide) dL_step_373 ?_
          refine W_top (y := .int (F 8 j)) (congrArg Value.int (hhf j hjp)) ?_
          refine lv_aload_n hx hb dL_step_374 rfl (lv_at hl 2 rfl) ?_
          refine lv_iload hx hb dL_step_375 (lv_at hl 6 rfl) ?_
          refine my_iald hx hb hK hP _ 2 (ap_at (w1 := cW tK tB h ak ab af ka kb n p F) (i := 1) rfl) rfl (k := k) (by omega) (by decide) dL_step_377 ?_
          refine W_top (y := .int (F 0 k)) (congrArg Value.int (hgf k hkn)) ?_
          refine lv_icmp_le (tgt := 396) hx hb dL_step_378 (by decide) (fun c_378 => ?_) (fun c_378 => ?_)
          · skip
            refine lv_iconst (v := 0) hx hb dL_step_396 (by decide) ?_
            exact K397 _ ((bi_f (fun q => (by have q2 := q.2.2.2.1; rw [i32_lt] at q2; rw [i32_le] at c_378; omega))).symm)
          · skip
            refine lv_aload_n hx hb dL_step_381 rfl (lv_at hl 0 rfl) ?_
            refine lv_aload_n hx hb dL_step_382 rfl (lv_at hl 1 rfl) ?_
            refine lv_iload hx hb dL_step_383 (lv_at hl 7 rfl) ?_
            have hP : va_P (dC, dI) vwCl (cW tK tB h ak ab af ka kb n p F ++ [(ad, .inl (cI, 4, .inl df)), (ag, .inl (cI, 8, .inl gf)), (ah, .inl (cI, 8, .inl hf))]) H := hP
            have hD : va_D A (cW tK tB h ak ab af ka kb n p F ++ [(ad, .inl (cI, 4, .inl df)), (ag, .inl (cI, 8, .inl gf)), (ah, .inl (cI, 8, .inl hf))]) := hD
            have hP5 : va_P (dC, dI) vwCl ((cW tK tB h ak ab af ka kb n p F ++ [(ad, .inl (cI, 4, .inl df))]) ++ [(ag, .inl (cI, 8, .inl gf)), (ah, .inl (cI, 8, .inl hf))]) H := by rw [List.append_assoc]; exact hP
            have hD5 : va_D A ((cW tK tB h ak ab af ka kb n p F ++ [(ad, .inl (cI, 4, .inl df))]) ++ [(ag, .inl (cI, 8, .inl gf)), (ah, .inl (cI, 8, .inl hf))]) := by rw [List.append_assoc]; exact hD
            refine vp_callSi (va_Run.run (va_runS (As := [.ref h, .ref ad, .int (nI j)]) (rest := []) ⟨hx, hb, hml, hown, hts⟩ (c_L_kiteOf l9 dC dI h ak ab af ka kb n p F ad df j hI hd0 (by omega)) (va_cwS 3 hts gL_step_L_kiteOf rfl rfl rfl (by decide +kernel) ⟨Nat.le_of_ble_eq_true rfl, Nat.le_of_ble_eq_true rfl⟩) ⟨PRo.blind, PRo.pre (P_left hP5) hK hE⟩ rfl rfl hl.1 rfl (lv_room (Nat.le_of_ble_eq_true rfl)) dL_step_385 ⟨Nat.le_of_ble_eq_true rfl, Nat.le_of_ble_eq_true rfl⟩)) (fun r hr => ?_)
            subst hr
            refine lv_iconst (v := (-1)) hx hb dL_step_388 (by decide) ?_
            refine lv_icmp_ne (tgt := 396) hx hb dL_step_389 (by decide) (fun c_389 => ?_) (fun c_389 => ?_)
            · skip
              refine lv_iconst (v := 0) hx hb dL_step_396 (by decide) ?_
              exact K397 _ ((bi_f (fun q => c_389 ((lk_oI hn8).mpr q.2.2.2.2))).symm)
            · skip
              refine lv_iconst (v := 1) hx hb dL_step_392 (by decide) ?_
              refine lv_goto (tgt := 397) hx hb dL_step_393 (by decide) ?_
              exact K397 _ ((bi_t ⟨c_346, c_356, c_367, i32_nge c_378, (lk_oI hn8).mp c_389⟩).symm)

set_option maxHeartbeats 4000000 in
set_option maxRecDepth 100000 in
theorem st_back {p9 : Program} {l9 : Launch} (hlt : l9.stackTraces = false) {e9 : Env} {s : State} {m : MethodId} {args : Array Value} {below : List Frame} {meth : Method} {c : Code} (hx : p9.tables.exec = Jvm.exec) (hb : c.code = cL_step) (hml : c.maxLocals = 24) (hown : s.vm.findClass RL = some m.cls) (hts : ∀ w ∈ wsL_step, w.before args s = true) {dC : Nat → ClassId} {dI : Nat → Nat → Nat} {tK tB cI : ClassId} {h ak ab af ad ag ah : Nat} (hK : va_K (dC, dI) vwCl [(tK, .object "Windlane$Kite"), (tB, .object "Windlane$Borrower"), (cI, .int)] s) (hE : EN s) {A : Nat → Prop} (hH : EH A s s.heap) (hA : ∀ q : Nat, s.heap.size ≤ q → A q) {ka kb : Nat → Nat} {n p : Nat} {F : Rows} {df gf hf : Nat → Int32} (hL : LI n p F df gf hf) {H : Heap} {locs : List Loc} {ls : Array Slot} {Q : State → Prop} {a0 b0 : Nat} (ha0 : a0 < 2147483648) (hb0 : b0 < 2147483648) {k j : Nat} (hkn : k < n) (hjp : j < p) (hP : va_P (dC, dI) vwCl (sW tK tB cI h ak ab af ad ag ah ka kb n p F df gf hf) H) (hD : va_D A (sW tK tB cI h ak ab af ad ag ah ka kb n p F df gf hf)) (hS : va_S A s.heap H locs) (hl : lv_has ls 24 [(0, .ref h), (1, .ref ad), (2, .ref ag), (3, .ref ah), (5, .int (nI a0)), (6, .int (nI b0)), (7, .int (nI k)), (8, .int (nI j))]) (K : ∀ (pc : Nat) (ka kb : Nat → Nat) (n p : Nat) (F : Rows) (df gf hf : Nat → Int32) (H : Heap) (locs : List Loc) (ls : Array Slot), decode cL_step pc = .ok (.ireturn, 1) → LI n p F df gf hf → va_P (dC, dI) vwCl (sW tK tB cI h ak ab af ad ag ah ka kb n p F df gf hf) H → va_D A (sW tK tB cI h ak ab af ad ag ah ka kb n p F df gf hf) → va_S A s.heap H locs → W p9 l9 e9 (headSpec wsL_step ({ frames := 10, cells := 3, slots := 18, locals := 191 })).room s m args below meth c H locs 3 18 Q (F0 m pc ls [.int 1])) : W p9 l9 e9 (headSpec wsL_step ({ frames := 10, cells := 3, slots := 18, locals := 191 })).room s m args below meth c H locs 0 0 Q (F0 m 447 ls []) := by
  obtain ⟨hI, hI2, ⟨hd0, hd1, hd2, hd3⟩, hgf, hhf⟩ := id hL
  have hn8 : n ≤ 8 := hI.1.1
  have hp8 : p ≤ 8 := hI.1.2
  have hK2 := hK.sub (tys' := [(tK, .object "Windlane$Kite"), (tB, .object "Windlane$Borrower")]) [0, 1] rfl
  refine lv_aload_n hx hb dL_step_447 rfl (lv_at hl 0 rfl) ?_
  refine lv_aload_n hx hb dL_step_448 rfl (lv_at hl 1 rfl) ?_
  refine lv_iload hx hb dL_step_449 (lv_at hl 7 rfl) ?_
  have hP : va_P (dC, dI) vwCl (cW tK tB h ak ab af ka kb n p F ++ [(ad, .inl (cI, 4, .inl df)), (ag, .inl (cI, 8, .inl gf)), (ah, .inl (cI, 8, .inl hf))]) H := hP
  have hD : va_D A (cW tK tB h ak ab af ka kb n p F ++ [(ad, .inl (cI, 4, .inl df)), (ag, .inl (cI, 8, .inl gf)), (ah, .inl (cI, 8, .inl hf))]) := hD
  have hP5 : va_P (dC, dI) vwCl ((cW tK tB h ak ab af ka kb n p F ++ [(ad, .inl (cI, 4, .inl df))]) ++ [(ag, .inl (cI, 8, .inl gf)), (ah, .inl (cI, 8, .inl hf))]) H := by rw [List.append_assoc]; exact hP
  have hD5 : va_D A ((cW tK tB h ak ab af ka kb n p F ++ [(ad, .inl (cI, 4, .inl df))]) ++ [(ag, .inl (cI, 8, .inl gf)), (ah, .inl (cI, 8, .inl hf))]) := by rw [List.append_assoc]; exact hD
  refine vp_callSi (va_Run.run (va_runS (As := [.ref h, .ref ad, .int (nI j)]) (rest := []) ⟨hx, hb, hml, hown, hts⟩ (c_L_kiteOf l9 dC dI h ak ab af ka kb n p F ad df j hI hd0 (by omega)) (va_cwS 3 hts gL_step_L_kiteOf rfl rfl rfl (by decide +kernel) ⟨Nat.le_of_ble_eq_true rfl, Nat.le_of_ble_eq_true rfl⟩) ⟨PRo.blind, PRo.pre (P_left hP5) hK hE⟩ rfl rfl hl.1 rfl (lv_room (Nat.le_of_ble_eq_true rfl)) dL_step_451 ⟨Nat.le_of_ble_eq_true rfl, Nat.le_of_ble_eq_true rfl⟩)) (fun r hr => ?_)
  subst hr
  rcases hlk : lk (F 5) n (nI j) with _ | i
  · skip
    refine W_top (y := .int (-1)) (rfl) ?_
    refine lv_istore (lv' := [(13, .int (-1)), (0, .ref h), (1, .ref ad), (2, .ref ag), (3, .ref ah), (5, .int (nI a0)), (6, .int (nI b0)), (7, .int (nI k)), (8, .int (nI j))]) hx hb dL_step_454 hl (by decide) rfl (fun ls hl => ?_)
    refine lv_iload hx hb dL_step_456 (lv_at hl 0 rfl) ?_
    refine lv_iconst (v := (-1)) hx hb dL_step_458 (by decide) ?_
    refine lv_icmp_eq (tgt := 477) hx hb dL_step_459 (by decide) (fun _ => ?_) (fun c_459 => absurd (rfl) c_459)
    refine lv_iconst (v := 0) hx hb dL_step_477 (by decide) ?_
    refine lv_istore (lv' := [(14, .int 0), (13, .int (-1)), (0, .ref h), (1, .ref ad), (2, .ref ag), (3, .ref ah), (5, .int (nI a0)), (6, .int (nI b0)), (7, .int (nI k)), (8, .int (nI j))]) hx hb dL_step_478 hl (by decide) rfl (fun ls hl => ?_)
    refine lv_aload_n hx hb dL_step_480 rfl (lv_at hl 2 rfl) ?_
    refine lv_iload hx hb dL_step_481 (lv_at hl 9 rfl) ?_
    have hok9 := back_ok (n := n) (F := F) hp8 hjp
    have hF1 := A_in (D_left hD) hS hA
    refine va_calli (vx_runSW (As := [.ref h, .int (nI j)]) (rest := []) ⟨hx, hb, hml, hown, hts⟩ (c_L_backs l9 hlt dC dI H.size h ak ab af ka kb n p F (nI j) hI hok9) (vx_cwSW 2 hts gL_step_L_backs rfl rfl rfl (by decide +kernel) ⟨Nat.le_of_ble_eq_true rfl, Nat.le_of_ble_eq_true rfl⟩) ⟨PWr.blind, PWr.pre (P_left hP) hK2 (D_left hD) hE ((hH.kept hS.2.1).narrow hF1)⟩ rfl rfl hl.1 rfl (lv_room (Nat.le_of_ble_eq_true rfl)) dL_step_483 ⟨Nat.le_of_ble_eq_true rfl, Nat.le_of_ble_eq_true rfl⟩) hS (fun q _ hq => hF1 q hq) hF1 (fun r9 u9 t9 H locs ht9 hvm hw9 hB hz1 hk1 hS => ?_)
    obtain ⟨hP1, hD1⟩ := hB
    rw [ht9] at hP1
    obtain ⟨hP, hD⟩ := join_L hP hD hk1 hF1 hP1 hD1
    have hS9 := back_S0 (F := F) hp8 hjp hlk
    rw [hS9] at hw9 hP hD
    have hP : va_P (dC, dI) vwCl (cW tK tB h ak ab af u9.1 u9.2 n p F ++ [(ad, .inl (cI, 4, .inl df)), (ag, .inl (cI, 8, .inl gf)), (ah, .inl (cI, 8, .inl hf))]) H := hP
    have hD : va_D A (cW tK tB h ak ab af u9.1 u9.2 n p F ++ [(ad, .inl (cI, 4, .inl df)), (ag, .inl (cI, 8, .inl gf)), (ah, .inl (cI, 8, .inl hf))]) := hD
    have hw9 : r9 = (-2) := hw9.trans (if_neg (by decide : ¬ (2 : Int32) = 0))
    subst hw9
    refine lv_istore (lv' := [(15, .int (-2)), (14, .int 0), (13, .int (-1)), (0, .ref h), (1, .ref ad), (2, .ref ag), (3, .ref ah), (5, .int (nI a0)), (6, .int (nI b0)), (7, .int (nI k)), (8, .int (nI j))]) hx hb dL_step_486 hl (by decide) rfl (fun ls hl => ?_)
    refine lv_iload hx hb dL_step_488 (lv_at hl 1 rfl) ?_
    refine lv_if_eq (tgt := 519) hx hb dL_step_490 (by decide) (fun _ => ?_) (fun c_490 => absurd (by decide) c_490)
    refine lv_iload hx hb dL_step_519 (lv_at hl 0 rfl) ?_
    refine lv_bipush (v := (-2)) hx hb dL_step_521 (by decide) ?_
    refine lv_icmp_ne (tgt := 530) hx hb dL_step_523 (by decide) (fun c_523 => absurd (by decide) c_523) (fun _ => ?_)
    refine lv_iconst (v := 1) hx hb dL_step_526 (by decide) ?_
    refine lv_goto (tgt := 531) hx hb dL_step_527 (by decide) ?_
    refine W.widen (k := 3) (n := 18) (Nat.le_of_ble_eq_true rfl) (Nat.le_of_ble_eq_true rfl) ?_
    exact K 531 u9.1 u9.2 n p F df gf hf _ _ _ dL_step_531 (hL) hP hD hS
  · skip
    obtain ⟨hin, hi5⟩ := lk_some hlk
    refine W_top (y := .int (nI i)) (rfl) ?_
    refine lv_istore (lv' := [(13, .int (nI i)), (0, .ref h), (1, .ref ad), (2, .ref ag), (3, .ref ah), (5, .int (nI a0)), (6, .int (nI b0)), (7, .int (nI k)), (8, .int (nI j))]) hx hb dL_step_454 hl (by decide) rfl (fun ls hl => ?_)
    refine lv_iload hx hb dL_step_456 (lv_at hl 0 rfl) ?_
    refine lv_iconst (v := (-1)) hx hb dL_step_458 (by decide) ?_
    refine lv_icmp_eq (tgt := 477) hx hb dL_step_459 (by decide) (fun c_459 => absurd c_459 (nI_m1 (by omega))) (fun _ => ?_)
    refine lv_aload_n hx hb dL_step_462 rfl (lv_at hl 1 rfl) ?_
    refine lv_iload hx hb dL_step_463 (lv_at hl 0 rfl) ?_
    refine lv_iconst (v := 4) hx hb dL_step_465 (by decide) ?_
    refine W_top (y := .int (nI 4)) (rfl) ?_
    refine vp_callSi (va_Run.run (va_runV (As := [.int (nI i), .int (nI 4)]) (rest := []) ⟨hx, hb, hml, hown, hts⟩ (r_X2_about l9 dC dI h ak ab af ka kb n p F i 4 hI hin (by decide)) (cwV 2 hts gL_step_X2_about rfl rfl rfl (by decide +kernel) ⟨Nat.le_of_ble_eq_true rfl, Nat.le_of_ble_eq_true rfl⟩) ⟨PRo.blind, va_recv hK2 (P_left hP) (ci := 2) (q0 := 0) rfl rfl, PRo.pre (P_left hP) hK2 hE⟩ rfl rfl hl.1 rfl (lv_room (Nat.le_of_ble_eq_true rfl)) dL_step_466 ⟨Nat.le_of_ble_eq_true rfl, Nat.le_of_ble_eq_true rfl⟩)) (fun r hr => ?_)
    subst hr
    refine W_top (y := .int (F 6 i)) (rfl) ?_
    refine lv_iconst (v := (-1)) hx hb dL_step_469 (by decide) ?_
    refine lv_icmp_ne (tgt := 477) hx hb dL_step_470 (by decide) (fun c_470 => ?_) (fun c_470 => ?_)
    · skip
      refine lv_iconst (v := 0) hx hb dL_step_477 (by decide) ?_
      refine lv_istore (lv' := [(14, .int 0), (13, .int (nI i)), (0, .ref h), (1, .ref ad), (2, .ref ag), (3, .ref ah), (5, .int (nI a0)), (6, .int (nI b0)), (7, .int (nI k)), (8, .int (nI j))]) hx hb dL_step_478 hl (by decide) rfl (fun ls hl => ?_)
      refine lv_aload_n hx hb dL_step_480 rfl (lv_at hl 2 rfl) ?_
      refine lv_iload hx hb dL_step_481 (lv_at hl 9 rfl) ?_
      have hok9 := back_ok (n := n) (F := F) hp8 hjp
      have hF1 := A_in (D_left hD) hS hA
      refine va_calli (vx_runSW (As := [.ref h, .int (nI j)]) (rest := []) ⟨hx, hb, hml, hown, hts⟩ (c_L_backs l9 hlt dC dI H.size h ak ab af ka kb n p F (nI j) hI hok9) (vx_cwSW 2 hts gL_step_L_backs rfl rfl rfl (by decide +kernel) ⟨Nat.le_of_ble_eq_true rfl, Nat.le_of_ble_eq_true rfl⟩) ⟨PWr.blind, PWr.pre (P_left hP) hK2 (D_left hD) hE ((hH.kept hS.2.1).narrow hF1)⟩ rfl rfl hl.1 rfl (lv_room (Nat.le_of_ble_eq_true rfl)) dL_step_483 ⟨Nat.le_of_ble_eq_true rfl, Nat.le_of_ble_eq_true rfl⟩) hS (fun q _ hq => hF1 q hq) hF1 (fun r9 u9 t9 H locs ht9 hvm hw9 hB hz1 hk1 hS => ?_)
      obtain ⟨hP1, hD1⟩ := hB
      rw [ht9] at hP1
      obtain ⟨hP, hD⟩ := join_L hP hD hk1 hF1 hP1 hD1
      have hS9 := (back_S1 (F := F) hp8 hjp hlk).trans (if_neg c_470)
      rw [hS9] at hw9 hP hD
      have hP : va_P (dC, dI) vwCl (cW tK tB h ak ab af u9.1 u9.2 n p F ++ [(ad, .inl (cI, 4, .inl df)), (ag, .inl (cI, 8, .inl gf)), (ah, .inl (cI, 8, .inl hf))]) H := hP
      have hD : va_D A (cW tK tB h ak ab af u9.1 u9.2 n p F ++ [(ad, .inl (cI, 4, .inl df)), (ag, .inl (cI, 8, .inl gf)), (ah, .inl (cI, 8, .inl hf))]) := hD
      have hw9 : r9 = (-2) := hw9.trans (if_neg (by decide : ¬ (2 : Int32) = 0))
      subst hw9
      refine lv_istore (lv' := [(15, .int (-2)), (14, .int 0), (13, .int (nI i)), (0, .ref h), (1, .ref ad), (2, .ref ag), (3, .ref ah), (5, .int (nI a0)), (6, .int (nI b0)), (7, .int (nI k)), (8, .int (nI j))]) hx hb dL_step_486 hl (by decide) rfl (fun ls hl => ?_)
      refine lv_iload hx hb dL_step_488 (lv_at hl 1 rfl) ?_
      refine lv_if_eq (tgt := 519) hx hb dL_step_490 (by decide) (fun _ => ?_) (fun c_490 => absurd (by decide) c_490)
      refine lv_iload hx hb dL_step_519 (lv_at hl 0 rfl) ?_
      refine lv_bipush (v := (-2)) hx hb dL_step_521 (by decide) ?_
      refine lv_icmp_ne (tgt := 530) hx hb dL_step_523 (by decide) (fun c_523 => absurd (by decide) c_523) (fun _ => ?_)
      refine lv_iconst (v := 1) hx hb dL_step_526 (by decide) ?_
      refine lv_goto (tgt := 531) hx hb dL_step_527 (by decide) ?_
      refine W.widen (k := 3) (n := 18) (Nat.le_of_ble_eq_true rfl) (Nat.le_of_ble_eq_true rfl) ?_
      exact K 531 u9.1 u9.2 n p F df gf hf _ _ _ dL_step_531 (hL) hP hD hS
    · skip
      refine lv_iconst (v := 1) hx hb dL_step_473 (by decide) ?_
      refine lv_goto (tgt := 478) hx hb dL_step_474 (by decide) ?_
      refine lv_istore (lv' := [(14, .int 1), (13, .int (nI i)), (0, .ref h), (1, .ref ad), (2, .ref ag), (3, .ref ah), (5, .int (nI a0)), (6, .int (nI b0)), (7, .int (nI k)), (8, .int (nI j))]) hx hb dL_step_478 hl (by decide) rfl (fun ls hl => ?_)
      refine lv_aload_n hx hb dL_step_480 rfl (lv_at hl 2 rfl) ?_
      refine lv_iload hx hb dL_step_481 (lv_at hl 9 rfl) ?_
      have hok9 := back_ok (n := n) (F := F) hp8 hjp
      have hF1 := A_in (D_left hD) hS hA
      refine va_calli (vx_runSW (As := [.ref h, .int (nI j)]) (rest := []) ⟨hx, hb, hml, hown, hts⟩ (c_L_backs l9 hlt dC dI H.size h ak ab af ka kb n p F (nI j) hI hok9) (vx_cwSW 2 hts gL_step_L_backs rfl rfl rfl (by decide +kernel) ⟨Nat.le_of_ble_eq_true rfl, Nat.le_of_ble_eq_true rfl⟩) ⟨PWr.blind, PWr.pre (P_left hP) hK2 (D_left hD) hE ((hH.kept hS.2.1).narrow hF1)⟩ rfl rfl hl.1 rfl (lv_room (Nat.le_of_ble_eq_true rfl)) dL_step_483 ⟨Nat.le_of_ble_eq_true rfl, Nat.le_of_ble_eq_true rfl⟩) hS (fun q _ hq => hF1 q hq) hF1 (fun r9 u9 t9 H locs ht9 hvm hw9 hB hz1 hk1 hS => ?_)
      obtain ⟨hP1, hD1⟩ := hB
      rw [ht9] at hP1
      obtain ⟨hP, hD⟩ := join_L hP hD hk1 hF1 hP1 hD1
      have hS9 := (back_S1 (F := F) hp8 hjp hlk).trans (if_pos c_470)
      rw [hS9] at hw9 hP hD
      have hL9 := LI_back hL hjp hlk c_470
      have hI9 := hL9.1
      have hP : va_P (dC, dI) vwCl (cW tK tB h ak ab af u9.1 u9.2 n p (up F 5 i (-1)) ++ [(ad, .inl (cI, 4, .inl df)), (ag, .inl (cI, 8, .inl gf)), (ah, .inl (cI, 8, .inl hf))]) H := hP
      have hD : va_D A (cW tK tB h ak ab af u9.1 u9.2 n p (up F 5 i (-1)) ++ [(ad, .inl (cI, 4, .inl df)), (ag, .inl (cI, 8, .inl gf)), (ah, .inl (cI, 8, .inl hf))]) := hD
      have hw9 : r9 = nI i := hw9.trans (if_pos rfl)
      subst hw9
      refine lv_istore (lv' := [(15, .int (nI i)), (14, .int 1), (13, .int (nI i)), (0, .ref h), (1, .ref ad), (2, .ref ag), (3, .ref ah), (5, .int (nI a0)), (6, .int (nI b0)), (7, .int (nI k)), (8, .int (nI j))]) hx hb dL_step_486 hl (by decide) rfl (fun ls hl => ?_)
      refine lv_iload hx hb dL_step_488 (lv_at hl 1 rfl) ?_
      refine lv_if_eq (tgt := 519) hx hb dL_step_490 (by decide) (fun c_490 => absurd c_490 (by decide)) (fun _ => ?_)
      refine lv_iload hx hb dL_step_493 (lv_at hl 0 rfl) ?_
      refine lv_iload hx hb dL_step_495 (lv_at hl 2 rfl) ?_
      refine lv_icmp_ne (tgt := 515) hx hb dL_step_497 (by decide) (fun c_497 => absurd (rfl) c_497) (fun _ => ?_)
      refine lv_aload_n hx hb dL_step_500 rfl (lv_at hl 3 rfl) ?_
      refine lv_iload hx hb dL_step_501 (lv_at hl 2 rfl) ?_
      refine lv_iconst (v := 3) hx hb dL_step_503 (by decide) ?_
      refine W_top (y := .int (nI 3)) (rfl) ?_
      refine vp_callSi (va_Run.run (va_runV (As := [.int (nI i), .int (nI 3)]) (rest := []) ⟨hx, hb, hml, hown, hts⟩ (r_X2_about l9 dC dI h ak ab af u9.1 u9.2 n p (up F 5 i (-1)) i 3 hI9 hin (by decide)) (cwV 2 hts gL_step_X2_about rfl rfl rfl (by decide +kernel) ⟨Nat.le_of_ble_eq_true rfl, Nat.le_of_ble_eq_true rfl⟩) ⟨PRo.blind, va_recv hK2 (P_left hP) (ci := 2) (q0 := 0) rfl rfl, PRo.pre (P_left hP) hK2 hE⟩ rfl rfl hl.1 rfl (lv_room (Nat.le_of_ble_eq_true rfl)) dL_step_504 ⟨Nat.le_of_ble_eq_true rfl, Nat.le_of_ble_eq_true rfl⟩)) (fun r hr => ?_)
      subst hr
      refine W_top (y := .int (-1)) (congrArg Value.int (up_ss F 5 i (-1))) ?_
      refine lv_iconst (v := (-1)) hx hb dL_step_507 (by decide) ?_
      refine lv_icmp_ne (tgt := 515) hx hb dL_step_508 (by decide) (fun c_508 => absurd (by decide) c_508) (fun _ => ?_)
      refine lv_iconst (v := 1) hx hb dL_step_511 (by decide) ?_
      refine lv_goto (tgt := 531) hx hb dL_step_512 (by decide) ?_
      refine W.widen (k := 3) (n := 18) (Nat.le_of_ble_eq_true rfl) (Nat.le_of_ble_eq_true rfl) ?_
      exact K 531 u9.1 u9.2 n p (up F 5 i (-1)) df gf hf _ _ _ dL_step_531 (hL9) hP hD hS

set_option maxHeartbeats 4000000 in
set_option maxRecDepth 100000 in
theorem st_fly {p9 : Program} {l9 : Launch} (hlt : l9.stackTraces = false) {e9 : Env} {s : State} {m : MethodId} {args : Array Value} {below : List Frame} {meth : Method} {c : Code} (hx : p9.tables.exec = Jvm.exec) (hb : c.code = cL_step) (hml : c.maxLocals = 24) (hown : s.vm.findClass RL = some m.cls) (hts : ∀ w ∈ wsL_step, w.before args s = true) {dC : Nat → ClassId} {dI : Nat → Nat → Nat} {tK tB cI : ClassId} {h ak ab af ad ag ah : Nat} (hK : va_K (dC, dI) vwCl [(tK, .object "Windlane$Kite"), (tB, .object "Windlane$Borrower"), (cI, .int)] s) (hE : EN s) {A : Nat → Prop} (hH : EH A s s.heap) (hA : ∀ q : Nat, s.heap.size ≤ q → A q) {ka kb : Nat → Nat} {n p : Nat} {F : Rows} {df gf hf : Nat → Int32} (hL : LI n p F df gf hf) {H : Heap} {locs : List Loc} {ls : Array Slot} {Q : State → Prop} {a0 b0 : Nat} (ha0 : a0 < 2147483648) (hb0 : b0 < 2147483648) {k j : Nat} (hkn : k < n) (hjp : j < p) (hP : va_P (dC, dI) vwCl (sW tK tB cI h ak ab af ad ag ah ka kb n p F df gf hf) H) (hD : va_D A (sW tK tB cI h ak ab af ad ag ah ka kb n p F df gf hf)) (hS : va_S A s.heap H locs) (hl : lv_has ls 24 [(0, .ref h), (1, .ref ad), (2, .ref ag), (3, .ref ah), (5, .int (nI a0)), (6, .int (nI b0)), (7, .int (nI k)), (8, .int (nI j))]) (K : ∀ (pc : Nat) (ka kb : Nat → Nat) (n p : Nat) (F : Rows) (df gf hf : Nat → Int32) (H : Heap) (locs : List Loc) (ls : Array Slot), decode cL_step pc = .ok (.ireturn, 1) → LI n p F df gf hf → va_P (dC, dI) vwCl (sW tK tB cI h ak ab af ad ag ah ka kb n p F df gf hf) H → va_D A (sW tK tB cI h ak ab af ad ag ah ka kb n p F df gf hf) → va_S A s.heap H locs → W p9 l9 e9 (headSpec wsL_step ({ frames := 10, cells := 3, slots := 18, locals := 191 })).room s m args below meth c H locs 3 18 Q (F0 m pc ls [.int 1])) : W p9 l9 e9 (headSpec wsL_step ({ frames := 10, cells := 3, slots := 18, locals := 191 })).room s m args below meth c H locs 0 0 Q (F0 m 532 ls []) := by
  obtain ⟨hI, hI2, ⟨hd0, hd1, hd2, hd3⟩, hgf, hhf⟩ := id hL
  have hn8 : n ≤ 8 := hI.1.1
  have hp8 : p ≤ 8 := hI.1.2
  have hK2 := hK.sub (tys' := [(tK, .object "Windlane$Kite"), (tB, .object "Windlane$Borrower")]) [0, 1] rfl
  refine lv_aload_n hx hb dL_step_532 rfl (lv_at hl 0 rfl) ?_
  refine lv_aload_n hx hb dL_step_533 rfl (lv_at hl 1 rfl) ?_
  refine lv_iload hx hb dL_step_534 (lv_at hl 6 rfl) ?_
  refine lv_iload hx hb dL_step_536 (lv_at hl 5 rfl) ?_
  refine lv_bipush (v := 10) hx hb dL_step_538 (by decide) ?_
  refine lv_irem hx hb dL_step_540 (by decide) ?_
  refine W_top (y := .int (nI (b0 % 10))) (congrArg Value.int (pk_rem (a := b0) (d := 10) (by omega) (by decide) (by omega))) ?_
  refine lv_bipush (v := 10) hx hb dL_step_541 (by decide) ?_
  refine lv_iload hx hb dL_step_543 (lv_at hl 5 rfl) ?_
  refine lv_bipush (v := 10) hx hb dL_step_545 (by decide) ?_
  refine lv_idiv hx hb dL_step_547 (by decide) ?_
  refine W_top (y := .int (nI (b0 / 10))) (congrArg Value.int (pk_div (a := b0) (d := 10) (by omega) (by decide) (by decide))) ?_
  refine lv_bipush (v := 91) hx hb dL_step_548 (by decide) ?_
  refine lv_irem hx hb dL_step_550 (by decide) ?_
  refine W_top (y := .int (nI ((b0 / 10) % 91))) (congrArg Value.int (pk_rem (a := (b0 / 10)) (d := 91) (by omega) (by decide) (by omega))) ?_
  refine lv_iadd hx hb dL_step_551 ?_
  refine W_top (y := .int (nI (10 + ((b0 / 10) % 91)))) (congrArg Value.int (nI_add 10 ((b0 / 10) % 91))) ?_
  have hlen : 10 ≤ nI (10 + b0 / 10 % 91) ∧ nI (10 + b0 / 10 % 91) ≤ 100 := nI_bt (a := 10) (b := 100) (by omega) (by omega) (by omega)
  have hP : va_P (dC, dI) vwCl (cW tK tB h ak ab af ka kb n p F ++ [(ad, .inl (cI, 4, .inl df)), (ag, .inl (cI, 8, .inl gf)), (ah, .inl (cI, 8, .inl hf))]) H := hP
  have hD : va_D A (cW tK tB h ak ab af ka kb n p F ++ [(ad, .inl (cI, 4, .inl df)), (ag, .inl (cI, 8, .inl gf)), (ah, .inl (cI, 8, .inl hf))]) := hD
  have hP5 : va_P (dC, dI) vwCl ((cW tK tB h ak ab af ka kb n p F ++ [(ad, .inl (cI, 4, .inl df))]) ++ [(ag, .inl (cI, 8, .inl gf)), (ah, .inl (cI, 8, .inl hf))]) H := by rw [List.append_assoc]; exact hP
  have hD5 : va_D A ((cW tK tB h ak ab af ka kb n p F ++ [(ad, .inl (cI, 4, .inl df))]) ++ [(ag, .inl (cI, 8, .inl gf)), (ah, .inl (cI, 8, .inl hf))]) := by rw [List.append_assoc]; exact hD
  have hF1 := A_in (D_left hD5) hS hA
  refine va_calli (va_runS (As := [.ref h, .ref ad, .int (nI k), .int (nI (b0 % 10)), .int (nI (10 + ((b0 / 10) % 91)))]) (rest := []) ⟨hx, hb, hml, hown, hts⟩ (c_L_isFlown l9 hlt dC dI H.size h ak ab af ka kb n p F ad df k (b0 % 10) (nI (10 + b0 / 10 % 91)) hI hI2 hd3 hkn (by omega) hlen) (va_cwS 5 hts gL_step_L_isFlown rfl rfl rfl (by decide +kernel) ⟨Nat.le_of_ble_eq_true rfl, Nat.le_of_ble_eq_true rfl⟩) ⟨PWr.blind, PWr.pre (P_left hP5) hK (D_left hD5) hE ((hH.kept hS.2.1).narrow hF1)⟩ rfl rfl hl.1 rfl (lv_room (Nat.le_of_ble_eq_true rfl)) dL_step_552 ⟨Nat.le_of_ble_eq_true rfl, Nat.le_of_ble_eq_true rfl⟩) hS (fun q _ hq => hF1 q hq) hF1 (fun r9 u9 t9 H locs ht9 hvm hw9 hB hz1 hk1 hS => ?_)
  obtain ⟨hP1, hD1⟩ := hB
  rw [ht9] at hP1
  obtain ⟨hP, hD⟩ := join_L hP5 hD5 hk1 hF1 hP1 hD1
  rw [List.append_assoc] at hP hD
  have hw9 : r9 = 1 := hw9
  subst hw9
  have hP : va_P (dC, dI) vwCl (cW tK tB h ak ab af u9.1 u9.2 n p ((S_fly n F (nI k) (nI (b0 % 10)) (nI (10 + b0 / 10 % 91))).2.2) ++ [(ad, .inl (cI, 4, .inl df)), (ag, .inl (cI, 8, .inl gf)), (ah, .inl (cI, 8, .inl hf))]) H := hP
  have hD : va_D A (cW tK tB h ak ab af u9.1 u9.2 n p ((S_fly n F (nI k) (nI (b0 % 10)) (nI (10 + b0 / 10 % 91))).2.2) ++ [(ad, .inl (cI, 4, .inl df)), (ag, .inl (cI, 8, .inl gf)), (ah, .inl (cI, 8, .inl hf))]) := hD
  refine W.widen (k := 3) (n := 18) (Nat.le_of_ble_eq_true rfl) (Nat.le_of_ble_eq_true rfl) ?_
  exact K 555 u9.1 u9.2 n p ((S_fly n F (nI k) (nI (b0 % 10)) (nI (10 + b0 / 10 % 91))).2.2) df gf hf _ _ _ dL_step_555 (LI_fly hL hkn (l := b0 % 10) (by omega) hlen) hP hD hS

set_option maxHeartbeats 4000000 in
set_option maxRecDepth 100000 in
theorem st_land {p9 : Program} {l9 : Launch} (hlt : l9.stackTraces = false) {e9 : Env} {s : State} {m : MethodId} {args : Array Value} {below : List Frame} {meth : Method} {c : Code} (hx : p9.tables.exec = Jvm.exec) (hb : c.code = cL_step) (hml : c.maxLocals = 24) (hown : s.vm.findClass RL = some m.cls) (hts : ∀ w ∈ wsL_step, w.before args s = true) {dC : Nat → ClassId} {dI : Nat → Nat → Nat} {tK tB cI : ClassId} {h ak ab af ad ag ah : Nat} (hK : va_K (dC, dI) vwCl [(tK, .object "Windlane$Kite"), (tB, .object "Windlane$Borrower"), (cI, .int)] s) (hE : EN s) {A : Nat → Prop} (hH : EH A s s.heap) (hA : ∀ q : Nat, s.heap.size ≤ q → A q) {ka kb : Nat → Nat} {n p : Nat} {F : Rows} {df gf hf : Nat → Int32} (hL : LI n p F df gf hf) {H : Heap} {locs : List Loc} {ls : Array Slot} {Q : State → Prop} {a0 b0 : Nat} (ha0 : a0 < 2147483648) (hb0 : b0 < 2147483648) {k j : Nat} (hkn : k < n) (hjp : j < p) (hP : va_P (dC, dI) vwCl (sW tK tB cI h ak ab af ad ag ah ka kb n p F df gf hf) H) (hD : va_D A (sW tK tB cI h ak ab af ad ag ah ka kb n p F df gf hf)) (hS : va_S A s.heap H locs) (hl : lv_has ls 24 [(0, .ref h), (1, .ref ad), (2, .ref ag), (3, .ref ah), (5, .int (nI a0)), (6, .int (nI b0)), (7, .int (nI k)), (8, .int (nI j))]) (K : ∀ (pc : Nat) (ka kb : Nat → Nat) (n p : Nat) (F : Rows) (df gf hf : Nat → Int32) (H : Heap) (locs : List Loc) (ls : Array Slot), decode cL_step pc = .ok (.ireturn, 1) → LI n p F df gf hf → va_P (dC, dI) vwCl (sW tK tB cI h ak ab af ad ag ah ka kb n p F df gf hf) H → va_D A (sW tK tB cI h ak ab af ad ag ah ka kb n p F df gf hf) → va_S A s.heap H locs → W p9 l9 e9 (headSpec wsL_step ({ frames := 10, cells := 3, slots := 18, locals := 191 })).room s m args below meth c H locs 3 18 Q (F0 m pc ls [.int 1])) : W p9 l9 e9 (headSpec wsL_step ({ frames := 10, cells := 3, slots := 18, locals := 191 })).room s m args below meth c H locs 0 0 Q (F0 m 556 ls []) := by
  obtain ⟨hI, hI2, ⟨hd0, hd1, hd2, hd3⟩, hgf, hhf⟩ := id hL
  have hn8 : n ≤ 8 := hI.1.1
  have hp8 : p ≤ 8 := hI.1.2
  have hK2 := hK.sub (tys' := [(tK, .object "Windlane$Kite"), (tB, .object "Windlane$Borrower")]) [0, 1] rfl
  refine lv_aload_n hx hb dL_step_556 rfl (lv_at hl 0 rfl) ?_
  refine lv_iload hx hb dL_step_557 (lv_at hl 6 rfl) ?_
  refine lv_iconst (v := 4) hx hb dL_step_559 (by decide) ?_
  refine W_top (y := .int (nI 4)) (rfl) ?_
  refine vp_callSi (va_Run.run (va_runV (As := [.int (nI k), .int (nI 4)]) (rest := []) ⟨hx, hb, hml, hown, hts⟩ (r_X2_about l9 dC dI h ak ab af ka kb n p F k 4 hI hkn (by decide)) (cwV 2 hts gL_step_X2_about rfl rfl rfl (by decide +kernel) ⟨Nat.le_of_ble_eq_true rfl, Nat.le_of_ble_eq_true rfl⟩) ⟨PRo.blind, va_recv hK2 (P_left hP) (ci := 2) (q0 := 0) rfl rfl, PRo.pre (P_left hP) hK2 hE⟩ rfl rfl hl.1 rfl (lv_room (Nat.le_of_ble_eq_true rfl)) dL_step_560 ⟨Nat.le_of_ble_eq_true rfl, Nat.le_of_ble_eq_true rfl⟩)) (fun r hr => ?_)
  subst hr
  refine W_top (y := .int (F 6 k)) (rfl) ?_
  refine lv_istore (lv' := [(16, .int (F 6 k)), (0, .ref h), (1, .ref ad), (2, .ref ag), (3, .ref ah), (5, .int (nI a0)), (6, .int (nI b0)), (7, .int (nI k)), (8, .int (nI j))]) hx hb dL_step_563 hl (by decide) rfl (fun ls hl => ?_)
  refine lv_aload_n hx hb dL_step_565 rfl (lv_at hl 1 rfl) ?_
  refine vp_callSi (va_Run.run (va_runV (As := []) (rest := []) ⟨hx, hb, hml, hown, hts⟩ (c_X2_called l9 dC dI h ak ab af ka kb n p F) (cwV 0 hts gL_step_X2_called rfl rfl rfl (by decide +kernel) ⟨Nat.le_of_ble_eq_true rfl, Nat.le_of_ble_eq_true rfl⟩) ⟨PRo.blind, va_recv hK2 (P_left hP) (ci := 2) (q0 := 0) rfl rfl, PRo.pre (P_left hP) hK2 hE⟩ rfl rfl hl.1 rfl (lv_room (Nat.le_of_ble_eq_true rfl)) dL_step_566 ⟨Nat.le_of_ble_eq_true rfl, Nat.le_of_ble_eq_true rfl⟩)) (fun r hr => ?_)
  subst hr
  refine lv_istore (lv' := [(17, .int (F 9 3)), (16, .int (F 6 k)), (0, .ref h), (1, .ref ad), (2, .ref ag), (3, .ref ah), (5, .int (nI a0)), (6, .int (nI b0)), (7, .int (nI k)), (8, .int (nI j))]) hx hb dL_step_569 hl (by decide) rfl (fun ls hl => ?_)
  refine lv_aload_n hx hb dL_step_571 rfl (lv_at hl 2 rfl) ?_
  refine lv_iload hx hb dL_step_572 (lv_at hl 8 rfl) ?_
  have hS9 := land_S (F := F) hn8 hkn
  have hF1 := A_in (D_left hD) hS hA
  refine va_calli (vx_runSW (As := [.ref h, .int (nI k)]) (rest := []) ⟨hx, hb, hml, hown, hts⟩ (c_L_lands l9 hlt dC dI H.size h ak ab af ka kb n p F (nI k) hI (by rw [hS9]; split; exact (by decide : (2 : Int32) ≠ 1); exact (by decide : (0 : Int32) ≠ 1))) (vx_cwSW 2 hts gL_step_L_lands rfl rfl rfl (by decide +kernel) ⟨Nat.le_of_ble_eq_true rfl, Nat.le_of_ble_eq_true rfl⟩) ⟨PWr.blind, PWr.pre (P_left hP) hK2 (D_left hD) hE ((hH.kept hS.2.1).narrow hF1)⟩ rfl rfl hl.1 rfl (lv_room (Nat.le_of_ble_eq_true rfl)) dL_step_574 ⟨Nat.le_of_ble_eq_true rfl, Nat.le_of_ble_eq_true rfl⟩) hS (fun q _ hq => hF1 q hq) hF1 (fun r9 u9 t9 H locs ht9 hvm hw9 hB hz1 hk1 hS => ?_)
  obtain ⟨hP1, hD1⟩ := hB
  rw [ht9] at hP1
  obtain ⟨hP, hD⟩ := join_L hP hD hk1 hF1 hP1 hD1
  by_cases hc9 : F 6 k = -1
  · skip
    rw [if_pos hc9] at hS9
    rw [hS9] at hw9 hP hD
    have hP : va_P (dC, dI) vwCl (cW tK tB h ak ab af u9.1 u9.2 n p F ++ [(ad, .inl (cI, 4, .inl df)), (ag, .inl (cI, 8, .inl gf)), (ah, .inl (cI, 8, .inl hf))]) H := hP
    have hD : va_D A (cW tK tB h ak ab af u9.1 u9.2 n p F ++ [(ad, .inl (cI, 4, .inl df)), (ag, .inl (cI, 8, .inl gf)), (ah, .inl (cI, 8, .inl hf))]) := hD
    have hw9 : r9 = (-2) := hw9.trans (if_neg (by decide : ¬ (2 : Int32) = 0))
    subst hw9
    refine lv_istore (lv' := [(18, .int (-2)), (17, .int (F 9 3)), (16, .int (F 6 k)), (0, .ref h), (1, .ref ad), (2, .ref ag), (3, .ref ah), (5, .int (nI a0)), (6, .int (nI b0)), (7, .int (nI k)), (8, .int (nI j))]) hx hb dL_step_577 hl (by decide) rfl (fun ls hl => ?_)
    refine lv_iload hx hb dL_step_579 (lv_at hl 0 rfl) ?_
    refine lv_iload hx hb dL_step_581 (lv_at hl 2 rfl) ?_
    refine lv_iconst (v := (-1)) hx hb dL_step_583 (by decide) ?_
    refine lv_icmp_ne (tgt := 592) hx hb dL_step_584 (by decide) (fun c_584 => absurd (hc9) c_584) (fun _ => ?_)
    refine lv_bipush (v := (-2)) hx hb dL_step_587 (by decide) ?_
    refine lv_goto (tgt := 594) hx hb dL_step_589 (by decide) ?_
    refine lv_icmp_ne (tgt := 621) hx hb dL_step_594 (by decide) (fun c_594 => absurd (rfl) c_594) (fun _ => ?_)
    refine lv_aload_n hx hb dL_step_597 rfl (lv_at hl 3 rfl) ?_
    refine lv_iload hx hb dL_step_598 (lv_at hl 9 rfl) ?_
    refine lv_iconst (v := 4) hx hb dL_step_600 (by decide) ?_
    refine W_top (y := .int (nI 4)) (rfl) ?_
    refine vp_callSi (va_Run.run (va_runV (As := [.int (nI k), .int (nI 4)]) (rest := []) ⟨hx, hb, hml, hown, hts⟩ (r_X2_about l9 dC dI h ak ab af u9.1 u9.2 n p F k 4 hI hkn (by decide)) (cwV 2 hts gL_step_X2_about rfl rfl rfl (by decide +kernel) ⟨Nat.le_of_ble_eq_true rfl, Nat.le_of_ble_eq_true rfl⟩) ⟨PRo.blind, va_recv hK2 (P_left hP) (ci := 2) (q0 := 0) rfl rfl, PRo.pre (P_left hP) hK2 hE⟩ rfl rfl hl.1 rfl (lv_room (Nat.le_of_ble_eq_true rfl)) dL_step_601 ⟨Nat.le_of_ble_eq_true rfl, Nat.le_of_ble_eq_true rfl⟩)) (fun r hr => ?_)
    subst hr
    refine W_top (y := .int (-1)) (congrArg Value.int (hc9)) ?_
    refine lv_iconst (v := (-1)) hx hb dL_step_604 (by decide) ?_
    refine lv_icmp_ne (tgt := 621) hx hb dL_step_605 (by decide) (fun c_605 => absurd (by decide) c_605) (fun _ => ?_)
    refine lv_aload_n hx hb dL_step_608 rfl (lv_at hl 3 rfl) ?_
    refine vp_callSi (va_Run.run (va_runV (As := []) (rest := []) ⟨hx, hb, hml, hown, hts⟩ (c_X2_called l9 dC dI h ak ab af u9.1 u9.2 n p F) (cwV 0 hts gL_step_X2_called rfl rfl rfl (by decide +kernel) ⟨Nat.le_of_ble_eq_true rfl, Nat.le_of_ble_eq_true rfl⟩) ⟨PRo.blind, va_recv hK2 (P_left hP) (ci := 2) (q0 := 0) rfl rfl, PRo.pre (P_left hP) hK2 hE⟩ rfl rfl hl.1 rfl (lv_room (Nat.le_of_ble_eq_true rfl)) dL_step_609 ⟨Nat.le_of_ble_eq_true rfl, Nat.le_of_ble_eq_true rfl⟩)) (fun r hr => ?_)
    subst hr
    refine lv_iload hx hb dL_step_612 (lv_at hl 1 rfl) ?_
    refine lv_icmp_ne (tgt := 621) hx hb dL_step_614 (by decide) (fun c_614 => absurd (rfl) c_614) (fun _ => ?_)
    refine lv_iconst (v := 1) hx hb dL_step_617 (by decide) ?_
    refine lv_goto (tgt := 622) hx hb dL_step_618 (by decide) ?_
    refine W.widen (k := 3) (n := 18) (Nat.le_of_ble_eq_true rfl) (Nat.le_of_ble_eq_true rfl) ?_
    exact K 622 u9.1 u9.2 n p F df gf hf _ _ _ dL_step_622 (hL) hP hD hS
  · skip
    rw [if_neg hc9] at hS9
    rw [hS9] at hw9 hP hD
    have hL9 := LI_land hL hkn hc9
    have hI9 := hL9.1
    have hP : va_P (dC, dI) vwCl (cW tK tB h ak ab af u9.1 u9.2 n p (up F 6 k (-1)) ++ [(ad, .inl (cI, 4, .inl df)), (ag, .inl (cI, 8, .inl gf)), (ah, .inl (cI, 8, .inl hf))]) H := hP
    have hD : va_D A (cW tK tB h ak ab af u9.1 u9.2 n p (up F 6 k (-1)) ++ [(ad, .inl (cI, 4, .inl df)), (ag, .inl (cI, 8, .inl gf)), (ah, .inl (cI, 8, .inl hf))]) := hD
    have hw9 : r9 = F 6 k := hw9.trans (if_pos rfl)
    subst hw9
    refine lv_istore (lv' := [(18, .int (F 6 k)), (17, .int (F 9 3)), (16, .int (F 6 k)), (0, .ref h), (1, .ref ad), (2, .ref ag), (3, .ref ah), (5, .int (nI a0)), (6, .int (nI b0)), (7, .int (nI k)), (8, .int (nI j))]) hx hb dL_step_577 hl (by decide) rfl (fun ls hl => ?_)
    refine lv_iload hx hb dL_step_579 (lv_at hl 0 rfl) ?_
    refine lv_iload hx hb dL_step_581 (lv_at hl 2 rfl) ?_
    refine lv_iconst (v := (-1)) hx hb dL_step_583 (by decide) ?_
    refine lv_icmp_ne (tgt := 592) hx hb dL_step_584 (by decide) (fun _ => ?_) (fun c_584 => absurd c_584 (hc9))
    refine lv_iload hx hb dL_step_592 (lv_at hl 2 rfl) ?_
    refine lv_icmp_ne (tgt := 621) hx hb dL_step_594 (by decide) (fun c_594 => absurd (rfl) c_594) (fun _ => ?_)
    refine lv_aload_n hx hb dL_step_597 rfl (lv_at hl 3 rfl) ?_
    refine lv_iload hx hb dL_step_598 (lv_at hl 9 rfl) ?_
    refine lv_iconst (v := 4) hx hb dL_step_600 (by decide) ?_
    refine W_top (y := .int (nI 4)) (rfl) ?_
    refine vp_callSi (va_Run.run (va_runV (As := [.int (nI k), .int (nI 4)]) (rest := []) ⟨hx, hb, hml, hown, hts⟩ (r_X2_about l9 dC dI h ak ab af u9.1 u9.2 n p (up F 6 k (-1)) k 4 hI9 hkn (by decide)) (cwV 2 hts gL_step_X2_about rfl rfl rfl (by decide +kernel) ⟨Nat.le_of_ble_eq_true rfl, Nat.le_of_ble_eq_true rfl⟩) ⟨PRo.blind, va_recv hK2 (P_left hP) (ci := 2) (q0 := 0) rfl rfl, PRo.pre (P_left hP) hK2 hE⟩ rfl rfl hl.1 rfl (lv_room (Nat.le_of_ble_eq_true rfl)) dL_step_601 ⟨Nat.le_of_ble_eq_true rfl, Nat.le_of_ble_eq_true rfl⟩)) (fun r hr => ?_)
    subst hr
    refine W_top (y := .int (-1)) (congrArg Value.int (up_ss F 6 k (-1))) ?_
    refine lv_iconst (v := (-1)) hx hb dL_step_604 (by decide) ?_
    refine lv_icmp_ne (tgt := 621) hx hb dL_step_605 (by decide) (fun c_605 => absurd (by decide) c_605) (fun _ => ?_)
    refine lv_aload_n hx hb dL_step_608 rfl (lv_at hl 3 rfl) ?_
    refine vp_callSi (va_Run.run (va_runV (As := []) (rest := []) ⟨hx, hb, hml, hown, hts⟩ (c_X2_called l9 dC dI h ak ab af u9.1 u9.2 n p (up F 6 k (-1))) (cwV 0 hts gL_step_X2_called rfl rfl rfl (by decide +kernel) ⟨Nat.le_of_ble_eq_true rfl, Nat.le_of_ble_eq_true rfl⟩) ⟨PRo.blind, va_recv hK2 (P_left hP) (ci := 2) (q0 := 0) rfl rfl, PRo.pre (P_left hP) hK2 hE⟩ rfl rfl hl.1 rfl (lv_room (Nat.le_of_ble_eq_true rfl)) dL_step_609 ⟨Nat.le_of_ble_eq_true rfl, Nat.le_of_ble_eq_true rfl⟩)) (fun r hr => ?_)
    subst hr
    refine lv_iload hx hb dL_step_612 (lv_at hl 1 rfl) ?_
    refine lv_icmp_ne (tgt := 621) hx hb dL_step_614 (by decide) (fun c_614 => absurd (rfl) c_614) (fun _ => ?_)
    refine lv_iconst (v := 1) hx hb dL_step_617 (by decide) ?_
    refine lv_goto (tgt := 622) hx hb dL_step_618 (by decide) ?_
    refine W.widen (k := 3) (n := 18) (Nat.le_of_ble_eq_true rfl) (Nat.le_of_ble_eq_true rfl) ?_
    exact K 622 u9.1 u9.2 n p (up F 6 k (-1)) df gf hf _ _ _ dL_step_622 (hL9) hP hD hS

set_option maxHeartbeats 4000000 in
set_option maxRecDepth 100000 in
theorem st_patch {p9 : Program} {l9 : Launch} (hlt : l9.stackTraces = false) {e9 : Env} {s : State} {m : MethodId} {args : Array Value} {below : List Frame} {meth : Method} {c : Code} (hx : p9.tables.exec = Jvm.exec) (hb : c.code = cL_step) (hml : c.maxLocals = 24) (hown : s.vm.findClass RL = some m.cls) (hts : ∀ w ∈ wsL_step, w.before args s = true) {dC : Nat → ClassId} {dI : Nat → Nat → Nat} {tK tB cI : ClassId} {h ak ab af ad ag ah : Nat} (hK : va_K (dC, dI) vwCl [(tK, .object "Windlane$Kite"), (tB, .object "Windlane$Borrower"), (cI, .int)] s) (hE : EN s) {A : Nat → Prop} (hH : EH A s s.heap) (hA : ∀ q : Nat, s.heap.size ≤ q → A q) {ka kb : Nat → Nat} {n p : Nat} {F : Rows} {df gf hf : Nat → Int32} (hL : LI n p F df gf hf) {H : Heap} {locs : List Loc} {ls : Array Slot} {Q : State → Prop} {a0 b0 : Nat} (ha0 : a0 < 2147483648) (hb0 : b0 < 2147483648) {k j : Nat} (hkn : k < n) (hjp : j < p) (hP : va_P (dC, dI) vwCl (sW tK tB cI h ak ab af ad ag ah ka kb n p F df gf hf) H) (hD : va_D A (sW tK tB cI h ak ab af ad ag ah ka kb n p F df gf hf)) (hS : va_S A s.heap H locs) (hl : lv_has ls 24 [(0, .ref h), (1, .ref ad), (2, .ref ag), (3, .ref ah), (5, .int (nI a0)), (6, .int (nI b0)), (7, .int (nI k)), (8, .int (nI j))]) (K : ∀ (pc : Nat) (ka kb : Nat → Nat) (n p : Nat) (F : Rows) (df gf hf : Nat → Int32) (H : Heap) (locs : List Loc) (ls : Array Slot), decode cL_step pc = .ok (.ireturn, 1) → LI n p F df gf hf → va_P (dC, dI) vwCl (sW tK tB cI h ak ab af ad ag ah ka kb n p F df gf hf) H → va_D A (sW tK tB cI h ak ab af ad ag ah ka kb n p F df gf hf) → va_S A s.heap H locs → W p9 l9 e9 (headSpec wsL_step ({ frames := 10, cells := 3, slots := 18, locals := 191 })).room s m args below meth c H locs 3 18 Q (F0 m pc ls [.int 1])) : W p9 l9 e9 (headSpec wsL_step ({ frames := 10, cells := 3, slots := 18, locals := 191 })).room s m args below meth c H locs 0 0 Q (F0 m 623 ls []) := by
  obtain ⟨hI, hI2, ⟨hd0, hd1, hd2, hd3⟩, hgf, hhf⟩ := id hL
  have hn8 : n ≤ 8 := hI.1.1
  have hp8 : p ≤ 8 := hI.1.2
  have hK2 := hK.sub (tys' := [(tK, .object "Windlane$Kite"), (tB, .object "Windlane$Borrower")]) [0, 1] rfl
  refine lv_aload_n hx hb dL_step_623 rfl (lv_at hl 0 rfl) ?_
  refine lv_iload hx hb dL_step_624 (lv_at hl 6 rfl) ?_
  refine lv_iconst (v := 0) hx hb dL_step_626 (by decide) ?_
  refine W_top (y := .int (nI 0)) (rfl) ?_
  refine vp_callSi (va_Run.run (va_runV (As := [.int (nI k), .int (nI 0)]) (rest := []) ⟨hx, hb, hml, hown, hts⟩ (r_X2_about l9 dC dI h ak ab af ka kb n p F k 0 hI hkn (by decide)) (cwV 2 hts gL_step_X2_about rfl rfl rfl (by decide +kernel) ⟨Nat.le_of_ble_eq_true rfl, Nat.le_of_ble_eq_true rfl⟩) ⟨PRo.blind, va_recv hK2 (P_left hP) (ci := 2) (q0 := 0) rfl rfl, PRo.pre (P_left hP) hK2 hE⟩ rfl rfl hl.1 rfl (lv_room (Nat.le_of_ble_eq_true rfl)) dL_step_627 ⟨Nat.le_of_ble_eq_true rfl, Nat.le_of_ble_eq_true rfl⟩)) (fun r hr => ?_)
  subst hr
  refine W_top (y := .int (F 2 k)) (rfl) ?_
  refine lv_istore (lv' := [(19, .int (F 2 k)), (0, .ref h), (1, .ref ad), (2, .ref ag), (3, .ref ah), (5, .int (nI a0)), (6, .int (nI b0)), (7, .int (nI k)), (8, .int (nI j))]) hx hb dL_step_630 hl (by decide) rfl (fun ls hl => ?_)
  refine W_join (pc := 648) (rest := []) (fun v => v = bi (F 3 k = 1)) (fun v hv => ?_) (fun K648 => ?_)
  · subst hv
    refine lv_istore (lv' := [(20, .int (bi (F 3 k = 1))), (19, .int (F 2 k)), (0, .ref h), (1, .ref ad), (2, .ref ag), (3, .ref ah), (5, .int (nI a0)), (6, .int (nI b0)), (7, .int (nI k)), (8, .int (nI j))]) hx hb dL_step_648 hl (by decide) rfl (fun ls hl => ?_)
    refine lv_aload_n hx hb dL_step_650 rfl (lv_at hl 2 rfl) ?_
    refine lv_iload hx hb dL_step_651 (lv_at hl 8 rfl) ?_
    have hS9 := patch_S (F := F) hI hkn
    have hF1 := A_in (D_left hD) hS hA
    refine va_calli (vx_runSW (As := [.ref h, .int (nI k)]) (rest := []) ⟨hx, hb, hml, hown, hts⟩ (c_L_patches l9 hlt dC dI H.size h ak ab af ka kb n p F (nI k) hI (by rw [hS9]; split; exact (by decide : (0 : Int32) ≠ 1); exact (by decide : (2 : Int32) ≠ 1))) (vx_cwSW 2 hts gL_step_L_patches rfl rfl rfl (by decide +kernel) ⟨Nat.le_of_ble_eq_true rfl, Nat.le_of_ble_eq_true rfl⟩) ⟨PWr.blind, PWr.pre (P_left hP) hK2 (D_left hD) hE ((hH.kept hS.2.1).narrow hF1)⟩ rfl rfl hl.1 rfl (lv_room (Nat.le_of_ble_eq_true rfl)) dL_step_653 ⟨Nat.le_of_ble_eq_true rfl, Nat.le_of_ble_eq_true rfl⟩) hS (fun q _ hq => hF1 q hq) hF1 (fun r9 u9 t9 H locs ht9 hvm hw9 hB hz1 hk1 hS => ?_)
    obtain ⟨hP1, hD1⟩ := hB
    rw [ht9] at hP1
    obtain ⟨hP, hD⟩ := join_L hP hD hk1 hF1 hP1 hD1
    by_cases hc9 : ptc F k
    · skip
      rw [if_pos hc9] at hS9
      rw [hS9] at hw9 hP hD
      have hL9 := LI_patch hL hkn hc9
      have hI9 := hL9.1
      have hP : va_P (dC, dI) vwCl (cW tK tB h ak ab af u9.1 u9.2 n p (ptF F k) ++ [(ad, .inl (cI, 4, .inl df)), (ag, .inl (cI, 8, .inl gf)), (ah, .inl (cI, 8, .inl hf))]) H := hP
      have hD : va_D A (cW tK tB h ak ab af u9.1 u9.2 n p (ptF F k) ++ [(ad, .inl (cI, 4, .inl df)), (ag, .inl (cI, 8, .inl gf)), (ah, .inl (cI, 8, .inl hf))]) := hD
      have hw9 : r9 = (F 2 k) + 2 := hw9.trans (if_pos rfl)
      subst hw9
      refine lv_istore (lv' := [(21, .int ((F 2 k) + 2)), (20, .int (bi (F 3 k = 1))), (19, .int (F 2 k)), (0, .ref h), (1, .ref ad), (2, .ref ag), (3, .ref ah), (5, .int (nI a0)), (6, .int (nI b0)), (7, .int (nI k)), (8, .int (nI j))]) hx hb dL_step_656 hl (by decide) rfl (fun ls hl => ?_)
      refine lv_iload hx hb dL_step_658 (lv_at hl 1 rfl) ?_
      refine lv_if_eq (tgt := 711) hx hb dL_step_660 (by decide) (fun c_660 => absurd c_660 (bi_nz.mpr hc9.1)) (fun _ => ?_)
      refine lv_iload hx hb dL_step_663 (lv_at hl 2 rfl) ?_
      refine lv_bipush (v := 39) hx hb dL_step_665 (by decide) ?_
      refine lv_icmp_ge (tgt := 711) hx hb dL_step_667 (by decide) (fun c_667 => absurd c_667 (fun q => by have q2 := hc9.2; rw [i32_lt] at q2; rw [i32_le] at q; omega)) (fun _ => ?_)
      refine lv_iload hx hb dL_step_670 (lv_at hl 0 rfl) ?_
      refine lv_iload hx hb dL_step_672 (lv_at hl 2 rfl) ?_
      refine lv_iconst (v := 2) hx hb dL_step_674 (by decide) ?_
      refine lv_iadd hx hb dL_step_675 ?_
      refine lv_icmp_ne (tgt := 707) hx hb dL_step_676 (by decide) (fun c_676 => absurd (rfl) c_676) (fun _ => ?_)
      refine lv_aload_n hx hb dL_step_679 rfl (lv_at hl 3 rfl) ?_
      refine lv_iload hx hb dL_step_680 (lv_at hl 9 rfl) ?_
      refine lv_iconst (v := 1) hx hb dL_step_682 (by decide) ?_
      refine W_top (y := .int (nI 1)) (rfl) ?_
      refine vp_callSi (va_Run.run (va_runV (As := [.int (nI k), .int (nI 1)]) (rest := []) ⟨hx, hb, hml, hown, hts⟩ (r_X2_about l9 dC dI h ak ab af u9.1 u9.2 n p (ptF F k) k 1 hI9 hkn (by decide)) (cwV 2 hts gL_step_X2_about rfl rfl rfl (by decide +kernel) ⟨Nat.le_of_ble_eq_true rfl, Nat.le_of_ble_eq_true rfl⟩) ⟨PRo.blind, va_recv hK2 (P_left hP) (ci := 2) (q0 := 0) rfl rfl, PRo.pre (P_left hP) hK2 hE⟩ rfl rfl hl.1 rfl (lv_room (Nat.le_of_ble_eq_true rfl)) dL_step_683 ⟨Nat.le_of_ble_eq_true rfl, Nat.le_of_ble_eq_true rfl⟩)) (fun r hr => ?_)
      subst hr
      refine W_top (y := .int 0) (congrArg Value.int (ptF_1 F k)) ?_
      refine lv_if_ne (tgt := 707) hx hb dL_step_686 (by decide) (fun c_686 => absurd (by decide) c_686) (fun _ => ?_)
      refine lv_aload_n hx hb dL_step_689 rfl (lv_at hl 3 rfl) ?_
      refine lv_iload hx hb dL_step_690 (lv_at hl 9 rfl) ?_
      refine lv_iconst (v := 0) hx hb dL_step_692 (by decide) ?_
      refine W_top (y := .int (nI 0)) (rfl) ?_
      refine vp_callSi (va_Run.run (va_runV (As := [.int (nI k), .int (nI 0)]) (rest := []) ⟨hx, hb, hml, hown, hts⟩ (r_X2_about l9 dC dI h ak ab af u9.1 u9.2 n p (ptF F k) k 0 hI9 hkn (by decide)) (cwV 2 hts gL_step_X2_about rfl rfl rfl (by decide +kernel) ⟨Nat.le_of_ble_eq_true rfl, Nat.le_of_ble_eq_true rfl⟩) ⟨PRo.blind, va_recv hK2 (P_left hP) (ci := 2) (q0 := 0) rfl rfl, PRo.pre (P_left hP) hK2 hE⟩ rfl rfl hl.1 rfl (lv_room (Nat.le_of_ble_eq_true rfl)) dL_step_693 ⟨Nat.le_of_ble_eq_true rfl, Nat.le_of_ble_eq_true rfl⟩)) (fun r hr => ?_)
      subst hr
      refine W_top (y := .int ((F 2 k) + 2)) (congrArg Value.int (ptF_0 F k)) ?_
      refine lv_iload hx hb dL_step_696 (lv_at hl 2 rfl) ?_
      refine lv_iconst (v := 2) hx hb dL_step_698 (by decide) ?_
      refine lv_iadd hx hb dL_step_699 ?_
      refine lv_icmp_ne (tgt := 707) hx hb dL_step_700 (by decide) (fun c_700 => absurd (rfl) c_700) (fun _ => ?_)
      refine lv_iconst (v := 1) hx hb dL_step_703 (by decide) ?_
      refine lv_goto (tgt := 735) hx hb dL_step_704 (by decide) ?_
      refine W.widen (k := 3) (n := 18) (Nat.le_of_ble_eq_true rfl) (Nat.le_of_ble_eq_true rfl) ?_
      exact K 735 u9.1 u9.2 n p (ptF F k) df gf hf _ _ _ dL_step_735 (hL9) hP hD hS
    · skip
      rw [if_neg hc9] at hS9
      rw [hS9] at hw9 hP hD
      have hP : va_P (dC, dI) vwCl (cW tK tB h ak ab af u9.1 u9.2 n p F ++ [(ad, .inl (cI, 4, .inl df)), (ag, .inl (cI, 8, .inl gf)), (ah, .inl (cI, 8, .inl hf))]) H := hP
      have hD : va_D A (cW tK tB h ak ab af u9.1 u9.2 n p F ++ [(ad, .inl (cI, 4, .inl df)), (ag, .inl (cI, 8, .inl gf)), (ah, .inl (cI, 8, .inl hf))]) := hD
      have hw9 : r9 = (-2) := hw9.trans (if_neg (by decide : ¬ (2 : Int32) = 0))
      subst hw9
      refine lv_istore (lv' := [(21, .int (-2)), (20, .int (bi (F 3 k = 1))), (19, .int (F 2 k)), (0, .ref h), (1, .ref ad), (2, .ref ag), (3, .ref ah), (5, .int (nI a0)), (6, .int (nI b0)), (7, .int (nI k)), (8, .int (nI j))]) hx hb dL_step_656 hl (by decide) rfl (fun ls hl => ?_)
      refine lv_iload hx hb dL_step_658 (lv_at hl 1 rfl) ?_
      refine lv_if_eq (tgt := 711) hx hb dL_step_660 (by decide) (fun c_660 => ?_) (fun c_660 => ?_)
      · skip
        have c_660 := bi_z.mp c_660
        refine lv_iload hx hb dL_step_711 (lv_at hl 0 rfl) ?_
        refine lv_bipush (v := (-2)) hx hb dL_step_713 (by decide) ?_
        refine lv_icmp_ne (tgt := 734) hx hb dL_step_715 (by decide) (fun c_715 => absurd (by decide) c_715) (fun _ => ?_)
        refine lv_aload_n hx hb dL_step_718 rfl (lv_at hl 3 rfl) ?_
        refine lv_iload hx hb dL_step_719 (lv_at hl 9 rfl) ?_
        refine lv_iconst (v := 0) hx hb dL_step_721 (by decide) ?_
        refine W_top (y := .int (nI 0)) (rfl) ?_
        refine vp_callSi (va_Run.run (va_runV (As := [.int (nI k), .int (nI 0)]) (rest := []) ⟨hx, hb, hml, hown, hts⟩ (r_X2_about l9 dC dI h ak ab af u9.1 u9.2 n p F k 0 hI hkn (by decide)) (cwV 2 hts gL_step_X2_about rfl rfl rfl (by decide +kernel) ⟨Nat.le_of_ble_eq_true rfl, Nat.le_of_ble_eq_true rfl⟩) ⟨PRo.blind, va_recv hK2 (P_left hP) (ci := 2) (q0 := 0) rfl rfl, PRo.pre (P_left hP) hK2 hE⟩ rfl rfl hl.1 rfl (lv_room (Nat.le_of_ble_eq_true rfl)) dL_step_722 ⟨Nat.le_of_ble_eq_true rfl, Nat.le_of_ble_eq_true rfl⟩)) (fun r hr => ?_)
        subst hr
        refine W_top (y := .int (F 2 k)) (rfl) ?_
        refine lv_iload hx hb dL_step_725 (lv_at hl 2 rfl) ?_
        refine lv_icmp_ne (tgt := 734) hx hb dL_step_727 (by decide) (fun c_727 => absurd (rfl) c_727) (fun _ => ?_)
        refine lv_iconst (v := 1) hx hb dL_step_730 (by decide) ?_
        refine lv_goto (tgt := 735) hx hb dL_step_731 (by decide) ?_
        refine W.widen (k := 3) (n := 18) (Nat.le_of_ble_eq_true rfl) (Nat.le_of_ble_eq_true rfl) ?_
        exact K 735 u9.1 u9.2 n p F df gf hf _ _ _ dL_step_735 (hL) hP hD hS
      · skip
        have c_660 := bi_nz.mp c_660
        refine lv_iload hx hb dL_step_663 (lv_at hl 2 rfl) ?_
        refine lv_bipush (v := 39) hx hb dL_step_665 (by decide) ?_
        refine lv_icmp_ge (tgt := 711) hx hb dL_step_667 (by decide) (fun c_667 => ?_) (fun c_667 => ?_)
        · skip
          refine lv_iload hx hb dL_step_711 (lv_at hl 0 rfl) ?_
          refine lv_bipush (v := (-2)) hx hb dL_step_713 (by decide) ?_
          refine lv_icmp_ne (tgt := 734) hx hb dL_step_715 (by decide) (fun c_715 => absurd (by decide) c_715) (fun _ => ?_)
          refine lv_aload_n hx hb dL_step_718 rfl (lv_at hl 3 rfl) ?_
          refine lv_iload hx hb dL_step_719 (lv_at hl 9 rfl) ?_
          refine lv_iconst (v := 0) hx hb dL_step_721 (by decide) ?_
          refine W_top (y := .int (nI 0)) (rfl) ?_
          refine vp_callSi (va_Run.run (va_runV (As := [.int (nI k), .int (nI 0)]) (rest := []) ⟨hx, hb, hml, hown, hts⟩ (r_X2_about l9 dC dI h ak ab af u9.1 u9.2 n p F k 0 hI hkn (by decide)) (cwV 2 hts gL_step_X2_about rfl rfl rfl (by decide +kernel) ⟨Nat.le_of_ble_eq_true rfl, Nat.le_of_ble_eq_true rfl⟩) ⟨PRo.blind, va_recv hK2 (P_left hP) (ci := 2) (q0 := 0) rfl rfl, PRo.pre (P_left hP) hK2 hE⟩ rfl rfl hl.1 rfl (lv_room (Nat.le_of_ble_eq_true rfl)) dL_step_722 ⟨Nat.le_of_ble_eq_true rfl, Nat.le_of_ble_eq_true rfl⟩)) (fun r hr => ?_)
          subst hr
          refine W_top (y := .int (F 2 k)) (rfl) ?_
          refine lv_iload hx hb dL_step_725 (lv_at hl 2 rfl) ?_
          refine lv_icmp_ne (tgt := 734) hx hb dL_step_727 (by decide) (fun c_727 => absurd (rfl) c_727) (fun _ => ?_)
          refine lv_iconst (v := 1) hx hb dL_step_730 (by decide) ?_
          refine lv_goto (tgt := 735) hx hb dL_step_731 (by decide) ?_
          refine W.widen (k := 3) (n := 18) (Nat.le_of_ble_eq_true rfl) (Nat.le_of_ble_eq_true rfl) ?_
          exact K 735 u9.1 u9.2 n p F df gf hf _ _ _ dL_step_735 (hL) hP hD hS
        · skip
          exact absurd ⟨c_660, i32_nge c_667⟩ hc9
  · skip
    refine lv_aload_n hx hb dL_step_632 rfl (lv_at hl 1 rfl) ?_
    refine lv_iload hx hb dL_step_633 (lv_at hl 7 rfl) ?_
    refine lv_iconst (v := 1) hx hb dL_step_635 (by decide) ?_
    refine W_top (y := .int (nI 1)) (rfl) ?_
    refine vp_callSi (va_Run.run (va_runV (As := [.int (nI k), .int (nI 1)]) (rest := []) ⟨hx, hb, hml, hown, hts⟩ (r_X2_about l9 dC dI h ak ab af ka kb n p F k 1 hI hkn (by decide)) (cwV 2 hts gL_step_X2_about rfl rfl rfl (by decide +kernel) ⟨Nat.le_of_ble_eq_true rfl, Nat.le_of_ble_eq_true rfl⟩) ⟨PRo.blind, va_recv hK2 (P_left hP) (ci := 2) (q0 := 0) rfl rfl, PRo.pre (P_left hP) hK2 hE⟩ rfl rfl hl.1 rfl (lv_room (Nat.le_of_ble_eq_true rfl)) dL_step_636 ⟨Nat.le_of_ble_eq_true rfl, Nat.le_of_ble_eq_true rfl⟩)) (fun r hr => ?_)
    subst hr
    refine W_top (y := .int (F 3 k)) (rfl) ?_
    refine lv_iconst (v := 1) hx hb dL_step_639 (by decide) ?_
    refine lv_icmp_ne (tgt := 647) hx hb dL_step_640 (by decide) (fun c_640 => ?_) (fun c_640 => ?_)
    · skip
      refine lv_iconst (v := 0) hx hb dL_step_647 (by decide) ?_
      exact K648 _ ((bi_f c_640).symm)
    · skip
      refine lv_iconst (v := 1) hx hb dL_step_643 (by decide) ?_
      refine lv_goto (tgt := 648) hx hb dL_step_644 (by decide) ?_
      exact K648 _ ((bi_t c_640).symm)

set_option maxHeartbeats 4000000 in
set_option maxRecDepth 100000 in
theorem st_rain {p9 : Program} {l9 : Launch} (hlt : l9.stackTraces = false) {e9 : Env} {s : State} {m : MethodId} {args : Array Value} {below : List Frame} {meth : Method} {c : Code} (hx : p9.tables.exec = Jvm.exec) (hb : c.code = cL_step) (hml : c.maxLocals = 24) (hown : s.vm.findClass RL = some m.cls) (hts : ∀ w ∈ wsL_step, w.before args s = true) {dC : Nat → ClassId} {dI : Nat → Nat → Nat} {tK tB cI : ClassId} {h ak ab af ad ag ah : Nat} (hK : va_K (dC, dI) vwCl [(tK, .object "Windlane$Kite"), (tB, .object "Windlane$Borrower"), (cI, .int)] s) (hE : EN s) {A : Nat → Prop} (hH : EH A s s.heap) (hA : ∀ q : Nat, s.heap.size ≤ q → A q) {ka kb : Nat → Nat} {n p : Nat} {F : Rows} {df gf hf : Nat → Int32} (hL : LI n p F df gf hf) {H : Heap} {locs : List Loc} {ls : Array Slot} {Q : State → Prop} {a0 b0 : Nat} (ha0 : a0 < 2147483648) (hb0 : b0 < 2147483648) {k j : Nat} (hkn : k < n) (hjp : j < p) (hP : va_P (dC, dI) vwCl (sW tK tB cI h ak ab af ad ag ah ka kb n p F df gf hf) H) (hD : va_D A (sW tK tB cI h ak ab af ad ag ah ka kb n p F df gf hf)) (hS : va_S A s.heap H locs) (hl : lv_has ls 24 [(0, .ref h), (1, .ref ad), (2, .ref ag), (3, .ref ah), (5, .int (nI a0)), (6, .int (nI b0)), (7, .int (nI k)), (8, .int (nI j))]) (K : ∀ (pc : Nat) (ka kb : Nat → Nat) (n p : Nat) (F : Rows) (df gf hf : Nat → Int32) (H : Heap) (locs : List Loc) (ls : Array Slot), decode cL_step pc = .ok (.ireturn, 1) → LI n p F df gf hf → va_P (dC, dI) vwCl (sW tK tB cI h ak ab af ad ag ah ka kb n p F df gf hf) H → va_D A (sW tK tB cI h ak ab af ad ag ah ka kb n p F df gf hf) → va_S A s.heap H locs → W p9 l9 e9 (headSpec wsL_step ({ frames := 10, cells := 3, slots := 18, locals := 191 })).room s m args below meth c H locs 3 18 Q (F0 m pc ls [.int 1])) : W p9 l9 e9 (headSpec wsL_step ({ frames := 10, cells := 3, slots := 18, locals := 191 })).room s m args below meth c H locs 0 0 Q (F0 m 736 ls []) := by
  obtain ⟨hI, hI2, ⟨hd0, hd1, hd2, hd3⟩, hgf, hhf⟩ := id hL
  have hn8 : n ≤ 8 := hI.1.1
  have hp8 : p ≤ 8 := hI.1.2
  have hK2 := hK.sub (tys' := [(tK, .object "Windlane$Kite"), (tB, .object "Windlane$Borrower")]) [0, 1] rfl
  refine lv_aload_n hx hb dL_step_736 rfl (lv_at hl 0 rfl) ?_
  refine W_join (pc := 749) (rest := [.ref h]) (fun v => v = bi (b0 % 2 = 0)) (fun v hv => ?_) (fun K749 => ?_)
  · subst hv
    have hF1 := A_in (D_left hD) hS hA
    refine va_calli (va_runV (As := [.int (bi (b0 % 2 = 0))]) (rest := []) ⟨hx, hb, hml, hown, hts⟩ (c_X2_rain l9 dC dI H.size h ak ab af ka kb n p F (bi (b0 % 2 = 0)) (bi_01 _) hI) (cwV 1 hts gL_step_X2_rain rfl rfl rfl (by decide +kernel) ⟨Nat.le_of_ble_eq_true rfl, Nat.le_of_ble_eq_true rfl⟩) ⟨PWr.blind, va_recv hK2 (P_left hP) (ci := 2) (q0 := 0) rfl rfl, PWr.pre (P_left hP) hK2 (D_left hD) hE ((hH.kept hS.2.1).narrow hF1)⟩ rfl rfl hl.1 rfl (lv_room (Nat.le_of_ble_eq_true rfl)) dL_step_749 ⟨Nat.le_of_ble_eq_true rfl, Nat.le_of_ble_eq_true rfl⟩) hS (fun q _ hq => hF1 q hq) hF1 (fun r9 u9 t9 H locs ht9 hvm hw9 hB hz1 hk1 hS => ?_)
    have hP1 : va_P (dC, dI) vwCl (cW tK tB h ak ab af ka kb n p (up F 9 2 (bi (b0 % 2 = 0)))) H := by rw [← ht9]; exact hB
    obtain ⟨hP, hD⟩ := join_L hP hD hk1 hF1 hP1 (cG_D (D_left hD).self)
    have hw9 : r9 = F 9 2 := hw9
    subst hw9
    have hL9 := LI_rain hL (b := bi (b0 % 2 = 0)) (bi_01 _)
    have hP : va_P (dC, dI) vwCl (cW tK tB h ak ab af ka kb n p (up F 9 2 (bi (b0 % 2 = 0))) ++ [(ad, .inl (cI, 4, .inl df)), (ag, .inl (cI, 8, .inl gf)), (ah, .inl (cI, 8, .inl hf))]) H := hP
    have hD : va_D A (cW tK tB h ak ab af ka kb n p (up F 9 2 (bi (b0 % 2 = 0))) ++ [(ad, .inl (cI, 4, .inl df)), (ag, .inl (cI, 8, .inl gf)), (ah, .inl (cI, 8, .inl hf))]) := hD
    refine lv_istore (lv' := [(22, .int (F 9 2)), (0, .ref h), (1, .ref ad), (2, .ref ag), (3, .ref ah), (5, .int (nI a0)), (6, .int (nI b0)), (7, .int (nI k)), (8, .int (nI j))]) hx hb dL_step_752 hl (by decide) rfl (fun ls hl => ?_)
    refine lv_iload hx hb dL_step_754 (lv_at hl 0 rfl) ?_
    refine W_join (pc := 768) (rest := [.int (F 9 2)]) (fun v => v = F 9 2) (fun v hv => ?_) (fun K768 => ?_)
    · subst hv
      refine lv_icmp_ne (tgt := 775) hx hb dL_step_768 (by decide) (fun c_768 => absurd (rfl) c_768) (fun _ => ?_)
      refine lv_iconst (v := 1) hx hb dL_step_771 (by decide) ?_
      refine lv_goto (tgt := 776) hx hb dL_step_772 (by decide) ?_
      refine lv_istore (lv' := [(23, .int 1), (22, .int (F 9 2)), (0, .ref h), (1, .ref ad), (2, .ref ag), (3, .ref ah), (5, .int (nI a0)), (6, .int (nI b0)), (7, .int (nI k)), (8, .int (nI j))]) hx hb dL_step_776 hl (by decide) rfl (fun ls hl => ?_)
      refine lv_aload_n hx hb dL_step_778 rfl (lv_at hl 3 rfl) ?_
      refine lv_iconst (v := 2) hx hb dL_step_779 (by decide) ?_
      refine W_join (pc := 792) (rest := [.int 2, .ref ad]) (fun v => v = bi (b0 % 2 = 0)) (fun v hv => ?_) (fun K792 => ?_)
      · subst hv
        refine my_iast hx hb hK hP hD hS _ 2 (ap_at (w1 := cW tK tB h ak ab af ka kb n p (up F 9 2 (bi (b0 % 2 = 0)))) (i := 0) rfl) rfl (k := 2) (by decide) (by decide) dL_step_792 (fun H locs hP hD hS => ?_)
        rw [ap_set] at hP hD
        have hP : va_P (dC, dI) vwCl (cW tK tB h ak ab af ka kb n p (up F 9 2 (bi (b0 % 2 = 0))) ++ [(ad, .inl (cI, 4, .inl (upd df 2 (bi (b0 % 2 = 0))))), (ag, .inl (cI, 8, .inl gf)), (ah, .inl (cI, 8, .inl hf))]) H := hP
        have hD : va_D A (cW tK tB h ak ab af ka kb n p (up F 9 2 (bi (b0 % 2 = 0))) ++ [(ad, .inl (cI, 4, .inl (upd df 2 (bi (b0 % 2 = 0))))), (ag, .inl (cI, 8, .inl gf)), (ah, .inl (cI, 8, .inl hf))]) := hD
        refine lv_iload hx hb dL_step_793 (lv_at hl 0 rfl) ?_
        refine W.widen (k := 3) (n := 18) (Nat.le_of_ble_eq_true rfl) (Nat.le_of_ble_eq_true rfl) ?_
        exact K 795 ka kb n p (up F 9 2 (bi (b0 % 2 = 0))) (upd df 2 (bi (b0 % 2 = 0))) gf hf _ _ _ dL_step_795 (hL9) hP hD hS
      · skip
        refine lv_iload hx hb dL_step_780 (lv_at hl 7 rfl) ?_
        refine lv_iconst (v := 2) hx hb dL_step_782 (by decide) ?_
        refine lv_irem hx hb dL_step_783 (by decide) ?_
        refine W_top (y := .int (nI (b0 % 2))) (congrArg Value.int (pk_rem (a := b0) (d := 2) (by omega) (by decide) (by omega))) ?_
        refine lv_if_ne (tgt := 791) hx hb dL_step_784 (by decide) (fun c_784 => ?_) (fun c_784 => ?_)
        · skip
          refine lv_iconst (v := 0) hx hb dL_step_791 (by decide) ?_
          exact K792 _ ((bi_f (fun q => c_784 (by rw [q]; rfl))).symm)
        · skip
          refine lv_iconst (v := 1) hx hb dL_step_787 (by decide) ?_
          refine lv_goto (tgt := 792) hx hb dL_step_788 (by decide) ?_
          exact K792 _ ((bi_t (nI_z c_784 (by omega))).symm)
    · skip
      refine lv_aload_n hx hb dL_step_756 rfl (lv_at hl 2 rfl) ?_
      refine lv_iconst (v := 2) hx hb dL_step_757 (by decide) ?_
      refine W_top (y := .int (nI 2)) (rfl) ?_
      refine my_iald hx hb hK hP _ 2 (ap_at (w1 := cW tK tB h ak ab af ka kb n p (up F 9 2 (bi (b0 % 2 = 0)))) (i := 0) rfl) rfl (k := 2) (by decide) (by decide) dL_step_758 ?_
      refine W_top (y := .int (F 9 2)) (congrArg Value.int (hd2)) ?_
      refine lv_iconst (v := 1) hx hb dL_step_759 (by decide) ?_
      refine lv_icmp_ne (tgt := 767) hx hb dL_step_760 (by decide) (fun c_760 => ?_) (fun c_760 => ?_)
      · skip
        refine lv_iconst (v := 0) hx hb dL_step_767 (by decide) ?_
        exact K768 _ ((hI.2.2.2.2.1.2.resolve_right c_760).symm)
      · skip
        refine lv_iconst (v := 1) hx hb dL_step_763 (by decide) ?_
        refine lv_goto (tgt := 768) hx hb dL_step_764 (by decide) ?_
        exact K768 _ (c_760.symm)
  · skip
    refine lv_iload hx hb dL_step_737 (lv_at hl 5 rfl) ?_
    refine lv_iconst (v := 2) hx hb dL_step_739 (by decide) ?_
    refine lv_irem hx hb dL_step_740 (by decide) ?_
    refine W_top (y := .int (nI (b0 % 2))) (congrArg Value.int (pk_rem (a := b0) (d := 2) (by omega) (by decide) (by omega))) ?_
    refine lv_if_ne (tgt := 748) hx hb dL_step_741 (by decide) (fun c_741 => ?_) (fun c_741 => ?_)
    · skip
      refine lv_iconst (v := 0) hx hb dL_step_748 (by decide) ?_
      exact K749 _ ((bi_f (fun q => c_741 (by rw [q]; rfl))).symm)
    · skip
      refine lv_iconst (v := 1) hx hb dL_step_744 (by decide) ?_
      refine lv_goto (tgt := 749) hx hb dL_step_745 (by decide) ?_
      exact K749 _ ((bi_t (nI_z c_741 (by omega))).symm)

set_option maxHeartbeats 4000000 in
set_option maxRecDepth 100000 in
theorem st_pass {p9 : Program} {l9 : Launch} (hlt : l9.stackTraces = false) {e9 : Env} {s : State} {m : MethodId} {args : Array Value} {below : List Frame} {meth : Method} {c : Code} (hx : p9.tables.exec = Jvm.exec) (hb : c.code = cL_step) (hml : c.maxLocals = 24) (hown : s.vm.findClass RL = some m.cls) (hts : ∀ w ∈ wsL_step, w.before args s = true) {dC : Nat → ClassId} {dI : Nat → Nat → Nat} {tK tB cI : ClassId} {h ak ab af ad ag ah : Nat} (hK : va_K (dC, dI) vwCl [(tK, .object "Windlane$Kite"), (tB, .object "Windlane$Borrower"), (cI, .int)] s) (hE : EN s) {A : Nat → Prop} (hH : EH A s s.heap) (hA : ∀ q : Nat, s.heap.size ≤ q → A q) {ka kb : Nat → Nat} {n p : Nat} {F : Rows} {df gf hf : Nat → Int32} (hL : LI n p F df gf hf) {H : Heap} {locs : List Loc} {ls : Array Slot} {Q : State → Prop} {a0 b0 : Nat} (ha0 : a0 < 2147483648) (hb0 : b0 < 2147483648) {k j : Nat} (hkn : k < n) (hjp : j < p) (hP : va_P (dC, dI) vwCl (sW tK tB cI h ak ab af ad ag ah ka kb n p F df gf hf) H) (hD : va_D A (sW tK tB cI h ak ab af ad ag ah ka kb n p F df gf hf)) (hS : va_S A s.heap H locs) (hl : lv_has ls 24 [(0, .ref h), (1, .ref ad), (2, .ref ag), (3, .ref ah), (5, .int (nI a0)), (6, .int (nI b0)), (7, .int (nI k)), (8, .int (nI j))]) (K : ∀ (pc : Nat) (ka kb : Nat → Nat) (n p : Nat) (F : Rows) (df gf hf : Nat → Int32) (H : Heap) (locs : List Loc) (ls : Array Slot), decode cL_step pc = .ok (.ireturn, 1) → LI n p F df gf hf → va_P (dC, dI) vwCl (sW tK tB cI h ak ab af ad ag ah ka kb n p F df gf hf) H → va_D A (sW tK tB cI h ak ab af ad ag ah ka kb n p F df gf hf) → va_S A s.heap H locs → W p9 l9 e9 (headSpec wsL_step ({ frames := 10, cells := 3, slots := 18, locals := 191 })).room s m args below meth c H locs 3 18 Q (F0 m pc ls [.int 1])) : W p9 l9 e9 (headSpec wsL_step ({ frames := 10, cells := 3, slots := 18, locals := 191 })).room s m args below meth c H locs 0 0 Q (F0 m 796 ls []) := by
  obtain ⟨hI, hI2, ⟨hd0, hd1, hd2, hd3⟩, hgf, hhf⟩ := id hL
  have hn8 : n ≤ 8 := hI.1.1
  have hp8 : p ≤ 8 := hI.1.2
  have hK2 := hK.sub (tys' := [(tK, .object "Windlane$Kite"), (tB, .object "Windlane$Borrower")]) [0, 1] rfl
  refine lv_aload_n hx hb dL_step_796 rfl (lv_at hl 0 rfl) ?_
  refine lv_aload_n hx hb dL_step_797 rfl (lv_at hl 1 rfl) ?_
  refine lv_iload hx hb dL_step_798 (lv_at hl 6 rfl) ?_
  refine lv_iconst (v := 1) hx hb dL_step_800 (by decide) ?_
  refine lv_iload hx hb dL_step_801 (lv_at hl 5 rfl) ?_
  refine lv_bipush (v := 24) hx hb dL_step_803 (by decide) ?_
  refine lv_irem hx hb dL_step_805 (by decide) ?_
  refine W_top (y := .int (nI (b0 % 24))) (congrArg Value.int (pk_rem (a := b0) (d := 24) (by omega) (by decide) (by omega))) ?_
  refine lv_iadd hx hb dL_step_806 ?_
  refine W_top (y := .int (nI (1 + (b0 % 24)))) (congrArg Value.int (nI_add 1 (b0 % 24))) ?_
  have hP : va_P (dC, dI) vwCl (cW tK tB h ak ab af ka kb n p F ++ [(ad, .inl (cI, 4, .inl df)), (ag, .inl (cI, 8, .inl gf)), (ah, .inl (cI, 8, .inl hf))]) H := hP
  have hD : va_D A (cW tK tB h ak ab af ka kb n p F ++ [(ad, .inl (cI, 4, .inl df)), (ag, .inl (cI, 8, .inl gf)), (ah, .inl (cI, 8, .inl hf))]) := hD
  have hP5 : va_P (dC, dI) vwCl ((cW tK tB h ak ab af ka kb n p F ++ [(ad, .inl (cI, 4, .inl df))]) ++ [(ag, .inl (cI, 8, .inl gf)), (ah, .inl (cI, 8, .inl hf))]) H := by rw [List.append_assoc]; exact hP
  have hD5 : va_D A ((cW tK tB h ak ab af ka kb n p F ++ [(ad, .inl (cI, 4, .inl df))]) ++ [(ag, .inl (cI, 8, .inl gf)), (ah, .inl (cI, 8, .inl hf))]) := by rw [List.append_assoc]; exact hD
  have hF1 := A_in (D_left hD5) hS hA
  refine va_calli (va_runS (As := [.ref h, .ref ad, .int (nI k), .int (nI (1 + (b0 % 24)))]) (rest := []) ⟨hx, hb, hml, hown, hts⟩ (c_L_isPassed l9 hlt dC dI H.size h ak ab af ka kb n p F ad df k (1 + b0 % 24) hI hd0 hd2 hkn (by omega) (by omega)) (va_cwS 4 hts gL_step_L_isPassed rfl rfl rfl (by decide +kernel) ⟨Nat.le_of_ble_eq_true rfl, Nat.le_of_ble_eq_true rfl⟩) ⟨PWr.blind, PWr.pre (P_left hP5) hK (D_left hD5) hE ((hH.kept hS.2.1).narrow hF1)⟩ rfl rfl hl.1 rfl (lv_room (Nat.le_of_ble_eq_true rfl)) dL_step_807 ⟨Nat.le_of_ble_eq_true rfl, Nat.le_of_ble_eq_true rfl⟩) hS (fun q _ hq => hF1 q hq) hF1 (fun r9 u9 t9 H locs ht9 hvm hw9 hB hz1 hk1 hS => ?_)
  obtain ⟨hP1, hD1⟩ := hB
  rw [ht9] at hP1
  obtain ⟨hP, hD⟩ := join_L hP5 hD5 hk1 hF1 hP1 hD1
  rw [List.append_assoc] at hP hD
  have hw9 : r9 = 1 := hw9
  subst hw9
  have hP : va_P (dC, dI) vwCl (cW tK tB h ak ab af u9.1 u9.2 n p ((S_pass n F (nI (1 + b0 % 24))).2.2) ++ [(ad, .inl (cI, 4, .inl df)), (ag, .inl (cI, 8, .inl gf)), (ah, .inl (cI, 8, .inl hf))]) H := hP
  have hD : va_D A (cW tK tB h ak ab af u9.1 u9.2 n p ((S_pass n F (nI (1 + b0 % 24))).2.2) ++ [(ad, .inl (cI, 4, .inl df)), (ag, .inl (cI, 8, .inl gf)), (ah, .inl (cI, 8, .inl hf))]) := hD
  refine W.widen (k := 3) (n := 18) (Nat.le_of_ble_eq_true rfl) (Nat.le_of_ble_eq_true rfl) ?_
  exact K 810 u9.1 u9.2 n p ((S_pass n F (nI (1 + b0 % 24))).2.2) df gf hf _ _ _ dL_step_810 (LI_pass hL (m := 1 + b0 % 24) (by omega) (by omega)) hP hD hS

set_option maxHeartbeats 4000000 in
set_option maxRecDepth 100000 in
theorem st_wind {p9 : Program} {l9 : Launch} (hlt : l9.stackTraces = false) {e9 : Env} {s : State} {m : MethodId} {args : Array Value} {below : List Frame} {meth : Method} {c : Code} (hx : p9.tables.exec = Jvm.exec) (hb : c.code = cL_step) (hml : c.maxLocals = 24) (hown : s.vm.findClass RL = some m.cls) (hts : ∀ w ∈ wsL_step, w.before args s = true) {dC : Nat → ClassId} {dI : Nat → Nat → Nat} {tK tB cI : ClassId} {h ak ab af ad ag ah : Nat} (hK : va_K (dC, dI) vwCl [(tK, .object "Windlane$Kite"), (tB, .object "Windlane$Borrower"), (cI, .int)] s) (hE : EN s) {A : Nat → Prop} (hH : EH A s s.heap) (hA : ∀ q : Nat, s.heap.size ≤ q → A q) {ka kb : Nat → Nat} {n p : Nat} {F : Rows} {df gf hf : Nat → Int32} (hL : LI n p F df gf hf) {H : Heap} {locs : List Loc} {ls : Array Slot} {Q : State → Prop} {a0 b0 : Nat} (ha0 : a0 < 2147483648) (hb0 : b0 < 2147483648) {k j : Nat} (hkn : k < n) (hjp : j < p) (hP : va_P (dC, dI) vwCl (sW tK tB cI h ak ab af ad ag ah ka kb n p F df gf hf) H) (hD : va_D A (sW tK tB cI h ak ab af ad ag ah ka kb n p F df gf hf)) (hS : va_S A s.heap H locs) (hl : lv_has ls 24 [(0, .ref h), (1, .ref ad), (2, .ref ag), (3, .ref ah), (5, .int (nI a0)), (6, .int (nI b0)), (7, .int (nI k)), (8, .int (nI j))]) (K : ∀ (pc : Nat) (ka kb : Nat → Nat) (n p : Nat) (F : Rows) (df gf hf : Nat → Int32) (H : Heap) (locs : List Loc) (ls : Array Slot), decode cL_step pc = .ok (.ireturn, 1) → LI n p F df gf hf → va_P (dC, dI) vwCl (sW tK tB cI h ak ab af ad ag ah ka kb n p F df gf hf) H → va_D A (sW tK tB cI h ak ab af ad ag ah ka kb n p F df gf hf) → va_S A s.heap H locs → W p9 l9 e9 (headSpec wsL_step ({ frames := 10, cells := 3, slots := 18, locals := 191 })).room s m args below meth c H locs 3 18 Q (F0 m pc ls [.int 1])) : W p9 l9 e9 (headSpec wsL_step ({ frames := 10, cells := 3, slots := 18, locals := 191 })).room s m args below meth c H locs 0 0 Q (F0 m 811 ls []) := by
  obtain ⟨hI, hI2, ⟨hd0, hd1, hd2, hd3⟩, hgf, hhf⟩ := id hL
  have hn8 : n ≤ 8 := hI.1.1
  have hp8 : p ≤ 8 := hI.1.2
  have hK2 := hK.sub (tys' := [(tK, .object "Windlane$Kite"), (tB, .object "Windlane$Borrower")]) [0, 1] rfl
  refine lv_aload_n hx hb dL_step_811 rfl (lv_at hl 0 rfl) ?_
  refine lv_aload_n hx hb dL_step_812 rfl (lv_at hl 1 rfl) ?_
  refine lv_iload hx hb dL_step_813 (lv_at hl 5 rfl) ?_
  refine lv_bipush (v := 31) hx hb dL_step_815 (by decide) ?_
  refine lv_irem hx hb dL_step_817 (by decide) ?_
  refine W_top (y := .int (nI (b0 % 31))) (congrArg Value.int (pk_rem (a := b0) (d := 31) (by omega) (by decide) (by omega))) ?_
  refine lv_iload hx hb dL_step_818 (lv_at hl 5 rfl) ?_
  refine lv_bipush (v := 31) hx hb dL_step_820 (by decide) ?_
  refine lv_idiv hx hb dL_step_822 (by decide) ?_
  refine W_top (y := .int (nI (b0 / 31))) (congrArg Value.int (pk_div (a := b0) (d := 31) (by omega) (by decide) (by decide))) ?_
  refine lv_bipush (v := 11) hx hb dL_step_823 (by decide) ?_
  refine lv_irem hx hb dL_step_825 (by decide) ?_
  refine W_top (y := .int (nI ((b0 / 31) % 11))) (congrArg Value.int (pk_rem (a := (b0 / 31)) (d := 11) (by omega) (by decide) (by omega))) ?_
  refine lv_iconst (v := 5) hx hb dL_step_826 (by decide) ?_
  refine lv_isub hx hb dL_step_827 ?_
  have hw0 : (0 ≤ nI (b0 % 31) ∧ nI (b0 % 31) ≤ 30) ∧ (-5 ≤ nI (b0 / 31 % 11) - 5 ∧ nI (b0 / 31 % 11) - 5 ≤ 5) := ⟨sp_n (m := b0 % 31) (by omega), sd_rng (m := b0 / 31 % 11) (by omega)⟩
  have hP : va_P (dC, dI) vwCl (cW tK tB h ak ab af ka kb n p F ++ [(ad, .inl (cI, 4, .inl df)), (ag, .inl (cI, 8, .inl gf)), (ah, .inl (cI, 8, .inl hf))]) H := hP
  have hD : va_D A (cW tK tB h ak ab af ka kb n p F ++ [(ad, .inl (cI, 4, .inl df)), (ag, .inl (cI, 8, .inl gf)), (ah, .inl (cI, 8, .inl hf))]) := hD
  have hP5 : va_P (dC, dI) vwCl ((cW tK tB h ak ab af ka kb n p F ++ [(ad, .inl (cI, 4, .inl df))]) ++ [(ag, .inl (cI, 8, .inl gf)), (ah, .inl (cI, 8, .inl hf))]) H := by rw [List.append_assoc]; exact hP
  have hD5 : va_D A ((cW tK tB h ak ab af ka kb n p F ++ [(ad, .inl (cI, 4, .inl df))]) ++ [(ag, .inl (cI, 8, .inl gf)), (ah, .inl (cI, 8, .inl hf))]) := by rw [List.append_assoc]; exact hD
  have hF1 := A_in (D_left hD5) hS hA
  refine va_calli (va_runS (As := [.ref h, .ref ad, .int (nI (b0 % 31)), .int ((nI ((b0 / 31) % 11)) - 5)]) (rest := []) ⟨hx, hb, hml, hown, hts⟩ (c_L_isBlown l9 hlt dC dI H.size h ak ab af ka kb n p F ad df (nI (b0 % 31)) (nI (b0 / 31 % 11) - 5) hI hd0 hw0) (va_cwS 4 hts gL_step_L_isBlown rfl rfl rfl (by decide +kernel) ⟨Nat.le_of_ble_eq_true rfl, Nat.le_of_ble_eq_true rfl⟩) ⟨PWr.blind, PWr.pre (P_left hP5) hK (D_left hD5) hE ((hH.kept hS.2.1).narrow hF1)⟩ rfl rfl hl.1 rfl (lv_room (Nat.le_of_ble_eq_true rfl)) dL_step_828 ⟨Nat.le_of_ble_eq_true rfl, Nat.le_of_ble_eq_true rfl⟩) hS (fun q _ hq => hF1 q hq) hF1 (fun r9 u9 t9 H locs ht9 hvm hw9 hB hz1 hk1 hS => ?_)
  obtain ⟨hP1, hD1⟩ := hB
  rw [ht9] at hP1
  obtain ⟨hP, hD⟩ := join_L hP5 hD5 hk1 hF1 hP1 hD1
  rw [List.append_assoc] at hP hD
  have hw9 : r9 = 1 := hw9
  subst hw9
  have hP : va_P (dC, dI) vwCl (cW tK tB h ak ab af u9.1 u9.2 n p ((S_wind n F (nI (b0 % 31)) (nI (b0 / 31 % 11) - 5)).2.2) ++ [(ad, .inl (cI, 4, .inl (upd df 3 (nI (b0 % 31))))), (ag, .inl (cI, 8, .inl gf)), (ah, .inl (cI, 8, .inl hf))]) H := hP
  have hD : va_D A (cW tK tB h ak ab af u9.1 u9.2 n p ((S_wind n F (nI (b0 % 31)) (nI (b0 / 31 % 11) - 5)).2.2) ++ [(ad, .inl (cI, 4, .inl (upd df 3 (nI (b0 % 31))))), (ag, .inl (cI, 8, .inl gf)), (ah, .inl (cI, 8, .inl hf))]) := hD
  refine W.widen (k := 3) (n := 18) (Nat.le_of_ble_eq_true rfl) (Nat.le_of_ble_eq_true rfl) ?_
  exact K 831 u9.1 u9.2 n p ((S_wind n F (nI (b0 % 31)) (nI (b0 / 31 % 11) - 5)).2.2) (upd df 3 (nI (b0 % 31))) gf hf _ _ _ dL_step_831 (LI_wind hL hw0) hP hD hS
