theorem nI_sub {a b : Nat} (h : b ≤ a) (ha : a < 2147483648) : nI a - nI b = nI (a - b) := by
  apply Int32.toInt_inj.mp
  rw [i32_sub (by rw [nI_toInt ha, nI_toInt (by omega)]; omega) (by rw [nI_toInt ha, nI_toInt (by omega)]; omega), nI_toInt ha, nI_toInt (by omega), nI_toInt (by omega)]
  omega
theorem win_inR {a b x : Int32} {n : Nat} (h : a ≤ x ∧ x ≤ b) (ha : 0 ≤ a.toInt) (hb : b.toInt < n) : inR n x := by
  obtain ⟨h1, h2⟩ := h
  rw [i32_le] at h1 h2
  exact ⟨by omega, by omega⟩
/-- a line that crosses none -/
theorem xcr_clr {n p : Nat} {F : Rows} {k l : Nat} {e : Int32} {len : Int32} (hI : Inv n p F) (hl : l < 10) (hf : lk (F 6) n (nI l) = none) (he : e = en F k (nI l) len) : (∀ l', l' < 10 → ¬ xcr F n (nI l) e l') ↔ clr F n k (nI l) len := by
  subst he
  constructor
  · intro h j hj
    rcases (hI.2.1 j hj).2.2.2.2.2.2.1 with q | ⟨l', hl', q⟩
    · exact ⟨fun z => z.1 q, fun z => z.1 q⟩
    · have hlk : lk (F 6) n (nI l') = some j := lk_uniq hj q (fun i hi z => hI.2.2.2.1.2 i j hi hj (z.trans q.symm) (by rw [z]; exact nI_m1 (by omega)))
      refine ⟨fun z => h l' hl' ⟨j, hlk, ?_⟩, fun z => h l' hl' ⟨j, hlk, ?_⟩⟩
      · rw [if_pos (by rw [← q]; exact z.2.1)]; exact z.2.2
      · rw [if_neg (by rw [← q]; rw [i32_lt]; have z2 := z.2.1; rw [i32_lt] at z2; omega)]; exact z.2.2
  · rintro h l' hl' ⟨j, hlk, hc⟩
    obtain ⟨hj, hj6⟩ := lk_some hlk
    obtain ⟨h1, h2⟩ := h j hj
    have hne : ¬ F 6 j = -1 := by rw [hj6]; exact nI_m1 (by omega)
    split at hc
    · rename_i q
      exact h1 ⟨hne, by rw [hj6]; exact q, hc⟩
    · rename_i q
      refine h2 ⟨hne, ?_, hc⟩
      have hll : ¬ l' = l := by rintro rfl; rw [hlk] at hf; cases hf
      rw [hj6, i32_lt, nI_toInt (by omega), nI_toInt (by omega)]
      rw [i32_lt, nI_toInt (by omega), nI_toInt (by omega)] at q
      omega
theorem Inv.kd {n p : Nat} {F : Rows} (h : Inv n p F) : ∀ k, k < n → F 0 k = 0 ∨ F 0 k = 1 ∨ F 0 k = 2 := fun k hk => (h.2.1 k hk).1
theorem Inv.lr {n p : Nat} {F : Rows} (h : Inv n p F) : ∀ k, k < n → F 6 k = -1 ∨ ∃ l, l < 10 ∧ F 6 k = nI l := fun k hk => (h.2.1 k hk).2.2.2.2.2.2.1
theorem Inv.fl {n p : Nat} {F : Rows} (h : Inv n p F) : ∀ k, k < n → ¬ F 6 k = -1 → held F k (F 9 0) := fun k hk q => ((h.2.1 k hk).2.2.2.2.2.2.2 q).2.2
/-- so many hours -/
def wtF (F : Rows) (n m : Nat) : Rows := if m = 0 then F else wetF F n (nI m)
theorem wtF_step {n p : Nat} {F : Rows} {m : Nat} (hI : Inv n p F) (hm : m < 24) : hr1 (wtF F n m) n = wtF F n (m + 1) := by
  unfold wtF
  rw [if_neg (Nat.succ_ne_zero m)]
  have key : ∀ j, j < n → w1 (if m = 0 then F else wetF F n (nI m)) j = wetv F (nI (m + 1)) j := by
    intro j hj
    obtain ⟨w, hw, e4⟩ := (hI.2.1 j hj).2.2.2.2.1
    have e0 : (0 : Int32).toInt = 0 := by decide
    have e1 : (1 : Int32) = nI 1 := rfl
    have es : nI w - 1 = if 0 < w then nI (w - 1) else nI w - 1 := by
      split
      · rename_i q; rw [e1]; exact nI_sub (by omega) (by omega)
      · rfl
    by_cases hm0 : m = 0
    · subst hm0
      rw [if_pos rfl]
      unfold w1 wetv
      by_cases q : ¬ F 9 2 = 0 ∧ ¬ F 6 j = -1
      · rw [if_pos q, if_pos q]
      · rw [if_neg q, if_neg q, e4]
        simp only [i32_lt, e0, nI_toInt (show w < 2147483648 by omega), nI_toInt (show 0 + 1 < 2147483648 by omega)]
        by_cases q1 : 1 < w
        · rw [if_pos (by omega), if_pos (by omega)]; rfl
        · by_cases q2 : w = 1
          · subst q2; rw [if_pos (by omega), if_neg (by omega)]; decide
          · have : w = 0 := by omega
            subst this; rw [if_neg (by omega), if_neg (by omega)]; rfl
    · rw [if_neg hm0]
      show (if ¬ F 9 2 = 0 ∧ ¬ F 6 j = -1 then 6 else if 0 < (if j < n then wetv F (nI m) j else F 4 j) then (if j < n then wetv F (nI m) j else F 4 j) - 1 else (if j < n then wetv F (nI m) j else F 4 j)) = _
      rw [if_pos hj]
      unfold wetv
      by_cases q : ¬ F 9 2 = 0 ∧ ¬ F 6 j = -1
      · rw [if_pos q, if_pos q]
      · rw [if_neg q, if_neg q, if_neg q, e4]
        simp only [i32_lt, nI_toInt (show m < 2147483648 by omega), nI_toInt (show m + 1 < 2147483648 by omega), nI_toInt (show w < 2147483648 by omega), e0]
        by_cases q1 : m < w
        · have e5 : nI w - nI m = nI (w - m) := nI_sub (by omega) (by omega)
          rw [if_pos (show (m : Int) < w by omega), e5, nI_toInt (by omega), if_pos (by omega)]
          by_cases q2 : m + 1 < w
          · rw [if_pos (by omega), nI_sub (show m + 1 ≤ w by omega) (by omega), e1, nI_sub (show 1 ≤ w - m by omega) (by omega), Nat.sub_sub]
          · have : w = m + 1 := by omega
            subst this
            rw [if_neg (by omega), Nat.add_sub_cancel_left]; decide
        · rw [if_neg (show ¬ (m : Int) < w by omega), if_neg (show ¬ ((m + 1 : Nat) : Int) < w by omega), e0, if_neg (by omega)]
  funext i
  by_cases hi : i = 4
  · subst hi
    show (fun j => if j < n then w1 (if m = 0 then F else wetF F n (nI m)) j else (if m = 0 then F else wetF F n (nI m)) 4 j) = fun j => if j < n then wetv F (nI (m + 1)) j else F 4 j
    funext j
    by_cases hj : j < n
    · rw [if_pos hj, if_pos hj, key j hj]
    · rw [if_neg hj, if_neg hj]
      split
      · rfl
      · show (if j < n then wetv F (nI m) j else F 4 j) = F 4 j
        rw [if_neg hj]
  · unfold hr1 wetF
    rw [ro_n _ hi, ro_n _ hi]
    split
    · rfl
    · rw [ro_n _ hi]

set_option maxHeartbeats 4000000 in
set_option maxRecDepth 100000 in
theorem c_X2_fly (l9 : Launch) (hlt : l9.stackTraces = false) (dC : Nat → ClassId) (dI : Nat → Nat → Nat) (sz : Nat) {tK tB : ClassId} (h ak ab af : Nat) (ka kb : Nat → Nat) (n p : Nat) (F : Rows) (its ln len : Int32) (hI : Inv n p F) : vx_Met l9 yX2_fly wsX2_fly ({ frames := 7, cells := 2, slots := 12, locals := 115 }) (va_Pc [.ref h, .int its, .int ln, .int len] (PWr dC dI [(tK, .object "Windlane$Kite"), (tB, .object "Windlane$Borrower")] (cW tK tB h ak ab af ka kb n p F) sz)) (cQ dC dI tK tB h ak ab af (va_A (cW tK tB h ak ab af ka kb n p F) sz) n p ((S_fly n F its ln len).2.2) ((S_fly n F its ln len).1) ((S_fly n F its ln len).2.1)) (vx_X (fun _ : Unit => True) (fun E _ _ => (E = "java/lang/IndexOutOfBoundsException" ∧ (S_fly n F its ln len).1 = 1) ∨ (E = "java/lang/IllegalArgumentException" ∧ (S_fly n F its ln len).1 = 2) ∨ (E = "java/lang/IllegalStateException" ∧ (S_fly n F its ln len).1 = 3)) (fun _ => False)) 2 12 (va_A (cW tK tB h ak ab af ka kb n p F) sz) := by
  refine vx_ofW (cc := cX2_fly) (maxL := 6) (ret := (some .int)) (by decide) rfl ?_
  intro p9 e9 s m args below meth c s₁ B hml hout hv
  obtain ⟨rfl, hsz, hP, hK, hD0, hE, hH⟩ := hv
  have hx := B.exec
  have hb := B.bytes
  have hr := B.returns
  have hts := atoms_spec (ws := wsX2_fly) B.pre
  have hown : s.vm.findClass RX2 = some m.cls := findClass_of_methodNamed B.named
  have hlocks := B.notSynchronized
  have hi1 : ∀ w ∈ u_ws RX1 TX1 9, w ∈ wsX2_fly := by decide +kernel
  have hi2 : ∀ w ∈ u_ws RX2 TX2 9, w ∈ wsX2_fly := by decide +kernel
  have lk21 := hts (.fieldLink RX2 21 "Windlane" "flyers" "[LWindlane$Kite;") (by decide +kernel)
  have lk112 := hts (.fieldLink RX2 112 "Windlane" "windSpeed" "I") (by decide +kernel)
  have lk120 := hts (.fieldLink RX2 120 "Windlane" "windSide" "I") (by decide +kernel)
  have lk133 := hts (.fieldLink RX2 133 "Windlane$Kite" "lane" "I") (by decide +kernel)
  have lk136 := hts (.fieldLink RX2 136 "Windlane$Kite" "length" "I") (by decide +kernel)
  subst hsz
  have hD := hD0.self (sz := s.heap.size)
  generalize hAe : va_A (cW tK tB h ak ab af ka kb n p F) s.heap.size = A at hD hH ⊢
  have hA : ∀ q : Nat, s.heap.size ≤ q → A q := fun q h => by rw [← hAe]; exact Or.inr h
  have hS : va_S A s.heap s.heap [] := va_S.rf
  have hP : va_P (dC, dI) vwCl (cW tK tB h ak ab af ka kb n p F) s.heap := hP
  have hn8 : n ≤ 8 := hI.1.1
  have hp8 : p ≤ 8 := hI.1.2
  have hl := lv_entry ([.ref h, .int its, .int ln, .int len]) (n := 6) (Nat.le_of_ble_eq_true rfl)
  rw [lg_entry_eq]
  generalize (lg_sl ([.ref h, .int its, .int ln, .int len]) ++ List.replicate (6 - (lg_sl ([.ref h, .int its, .int ln, .int len])).length) Slot.unset).toArray = ls at hl ⊢
  have hl : lv_has ls 6 [(0, .ref h), (1, .int its), (2, .int ln), (3, .int len)] := hl
  refine lv_aload_n hx hb dX2_fly_0 rfl (lv_at hl 0 rfl) ?_
  refine lv_iload_n hx hb dX2_fly_1 rfl (lv_at hl 1 rfl) ?_
  refine my_callXq (vx_runV (As := [.int its]) (rest := []) ⟨hx, hb, hml, hown, hts⟩ (c_X2_kiteAt l9 hlt dC dI s.heap.size h ak ab af ka kb n p F its hI.1.1) (cwV 1 hts gX2_fly_X2_kiteAt rfl rfl rfl (by decide +kernel) ⟨Nat.le_of_ble_eq_true rfl, Nat.le_of_ble_eq_true rfl⟩) ⟨PWr.blind, va_recv hK hP (ci := 2) (q0 := 0) rfl rfl, PWr.pre hP hK hD hE (hH.narrow (A_in hD hS hA))⟩ rfl rfl hl.1 rfl (lv_room (Nat.le_of_ble_eq_true rfl)) dX2_fly_2 ⟨Nat.le_of_ble_eq_true rfl, Nat.le_of_ble_eq_true rfl⟩) (fun E ce q9 H1 hBE hz1 hk1 hce hcv hcl => vx_out (fun x hx => (hout x hx).elim) hlocks hce hcv hcl (fun t ht _ => ⟨(), trivial, Or.inl (⟨hBE.1, by rw [S_fly, ix_f hBE.2]⟩), by rw [ht]; exact hz1, fun q hq _ => by rw [ht]; exact hk1 q hq⟩) (fun z hz => absurd hz List.not_mem_nil) (Nat.le_of_ble_eq_true rfl) (Nat.le_of_ble_eq_true rfl)) (fun r9 hr9 => ?_)
  obtain ⟨k, hkn, rfl, rfl⟩ := hr9
  have hixk : ix n (nI k) = some k := ix_t hkn (by omega)
  have hl : lv_has ls 6 [(0, .ref h), (1, .int (nI k)), (2, .int ln), (3, .int len)] := hl
  refine W_top (x := va_rf (some (ka k))) (y := .ref (ka k)) rfl ?_
  refine lv_astore (lv' := [(4, .ref (ka k)), (0, .ref h), (1, .int (nI k)), (2, .int ln), (3, .int len)]) hx hb dX2_fly_5 hl (by decide) rfl (fun ls hl => ?_)
  refine lv_iload_n hx hb dX2_fly_7 rfl (lv_at hl 3 rfl) ?_
  rcases inR_cases 10 ln with ⟨l, hl10, rfl⟩ | hno
  · skip
    have hl : lv_has ls 6 [(4, .ref (ka k)), (0, .ref h), (1, .int (nI k)), (2, .int (nI l)), (3, .int len)] := hl
    have hixl : ix 10 (nI l) = some l := ix_t hl10 (by omega)
    refine vp_callSi (va_Run.run (va_runS (As := [.int (nI l)]) (rest := []) ⟨hx, hb, hml, hown, hts⟩ (c_X2_isLane l9 (nI l)) (va_cwS 1 hts gX2_fly_X2_isLane rfl rfl rfl (by decide +kernel) ⟨Nat.le_of_ble_eq_true rfl, Nat.le_of_ble_eq_true rfl⟩) ⟨fun a U g mk q => q, fun U hU hW => ⟨rfl, trivial⟩⟩ rfl rfl hl.1 rfl (lv_room (Nat.le_of_ble_eq_true rfl)) dX2_fly_8 ⟨Nat.le_of_ble_eq_true rfl, Nat.le_of_ble_eq_true rfl⟩)) (fun r hr => ?_)
    subst hr
    refine lv_if_ne (tgt := 24) hx hb dX2_fly_11 (by decide) (fun _ => ?_) (fun c_11 => absurd c_11 (bi_nz.mpr (inR_nI hl10 (by decide))))
    refine lv_iload_n hx hb dX2_fly_24 rfl (lv_at hl 4 rfl) ?_
    refine lv_bipush (v := 10) hx hb dX2_fly_25 (by decide) ?_
    refine lv_bipush (v := 100) hx hb dX2_fly_27 (by decide) ?_
    refine vp_callSi (va_Run.run (va_runS (As := [.int len, .int 10, .int 100]) (rest := []) ⟨hx, hb, hml, hown, hts⟩ (c_X2_isWithin l9 len 10 100) (va_cwS 3 hts gX2_fly_X2_isWithin rfl rfl rfl (by decide +kernel) ⟨Nat.le_of_ble_eq_true rfl, Nat.le_of_ble_eq_true rfl⟩) ⟨fun a U g mk q => q, fun U hU hW => ⟨rfl, trivial⟩⟩ rfl rfl hl.1 rfl (lv_room (Nat.le_of_ble_eq_true rfl)) dX2_fly_29 ⟨Nat.le_of_ble_eq_true rfl, Nat.le_of_ble_eq_true rfl⟩)) (fun r hr => ?_)
    subst hr
    refine lv_if_ne (tgt := 45) hx hb dX2_fly_32 (by decide) (fun c_32 => ?_) (fun c_32 => ?_)
    · skip
      have c_32 := bi_nz.mp c_32
      refine lv_aload hx hb dX2_fly_45 (lv_at hl 0 rfl) ?_
      refine lv_aload_n hx hb dX2_fly_47 rfl (lv_at hl 1 rfl) ?_
      refine va_get (D := (dC, dI)) (ci := 2) (v := .int (F 9 0)) (C := RX2) (T := TX2) (N := 9) hx hb hts hi2 hown hK hP 0 rfl rfl 5 (by decide) lk112 (fun _ h9 => h9) rfl dX2_fly_48 ?_
      have hq1 := one_P hP (cG_k hkn)
      refine vp_callSi (va_Run.run (va_runV (As := [.int (F 9 0)]) (rest := []) ⟨hx, hb, hml, hown, hts⟩ (c_X1_isReadyIn l9 dC dI (ka k) k F (F 9 0) (hI.kd k hkn)) (cwV 1 hts gX2_fly_X1_isReadyIn rfl rfl rfl (by decide +kernel) ⟨Nat.le_of_ble_eq_true rfl, Nat.le_of_ble_eq_true rfl⟩) ⟨PRo.blind, va_recv (hK.sub (tys' := []) [] rfl) hq1 (ci := 1) (q0 := 0) rfl rfl, PRo.pre hq1 (hK.sub (tys' := []) [] rfl) hE⟩ rfl rfl hl.1 rfl (lv_room (Nat.le_of_ble_eq_true rfl)) dX2_fly_51 ⟨Nat.le_of_ble_eq_true rfl, Nat.le_of_ble_eq_true rfl⟩)) (fun r hr => ?_)
      subst hr
      refine lv_if_eq (tgt := 66) hx hb dX2_fly_54 (by decide) (fun c_54 => ?_) (fun c_54 => ?_)
      · skip
        have c_54 := bi_z.mp c_54
        have hS9 : S_fly n F (nI k) (nI l) len = (3, 0, F) := by simp only [S_fly, hixk, hixl]; rw [if_pos c_32]; exact if_neg (fun q => c_54 ⟨q.1, q.2.1, q.2.2.1, q.2.2.2.1⟩)
        obtain ⟨sa, hsa⟩ := hE.2.2.2 (118, "the kite cannot fly, or the lane is not free") (by decide +kernel)
        exact vx_throwS (own := RX2) (cls := "java/lang/IllegalStateException") (text := "the kite cannot fly, or the lane is not free") (names := ["java/lang/RuntimeException", "java/lang/Exception"]) (ik := 39) (is := 118) (ic := 43) (sa := sa) (A := A) hx hb hlt hown (by decide +kernel) (by decide +kernel) (hts (.classLink RX2 39 "java/lang/IllegalStateException") (by decide +kernel)) (hts (.initialized "java/lang/IllegalStateException") (by decide +kernel)) hsa (vx_hat (B := [.castable "java/lang/IllegalStateException" "java/lang/IllegalStateException", .declares dR, .declares dE, .declares dT]) (fun w hw => hts w (List.mem_cons_of_mem _ (List.mem_append_right _ hw))) (by decide +kernel) (vx_c (yc.use hE.2.1.2.1) (vx_c (va_Nw.use rfl hE.1.2.1) (vx_c (va_Nw.use rfl hE.1.2.2.1) (vx_c (va_Nw.use rfl hE.1.2.2.2) vx_n))))) (by decide +kernel) hH.1 hH.2 hS (hl.1.trans hml.symm) dX2_fly_66 dX2_fly_69 dX2_fly_70 dX2_fly_72 dX2_fly_75 (fun x hx => (hout x hx).elim) (Nat.le_of_ble_eq_true rfl) (Nat.le_of_ble_eq_true rfl) (Nat.le_of_ble_eq_true rfl) (Nat.le_of_ble_eq_true rfl) hlocks (fun t _ h1 h2 => ⟨(), trivial, Or.inr (Or.inr (⟨rfl, (by rw [hS9])⟩)), h1, fun q hq _ => h2 q hq⟩) (fun z hz => absurd hz List.not_mem_nil) (Nat.le_of_ble_eq_true rfl) (Nat.le_of_ble_eq_true rfl)
      · skip
        have c_54 := bi_nz.mp c_54
        refine lv_aload_n hx hb dX2_fly_57 rfl (lv_at hl 1 rfl) ?_
        refine va_get (D := (dC, dI)) (ci := 2) (v := .ref af) (C := RX2) (T := TX2) (N := 9) hx hb hts hi2 hown hK hP 0 rfl rfl 4 (by decide) lk21 (fun _ h9 => h9) rfl dX2_fly_58 ?_
        refine lv_iload_n hx hb dX2_fly_61 rfl (lv_at hl 3 rfl) ?_
        refine my_aldq hx hb hK hP 3 0 rfl rfl hl10 (Nat.le_of_ble_eq_true rfl) dX2_fly_62 ?_
        rcases hlk : lk (F 6) n (nI l) with _ | k2
        · skip
          refine W_top (y := .null) (show va_rf ((flF F n l).map ka) = _ by rw [flF_at hl10, hlk]; rfl) ?_
          refine lv_ifnullN (tgt := 76) hx hb dX2_fly_63 (by decide) ?_
          refine lv_aload hx hb dX2_fly_76 (lv_at hl 0 rfl) ?_
          refine lv_iload_n hx hb dX2_fly_78 rfl (lv_at hl 3 rfl) ?_
          refine lv_iload_n hx hb dX2_fly_79 rfl (lv_at hl 4 rfl) ?_
          refine lv_aload_n hx hb dX2_fly_80 rfl (lv_at hl 1 rfl) ?_
          refine va_get (D := (dC, dI)) (ci := 2) (v := .int (F 9 0)) (C := RX2) (T := TX2) (N := 9) hx hb hts hi2 hown hK hP 0 rfl rfl 5 (by decide) lk112 (fun _ h9 => h9) rfl dX2_fly_81 ?_
          refine lv_aload_n hx hb dX2_fly_84 rfl (lv_at hl 1 rfl) ?_
          refine va_get (D := (dC, dI)) (ci := 2) (v := .int (F 9 1)) (C := RX2) (T := TX2) (N := 9) hx hb hts hi2 hown hK hP 0 rfl rfl 6 (by decide) lk120 (fun _ h9 => h9) rfl dX2_fly_85 ?_
          have hq1 := one_P hP (cG_k hkn)
          refine vp_callSi (va_Run.run (va_runV (As := [.int (nI l), .int len, .int (F 9 0), .int (F 9 1)]) (rest := []) ⟨hx, hb, hml, hown, hts⟩ (c_X1_endAt l9 dC dI (ka k) k F (nI l) len (F 9 0) (F 9 1) (hI.kd k hkn) (st_ok c_54.2.2.2)) (cwV 4 hts gX2_fly_X1_endAt rfl rfl rfl (by decide +kernel) ⟨Nat.le_of_ble_eq_true rfl, Nat.le_of_ble_eq_true rfl⟩) ⟨PRo.blind, va_recv (hK.sub (tys' := []) [] rfl) hq1 (ci := 1) (q0 := 0) rfl rfl, PRo.pre hq1 (hK.sub (tys' := []) [] rfl) hE⟩ rfl rfl hl.1 rfl (lv_room (Nat.le_of_ble_eq_true rfl)) dX2_fly_88 ⟨Nat.le_of_ble_eq_true rfl, Nat.le_of_ble_eq_true rfl⟩)) (fun r hr => ?_)
          subst hr
          refine W_top (y := .int (en F k (nI l) len)) (rfl) ?_
          refine lv_istore (lv' := [(5, .int (en F k (nI l) len)), (4, .ref (ka k)), (0, .ref h), (1, .int (nI k)), (2, .int (nI l)), (3, .int len)]) hx hb dX2_fly_91 hl (by decide) rfl (fun ls hl => ?_)
          refine lv_aload_n hx hb dX2_fly_93 rfl (lv_at hl 2 rfl) ?_
          refine lv_iload_n hx hb dX2_fly_94 rfl (lv_at hl 4 rfl) ?_
          refine lv_iload hx hb dX2_fly_95 (lv_at hl 0 rfl) ?_
          refine vp_callSi (va_Run.run (va_runV (As := [.int (nI l), .int (en F k (nI l) len)]) (rest := []) ⟨hx, hb, hml, hown, hts⟩ (c_X2_wouldCross l9 dC dI h ak ab af ka kb n p F (nI l) (en F k (nI l) len) hn8 hI.kd hI.fl) (cwV 2 hts gX2_fly_X2_wouldCross rfl rfl rfl (by decide +kernel) ⟨Nat.le_of_ble_eq_true rfl, Nat.le_of_ble_eq_true rfl⟩) ⟨PRo.blind, va_recv hK hP (ci := 2) (q0 := 0) rfl rfl, PRo.pre hP hK hE⟩ rfl rfl hl.1 rfl (lv_room (Nat.le_of_ble_eq_true rfl)) dX2_fly_97 ⟨Nat.le_of_ble_eq_true rfl, Nat.le_of_ble_eq_true rfl⟩)) (fun r9 hr9 => ?_)
          rcases hr9 with ⟨rfl, lx, hlx, hx9⟩ | ⟨rfl, hx9⟩
          · skip
            refine lv_if_eq (tgt := 113) hx hb dX2_fly_100 (by decide) (fun c_100 => absurd c_100 (by decide)) (fun _ => ?_)
            have hS9 : S_fly n F (nI k) (nI l) len = (3, 0, F) := by simp only [S_fly, hixk, hixl]; rw [if_pos c_32]; exact if_neg (fun q => (xcr_clr hI hl10 hlk rfl).mpr q.2.2.2.2.2 lx hlx hx9)
            obtain ⟨sa, hsa⟩ := hE.2.2.2 (131, "lines would cross") (by decide +kernel)
            exact vx_throwS (own := RX2) (cls := "java/lang/IllegalStateException") (text := "lines would cross") (names := ["java/lang/RuntimeException", "java/lang/Exception"]) (ik := 39) (is := 131) (ic := 43) (sa := sa) (A := A) hx hb hlt hown (by decide +kernel) (by decide +kernel) (hts (.classLink RX2 39 "java/lang/IllegalStateException") (by decide +kernel)) (hts (.initialized "java/lang/IllegalStateException") (by decide +kernel)) hsa (vx_hat (B := [.castable "java/lang/IllegalStateException" "java/lang/IllegalStateException", .declares dR, .declares dE, .declares dT]) (fun w hw => hts w (List.mem_cons_of_mem _ (List.mem_append_right _ hw))) (by decide +kernel) (vx_c (yc.use hE.2.1.2.1) (vx_c (va_Nw.use rfl hE.1.2.1) (vx_c (va_Nw.use rfl hE.1.2.2.1) (vx_c (va_Nw.use rfl hE.1.2.2.2) vx_n))))) (by decide +kernel) hH.1 hH.2 hS (hl.1.trans hml.symm) dX2_fly_103 dX2_fly_106 dX2_fly_107 dX2_fly_109 dX2_fly_112 (fun x hx => (hout x hx).elim) (Nat.le_of_ble_eq_true rfl) (Nat.le_of_ble_eq_true rfl) (Nat.le_of_ble_eq_true rfl) (Nat.le_of_ble_eq_true rfl) hlocks (fun t _ h1 h2 => ⟨(), trivial, Or.inr (Or.inr (⟨rfl, (by rw [hS9])⟩)), h1, fun q hq _ => h2 q hq⟩) (fun z hz => absurd hz List.not_mem_nil) (Nat.le_of_ble_eq_true rfl) (Nat.le_of_ble_eq_true rfl)
          · skip
            refine lv_if_eq (tgt := 113) hx hb dX2_fly_100 (by decide) (fun _ => ?_) (fun c_100 => absurd (by decide) c_100)
            refine lv_aload hx hb dX2_fly_113 (lv_at hl 1 rfl) ?_
            refine lv_iload_n hx hb dX2_fly_115 rfl (lv_at hl 4 rfl) ?_
            refine va_put (D := (dC, dI)) (ci := 1) (v := .int (nI l)) (ty := .int) (C := RX1) (T := TX1) (N := 9) hx hb hts hi1 tyX1 tyX1_ok nmX1 hown hK hP hD hS (k + 4) (cG_k hkn) rfl 7 (by decide) lk133 (fun _ h9 => h9) rfl (by decide +kernel) rfl rfl (Nat.le_of_ble_eq_true rfl) dX2_fly_116 (fun H locs hP hD hS => ?_)
            have hP : va_P (dC, dI) vwCl (cG tK tB h ak ab af ka kb n p (up F 6 k (nI l)) (flF F n) (hbF F n)) H := P_eq (putk (i := 6) (v := nI l) hkn (by decide) (kE_up6 F k _)) hP
            have hD : va_D A (cG tK tB h ak ab af ka kb n p (up F 6 k (nI l)) (flF F n) (hbF F n)) := D_eq (putk (i := 6) (v := nI l) hkn (by decide) (kE_up6 F k _)) hD
            refine lv_aload hx hb dX2_fly_119 (lv_at hl 1 rfl) ?_
            refine lv_iload_n hx hb dX2_fly_121 rfl (lv_at hl 5 rfl) ?_
            refine va_put (D := (dC, dI)) (ci := 1) (v := .int len) (ty := .int) (C := RX1) (T := TX1) (N := 9) hx hb hts hi1 tyX1 tyX1_ok nmX1 hown hK hP hD hS (k + 4) (cG_k hkn) rfl 8 (by decide) lk136 (fun _ h9 => h9) rfl (by decide +kernel) rfl rfl (Nat.le_of_ble_eq_true rfl) dX2_fly_122 (fun H locs hP hD hS => ?_)
            have hP : va_P (dC, dI) vwCl (cG tK tB h ak ab af ka kb n p (up (up F 6 k (nI l)) 7 k len) (flF F n) (hbF F n)) H := P_eq (putk (i := 7) (v := len) hkn (by decide) (kE_up7 (up F 6 k (nI l)) k _)) hP
            have hD : va_D A (cG tK tB h ak ab af ka kb n p (up (up F 6 k (nI l)) 7 k len) (flF F n) (hbF F n)) := D_eq (putk (i := 7) (v := len) hkn (by decide) (kE_up7 (up F 6 k (nI l)) k _)) hD
            refine lv_aload_n hx hb dX2_fly_125 rfl (lv_at hl 2 rfl) ?_
            refine va_get (D := (dC, dI)) (ci := 2) (v := .ref af) (C := RX2) (T := TX2) (N := 9) hx hb hts hi2 hown hK hP 0 rfl rfl 4 (by decide) lk21 (fun _ h9 => h9) rfl dX2_fly_126 ?_
            refine lv_iload_n hx hb dX2_fly_129 rfl (lv_at hl 4 rfl) ?_
            refine lv_aload hx hb dX2_fly_130 (lv_at hl 1 rfl) ?_
            refine my_astq hx hb hK hP hD hS 3 0 (k + 4) 1 rfl rfl (cG_k hkn) rfl hl10 (Nat.le_of_ble_eq_true rfl) dX2_fly_132 (fun H locs hP hD hS => ?_)
            have hP : va_P (dC, dI) vwCl (cW tK tB h ak ab af ka kb n p (up (up F 6 k (nI l)) 7 k len)) H := P_eq ((cG_setf (l := l) (o := some k)).trans (cG_flhb ((flF_take hl10 hkn c_54.2.2.1 hlk).trans (flF_up (by decide)).symm) (fun j _ => congrFun ((hbF_up (by decide)).trans (hbF_up (by decide))).symm j))) hP
            have hD : va_D A (cW tK tB h ak ab af ka kb n p (up (up F 6 k (nI l)) 7 k len)) := D_eq ((cG_setf (l := l) (o := some k)).trans (cG_flhb ((flF_take hl10 hkn c_54.2.2.1 hlk).trans (flF_up (by decide)).symm) (fun j _ => congrFun ((hbF_up (by decide)).trans (hbF_up (by decide))).symm j))) hD
            refine lv_iload hx hb dX2_fly_133 (lv_at hl 0 rfl) ?_
            have hS9 : S_fly n F (nI k) (nI l) len = (0, en F k (nI l) len, up (up F 6 k (nI l)) 7 k len) := by simp only [S_fly, hixk, hixl]; rw [if_pos c_32]; exact if_pos ⟨c_54.1, c_54.2.1, c_54.2.2.1, c_54.2.2.2, hlk, (xcr_clr hI hl10 hlk rfl).mp hx9⟩
            refine vx_ret ?_
            refine W.widen (k := 2) (n := 12) (Nat.le_of_ble_eq_true rfl) (Nat.le_of_ble_eq_true rfl) ?_
            exact W.iret (v := en F k (nI l) len) hx hb hr (fun t ht hW => cQ_mk ka kb (by rw [hS9]) (by rw [hS9]) (by rw [hS9, ht]; exact hP) (by rw [hS9]; exact hD) (hS.F ht)) hS.2.2 dX2_fly_135
        · skip
          refine W_top (y := .ref (ka k2)) (show va_rf ((flF F n l).map ka) = _ by rw [flF_at hl10, hlk]; rfl) ?_
          have hlkn : k2 < n := (lk_some hlk).1
          refine lv_ifnull hx hb dX2_fly_63 ?_
          have hS9 : S_fly n F (nI k) (nI l) len = (3, 0, F) := by simp only [S_fly, hixk, hixl]; rw [if_pos c_32]; exact if_neg (fun q => by rw [q.2.2.2.2.1] at hlk; cases hlk)
          obtain ⟨sa, hsa⟩ := hE.2.2.2 (118, "the kite cannot fly, or the lane is not free") (by decide +kernel)
          exact vx_throwS (own := RX2) (cls := "java/lang/IllegalStateException") (text := "the kite cannot fly, or the lane is not free") (names := ["java/lang/RuntimeException", "java/lang/Exception"]) (ik := 39) (is := 118) (ic := 43) (sa := sa) (A := A) hx hb hlt hown (by decide +kernel) (by decide +kernel) (hts (.classLink RX2 39 "java/lang/IllegalStateException") (by decide +kernel)) (hts (.initialized "java/lang/IllegalStateException") (by decide +kernel)) hsa (vx_hat (B := [.castable "java/lang/IllegalStateException" "java/lang/IllegalStateException", .declares dR, .declares dE, .declares dT]) (fun w hw => hts w (List.mem_cons_of_mem _ (List.mem_append_right _ hw))) (by decide +kernel) (vx_c (yc.use hE.2.1.2.1) (vx_c (va_Nw.use rfl hE.1.2.1) (vx_c (va_Nw.use rfl hE.1.2.2.1) (vx_c (va_Nw.use rfl hE.1.2.2.2) vx_n))))) (by decide +kernel) hH.1 hH.2 hS (hl.1.trans hml.symm) dX2_fly_66 dX2_fly_69 dX2_fly_70 dX2_fly_72 dX2_fly_75 (fun x hx => (hout x hx).elim) (Nat.le_of_ble_eq_true rfl) (Nat.le_of_ble_eq_true rfl) (Nat.le_of_ble_eq_true rfl) (Nat.le_of_ble_eq_true rfl) hlocks (fun t _ h1 h2 => ⟨(), trivial, Or.inr (Or.inr (⟨rfl, (by rw [hS9])⟩)), h1, fun q hq _ => h2 q hq⟩) (fun z hz => absurd hz List.not_mem_nil) (Nat.le_of_ble_eq_true rfl) (Nat.le_of_ble_eq_true rfl)
    · skip
      have c_32 := bi_z.mp c_32
      have hS9 : S_fly n F (nI k) (nI l) len = (2, 0, F) := by simp only [S_fly, hixk, hixl]; exact if_neg c_32
      obtain ⟨sa, hsa⟩ := hE.2.2.2 (110, "length is out of range") (by decide +kernel)
      exact vx_throwS (own := RX2) (cls := "java/lang/IllegalArgumentException") (text := "length is out of range") (names := ["java/lang/RuntimeException", "java/lang/Exception"]) (ik := 28) (is := 110) (ic := 32) (sa := sa) (A := A) hx hb hlt hown (by decide +kernel) (by decide +kernel) (hts (.classLink RX2 28 "java/lang/IllegalArgumentException") (by decide +kernel)) (hts (.initialized "java/lang/IllegalArgumentException") (by decide +kernel)) hsa (vx_hat (B := [.castable "java/lang/IllegalArgumentException" "java/lang/IllegalArgumentException", .declares dR, .declares dE, .declares dT]) (fun w hw => hts w (List.mem_cons_of_mem _ (List.mem_append_left _ (List.mem_append_right _ hw)))) (by decide +kernel) (vx_c (yc.use hE.2.1.1) (vx_c (va_Nw.use rfl hE.1.2.1) (vx_c (va_Nw.use rfl hE.1.2.2.1) (vx_c (va_Nw.use rfl hE.1.2.2.2) vx_n))))) (by decide +kernel) hH.1 hH.2 hS (hl.1.trans hml.symm) dX2_fly_35 dX2_fly_38 dX2_fly_39 dX2_fly_41 dX2_fly_44 (fun x hx => (hout x hx).elim) (Nat.le_of_ble_eq_true rfl) (Nat.le_of_ble_eq_true rfl) (Nat.le_of_ble_eq_true rfl) (Nat.le_of_ble_eq_true rfl) hlocks (fun t _ h1 h2 => ⟨(), trivial, Or.inr (Or.inl (⟨rfl, (by rw [hS9])⟩)), h1, fun q hq _ => h2 q hq⟩) (fun z hz => absurd hz List.not_mem_nil) (Nat.le_of_ble_eq_true rfl) (Nat.le_of_ble_eq_true rfl)
  · skip
    refine vp_callSi (va_Run.run (va_runS (As := [.int ln]) (rest := []) ⟨hx, hb, hml, hown, hts⟩ (c_X2_isLane l9 ln) (va_cwS 1 hts gX2_fly_X2_isLane rfl rfl rfl (by decide +kernel) ⟨Nat.le_of_ble_eq_true rfl, Nat.le_of_ble_eq_true rfl⟩) ⟨fun a U g mk q => q, fun U hU hW => ⟨rfl, trivial⟩⟩ rfl rfl hl.1 rfl (lv_room (Nat.le_of_ble_eq_true rfl)) dX2_fly_8 ⟨Nat.le_of_ble_eq_true rfl, Nat.le_of_ble_eq_true rfl⟩)) (fun r hr => ?_)
    subst hr
    refine lv_if_ne (tgt := 24) hx hb dX2_fly_11 (by decide) (fun c_11 => absurd (bi_f hno) c_11) (fun _ => ?_)
    have hS9 : S_fly n F (nI k) ln len = (1, 0, F) := by simp only [S_fly, hixk, ix_f hno]
    obtain ⟨sa, hsa⟩ := hE.2.2.2 (107, "there is no such lane") (by decide +kernel)
    exact vx_throwS (own := RX2) (cls := "java/lang/IndexOutOfBoundsException") (text := "there is no such lane") (names := ["java/lang/RuntimeException", "java/lang/Exception"]) (ik := 105) (is := 107) (ic := 109) (sa := sa) (A := A) hx hb hlt hown (by decide +kernel) (by decide +kernel) (hts (.classLink RX2 105 "java/lang/IndexOutOfBoundsException") (by decide +kernel)) (hts (.initialized "java/lang/IndexOutOfBoundsException") (by decide +kernel)) hsa (vx_hat (B := [.castable "java/lang/IndexOutOfBoundsException" "java/lang/IndexOutOfBoundsException", .declares dR, .declares dE, .declares dT]) (fun w hw => hts w (List.mem_cons_of_mem _ (List.mem_append_left _ (List.mem_append_left _ (List.mem_append_right _ hw))))) (by decide +kernel) (vx_c (yc.use hE.2.1.2.2) (vx_c (va_Nw.use rfl hE.1.2.1) (vx_c (va_Nw.use rfl hE.1.2.2.1) (vx_c (va_Nw.use rfl hE.1.2.2.2) vx_n))))) (by decide +kernel) hH.1 hH.2 hS (hl.1.trans hml.symm) dX2_fly_14 dX2_fly_17 dX2_fly_18 dX2_fly_20 dX2_fly_23 (fun x hx => (hout x hx).elim) (Nat.le_of_ble_eq_true rfl) (Nat.le_of_ble_eq_true rfl) (Nat.le_of_ble_eq_true rfl) (Nat.le_of_ble_eq_true rfl) hlocks (fun t _ h1 h2 => ⟨(), trivial, Or.inl (⟨rfl, (by rw [hS9])⟩), h1, fun q hq _ => h2 q hq⟩) (fun z hz => absurd hz List.not_mem_nil) (Nat.le_of_ble_eq_true rfl) (Nat.le_of_ble_eq_true rfl)

set_option maxHeartbeats 4000000 in
set_option maxRecDepth 100000 in
theorem c_X2_wind (l9 : Launch) (hlt : l9.stackTraces = false) (dC : Nat → ClassId) (dI : Nat → Nat → Nat) (sz : Nat) {tK tB : ClassId} (h ak ab af : Nat) (ka kb : Nat → Nat) (n p : Nat) (F : Rows) (sp sd : Int32) (hI : Inv n p F) : vx_Met l9 yX2_wind wsX2_wind ({ frames := 6, cells := 1, slots := 6, locals := 136 }) (va_Pc [.ref h, .int sp, .int sd] (PWr dC dI [(tK, .object "Windlane$Kite"), (tB, .object "Windlane$Borrower")] (cW tK tB h ak ab af ka kb n p F) sz)) (cQ dC dI tK tB h ak ab af (va_A (cW tK tB h ak ab af ka kb n p F) sz) n p ((S_wind n F sp sd).2.2) ((S_wind n F sp sd).1) ((S_wind n F sp sd).2.1)) (vx_X (fun _ : Unit => True) (fun E _ _ => (E = "java/lang/IllegalArgumentException" ∧ (S_wind n F sp sd).1 = 1)) (fun _ => False)) 1 6 (va_A (cW tK tB h ak ab af ka kb n p F) sz) := by
  refine vx_ofW (cc := cX2_wind) (maxL := 4) (ret := (some .int)) (by decide) rfl ?_
  intro p9 e9 s m args below meth c s₁ B hml hout hv
  obtain ⟨rfl, hsz, hP, hK, hD0, hE, hH⟩ := hv
  have hx := B.exec
  have hb := B.bytes
  have hr := B.returns
  have hts := atoms_spec (ws := wsX2_wind) B.pre
  have hown : s.vm.findClass RX2 = some m.cls := findClass_of_methodNamed B.named
  have hlocks := B.notSynchronized
  have hi2 : ∀ w ∈ u_ws RX2 TX2 9, w ∈ wsX2_wind := by decide +kernel
  have lk112 := hts (.fieldLink RX2 112 "Windlane" "windSpeed" "I") (by decide +kernel)
  have lk120 := hts (.fieldLink RX2 120 "Windlane" "windSide" "I") (by decide +kernel)
  have lk149 := hts (.fieldLink RX2 149 "Windlane" "calledCount" "I") (by decide +kernel)
  subst hsz
  have hD := hD0.self (sz := s.heap.size)
  generalize hAe : va_A (cW tK tB h ak ab af ka kb n p F) s.heap.size = A at hD hH ⊢
  have hA : ∀ q : Nat, s.heap.size ≤ q → A q := fun q h => by rw [← hAe]; exact Or.inr h
  have hS : va_S A s.heap s.heap [] := va_S.rf
  have hP : va_P (dC, dI) vwCl (cW tK tB h ak ab af ka kb n p F) s.heap := hP
  have hn8 : n ≤ 8 := hI.1.1
  have hp8 : p ≤ 8 := hI.1.2
  have hl := lv_entry ([.ref h, .int sp, .int sd]) (n := 4) (Nat.le_of_ble_eq_true rfl)
  rw [lg_entry_eq]
  generalize (lg_sl ([.ref h, .int sp, .int sd]) ++ List.replicate (4 - (lg_sl ([.ref h, .int sp, .int sd])).length) Slot.unset).toArray = ls at hl ⊢
  have hl : lv_has ls 4 [(0, .ref h), (1, .int sp), (2, .int sd)] := hl
  refine lv_iload_n hx hb dX2_wind_0 rfl (lv_at hl 1 rfl) ?_
  refine vp_callSi (va_Run.run (va_runS (As := [.int sp]) (rest := []) ⟨hx, hb, hml, hown, hts⟩ (c_X2_isSpeed l9 sp) (va_cwS 1 hts gX2_wind_X2_isSpeed rfl rfl rfl (by decide +kernel) ⟨Nat.le_of_ble_eq_true rfl, Nat.le_of_ble_eq_true rfl⟩) ⟨fun a U g mk q => q, fun U hU hW => ⟨rfl, trivial⟩⟩ rfl rfl hl.1 rfl (lv_room (Nat.le_of_ble_eq_true rfl)) dX2_wind_1 ⟨Nat.le_of_ble_eq_true rfl, Nat.le_of_ble_eq_true rfl⟩)) (fun r hr => ?_)
  subst hr
  refine lv_if_eq (tgt := 17) hx hb dX2_wind_4 (by decide) (fun c_4 => ?_) (fun c_4 => ?_)
  · skip
    have c_4 := bi_z.mp c_4
    have hS9 : S_wind n F sp sd = (1, 0, F) := by rw [S_wind]; exact if_neg (fun q => c_4 q.1)
    obtain ⟨sa, hsa⟩ := hE.2.2.2 (147, "speed or side is out of range") (by decide +kernel)
    exact vx_throwS (own := RX2) (cls := "java/lang/IllegalArgumentException") (text := "speed or side is out of range") (names := ["java/lang/RuntimeException", "java/lang/Exception"]) (ik := 28) (is := 147) (ic := 32) (sa := sa) (A := A) hx hb hlt hown (by decide +kernel) (by decide +kernel) (hts (.classLink RX2 28 "java/lang/IllegalArgumentException") (by decide +kernel)) (hts (.initialized "java/lang/IllegalArgumentException") (by decide +kernel)) hsa (vx_hat (B := [.castable "java/lang/IllegalArgumentException" "java/lang/IllegalArgumentException", .declares dR, .declares dE, .declares dT]) (fun w hw => hts w (List.mem_cons_of_mem _ (List.mem_append_right _ hw))) (by decide +kernel) (vx_c (yc.use hE.2.1.1) (vx_c (va_Nw.use rfl hE.1.2.1) (vx_c (va_Nw.use rfl hE.1.2.2.1) (vx_c (va_Nw.use rfl hE.1.2.2.2) vx_n))))) (by decide +kernel) hH.1 hH.2 hS (hl.1.trans hml.symm) dX2_wind_17 dX2_wind_20 dX2_wind_21 dX2_wind_23 dX2_wind_26 (fun x hx => (hout x hx).elim) (Nat.le_of_ble_eq_true rfl) (Nat.le_of_ble_eq_true rfl) (Nat.le_of_ble_eq_true rfl) (Nat.le_of_ble_eq_true rfl) hlocks (fun t _ h1 h2 => ⟨(), trivial, ⟨rfl, (by rw [hS9])⟩, h1, fun q hq _ => h2 q hq⟩) (fun z hz => absurd hz List.not_mem_nil) (Nat.le_of_ble_eq_true rfl) (Nat.le_of_ble_eq_true rfl)
  · skip
    have c_4 := bi_nz.mp c_4
    refine lv_iload_n hx hb dX2_wind_7 rfl (lv_at hl 2 rfl) ?_
    refine lv_bipush (v := (-5)) hx hb dX2_wind_8 (by decide) ?_
    refine lv_iconst (v := 5) hx hb dX2_wind_10 (by decide) ?_
    refine vp_callSi (va_Run.run (va_runS (As := [.int sd, .int (-5), .int 5]) (rest := []) ⟨hx, hb, hml, hown, hts⟩ (c_X2_isWithin l9 sd (-5) 5) (va_cwS 3 hts gX2_wind_X2_isWithin rfl rfl rfl (by decide +kernel) ⟨Nat.le_of_ble_eq_true rfl, Nat.le_of_ble_eq_true rfl⟩) ⟨fun a U g mk q => q, fun U hU hW => ⟨rfl, trivial⟩⟩ rfl rfl hl.1 rfl (lv_room (Nat.le_of_ble_eq_true rfl)) dX2_wind_11 ⟨Nat.le_of_ble_eq_true rfl, Nat.le_of_ble_eq_true rfl⟩)) (fun r hr => ?_)
    subst hr
    refine lv_if_ne (tgt := 27) hx hb dX2_wind_14 (by decide) (fun c_14 => ?_) (fun c_14 => ?_)
    · skip
      have c_14 := bi_nz.mp c_14
      refine lv_aload_n hx hb dX2_wind_27 rfl (lv_at hl 0 rfl) ?_
      refine lv_iload_n hx hb dX2_wind_28 rfl (lv_at hl 1 rfl) ?_
      refine va_put (D := (dC, dI)) (ci := 2) (v := .int sp) (ty := .int) (C := RX2) (T := TX2) (N := 9) hx hb hts hi2 tyX2 tyX2_ok nmX2 hown hK hP hD hS 0 rfl rfl 5 (by decide) lk112 (fun _ h9 => h9) rfl (by decide +kernel) rfl rfl (Nat.le_of_ble_eq_true rfl) dX2_wind_29 (fun H locs hP hD hS => ?_)
      have hP : va_P (dC, dI) vwCl (cG tK tB h ak ab af ka kb n p (up F 9 0 sp) (flF F n) (hbF F n)) H := P_eq (rfl) hP
      have hD : va_D A (cG tK tB h ak ab af ka kb n p (up F 9 0 sp) (flF F n) (hbF F n)) := D_eq (rfl) hD
      refine lv_aload_n hx hb dX2_wind_32 rfl (lv_at hl 0 rfl) ?_
      refine lv_iload_n hx hb dX2_wind_33 rfl (lv_at hl 2 rfl) ?_
      refine va_put (D := (dC, dI)) (ci := 2) (v := .int sd) (ty := .int) (C := RX2) (T := TX2) (N := 9) hx hb hts hi2 tyX2 tyX2_ok nmX2 hown hK hP hD hS 0 rfl rfl 6 (by decide) lk120 (fun _ h9 => h9) rfl (by decide +kernel) rfl rfl (Nat.le_of_ble_eq_true rfl) dX2_wind_34 (fun H locs hP hD hS => ?_)
      have hP : va_P (dC, dI) vwCl (cG tK tB h ak ab af ka kb n p (up (up F 9 0 sp) 9 1 sd) (flF F n) (hbF F n)) H := P_eq (rfl) hP
      have hD : va_D A (cG tK tB h ak ab af ka kb n p (up (up F 9 0 sp) 9 1 sd) (flF F n) (hbF F n)) := D_eq (rfl) hD
      refine lv_aload_n hx hb dX2_wind_37 rfl (lv_at hl 0 rfl) ?_
      refine va_get (D := (dC, dI)) (ci := 2) (v := .int (F 9 3)) (C := RX2) (T := TX2) (N := 9) hx hb hts hi2 hown hK hP 0 rfl rfl 8 (by decide) lk149 (fun _ h9 => h9) rfl dX2_wind_38 ?_
      refine lv_istore_n (lv' := [(3, .int (F 9 3)), (0, .ref h), (1, .int sp), (2, .int sd)]) hx hb dX2_wind_41 rfl hl (by decide) rfl (fun ls hl => ?_)
      refine lv_aload_n hx hb dX2_wind_42 rfl (lv_at hl 1 rfl) ?_
      have hP : va_P (dC, dI) vwCl (cW tK tB h ak ab af ka kb n p (up (up F 9 0 sp) 9 1 sd)) H := hP
      have hD : va_D A (cW tK tB h ak ab af ka kb n p (up (up F 9 0 sp) 9 1 sd)) := hD
      refine va_callv (va_runV (As := []) (rest := []) ⟨hx, hb, hml, hown, hts⟩ (c_X2_callDownUnheld l9 dC dI H.size h ak ab af ka kb n p (up (up F 9 0 sp) 9 1 sd) hn8 hI.kd hI.2.2.2.1.2 hI.lr) (cwV 0 hts gX2_wind_X2_callDownUnheld rfl rfl rfl (by decide +kernel) ⟨Nat.le_of_ble_eq_true rfl, Nat.le_of_ble_eq_true rfl⟩) ⟨PWr.blind, va_recv hK hP (ci := 2) (q0 := 0) rfl rfl, PWr.pre hP hK hD hE ((hH.kept hS.2.1).narrow (A_in hD hS hA))⟩ rfl rfl hl.1 rfl (lv_room (Nat.le_of_ble_eq_true rfl)) dX2_wind_43 ⟨Nat.le_of_ble_eq_true rfl, Nat.le_of_ble_eq_true rfl⟩) hS (fun q _ hq => A_in hD hS hA q hq) (A_in hD hS hA) (fun u9 t9 H locs ht9 hvm hw9 hB hz1 hk1 hS => ?_)
      have hP : va_P (dC, dI) vwCl (cW tK tB h ak ab af ka kb n p (uh (up (up F 9 0 sp) 9 1 sd) n)) H := by rw [← ht9]; exact hB
      have hD : va_D A (cW tK tB h ak ab af ka kb n p (uh (up (up F 9 0 sp) 9 1 sd) n)) := cG_D hD
      refine lv_aload_n hx hb dX2_wind_46 rfl (lv_at hl 1 rfl) ?_
      have hF := uh_HF (F := (up (up F 9 0 sp) 9 1 sd)) hn8 hI.kd hI.2.2.2.1.2 hI.lr
      refine va_callv (va_runV (As := []) (rest := []) ⟨hx, hb, hml, hown, hts⟩ (c_X2_callDownCrossing l9 dC dI H.size h ak ab af ka kb n p (uh (up (up F 9 0 sp) 9 1 sd) n) hF) (cwV 0 hts gX2_wind_X2_callDownCrossing rfl rfl rfl (by decide +kernel) ⟨Nat.le_of_ble_eq_true rfl, Nat.le_of_ble_eq_true rfl⟩) ⟨PWr.blind, va_recv hK hP (ci := 2) (q0 := 0) rfl rfl, PWr.pre hP hK hD hE ((hH.kept hS.2.1).narrow (A_in hD hS hA))⟩ rfl rfl hl.1 rfl (lv_room (Nat.le_of_ble_eq_true rfl)) dX2_wind_47 ⟨Nat.le_of_ble_eq_true rfl, Nat.le_of_ble_eq_true rfl⟩) hS (fun q _ hq => A_in hD hS hA q hq) (A_in hD hS hA) (fun u9 t9 H locs ht9 hvm hw9 hB hz1 hk1 hS => ?_)
      have hP : va_P (dC, dI) vwCl (cW tK tB h ak ab af ka kb n p (stl n 10 (uh (up (up F 9 0 sp) 9 1 sd) n))) H := by rw [← ht9]; exact hB
      have hD : va_D A (cW tK tB h ak ab af ka kb n p (stl n 10 (uh (up (up F 9 0 sp) 9 1 sd) n))) := cG_D hD
      refine lv_aload_n hx hb dX2_wind_50 rfl (lv_at hl 1 rfl) ?_
      refine va_get (D := (dC, dI)) (ci := 2) (v := .int ((stl n 10 (uh (up (up F 9 0 sp) 9 1 sd) n)) 9 3)) (C := RX2) (T := TX2) (N := 9) hx hb hts hi2 hown hK hP 0 rfl rfl 8 (by decide) lk149 (fun _ h9 => h9) rfl dX2_wind_51 ?_
      refine lv_iload_n hx hb dX2_wind_54 rfl (lv_at hl 0 rfl) ?_
      refine lv_isub hx hb dX2_wind_55 ?_
      have hS9 : S_wind n F sp sd = (0, stl n 10 (uh (up (up F 9 0 sp) 9 1 sd) n) 9 3 - F 9 3, stl n 10 (uh (up (up F 9 0 sp) 9 1 sd) n)) := by rw [S_wind]; exact if_pos ⟨c_4, c_14⟩
      refine vx_ret ?_
      refine W.widen (k := 1) (n := 6) (Nat.le_of_ble_eq_true rfl) (Nat.le_of_ble_eq_true rfl) ?_
      exact W.iret (v := ((stl n 10 (uh (up (up F 9 0 sp) 9 1 sd) n)) 9 3) - (F 9 3)) hx hb hr (fun t ht hW => cQ_mk ka kb (by rw [hS9]) (by rw [hS9]) (by rw [hS9, ht]; exact hP) (by rw [hS9]; exact hD) (hS.F ht)) hS.2.2 dX2_wind_56
    · skip
      have c_14 := bi_z.mp c_14
      have hS9 : S_wind n F sp sd = (1, 0, F) := by rw [S_wind]; exact if_neg (fun q => c_14 q.2)
      obtain ⟨sa, hsa⟩ := hE.2.2.2 (147, "speed or side is out of range") (by decide +kernel)
      exact vx_throwS (own := RX2) (cls := "java/lang/IllegalArgumentException") (text := "speed or side is out of range") (names := ["java/lang/RuntimeException", "java/lang/Exception"]) (ik := 28) (is := 147) (ic := 32) (sa := sa) (A := A) hx hb hlt hown (by decide +kernel) (by decide +kernel) (hts (.classLink RX2 28 "java/lang/IllegalArgumentException") (by decide +kernel)) (hts (.initialized "java/lang/IllegalArgumentException") (by decide +kernel)) hsa (vx_hat (B := [.castable "java/lang/IllegalArgumentException" "java/lang/IllegalArgumentException", .declares dR, .declares dE, .declares dT]) (fun w hw => hts w (List.mem_cons_of_mem _ (List.mem_append_right _ hw))) (by decide +kernel) (vx_c (yc.use hE.2.1.1) (vx_c (va_Nw.use rfl hE.1.2.1) (vx_c (va_Nw.use rfl hE.1.2.2.1) (vx_c (va_Nw.use rfl hE.1.2.2.2) vx_n))))) (by decide +kernel) hH.1 hH.2 hS (hl.1.trans hml.symm) dX2_wind_17 dX2_wind_20 dX2_wind_21 dX2_wind_23 dX2_wind_26 (fun x hx => (hout x hx).elim) (Nat.le_of_ble_eq_true rfl) (Nat.le_of_ble_eq_true rfl) (Nat.le_of_ble_eq_true rfl) (Nat.le_of_ble_eq_true rfl) hlocks (fun t _ h1 h2 => ⟨(), trivial, ⟨rfl, (by rw [hS9])⟩, h1, fun q hq _ => h2 q hq⟩) (fun z hz => absurd hz List.not_mem_nil) (Nat.le_of_ble_eq_true rfl) (Nat.le_of_ble_eq_true rfl)

set_option maxHeartbeats 4000000 in
set_option maxRecDepth 100000 in
theorem c_X2_pass (l9 : Launch) (hlt : l9.stackTraces = false) (dC : Nat → ClassId) (dI : Nat → Nat → Nat) (sz : Nat) {tK tB : ClassId} (h ak ab af : Nat) (ka kb : Nat → Nat) (n p : Nat) (F : Rows) (hs : Int32) (hI : Inv n p F) : vx_Met l9 yX2_pass wsX2_pass ({ frames := 6, cells := 1, slots := 6, locals := 82 }) (va_Pc [.ref h, .int hs] (PWr dC dI [(tK, .object "Windlane$Kite"), (tB, .object "Windlane$Borrower")] (cW tK tB h ak ab af ka kb n p F) sz)) (cQ dC dI tK tB h ak ab af (va_A (cW tK tB h ak ab af ka kb n p F) sz) n p ((S_pass n F hs).2.2) ((S_pass n F hs).1) ((S_pass n F hs).2.1)) (vx_X (fun _ : Unit => True) (fun E _ _ => (E = "java/lang/IllegalArgumentException" ∧ (S_pass n F hs).1 = 1)) (fun _ => False)) 1 6 (va_A (cW tK tB h ak ab af ka kb n p F) sz) := by
  refine vx_ofW (cc := cX2_pass) (maxL := 3) (ret := (some .int)) (by decide) rfl ?_
  intro p9 e9 s m args below meth c s₁ B hml hout hv
  obtain ⟨rfl, hsz, hP, hK, hD0, hE, hH⟩ := hv
  have hx := B.exec
  have hb := B.bytes
  have hr := B.returns
  have hts := atoms_spec (ws := wsX2_pass) B.pre
  have hown : s.vm.findClass RX2 = some m.cls := findClass_of_methodNamed B.named
  have hlocks := B.notSynchronized
  subst hsz
  have hD := hD0.self (sz := s.heap.size)
  generalize hAe : va_A (cW tK tB h ak ab af ka kb n p F) s.heap.size = A at hD hH ⊢
  have hA : ∀ q : Nat, s.heap.size ≤ q → A q := fun q h => by rw [← hAe]; exact Or.inr h
  have hS : va_S A s.heap s.heap [] := va_S.rf
  have hP : va_P (dC, dI) vwCl (cW tK tB h ak ab af ka kb n p F) s.heap := hP
  have hn8 : n ≤ 8 := hI.1.1
  have hp8 : p ≤ 8 := hI.1.2
  have hl := lv_entry ([.ref h, .int hs]) (n := 3) (Nat.le_of_ble_eq_true rfl)
  rw [lg_entry_eq]
  generalize (lg_sl ([.ref h, .int hs]) ++ List.replicate (3 - (lg_sl ([.ref h, .int hs])).length) Slot.unset).toArray = ls at hl ⊢
  have hl : lv_has ls 3 [(0, .ref h), (1, .int hs)] := hl
  refine lv_iload_n hx hb dX2_pass_0 rfl (lv_at hl 1 rfl) ?_
  refine lv_iconst (v := 1) hx hb dX2_pass_1 (by decide) ?_
  refine lv_bipush (v := 24) hx hb dX2_pass_2 (by decide) ?_
  refine vp_callSi (va_Run.run (va_runS (As := [.int hs, .int 1, .int 24]) (rest := []) ⟨hx, hb, hml, hown, hts⟩ (c_X2_isWithin l9 hs 1 24) (va_cwS 3 hts gX2_pass_X2_isWithin rfl rfl rfl (by decide +kernel) ⟨Nat.le_of_ble_eq_true rfl, Nat.le_of_ble_eq_true rfl⟩) ⟨fun a U g mk q => q, fun U hU hW => ⟨rfl, trivial⟩⟩ rfl rfl hl.1 rfl (lv_room (Nat.le_of_ble_eq_true rfl)) dX2_pass_4 ⟨Nat.le_of_ble_eq_true rfl, Nat.le_of_ble_eq_true rfl⟩)) (fun r hr => ?_)
  subst hr
  refine lv_if_ne (tgt := 20) hx hb dX2_pass_7 (by decide) (fun c_7 => ?_) (fun c_7 => ?_)
  · skip
    have c_7 := bi_nz.mp c_7
    obtain ⟨m0, hm0, rfl⟩ : ∃ m0, m0 < 25 ∧ hs = nI m0 := inR_of (win_inR c_7 (by decide) (by decide))
    have hm1 : 1 ≤ m0 := by have q := c_7.1; rw [i32_le, nI_toInt (by omega), show (1 : Int32).toInt = 1 from by decide] at q; omega
    have hl : lv_has ls 3 [(0, .ref h), (1, .int (nI m0))] := hl
    refine lv_iconst (v := 0) hx hb dX2_pass_20 (by decide) ?_
    refine lv_istore_n (lv' := [(2, .int 0), (0, .ref h), (1, .int (nI m0))]) hx hb dX2_pass_21 rfl hl (by decide) rfl (fun ls hl => ?_)
    refine W_loopH (nL := 3) (fun i : Nat => [(2, .int (nI i)), (0, .ref h), (1, .int (nI m0))]) (fun (i : Nat) (H : Heap) (locs : List Loc) => i ≤ m0 ∧ va_P (dC, dI) vwCl (cW tK tB h ak ab af ka kb n p (wtF F n i)) H ∧ va_S A s.heap H locs) (fun i => m0 - i) ?_ 0 (⟨Nat.zero_le _, hP, hS⟩) (lv_sub hl [0, 1, 2] rfl)
    intro i H locs ls hI hl ih
    obtain ⟨him, hP, hS⟩ := hI
    have hl : lv_has ls 3 [(2, .int (nI i)), (0, .ref h), (1, .int (nI m0))] := hl
    have hP : va_P (dC, dI) vwCl (cW tK tB h ak ab af ka kb n p (wtF F n i)) H := hP
    have hD : va_D A (cW tK tB h ak ab af ka kb n p (wtF F n i)) := cG_D hD
    refine lv_iload_n hx hb dX2_pass_22 rfl (lv_at hl 0 rfl) ?_
    refine lv_iload_n hx hb dX2_pass_23 rfl (lv_at hl 2 rfl) ?_
    refine lv_icmp_ge (tgt := 37) hx hb dX2_pass_24 (by decide) (fun c_24 => ?_) (fun c_24 => ?_)
    · skip
      have he : i = m0 := by have q := (nI_leI (a := m0) (b := i) (by omega) (by omega)).mp c_24; omega
      subst he
      refine lv_aload_n hx hb dX2_pass_37 rfl (lv_at hl 1 rfl) ?_
      have eG : wtF F n i = wetF F n (nI i) := if_neg (by omega)
      rw [eG] at hP
      have hD : va_D A (cW tK tB h ak ab af ka kb n p (wetF F n (nI i))) := cG_D hD
      refine vp_callSi (va_Run.run (va_runV (As := []) (rest := []) ⟨hx, hb, hml, hown, hts⟩ (c_X2_countWet l9 dC dI h ak ab af ka kb n p (wetF F n (nI i)) hn8) (cwV 0 hts gX2_pass_X2_countWet rfl rfl rfl (by decide +kernel) ⟨Nat.le_of_ble_eq_true rfl, Nat.le_of_ble_eq_true rfl⟩) ⟨PRo.blind, va_recv hK hP (ci := 2) (q0 := 0) rfl rfl, PRo.pre hP hK hE⟩ rfl rfl hl.1 rfl (lv_room (Nat.le_of_ble_eq_true rfl)) dX2_pass_38 ⟨Nat.le_of_ble_eq_true rfl, Nat.le_of_ble_eq_true rfl⟩)) (fun r hr => ?_)
      subst hr
      refine W_top (y := .int (nI (cnt (fun j => decide (0 < wetv F (nI i) j)) n))) (congrArg (fun z => Value.int (nI z)) (cnt_congr (fun j hj => by show decide (0 < if j < n then wetv F (nI i) j else F 4 j) = _; rw [if_pos hj]))) ?_
      have hS9 : S_pass n F (nI i) = (0, nI (cnt (fun j => decide (0 < wetv F (nI i) j)) n), wetF F n (nI i)) := by rw [S_pass]; exact if_pos c_7
      refine vx_ret ?_
      refine W.widen (k := 1) (n := 6) (Nat.le_of_ble_eq_true rfl) (Nat.le_of_ble_eq_true rfl) ?_
      exact W.iret (v := nI (cnt (fun j => decide (0 < wetv F (nI i) j)) n)) hx hb hr (fun t ht hW => cQ_mk ka kb (by rw [hS9]) (by rw [hS9]) (by rw [hS9, ht]; exact hP) (by rw [hS9]; exact hD) (hS.F ht)) hS.2.2 dX2_pass_41
    · skip
      have hlt9 : i < m0 := Nat.not_le.mp (fun q => c_24 ((nI_leI (a := m0) (b := i) (by omega) (by omega)).mpr q))
      refine lv_aload_n hx hb dX2_pass_27 rfl (lv_at hl 1 rfl) ?_
      refine va_callv (va_runV (As := []) (rest := []) ⟨hx, hb, hml, hown, hts⟩ (c_X2_spendHour l9 dC dI H.size h ak ab af ka kb n p (wtF F n i) hn8) (cwV 0 hts gX2_pass_X2_spendHour rfl rfl rfl (by decide +kernel) ⟨Nat.le_of_ble_eq_true rfl, Nat.le_of_ble_eq_true rfl⟩) ⟨PWr.blind, va_recv hK hP (ci := 2) (q0 := 0) rfl rfl, PWr.pre hP hK hD hE ((hH.kept hS.2.1).narrow (A_in hD hS hA))⟩ rfl rfl hl.1 rfl (lv_room (Nat.le_of_ble_eq_true rfl)) dX2_pass_28 ⟨Nat.le_of_ble_eq_true rfl, Nat.le_of_ble_eq_true rfl⟩) hS (fun q _ hq => A_in hD hS hA q hq) (A_in hD hS hA) (fun u9 t9 H locs ht9 hvm hw9 hB hz1 hk1 hS => ?_)
      have hP : va_P (dC, dI) vwCl (cW tK tB h ak ab af ka kb n p (hr1 (wtF F n i) n)) H := by rw [← ht9]; exact hB
      have hD : va_D A (cW tK tB h ak ab af ka kb n p (hr1 (wtF F n i) n)) := cG_D hD
      refine lv_iinc (v := nI (i + 1)) (lv' := [(2, .int (nI (i + 1))), (0, .ref h), (1, .int (nI m0))]) hx hb dX2_pass_31 hl (k := 0) rfl (nI_1 _) (by decide) rfl (fun ls hl => ?_)
      refine lv_goto (tgt := 22) hx hb dX2_pass_34 (by decide) ?_
      rw [wtF_step hI (by omega)] at hP
      exact ih (i + 1) _ _ ls (by omega) (⟨by omega, hP, hS⟩) (lv_sub hl [0, 1, 2] rfl)
  · skip
    have c_7 := bi_z.mp c_7
    have hS9 : S_pass n F hs = (1, 0, F) := by rw [S_pass]; exact if_neg c_7
    obtain ⟨sa, hsa⟩ := hE.2.2.2 (161, "hours is out of range") (by decide +kernel)
    exact vx_throwS (own := RX2) (cls := "java/lang/IllegalArgumentException") (text := "hours is out of range") (names := ["java/lang/RuntimeException", "java/lang/Exception"]) (ik := 28) (is := 161) (ic := 32) (sa := sa) (A := A) hx hb hlt hown (by decide +kernel) (by decide +kernel) (hts (.classLink RX2 28 "java/lang/IllegalArgumentException") (by decide +kernel)) (hts (.initialized "java/lang/IllegalArgumentException") (by decide +kernel)) hsa (vx_hat (B := [.castable "java/lang/IllegalArgumentException" "java/lang/IllegalArgumentException", .declares dR, .declares dE, .declares dT]) (fun w hw => hts w (List.mem_cons_of_mem _ (List.mem_append_right _ hw))) (by decide +kernel) (vx_c (yc.use hE.2.1.1) (vx_c (va_Nw.use rfl hE.1.2.1) (vx_c (va_Nw.use rfl hE.1.2.2.1) (vx_c (va_Nw.use rfl hE.1.2.2.2) vx_n))))) (by decide +kernel) hH.1 hH.2 hS (hl.1.trans hml.symm) dX2_pass_10 dX2_pass_13 dX2_pass_14 dX2_pass_16 dX2_pass_19 (fun x hx => (hout x hx).elim) (Nat.le_of_ble_eq_true rfl) (Nat.le_of_ble_eq_true rfl) (Nat.le_of_ble_eq_true rfl) (Nat.le_of_ble_eq_true rfl) hlocks (fun t _ h1 h2 => ⟨(), trivial, ⟨rfl, (by rw [hS9])⟩, h1, fun q hq _ => h2 q hq⟩) (fun z hz => absurd hz List.not_mem_nil) (Nat.le_of_ble_eq_true rfl) (Nat.le_of_ble_eq_true rfl)

set_option maxHeartbeats 4000000 in
set_option maxRecDepth 100000 in
theorem c_X2_pull (l9 : Launch) (hlt : l9.stackTraces = false) (dC : Nat → ClassId) (dI : Nat → Nat → Nat) (sz : Nat) {tK tB : ClassId} (h ak ab af : Nat) (ka kb : Nat → Nat) (n p : Nat) (F : Rows) (its sp : Int32) (hI : Inv n p F) : vx_Met l9 yX2_pull wsX2_pull ({ frames := 7, cells := 2, slots := 12, locals := 104 }) (va_Pc [.ref h, .int its, .int sp] (PWr dC dI [(tK, .object "Windlane$Kite"), (tB, .object "Windlane$Borrower")] (cW tK tB h ak ab af ka kb n p F) sz)) (cQ dC dI tK tB h ak ab af (va_A (cW tK tB h ak ab af ka kb n p F) sz) n p F ((S_pull n F its sp).1) ((S_pull n F its sp).2)) (vx_X (fun _ : Unit => True) (fun E _ _ => (E = "java/lang/IndexOutOfBoundsException" ∧ (S_pull n F its sp).1 = 1) ∨ (E = "java/lang/IllegalArgumentException" ∧ (S_pull n F its sp).1 = 2)) (fun _ => False)) 2 12 (va_A (cW tK tB h ak ab af ka kb n p F) sz) := by
  refine vx_ofW (cc := cX2_pull) (maxL := 4) (ret := (some .int)) (by decide) rfl ?_
  intro p9 e9 s m args below meth c s₁ B hml hout hv
  obtain ⟨rfl, hsz, hP, hK, hD0, hE, hH⟩ := hv
  have hx := B.exec
  have hb := B.bytes
  have hr := B.returns
  have hts := atoms_spec (ws := wsX2_pull) B.pre
  have hown : s.vm.findClass RX2 = some m.cls := findClass_of_methodNamed B.named
  have hlocks := B.notSynchronized
  subst hsz
  have hD := hD0.self (sz := s.heap.size)
  generalize hAe : va_A (cW tK tB h ak ab af ka kb n p F) s.heap.size = A at hD hH ⊢
  have hA : ∀ q : Nat, s.heap.size ≤ q → A q := fun q h => by rw [← hAe]; exact Or.inr h
  have hS : va_S A s.heap s.heap [] := va_S.rf
  have hP : va_P (dC, dI) vwCl (cW tK tB h ak ab af ka kb n p F) s.heap := hP
  have hn8 : n ≤ 8 := hI.1.1
  have hp8 : p ≤ 8 := hI.1.2
  have hl := lv_entry ([.ref h, .int its, .int sp]) (n := 4) (Nat.le_of_ble_eq_true rfl)
  rw [lg_entry_eq]
  generalize (lg_sl ([.ref h, .int its, .int sp]) ++ List.replicate (4 - (lg_sl ([.ref h, .int its, .int sp])).length) Slot.unset).toArray = ls at hl ⊢
  have hl : lv_has ls 4 [(0, .ref h), (1, .int its), (2, .int sp)] := hl
  refine lv_aload_n hx hb dX2_pull_0 rfl (lv_at hl 0 rfl) ?_
  refine lv_iload_n hx hb dX2_pull_1 rfl (lv_at hl 1 rfl) ?_
  refine my_callXq (vx_runV (As := [.int its]) (rest := []) ⟨hx, hb, hml, hown, hts⟩ (c_X2_kiteAt l9 hlt dC dI s.heap.size h ak ab af ka kb n p F its hI.1.1) (cwV 1 hts gX2_pull_X2_kiteAt rfl rfl rfl (by decide +kernel) ⟨Nat.le_of_ble_eq_true rfl, Nat.le_of_ble_eq_true rfl⟩) ⟨PWr.blind, va_recv hK hP (ci := 2) (q0 := 0) rfl rfl, PWr.pre hP hK hD hE (hH.narrow (A_in hD hS hA))⟩ rfl rfl hl.1 rfl (lv_room (Nat.le_of_ble_eq_true rfl)) dX2_pull_2 ⟨Nat.le_of_ble_eq_true rfl, Nat.le_of_ble_eq_true rfl⟩) (fun E ce q9 H1 hBE hz1 hk1 hce hcv hcl => vx_out (fun x hx => (hout x hx).elim) hlocks hce hcv hcl (fun t ht _ => ⟨(), trivial, Or.inl (⟨hBE.1, by rw [S_pull, ix_f hBE.2]⟩), by rw [ht]; exact hz1, fun q hq _ => by rw [ht]; exact hk1 q hq⟩) (fun z hz => absurd hz List.not_mem_nil) (Nat.le_of_ble_eq_true rfl) (Nat.le_of_ble_eq_true rfl)) (fun r9 hr9 => ?_)
  obtain ⟨k, hkn, rfl, rfl⟩ := hr9
  have hixk : ix n (nI k) = some k := ix_t hkn (by omega)
  have hl : lv_has ls 4 [(0, .ref h), (1, .int (nI k)), (2, .int sp)] := hl
  refine W_top (x := va_rf (some (ka k))) (y := .ref (ka k)) rfl ?_
  refine lv_astore_n (lv' := [(3, .ref (ka k)), (0, .ref h), (1, .int (nI k)), (2, .int sp)]) hx hb dX2_pull_5 rfl hl (by decide) rfl (fun ls hl => ?_)
  refine lv_iload_n hx hb dX2_pull_6 rfl (lv_at hl 3 rfl) ?_
  refine vp_callSi (va_Run.run (va_runS (As := [.int sp]) (rest := []) ⟨hx, hb, hml, hown, hts⟩ (c_X2_isSpeed l9 sp) (va_cwS 1 hts gX2_pull_X2_isSpeed rfl rfl rfl (by decide +kernel) ⟨Nat.le_of_ble_eq_true rfl, Nat.le_of_ble_eq_true rfl⟩) ⟨fun a U g mk q => q, fun U hU hW => ⟨rfl, trivial⟩⟩ rfl rfl hl.1 rfl (lv_room (Nat.le_of_ble_eq_true rfl)) dX2_pull_7 ⟨Nat.le_of_ble_eq_true rfl, Nat.le_of_ble_eq_true rfl⟩)) (fun r hr => ?_)
  subst hr
  refine lv_if_ne (tgt := 23) hx hb dX2_pull_10 (by decide) (fun c_10 => ?_) (fun c_10 => ?_)
  · skip
    have c_10 := bi_nz.mp c_10
    refine lv_aload_n hx hb dX2_pull_23 rfl (lv_at hl 0 rfl) ?_
    refine lv_iload_n hx hb dX2_pull_24 rfl (lv_at hl 3 rfl) ?_
    have hq1 := one_P hP (cG_k hkn)
    refine vp_callSi (va_Run.run (va_runV (As := [.int sp]) (rest := []) ⟨hx, hb, hml, hown, hts⟩ (c_X1_pullIn l9 dC dI (ka k) k F sp (hI.kd k hkn)) (cwV 1 hts gX2_pull_X1_pullIn rfl rfl rfl (by decide +kernel) ⟨Nat.le_of_ble_eq_true rfl, Nat.le_of_ble_eq_true rfl⟩) ⟨PRo.blind, va_recv (hK.sub (tys' := []) [] rfl) hq1 (ci := 1) (q0 := 0) rfl rfl, PRo.pre hq1 (hK.sub (tys' := []) [] rfl) hE⟩ rfl rfl hl.1 rfl (lv_room (Nat.le_of_ble_eq_true rfl)) dX2_pull_25 ⟨Nat.le_of_ble_eq_true rfl, Nat.le_of_ble_eq_true rfl⟩)) (fun r hr => ?_)
    subst hr
    have hS9 : S_pull n F (nI k) sp = (0, pl F k sp) := by rw [S_pull, hixk]; exact if_pos c_10
    refine vx_ret ?_
    refine W.widen (k := 2) (n := 12) (Nat.le_of_ble_eq_true rfl) (Nat.le_of_ble_eq_true rfl) ?_
    exact W.iret (v := pl F k sp) hx hb hr (fun t ht hW => cQ_mk ka kb (by rw [hS9]) (by rw [hS9]) (by rw [ht]; exact hP) (hD) (hS.F ht)) hS.2.2 dX2_pull_28
  · skip
    have c_10 := bi_z.mp c_10
    have hS9 : S_pull n F (nI k) sp = (2, 0) := by rw [S_pull, hixk]; exact if_neg c_10
    obtain ⟨sa, hsa⟩ := hE.2.2.2 (170, "speed is out of range") (by decide +kernel)
    exact vx_throwS (own := RX2) (cls := "java/lang/IllegalArgumentException") (text := "speed is out of range") (names := ["java/lang/RuntimeException", "java/lang/Exception"]) (ik := 28) (is := 170) (ic := 32) (sa := sa) (A := A) hx hb hlt hown (by decide +kernel) (by decide +kernel) (hts (.classLink RX2 28 "java/lang/IllegalArgumentException") (by decide +kernel)) (hts (.initialized "java/lang/IllegalArgumentException") (by decide +kernel)) hsa (vx_hat (B := [.castable "java/lang/IllegalArgumentException" "java/lang/IllegalArgumentException", .declares dR, .declares dE, .declares dT]) (fun w hw => hts w (List.mem_cons_of_mem _ (List.mem_append_left _ (List.mem_append_right _ hw)))) (by decide +kernel) (vx_c (yc.use hE.2.1.1) (vx_c (va_Nw.use rfl hE.1.2.1) (vx_c (va_Nw.use rfl hE.1.2.2.1) (vx_c (va_Nw.use rfl hE.1.2.2.2) vx_n))))) (by decide +kernel) hH.1 hH.2 hS (hl.1.trans hml.symm) dX2_pull_13 dX2_pull_16 dX2_pull_17 dX2_pull_19 dX2_pull_22 (fun x hx => (hout x hx).elim) (Nat.le_of_ble_eq_true rfl) (Nat.le_of_ble_eq_true rfl) (Nat.le_of_ble_eq_true rfl) (Nat.le_of_ble_eq_true rfl) hlocks (fun t _ h1 h2 => ⟨(), trivial, Or.inr (⟨rfl, (by rw [hS9])⟩), h1, fun q hq _ => h2 q hq⟩) (fun z hz => absurd hz List.not_mem_nil) (Nat.le_of_ble_eq_true rfl) (Nat.le_of_ble_eq_true rfl)

set_option maxHeartbeats 4000000 in
set_option maxRecDepth 100000 in
theorem c_X2_pullAnew (l9 : Launch) (hlt : l9.stackTraces = false) (dC : Nat → ClassId) (dI : Nat → Nat → Nat) (sz : Nat) {tK tB : ClassId} (h ak ab af : Nat) (ka kb : Nat → Nat) (n p : Nat) (F : Rows) (its sp : Int32) (hI : Inv n p F) : vx_Met l9 yX2_pullAnew wsX2_pullAnew ({ frames := 7, cells := 2, slots := 12, locals := 104 }) (va_Pc [.ref h, .int its, .int sp] (PWr dC dI [(tK, .object "Windlane$Kite"), (tB, .object "Windlane$Borrower")] (cW tK tB h ak ab af ka kb n p F) sz)) (cQ dC dI tK tB h ak ab af (va_A (cW tK tB h ak ab af ka kb n p F) sz) n p F ((S_pull n F its sp).1) ((S_pull n F its sp).2)) (vx_X (fun _ : Unit => True) (fun E _ _ => (E = "java/lang/IndexOutOfBoundsException" ∧ (S_pull n F its sp).1 = 1) ∨ (E = "java/lang/IllegalArgumentException" ∧ (S_pull n F its sp).1 = 2)) (fun _ => False)) 2 12 (va_A (cW tK tB h ak ab af ka kb n p F) sz) := by
  refine vx_ofW (cc := cX2_pullAnew) (maxL := 4) (ret := (some .int)) (by decide) rfl ?_
  intro p9 e9 s m args below meth c s₁ B hml hout hv
  obtain ⟨rfl, hsz, hP, hK, hD0, hE, hH⟩ := hv
  have hx := B.exec
  have hb := B.bytes
  have hr := B.returns
  have hts := atoms_spec (ws := wsX2_pullAnew) B.pre
  have hown : s.vm.findClass RX2 = some m.cls := findClass_of_methodNamed B.named
  have hlocks := B.notSynchronized
  subst hsz
  have hD := hD0.self (sz := s.heap.size)
  generalize hAe : va_A (cW tK tB h ak ab af ka kb n p F) s.heap.size = A at hD hH ⊢
  have hA : ∀ q : Nat, s.heap.size ≤ q → A q := fun q h => by rw [← hAe]; exact Or.inr h
  have hS : va_S A s.heap s.heap [] := va_S.rf
  have hP : va_P (dC, dI) vwCl (cW tK tB h ak ab af ka kb n p F) s.heap := hP
  have hn8 : n ≤ 8 := hI.1.1
  have hp8 : p ≤ 8 := hI.1.2
  have hl := lv_entry ([.ref h, .int its, .int sp]) (n := 4) (Nat.le_of_ble_eq_true rfl)
  rw [lg_entry_eq]
  generalize (lg_sl ([.ref h, .int its, .int sp]) ++ List.replicate (4 - (lg_sl ([.ref h, .int its, .int sp])).length) Slot.unset).toArray = ls at hl ⊢
  have hl : lv_has ls 4 [(0, .ref h), (1, .int its), (2, .int sp)] := hl
  refine lv_aload_n hx hb dX2_pullAnew_0 rfl (lv_at hl 0 rfl) ?_
  refine lv_iload_n hx hb dX2_pullAnew_1 rfl (lv_at hl 1 rfl) ?_
  refine my_callXq (vx_runV (As := [.int its]) (rest := []) ⟨hx, hb, hml, hown, hts⟩ (c_X2_kiteAt l9 hlt dC dI s.heap.size h ak ab af ka kb n p F its hI.1.1) (cwV 1 hts gX2_pullAnew_X2_kiteAt rfl rfl rfl (by decide +kernel) ⟨Nat.le_of_ble_eq_true rfl, Nat.le_of_ble_eq_true rfl⟩) ⟨PWr.blind, va_recv hK hP (ci := 2) (q0 := 0) rfl rfl, PWr.pre hP hK hD hE (hH.narrow (A_in hD hS hA))⟩ rfl rfl hl.1 rfl (lv_room (Nat.le_of_ble_eq_true rfl)) dX2_pullAnew_2 ⟨Nat.le_of_ble_eq_true rfl, Nat.le_of_ble_eq_true rfl⟩) (fun E ce q9 H1 hBE hz1 hk1 hce hcv hcl => vx_out (fun x hx => (hout x hx).elim) hlocks hce hcv hcl (fun t ht _ => ⟨(), trivial, Or.inl (⟨hBE.1, by rw [S_pull, ix_f hBE.2]⟩), by rw [ht]; exact hz1, fun q hq _ => by rw [ht]; exact hk1 q hq⟩) (fun z hz => absurd hz List.not_mem_nil) (Nat.le_of_ble_eq_true rfl) (Nat.le_of_ble_eq_true rfl)) (fun r9 hr9 => ?_)
  obtain ⟨k, hkn, rfl, rfl⟩ := hr9
  have hixk : ix n (nI k) = some k := ix_t hkn (by omega)
  have hl : lv_has ls 4 [(0, .ref h), (1, .int (nI k)), (2, .int sp)] := hl
  refine W_top (x := va_rf (some (ka k))) (y := .ref (ka k)) rfl ?_
  refine lv_astore_n (lv' := [(3, .ref (ka k)), (0, .ref h), (1, .int (nI k)), (2, .int sp)]) hx hb dX2_pullAnew_5 rfl hl (by decide) rfl (fun ls hl => ?_)
  refine lv_iload_n hx hb dX2_pullAnew_6 rfl (lv_at hl 3 rfl) ?_
  refine vp_callSi (va_Run.run (va_runS (As := [.int sp]) (rest := []) ⟨hx, hb, hml, hown, hts⟩ (c_X2_isSpeed l9 sp) (va_cwS 1 hts gX2_pullAnew_X2_isSpeed rfl rfl rfl (by decide +kernel) ⟨Nat.le_of_ble_eq_true rfl, Nat.le_of_ble_eq_true rfl⟩) ⟨fun a U g mk q => q, fun U hU hW => ⟨rfl, trivial⟩⟩ rfl rfl hl.1 rfl (lv_room (Nat.le_of_ble_eq_true rfl)) dX2_pullAnew_7 ⟨Nat.le_of_ble_eq_true rfl, Nat.le_of_ble_eq_true rfl⟩)) (fun r hr => ?_)
  subst hr
  refine lv_if_ne (tgt := 23) hx hb dX2_pullAnew_10 (by decide) (fun c_10 => ?_) (fun c_10 => ?_)
  · skip
    have c_10 := bi_nz.mp c_10
    obtain ⟨m0, hm0, rfl⟩ : ∃ m0, m0 < 31 ∧ sp = nI m0 := inR_of (win_inR c_10 (by decide) (by decide))
    have hl : lv_has ls 4 [(3, .ref (ka k)), (0, .ref h), (1, .int (nI k)), (2, .int (nI m0))] := hl
    refine lv_aload_n hx hb dX2_pullAnew_23 rfl (lv_at hl 0 rfl) ?_
    refine lv_iload_n hx hb dX2_pullAnew_24 rfl (lv_at hl 3 rfl) ?_
    have hq1 := one_P hP (cG_k hkn)
    refine vp_callSi (va_Run.run (va_runV (As := [.int (nI m0)]) (rest := []) ⟨hx, hb, hml, hown, hts⟩ (c_X1_pullByStepsTo l9 dC dI (ka k) k F m0 (hI.kd k hkn) (by omega)) (cwV 1 hts gX2_pullAnew_X1_pullByStepsTo rfl rfl rfl (by decide +kernel) ⟨Nat.le_of_ble_eq_true rfl, Nat.le_of_ble_eq_true rfl⟩) ⟨PRo.blind, va_recv (hK.sub (tys' := []) [] rfl) hq1 (ci := 1) (q0 := 0) rfl rfl, PRo.pre hq1 (hK.sub (tys' := []) [] rfl) hE⟩ rfl rfl hl.1 rfl (lv_room (Nat.le_of_ble_eq_true rfl)) dX2_pullAnew_25 ⟨Nat.le_of_ble_eq_true rfl, Nat.le_of_ble_eq_true rfl⟩)) (fun r hr => ?_)
    subst hr
    have hS9 : S_pull n F (nI k) (nI m0) = (0, pl F k (nI m0)) := by rw [S_pull, hixk]; exact if_pos c_10
    refine vx_ret ?_
    refine W.widen (k := 2) (n := 12) (Nat.le_of_ble_eq_true rfl) (Nat.le_of_ble_eq_true rfl) ?_
    exact W.iret (v := pl F k (nI m0)) hx hb hr (fun t ht hW => cQ_mk ka kb (by rw [hS9]) (by rw [hS9]) (by rw [ht]; exact hP) (hD) (hS.F ht)) hS.2.2 dX2_pullAnew_28
  · skip
    have c_10 := bi_z.mp c_10
    have hS9 : S_pull n F (nI k) sp = (2, 0) := by rw [S_pull, hixk]; exact if_neg c_10
    obtain ⟨sa, hsa⟩ := hE.2.2.2 (170, "speed is out of range") (by decide +kernel)
    exact vx_throwS (own := RX2) (cls := "java/lang/IllegalArgumentException") (text := "speed is out of range") (names := ["java/lang/RuntimeException", "java/lang/Exception"]) (ik := 28) (is := 170) (ic := 32) (sa := sa) (A := A) hx hb hlt hown (by decide +kernel) (by decide +kernel) (hts (.classLink RX2 28 "java/lang/IllegalArgumentException") (by decide +kernel)) (hts (.initialized "java/lang/IllegalArgumentException") (by decide +kernel)) hsa (vx_hat (B := [.castable "java/lang/IllegalArgumentException" "java/lang/IllegalArgumentException", .declares dR, .declares dE, .declares dT]) (fun w hw => hts w (List.mem_cons_of_mem _ (List.mem_append_left _ (List.mem_append_right _ hw)))) (by decide +kernel) (vx_c (yc.use hE.2.1.1) (vx_c (va_Nw.use rfl hE.1.2.1) (vx_c (va_Nw.use rfl hE.1.2.2.1) (vx_c (va_Nw.use rfl hE.1.2.2.2) vx_n))))) (by decide +kernel) hH.1 hH.2 hS (hl.1.trans hml.symm) dX2_pullAnew_13 dX2_pullAnew_16 dX2_pullAnew_17 dX2_pullAnew_19 dX2_pullAnew_22 (fun x hx => (hout x hx).elim) (Nat.le_of_ble_eq_true rfl) (Nat.le_of_ble_eq_true rfl) (Nat.le_of_ble_eq_true rfl) (Nat.le_of_ble_eq_true rfl) hlocks (fun t _ h1 h2 => ⟨(), trivial, Or.inr (⟨rfl, (by rw [hS9])⟩), h1, fun q hq _ => h2 q hq⟩) (fun z hz => absurd hz List.not_mem_nil) (Nat.le_of_ble_eq_true rfl) (Nat.le_of_ble_eq_true rfl)

set_option maxHeartbeats 4000000 in
set_option maxRecDepth 100000 in
theorem c_X2_lane (l9 : Launch) (hlt : l9.stackTraces = false) (dC : Nat → ClassId) (dI : Nat → Nat → Nat) (sz : Nat) {tK tB : ClassId} (h ak ab af : Nat) (ka kb : Nat → Nat) (n p : Nat) (F : Rows) (ln : Int32) (hI : Inv n p F) : vx_Met l9 yX2_lane wsX2_lane ({ frames := 6, cells := 1, slots := 6, locals := 82 }) (va_Pc [.ref h, .int ln] (PWr dC dI [(tK, .object "Windlane$Kite"), (tB, .object "Windlane$Borrower")] (cW tK tB h ak ab af ka kb n p F) sz)) (cQ dC dI tK tB h ak ab af (va_A (cW tK tB h ak ab af ka kb n p F) sz) n p F ((S_lane n F ln).1) ((S_lane n F ln).2)) (vx_X (fun _ : Unit => True) (fun E _ _ => (E = "java/lang/IndexOutOfBoundsException" ∧ (S_lane n F ln).1 = 1)) (fun _ => False)) 1 6 (va_A (cW tK tB h ak ab af ka kb n p F) sz) := by
  refine vx_ofW (cc := cX2_lane) (maxL := 3) (ret := (some .int)) (by decide) rfl ?_
  intro p9 e9 s m args below meth c s₁ B hml hout hv
  obtain ⟨rfl, hsz, hP, hK, hD0, hE, hH⟩ := hv
  have hx := B.exec
  have hb := B.bytes
  have hr := B.returns
  have hts := atoms_spec (ws := wsX2_lane) B.pre
  have hown : s.vm.findClass RX2 = some m.cls := findClass_of_methodNamed B.named
  have hlocks := B.notSynchronized
  have hi1 : ∀ w ∈ u_ws RX1 TX1 9, w ∈ wsX2_lane := by decide +kernel
  have hi2 : ∀ w ∈ u_ws RX2 TX2 9, w ∈ wsX2_lane := by decide +kernel
  have lk21 := hts (.fieldLink RX2 21 "Windlane" "flyers" "[LWindlane$Kite;") (by decide +kernel)
  have lk98 := hts (.fieldLink RX2 98 "Windlane$Kite" "number" "I") (by decide +kernel)
  subst hsz
  have hD := hD0.self (sz := s.heap.size)
  generalize hAe : va_A (cW tK tB h ak ab af ka kb n p F) s.heap.size = A at hD hH ⊢
  have hA : ∀ q : Nat, s.heap.size ≤ q → A q := fun q h => by rw [← hAe]; exact Or.inr h
  have hS : va_S A s.heap s.heap [] := va_S.rf
  have hP : va_P (dC, dI) vwCl (cW tK tB h ak ab af ka kb n p F) s.heap := hP
  have hn8 : n ≤ 8 := hI.1.1
  have hp8 : p ≤ 8 := hI.1.2
  have hl := lv_entry ([.ref h, .int ln]) (n := 3) (Nat.le_of_ble_eq_true rfl)
  rw [lg_entry_eq]
  generalize (lg_sl ([.ref h, .int ln]) ++ List.replicate (3 - (lg_sl ([.ref h, .int ln])).length) Slot.unset).toArray = ls at hl ⊢
  have hl : lv_has ls 3 [(0, .ref h), (1, .int ln)] := hl
  rcases inR_cases 10 ln with ⟨l, hl10, rfl⟩ | hno
  · skip
    have hixl : ix 10 (nI l) = some l := ix_t hl10 (by omega)
    refine lv_iload_n hx hb dX2_lane_0 rfl (lv_at hl 1 rfl) ?_
    refine vp_callSi (va_Run.run (va_runS (As := [.int (nI l)]) (rest := []) ⟨hx, hb, hml, hown, hts⟩ (c_X2_isLane l9 (nI l)) (va_cwS 1 hts gX2_lane_X2_isLane rfl rfl rfl (by decide +kernel) ⟨Nat.le_of_ble_eq_true rfl, Nat.le_of_ble_eq_true rfl⟩) ⟨fun a U g mk q => q, fun U hU hW => ⟨rfl, trivial⟩⟩ rfl rfl hl.1 rfl (lv_room (Nat.le_of_ble_eq_true rfl)) dX2_lane_1 ⟨Nat.le_of_ble_eq_true rfl, Nat.le_of_ble_eq_true rfl⟩)) (fun r hr => ?_)
    subst hr
    refine lv_if_ne (tgt := 17) hx hb dX2_lane_4 (by decide) (fun _ => ?_) (fun c_4 => absurd c_4 (bi_nz.mpr (inR_nI hl10 (by decide))))
    refine lv_aload_n hx hb dX2_lane_17 rfl (lv_at hl 0 rfl) ?_
    refine va_get (D := (dC, dI)) (ci := 2) (v := .ref af) (C := RX2) (T := TX2) (N := 9) hx hb hts hi2 hown hK hP 0 rfl rfl 4 (by decide) lk21 (fun _ h9 => h9) rfl dX2_lane_18 ?_
    refine lv_iload_n hx hb dX2_lane_21 rfl (lv_at hl 1 rfl) ?_
    refine my_aldq hx hb hK hP 3 0 rfl rfl hl10 (Nat.le_of_ble_eq_true rfl) dX2_lane_22 ?_
    rcases hlk : lk (F 6) n (nI l) with _ | k
    · skip
      refine W_top (y := .null) (show va_rf ((flF F n l).map ka) = _ by rw [flF_at hl10, hlk]; rfl) ?_
      refine lv_astore_nN (lv' := [(2, .null), (0, .ref h), (1, .int (nI l))]) hx hb dX2_lane_23 rfl hl (by decide) rfl (fun ls hl => ?_)
      refine lv_aload_nN hx hb dX2_lane_24 rfl (lv_at hl 0 rfl) ?_
      refine lv_ifnonnullN hx hb dX2_lane_25 ?_
      refine lv_iconst (v := (-1)) hx hb dX2_lane_28 (by decide) ?_
      refine lv_goto (tgt := 36) hx hb dX2_lane_29 (by decide) ?_
      have hS9 : S_lane n F (nI l) = (0, (-1)) := by rw [S_lane, hixl]; exact congrArg (fun z => ((0 : Int32), oI z)) hlk
      refine vx_ret ?_
      refine W.widen (k := 1) (n := 6) (Nat.le_of_ble_eq_true rfl) (Nat.le_of_ble_eq_true rfl) ?_
      exact W.iret (v := (-1)) hx hb hr (fun t ht hW => cQ_mk ka kb (by rw [hS9]) (by rw [hS9]) (by rw [ht]; exact hP) (hD) (hS.F ht)) hS.2.2 dX2_lane_36
    · skip
      refine W_top (y := .ref (ka k)) (show va_rf ((flF F n l).map ka) = _ by rw [flF_at hl10, hlk]; rfl) ?_
      have hlkn : k < n := (lk_some hlk).1
      refine lv_astore_n (lv' := [(2, .ref (ka k)), (0, .ref h), (1, .int (nI l))]) hx hb dX2_lane_23 rfl hl (by decide) rfl (fun ls hl => ?_)
      refine lv_aload_n hx hb dX2_lane_24 rfl (lv_at hl 0 rfl) ?_
      refine lv_ifnonnull (tgt := 32) hx hb dX2_lane_25 (by decide) ?_
      refine lv_aload_n hx hb dX2_lane_32 rfl (lv_at hl 0 rfl) ?_
      refine va_get (D := (dC, dI)) (ci := 1) (v := .int (nI k)) (C := RX1) (T := TX1) (N := 9) hx hb hts hi1 hown hK hP (k + 4) (cG_k hlkn) rfl 0 (by decide) lk98 (fun _ h9 => h9) rfl dX2_lane_33 ?_
      have hS9 : S_lane n F (nI l) = (0, nI k) := by rw [S_lane, hixl]; exact congrArg (fun z => ((0 : Int32), oI z)) hlk
      refine vx_ret ?_
      refine W.widen (k := 1) (n := 6) (Nat.le_of_ble_eq_true rfl) (Nat.le_of_ble_eq_true rfl) ?_
      exact W.iret (v := nI k) hx hb hr (fun t ht hW => cQ_mk ka kb (by rw [hS9]) (by rw [hS9]) (by rw [ht]; exact hP) (hD) (hS.F ht)) hS.2.2 dX2_lane_36
  · skip
    refine lv_iload_n hx hb dX2_lane_0 rfl (lv_at hl 1 rfl) ?_
    refine vp_callSi (va_Run.run (va_runS (As := [.int ln]) (rest := []) ⟨hx, hb, hml, hown, hts⟩ (c_X2_isLane l9 ln) (va_cwS 1 hts gX2_lane_X2_isLane rfl rfl rfl (by decide +kernel) ⟨Nat.le_of_ble_eq_true rfl, Nat.le_of_ble_eq_true rfl⟩) ⟨fun a U g mk q => q, fun U hU hW => ⟨rfl, trivial⟩⟩ rfl rfl hl.1 rfl (lv_room (Nat.le_of_ble_eq_true rfl)) dX2_lane_1 ⟨Nat.le_of_ble_eq_true rfl, Nat.le_of_ble_eq_true rfl⟩)) (fun r hr => ?_)
    subst hr
    refine lv_if_ne (tgt := 17) hx hb dX2_lane_4 (by decide) (fun c_4 => absurd (bi_f hno) c_4) (fun _ => ?_)
    have hS9 : S_lane n F ln = (1, 0) := by rw [S_lane, ix_f hno]
    obtain ⟨sa, hsa⟩ := hE.2.2.2 (107, "there is no such lane") (by decide +kernel)
    exact vx_throwS (own := RX2) (cls := "java/lang/IndexOutOfBoundsException") (text := "there is no such lane") (names := ["java/lang/RuntimeException", "java/lang/Exception"]) (ik := 105) (is := 107) (ic := 109) (sa := sa) (A := A) hx hb hlt hown (by decide +kernel) (by decide +kernel) (hts (.classLink RX2 105 "java/lang/IndexOutOfBoundsException") (by decide +kernel)) (hts (.initialized "java/lang/IndexOutOfBoundsException") (by decide +kernel)) hsa (vx_hat (B := [.castable "java/lang/IndexOutOfBoundsException" "java/lang/IndexOutOfBoundsException", .declares dR, .declares dE, .declares dT]) (fun w hw => hts w (List.mem_cons_of_mem _ (List.mem_append_right _ hw))) (by decide +kernel) (vx_c (yc.use hE.2.1.2.2) (vx_c (va_Nw.use rfl hE.1.2.1) (vx_c (va_Nw.use rfl hE.1.2.2.1) (vx_c (va_Nw.use rfl hE.1.2.2.2) vx_n))))) (by decide +kernel) hH.1 hH.2 hS (hl.1.trans hml.symm) dX2_lane_7 dX2_lane_10 dX2_lane_11 dX2_lane_13 dX2_lane_16 (fun x hx => (hout x hx).elim) (Nat.le_of_ble_eq_true rfl) (Nat.le_of_ble_eq_true rfl) (Nat.le_of_ble_eq_true rfl) (Nat.le_of_ble_eq_true rfl) hlocks (fun t _ h1 h2 => ⟨(), trivial, ⟨rfl, (by rw [hS9])⟩, h1, fun q hq _ => h2 q hq⟩) (fun z hz => absurd hz List.not_mem_nil) (Nat.le_of_ble_eq_true rfl) (Nat.le_of_ble_eq_true rfl)

set_option maxHeartbeats 4000000 in
set_option maxRecDepth 100000 in
theorem c_X2_about (l9 : Launch) (hlt : l9.stackTraces = false) (dC : Nat → ClassId) (dI : Nat → Nat → Nat) (sz : Nat) {tK tB : ClassId} (h ak ab af : Nat) (ka kb : Nat → Nat) (n p : Nat) (F : Rows) (its wh : Int32) (hI : Inv n p F) : vx_Met l9 yX2_about wsX2_about ({ frames := 7, cells := 2, slots := 12, locals := 104 }) (va_Pc [.ref h, .int its, .int wh] (PWr dC dI [(tK, .object "Windlane$Kite"), (tB, .object "Windlane$Borrower")] (cW tK tB h ak ab af ka kb n p F) sz)) (cQ dC dI tK tB h ak ab af (va_A (cW tK tB h ak ab af ka kb n p F) sz) n p F ((S_about n F its wh).1) ((S_about n F its wh).2)) (vx_X (fun _ : Unit => True) (fun E _ _ => (E = "java/lang/IndexOutOfBoundsException" ∧ (S_about n F its wh).1 = 1) ∨ (E = "java/lang/IllegalArgumentException" ∧ (S_about n F its wh).1 = 2)) (fun _ => False)) 2 12 (va_A (cW tK tB h ak ab af ka kb n p F) sz) := by
  refine vx_ofW (cc := cX2_about) (maxL := 4) (ret := (some .int)) (by decide) rfl ?_
  intro p9 e9 s m args below meth c s₁ B hml hout hv
  obtain ⟨rfl, hsz, hP, hK, hD0, hE, hH⟩ := hv
  have hx := B.exec
  have hb := B.bytes
  have hr := B.returns
  have hts := atoms_spec (ws := wsX2_about) B.pre
  have hown : s.vm.findClass RX2 = some m.cls := findClass_of_methodNamed B.named
  have hlocks := B.notSynchronized
  have hi1 : ∀ w ∈ u_ws RX1 TX1 9, w ∈ wsX2_about := by decide +kernel
  have hi2 : ∀ w ∈ u_ws RX2 TX2 9, w ∈ wsX2_about := by decide +kernel
  have lk51 := hts (.fieldLink RX2 51 "Windlane$Kite" "isTorn" "Z") (by decide +kernel)
  have lk57 := hts (.fieldLink RX2 57 "Windlane$Kite" "weight" "I") (by decide +kernel)
  have lk86 := hts (.fieldLink RX2 86 "Windlane$Kite" "borrower" "I") (by decide +kernel)
  have lk112 := hts (.fieldLink RX2 112 "Windlane" "windSpeed" "I") (by decide +kernel)
  have lk120 := hts (.fieldLink RX2 120 "Windlane" "windSide" "I") (by decide +kernel)
  have lk133 := hts (.fieldLink RX2 133 "Windlane$Kite" "lane" "I") (by decide +kernel)
  have lk190 := hts (.fieldLink RX2 190 "Windlane$Kite" "wetHours" "I") (by decide +kernel)
  subst hsz
  have hD := hD0.self (sz := s.heap.size)
  generalize hAe : va_A (cW tK tB h ak ab af ka kb n p F) s.heap.size = A at hD hH ⊢
  have hA : ∀ q : Nat, s.heap.size ≤ q → A q := fun q h => by rw [← hAe]; exact Or.inr h
  have hS : va_S A s.heap s.heap [] := va_S.rf
  have hP : va_P (dC, dI) vwCl (cW tK tB h ak ab af ka kb n p F) s.heap := hP
  have hn8 : n ≤ 8 := hI.1.1
  have hp8 : p ≤ 8 := hI.1.2
  have hl := lv_entry ([.ref h, .int its, .int wh]) (n := 4) (Nat.le_of_ble_eq_true rfl)
  rw [lg_entry_eq]
  generalize (lg_sl ([.ref h, .int its, .int wh]) ++ List.replicate (4 - (lg_sl ([.ref h, .int its, .int wh])).length) Slot.unset).toArray = ls at hl ⊢
  have hl : lv_has ls 4 [(0, .ref h), (1, .int its), (2, .int wh)] := hl
  refine lv_aload_n hx hb dX2_about_0 rfl (lv_at hl 0 rfl) ?_
  refine lv_iload_n hx hb dX2_about_1 rfl (lv_at hl 1 rfl) ?_
  refine my_callXq (vx_runV (As := [.int its]) (rest := []) ⟨hx, hb, hml, hown, hts⟩ (c_X2_kiteAt l9 hlt dC dI s.heap.size h ak ab af ka kb n p F its hI.1.1) (cwV 1 hts gX2_about_X2_kiteAt rfl rfl rfl (by decide +kernel) ⟨Nat.le_of_ble_eq_true rfl, Nat.le_of_ble_eq_true rfl⟩) ⟨PWr.blind, va_recv hK hP (ci := 2) (q0 := 0) rfl rfl, PWr.pre hP hK hD hE (hH.narrow (A_in hD hS hA))⟩ rfl rfl hl.1 rfl (lv_room (Nat.le_of_ble_eq_true rfl)) dX2_about_2 ⟨Nat.le_of_ble_eq_true rfl, Nat.le_of_ble_eq_true rfl⟩) (fun E ce q9 H1 hBE hz1 hk1 hce hcv hcl => vx_out (fun x hx => (hout x hx).elim) hlocks hce hcv hcl (fun t ht _ => ⟨(), trivial, Or.inl (⟨hBE.1, by rw [S_about, ix_f hBE.2]⟩), by rw [ht]; exact hz1, fun q hq _ => by rw [ht]; exact hk1 q hq⟩) (fun z hz => absurd hz List.not_mem_nil) (Nat.le_of_ble_eq_true rfl) (Nat.le_of_ble_eq_true rfl)) (fun r9 hr9 => ?_)
  obtain ⟨k, hkn, rfl, rfl⟩ := hr9
  have hixk : ix n (nI k) = some k := ix_t hkn (by omega)
  have hl : lv_has ls 4 [(0, .ref h), (1, .int (nI k)), (2, .int wh)] := hl
  refine W_top (x := va_rf (some (ka k))) (y := .ref (ka k)) rfl ?_
  refine lv_astore_n (lv' := [(3, .ref (ka k)), (0, .ref h), (1, .int (nI k)), (2, .int wh)]) hx hb dX2_about_5 rfl hl (by decide) rfl (fun ls hl => ?_)
  refine lv_iload_n hx hb dX2_about_6 rfl (lv_at hl 3 rfl) ?_
  rcases inR_cases 6 wh with ⟨v9, hv9, rfl⟩ | hno
  · skip
    obtain rfl | rfl | rfl | rfl | rfl | rfl : v9 = 0 ∨ v9 = 1 ∨ v9 = 2 ∨ v9 = 3 ∨ v9 = 4 ∨ v9 = 5 := by omega
    · skip
      refine lv_tableIn (off := 37) (tgt := 44) hx hb dX2_about_7 (by decide) (by decide) (by decide) (by decide) ?_
      refine lv_aload_n hx hb dX2_about_44 rfl (lv_at hl 0 rfl) ?_
      refine va_get (D := (dC, dI)) (ci := 1) (v := .int (F 2 k)) (C := RX1) (T := TX1) (N := 9) hx hb hts hi1 hown hK hP (k + 4) (cG_k hkn) rfl 3 (by decide) lk57 (fun _ h9 => h9) rfl dX2_about_45 ?_
      have hS9 : S_about n F (nI k) (nI 0) = (0, F 2 k) := by rw [S_about, hixk]; rfl
      refine vx_ret ?_
      refine W.widen (k := 2) (n := 12) (Nat.le_of_ble_eq_true rfl) (Nat.le_of_ble_eq_true rfl) ?_
      exact W.iret (v := F 2 k) hx hb hr (fun t ht hW => cQ_mk ka kb (by rw [hS9]) (by rw [hS9]) (by rw [ht]; exact hP) (hD) (hS.F ht)) hS.2.2 dX2_about_48
    · skip
      refine lv_tableIn (off := 42) (tgt := 49) hx hb dX2_about_7 (by decide) (by decide) (by decide) (by decide) ?_
      refine lv_aload_n hx hb dX2_about_49 rfl (lv_at hl 0 rfl) ?_
      refine va_get (D := (dC, dI)) (ci := 1) (v := .int (F 3 k)) (C := RX1) (T := TX1) (N := 9) hx hb hts hi1 hown hK hP (k + 4) (cG_k hkn) rfl 4 (by decide) lk51 (fun _ h9 => h9) rfl dX2_about_50 ?_
      refine lv_if_eq (tgt := 60) hx hb dX2_about_53 (by decide) (fun c_53 => ?_) (fun c_53 => ?_)
      · skip
        refine lv_iconst (v := 0) hx hb dX2_about_60 (by decide) ?_
        have hS9 : S_about n F (nI k) (nI 1) = (0, 0) := by rw [S_about, hixk]; exact congrArg (fun z => ((0 : Int32), z)) (c_53)
        refine vx_ret ?_
        refine W.widen (k := 2) (n := 12) (Nat.le_of_ble_eq_true rfl) (Nat.le_of_ble_eq_true rfl) ?_
        exact W.iret (v := 0) hx hb hr (fun t ht hW => cQ_mk ka kb (by rw [hS9]) (by rw [hS9]) (by rw [ht]; exact hP) (hD) (hS.F ht)) hS.2.2 dX2_about_61
      · skip
        refine lv_iconst (v := 1) hx hb dX2_about_56 (by decide) ?_
        refine lv_goto (tgt := 61) hx hb dX2_about_57 (by decide) ?_
        have hS9 : S_about n F (nI k) (nI 1) = (0, 1) := by rw [S_about, hixk]; exact congrArg (fun z => ((0 : Int32), z)) ((hI.2.1 k hkn).2.2.2.1.resolve_left c_53)
        refine vx_ret ?_
        refine W.widen (k := 2) (n := 12) (Nat.le_of_ble_eq_true rfl) (Nat.le_of_ble_eq_true rfl) ?_
        exact W.iret (v := 1) hx hb hr (fun t ht hW => cQ_mk ka kb (by rw [hS9]) (by rw [hS9]) (by rw [ht]; exact hP) (hD) (hS.F ht)) hS.2.2 dX2_about_61
    · skip
      refine lv_tableIn (off := 55) (tgt := 62) hx hb dX2_about_7 (by decide) (by decide) (by decide) (by decide) ?_
      refine lv_aload_n hx hb dX2_about_62 rfl (lv_at hl 0 rfl) ?_
      refine va_get (D := (dC, dI)) (ci := 1) (v := .int (F 4 k)) (C := RX1) (T := TX1) (N := 9) hx hb hts hi1 hown hK hP (k + 4) (cG_k hkn) rfl 5 (by decide) lk190 (fun _ h9 => h9) rfl dX2_about_63 ?_
      have hS9 : S_about n F (nI k) (nI 2) = (0, F 4 k) := by rw [S_about, hixk]; rfl
      refine vx_ret ?_
      refine W.widen (k := 2) (n := 12) (Nat.le_of_ble_eq_true rfl) (Nat.le_of_ble_eq_true rfl) ?_
      exact W.iret (v := F 4 k) hx hb hr (fun t ht hW => cQ_mk ka kb (by rw [hS9]) (by rw [hS9]) (by rw [ht]; exact hP) (hD) (hS.F ht)) hS.2.2 dX2_about_66
    · skip
      refine lv_tableIn (off := 60) (tgt := 67) hx hb dX2_about_7 (by decide) (by decide) (by decide) (by decide) ?_
      refine lv_aload_n hx hb dX2_about_67 rfl (lv_at hl 0 rfl) ?_
      refine va_get (D := (dC, dI)) (ci := 1) (v := .int (F 5 k)) (C := RX1) (T := TX1) (N := 9) hx hb hts hi1 hown hK hP (k + 4) (cG_k hkn) rfl 6 (by decide) lk86 (fun _ h9 => h9) rfl dX2_about_68 ?_
      have hS9 : S_about n F (nI k) (nI 3) = (0, F 5 k) := by rw [S_about, hixk]; rfl
      refine vx_ret ?_
      refine W.widen (k := 2) (n := 12) (Nat.le_of_ble_eq_true rfl) (Nat.le_of_ble_eq_true rfl) ?_
      exact W.iret (v := F 5 k) hx hb hr (fun t ht hW => cQ_mk ka kb (by rw [hS9]) (by rw [hS9]) (by rw [ht]; exact hP) (hD) (hS.F ht)) hS.2.2 dX2_about_71
    · skip
      refine lv_tableIn (off := 65) (tgt := 72) hx hb dX2_about_7 (by decide) (by decide) (by decide) (by decide) ?_
      refine lv_aload_n hx hb dX2_about_72 rfl (lv_at hl 0 rfl) ?_
      refine va_get (D := (dC, dI)) (ci := 1) (v := .int (F 6 k)) (C := RX1) (T := TX1) (N := 9) hx hb hts hi1 hown hK hP (k + 4) (cG_k hkn) rfl 7 (by decide) lk133 (fun _ h9 => h9) rfl dX2_about_73 ?_
      have hS9 : S_about n F (nI k) (nI 4) = (0, F 6 k) := by rw [S_about, hixk]; rfl
      refine vx_ret ?_
      refine W.widen (k := 2) (n := 12) (Nat.le_of_ble_eq_true rfl) (Nat.le_of_ble_eq_true rfl) ?_
      exact W.iret (v := F 6 k) hx hb hr (fun t ht hW => cQ_mk ka kb (by rw [hS9]) (by rw [hS9]) (by rw [ht]; exact hP) (hD) (hS.F ht)) hS.2.2 dX2_about_76
    · skip
      refine lv_tableIn (off := 70) (tgt := 77) hx hb dX2_about_7 (by decide) (by decide) (by decide) (by decide) ?_
      refine lv_aload_n hx hb dX2_about_77 rfl (lv_at hl 0 rfl) ?_
      have hq1 := one_P hP (cG_k hkn)
      refine vp_callSi (va_Run.run (va_runV (As := []) (rest := []) ⟨hx, hb, hml, hown, hts⟩ (c_X1_isFlying l9 dC dI (ka k) k F) (cwV 0 hts gX2_about_X1_isFlying rfl rfl rfl (by decide +kernel) ⟨Nat.le_of_ble_eq_true rfl, Nat.le_of_ble_eq_true rfl⟩) ⟨PRo.blind, va_recv (hK.sub (tys' := []) [] rfl) hq1 (ci := 1) (q0 := 0) rfl rfl, PRo.pre hq1 (hK.sub (tys' := []) [] rfl) hE⟩ rfl rfl hl.1 rfl (lv_room (Nat.le_of_ble_eq_true rfl)) dX2_about_78 ⟨Nat.le_of_ble_eq_true rfl, Nat.le_of_ble_eq_true rfl⟩)) (fun r hr => ?_)
      subst hr
      refine lv_if_eq (tgt := 99) hx hb dX2_about_81 (by decide) (fun c_81 => ?_) (fun c_81 => ?_)
      · skip
        have c_81 := bi_z.mp c_81
        refine lv_iconst (v := (-1)) hx hb dX2_about_99 (by decide) ?_
        have hS9 : S_about n F (nI k) (nI 5) = (0, (-1)) := by rw [S_about, hixk]; exact congrArg (fun z => ((0 : Int32), z)) (if_pos (Decidable.not_not.mp c_81))
        refine vx_ret ?_
        refine W.widen (k := 2) (n := 12) (Nat.le_of_ble_eq_true rfl) (Nat.le_of_ble_eq_true rfl) ?_
        exact W.iret (v := (-1)) hx hb hr (fun t ht hW => cQ_mk ka kb (by rw [hS9]) (by rw [hS9]) (by rw [ht]; exact hP) (hD) (hS.F ht)) hS.2.2 dX2_about_100
      · skip
        have c_81 := bi_nz.mp c_81
        refine lv_aload_n hx hb dX2_about_84 rfl (lv_at hl 0 rfl) ?_
        refine lv_aload_n hx hb dX2_about_85 rfl (lv_at hl 1 rfl) ?_
        refine va_get (D := (dC, dI)) (ci := 2) (v := .int (F 9 0)) (C := RX2) (T := TX2) (N := 9) hx hb hts hi2 hown hK hP 0 rfl rfl 5 (by decide) lk112 (fun _ h9 => h9) rfl dX2_about_86 ?_
        refine lv_aload_n hx hb dX2_about_89 rfl (lv_at hl 1 rfl) ?_
        refine va_get (D := (dC, dI)) (ci := 2) (v := .int (F 9 1)) (C := RX2) (T := TX2) (N := 9) hx hb hts hi2 hown hK hP 0 rfl rfl 6 (by decide) lk120 (fun _ h9 => h9) rfl dX2_about_90 ?_
        have hq1 := one_P hP (cG_k hkn)
        refine vp_callSi (va_Run.run (va_runV (As := [.int (F 9 0), .int (F 9 1)]) (rest := []) ⟨hx, hb, hml, hown, hts⟩ (c_X1_endIn l9 dC dI (ka k) k F (F 9 0) (F 9 1) (hI.kd k hkn) (st_ok (hI.fl k hkn c_81))) (cwV 2 hts gX2_about_X1_endIn rfl rfl rfl (by decide +kernel) ⟨Nat.le_of_ble_eq_true rfl, Nat.le_of_ble_eq_true rfl⟩) ⟨PRo.blind, va_recv (hK.sub (tys' := []) [] rfl) hq1 (ci := 1) (q0 := 0) rfl rfl, PRo.pre hq1 (hK.sub (tys' := []) [] rfl) hE⟩ rfl rfl hl.1 rfl (lv_room (Nat.le_of_ble_eq_true rfl)) dX2_about_93 ⟨Nat.le_of_ble_eq_true rfl, Nat.le_of_ble_eq_true rfl⟩)) (fun r hr => ?_)
        subst hr
        refine W_top (y := .int (ed F k)) (rfl) ?_
        refine lv_goto (tgt := 100) hx hb dX2_about_96 (by decide) ?_
        have hS9 : S_about n F (nI k) (nI 5) = (0, ed F k) := by rw [S_about, hixk]; exact congrArg (fun z => ((0 : Int32), z)) (if_neg c_81)
        refine vx_ret ?_
        refine W.widen (k := 2) (n := 12) (Nat.le_of_ble_eq_true rfl) (Nat.le_of_ble_eq_true rfl) ?_
        exact W.iret (v := ed F k) hx hb hr (fun t ht hW => cQ_mk ka kb (by rw [hS9]) (by rw [hS9]) (by rw [ht]; exact hP) (hD) (hS.F ht)) hS.2.2 dX2_about_100
  · skip
    refine lv_tableOut (tgt := 101) hx hb dX2_about_7 (Decidable.byContradiction (fun q => hno ⟨by omega, by omega⟩)) (by decide) ?_
    have hw9 : ∀ v : Int32, inR 6 v → ¬ wh = v := fun v hv q => hno (q ▸ hv)
    have hS9 : S_about n F (nI k) wh = (2, 0) := by rw [S_about, hixk]; show (if wh = 0 then _ else if wh = 1 then _ else if wh = 2 then _ else if wh = 3 then _ else if wh = 4 then _ else if wh = 5 then _ else _) = _; rw [if_neg (hw9 0 (by decide)), if_neg (hw9 1 (by decide)), if_neg (hw9 2 (by decide)), if_neg (hw9 3 (by decide)), if_neg (hw9 4 (by decide)), if_neg (hw9 5 (by decide))]
    obtain ⟨sa, hsa⟩ := hE.2.2.2 (197, "what is out of range") (by decide +kernel)
    exact vx_throwS (own := RX2) (cls := "java/lang/IllegalArgumentException") (text := "what is out of range") (names := ["java/lang/RuntimeException", "java/lang/Exception"]) (ik := 28) (is := 197) (ic := 32) (sa := sa) (A := A) hx hb hlt hown (by decide +kernel) (by decide +kernel) (hts (.classLink RX2 28 "java/lang/IllegalArgumentException") (by decide +kernel)) (hts (.initialized "java/lang/IllegalArgumentException") (by decide +kernel)) hsa (vx_hat (B := [.castable "java/lang/IllegalArgumentException" "java/lang/IllegalArgumentException", .declares dR, .declares dE, .declares dT]) (fun w hw => hts w (List.mem_cons_of_mem _ (List.mem_append_left _ (List.mem_append_right _ hw)))) (by decide +kernel) (vx_c (yc.use hE.2.1.1) (vx_c (va_Nw.use rfl hE.1.2.1) (vx_c (va_Nw.use rfl hE.1.2.2.1) (vx_c (va_Nw.use rfl hE.1.2.2.2) vx_n))))) (by decide +kernel) hH.1 hH.2 hS (hl.1.trans hml.symm) dX2_about_101 dX2_about_104 dX2_about_105 dX2_about_107 dX2_about_110 (fun x hx => (hout x hx).elim) (Nat.le_of_ble_eq_true rfl) (Nat.le_of_ble_eq_true rfl) (Nat.le_of_ble_eq_true rfl) (Nat.le_of_ble_eq_true rfl) hlocks (fun t _ h1 h2 => ⟨(), trivial, Or.inr (⟨rfl, (by rw [hS9])⟩), h1, fun q hq _ => h2 q hq⟩) (fun z hz => absurd hz List.not_mem_nil) (Nat.le_of_ble_eq_true rfl) (Nat.le_of_ble_eq_true rfl)

theorem wd_down {F : Rows} {k : Nat} {g : Int32} {m : Nat} (hg : ¬ g = 0) (h : held F k (nI m)) : wd F k g (m + 1) = nI m := by rw [wd, if_pos ⟨h, Or.inl hg⟩]
theorem wd_skip {F : Rows} {k : Nat} {g : Int32} {m : Nat} (h : ¬ held F k (nI m)) : wd F k g (m + 1) = wd F k g m := by rw [wd, if_neg (fun q => h q.1)]
theorem wd_up {F : Rows} {k m : Nat} (h : held F k (nI m)) (hm : m < 31) (hno : wd F k 0 m = -1) : ∀ {r : Nat}, m < r → wd F k 0 r = nI m
  | 0, h0 => absurd h0 (Nat.not_lt_zero m)
  | r + 1, h0 => by
    rcases Nat.lt_or_ge m r with q | q
    · have e := wd_up h hm hno q
      rw [wd, if_neg (fun z => z.2.elim (fun y => y rfl) (fun y => by rw [e] at y; exact nI_m1 (by omega) y)), e]
    · have : m = r := by omega
      subst this
      rw [wd, if_pos ⟨h, Or.inr hno⟩]

set_option maxHeartbeats 4000000 in
set_option maxRecDepth 100000 in
theorem c_X2_window (l9 : Launch) (hlt : l9.stackTraces = false) (dC : Nat → ClassId) (dI : Nat → Nat → Nat) (sz : Nat) {tK tB : ClassId} (h ak ab af : Nat) (ka kb : Nat → Nat) (n p : Nat) (F : Rows) (its g0 : Int32) (hI : Inv n p F) : vx_Met l9 yX2_window wsX2_window ({ frames := 7, cells := 1, slots := 6, locals := 104 }) (va_Pc [.ref h, .int its, .int g0] (PWr dC dI [(tK, .object "Windlane$Kite"), (tB, .object "Windlane$Borrower")] (cW tK tB h ak ab af ka kb n p F) sz)) (cQ dC dI tK tB h ak ab af (va_A (cW tK tB h ak ab af ka kb n p F) sz) n p F ((S_window n F its g0).1) ((S_window n F its g0).2)) (vx_X (fun _ : Unit => True) (fun E _ _ => (E = "java/lang/IndexOutOfBoundsException" ∧ (S_window n F its g0).1 = 1)) (fun _ => False)) 1 6 (va_A (cW tK tB h ak ab af ka kb n p F) sz) := by
  refine vx_ofW (cc := cX2_window) (maxL := 6) (ret := (some .int)) (by decide) rfl ?_
  intro p9 e9 s m args below meth c s₁ B hml hout hv
  obtain ⟨rfl, hsz, hP, hK, hD0, hE, hH⟩ := hv
  have hx := B.exec
  have hb := B.bytes
  have hr := B.returns
  have hts := atoms_spec (ws := wsX2_window) B.pre
  have hown : s.vm.findClass RX2 = some m.cls := findClass_of_methodNamed B.named
  have hlocks := B.notSynchronized
  subst hsz
  have hD := hD0.self (sz := s.heap.size)
  generalize hAe : va_A (cW tK tB h ak ab af ka kb n p F) s.heap.size = A at hD hH ⊢
  have hA : ∀ q : Nat, s.heap.size ≤ q → A q := fun q h => by rw [← hAe]; exact Or.inr h
  have hS : va_S A s.heap s.heap [] := va_S.rf
  have hP : va_P (dC, dI) vwCl (cW tK tB h ak ab af ka kb n p F) s.heap := hP
  have hn8 : n ≤ 8 := hI.1.1
  have hp8 : p ≤ 8 := hI.1.2
  have hl := lv_entry ([.ref h, .int its, .int g0]) (n := 6) (Nat.le_of_ble_eq_true rfl)
  rw [lg_entry_eq]
  generalize (lg_sl ([.ref h, .int its, .int g0]) ++ List.replicate (6 - (lg_sl ([.ref h, .int its, .int g0])).length) Slot.unset).toArray = ls at hl ⊢
  have hl : lv_has ls 6 [(0, .ref h), (1, .int its), (2, .int g0)] := hl
  refine lv_aload_n hx hb dX2_window_0 rfl (lv_at hl 0 rfl) ?_
  refine lv_iload_n hx hb dX2_window_1 rfl (lv_at hl 1 rfl) ?_
  refine my_callXq (vx_runV (As := [.int its]) (rest := []) ⟨hx, hb, hml, hown, hts⟩ (c_X2_kiteAt l9 hlt dC dI s.heap.size h ak ab af ka kb n p F its hI.1.1) (cwV 1 hts gX2_window_X2_kiteAt rfl rfl rfl (by decide +kernel) ⟨Nat.le_of_ble_eq_true rfl, Nat.le_of_ble_eq_true rfl⟩) ⟨PWr.blind, va_recv hK hP (ci := 2) (q0 := 0) rfl rfl, PWr.pre hP hK hD hE (hH.narrow (A_in hD hS hA))⟩ rfl rfl hl.1 rfl (lv_room (Nat.le_of_ble_eq_true rfl)) dX2_window_2 ⟨Nat.le_of_ble_eq_true rfl, Nat.le_of_ble_eq_true rfl⟩) (fun E ce q9 H1 hBE hz1 hk1 hce hcv hcl => vx_out (fun x hx => (hout x hx).elim) hlocks hce hcv hcl (fun t ht _ => ⟨(), trivial, ⟨hBE.1, by rw [S_window, ix_f hBE.2]⟩, by rw [ht]; exact hz1, fun q hq _ => by rw [ht]; exact hk1 q hq⟩) (fun z hz => absurd hz List.not_mem_nil) (Nat.le_of_ble_eq_true rfl) (Nat.le_of_ble_eq_true rfl)) (fun r9 hr9 => ?_)
  obtain ⟨k, hkn, rfl, rfl⟩ := hr9
  have hixk : ix n (nI k) = some k := ix_t hkn (by omega)
  have hl : lv_has ls 6 [(0, .ref h), (1, .int (nI k)), (2, .int g0)] := hl
  refine W_top (x := va_rf (some (ka k))) (y := .ref (ka k)) rfl ?_
  refine lv_astore_n (lv' := [(3, .ref (ka k)), (0, .ref h), (1, .int (nI k)), (2, .int g0)]) hx hb dX2_window_5 rfl hl (by decide) rfl (fun ls hl => ?_)
  refine lv_iconst (v := 0) hx hb dX2_window_6 (by decide) ?_
  refine lv_istore (lv' := [(4, .int 0), (3, .ref (ka k)), (0, .ref h), (1, .int (nI k)), (2, .int g0)]) hx hb dX2_window_7 hl (by decide) rfl (fun ls hl => ?_)
  refine W_loopR (nL := 6) (fun i : Nat => [(4, .int (nI i)), (0, .ref h), (1, .int (nI k)), (2, .int g0), (3, .ref (ka k))]) (fun i => i ≤ 31 ∧ (g0 = 0 → wd F k 0 i = -1) ∧ (¬ g0 = 0 → wd F k g0 (31 - i) = wd F k g0 31)) (fun i => 31 - i) ?_ 0 (⟨Nat.zero_le _, fun _ => rfl, fun _ => rfl⟩) (lv_sub hl [0, 2, 3, 4, 1] rfl)
  intro i ls hI9 hl ih
  have hl : lv_has ls 6 [(4, .int (nI i)), (0, .ref h), (1, .int (nI k)), (2, .int g0), (3, .ref (ka k))] := hl
  obtain ⟨hi31, hg0, hg1⟩ := hI9
  refine lv_iload hx hb dX2_window_9 (lv_at hl 0 rfl) ?_
  refine lv_bipush (v := 30) hx hb dX2_window_11 (by decide) ?_
  refine lv_icmp_gt (tgt := 50) hx hb dX2_window_13 (by decide) (fun c_13 => ?_) (fun c_13 => ?_)
  · skip
    have he : i = 31 := by have q := (nI_ltI (a := 30) (b := i) (by omega) (by omega)).mp c_13; omega
    subst he
    refine lv_iconst (v := (-1)) hx hb dX2_window_50 (by decide) ?_
    have hw9 : wd F k g0 31 = (-1) := (Decidable.em (g0 = 0)).elim (fun q => by subst q; exact hg0 rfl) (fun q => (hg1 q).symm)
    have hS9 : S_window n F (nI k) g0 = (0, (-1)) := by rw [S_window, hixk, ← hw9]
    refine vx_ret ?_
    refine W.widen (k := 1) (n := 6) (Nat.le_of_ble_eq_true rfl) (Nat.le_of_ble_eq_true rfl) ?_
    exact W.iret (v := (-1)) hx hb hr (fun t ht hW => cQ_mk ka kb (by rw [hS9]) (by rw [hS9]) (by rw [ht]; exact hP) (hD) (hS.F ht)) hS.2.2 dX2_window_51
  · skip
    have hlt9 : i < 31 := Nat.not_le.mp (fun q => c_13 ((nI_ltI (a := 30) (b := i) (by omega) (by omega)).mpr (by omega)))
    refine lv_iload_n hx hb dX2_window_16 rfl (lv_at hl 3 rfl) ?_
    refine W_join (pc := 30) (rest := []) (fun v => v = nI (if g0 = 0 then i else 30 - i)) (fun v hv => ?_) (fun K => ?_)
    · subst hv
      refine lv_istore (lv' := [(5, .int (nI (if g0 = 0 then i else 30 - i))), (4, .int (nI i)), (0, .ref h), (1, .int (nI k)), (2, .int g0), (3, .ref (ka k))]) hx hb dX2_window_30 hl (by decide) rfl (fun ls hl => ?_)
      refine lv_aload_n hx hb dX2_window_32 rfl (lv_at hl 5 rfl) ?_
      refine lv_iload hx hb dX2_window_33 (lv_at hl 0 rfl) ?_
      have hq1 := one_P hP (cG_k hkn)
      refine vp_callSi (va_Run.run (va_runV (As := [.int (nI (if g0 = 0 then i else 30 - i))]) (rest := []) ⟨hx, hb, hml, hown, hts⟩ (c_X1_holdsIn l9 dC dI (ka k) k F (nI (if g0 = 0 then i else 30 - i)) (hI.kd k hkn)) (cwV 1 hts gX2_window_X1_holdsIn rfl rfl rfl (by decide +kernel) ⟨Nat.le_of_ble_eq_true rfl, Nat.le_of_ble_eq_true rfl⟩) ⟨PRo.blind, va_recv (hK.sub (tys' := []) [] rfl) hq1 (ci := 1) (q0 := 0) rfl rfl, PRo.pre hq1 (hK.sub (tys' := []) [] rfl) hE⟩ rfl rfl hl.1 rfl (lv_room (Nat.le_of_ble_eq_true rfl)) dX2_window_35 ⟨Nat.le_of_ble_eq_true rfl, Nat.le_of_ble_eq_true rfl⟩)) (fun r hr => ?_)
      subst hr
      refine lv_if_eq (tgt := 44) hx hb dX2_window_38 (by decide) (fun c_38 => ?_) (fun c_38 => ?_)
      · skip
        have c_38 := bi_z.mp c_38
        refine lv_iinc (v := nI (i + 1)) (lv' := [(4, .int (nI (i + 1))), (5, .int (nI (if g0 = 0 then i else 30 - i))), (0, .ref h), (1, .int (nI k)), (2, .int g0), (3, .ref (ka k))]) hx hb dX2_window_44 hl (k := 1) rfl (nI_1 _) (by decide) rfl (fun ls hl => ?_)
        refine lv_goto (tgt := 9) hx hb dX2_window_47 (by decide) ?_
        have hn1 : g0 = 0 → wd F k 0 (i + 1) = -1 := fun q => by rw [wd_skip (by rw [← show (if g0 = 0 then i else 30 - i) = i from if_pos q]; exact c_38), hg0 q]
        have hn2 : ¬ g0 = 0 → wd F k g0 (31 - (i + 1)) = wd F k g0 31 := fun q => by rw [← hg1 q, show 31 - i = (31 - (i + 1)) + 1 by omega, wd_skip (by rw [show 31 - (i + 1) = 30 - i by omega, ← show (if g0 = 0 then i else 30 - i) = 30 - i from if_neg q]; exact c_38)]
        exact ih (i + 1) ls (by omega) (⟨by omega, hn1, hn2⟩) (lv_sub hl [0, 2, 3, 4, 5] rfl)
      · skip
        have c_38 := bi_nz.mp c_38
        refine lv_iload hx hb dX2_window_41 (lv_at hl 0 rfl) ?_
        have hw9 : wd F k g0 31 = nI (if g0 = 0 then i else 30 - i) := (Decidable.em (g0 = 0)).elim (fun q => by subst q; rw [if_pos rfl] at c_38 ⊢; exact wd_up c_38 hlt9 (hg0 rfl) hlt9) (fun q => by rw [if_neg q] at c_38 ⊢; rw [← hg1 q, show 31 - i = (30 - i) + 1 by omega]; exact wd_down q c_38)
        have hS9 : S_window n F (nI k) g0 = (0, nI (if g0 = 0 then i else 30 - i)) := by rw [S_window, hixk, ← hw9]
        refine vx_ret ?_
        refine W.widen (k := 1) (n := 6) (Nat.le_of_ble_eq_true rfl) (Nat.le_of_ble_eq_true rfl) ?_
        exact W.iret (v := nI (if g0 = 0 then i else 30 - i)) hx hb hr (fun t ht hW => cQ_mk ka kb (by rw [hS9]) (by rw [hS9]) (by rw [ht]; exact hP) (hD) (hS.F ht)) hS.2.2 dX2_window_43
    · skip
      refine lv_if_eq (tgt := 28) hx hb dX2_window_17 (by decide) (fun c_17 => ?_) (fun c_17 => ?_)
      · skip
        refine lv_iload hx hb dX2_window_28 (lv_at hl 0 rfl) ?_
        exact K _ (by rw [if_pos c_17])
      · skip
        refine lv_bipush (v := 30) hx hb dX2_window_20 (by decide) ?_
        refine lv_iload hx hb dX2_window_22 (lv_at hl 0 rfl) ?_
        refine lv_isub hx hb dX2_window_24 ?_
        refine lv_goto (tgt := 30) hx hb dX2_window_25 (by decide) ?_
        exact K _ (by rw [if_neg c_17]; exact nI_sub (a := 30) (b := i) (by omega) (by omega))

set_option maxHeartbeats 4000000 in
set_option maxRecDepth 100000 in
theorem c_X2_rain (l9 : Launch) (dC : Nat → ClassId) (dI : Nat → Nat → Nat) (sz : Nat) {tK tB : ClassId} (h ak ab af : Nat) (ka kb : Nat → Nat) (n p : Nat) (F : Rows) (b9 : Int32) (hb9 : b9 = 0 ∨ b9 = 1) (hI : Inv n p F) : Met l9 yX2_rain wsX2_rain ({ frames := 0, cells := 0, slots := 0, locals := 0 }) (va_Pc [.ref h, .int b9] (PWr dC dI [(tK, .object "Windlane$Kite"), (tB, .object "Windlane$Borrower")] (cW tK tB h ak ab af ka kb n p F) sz)) (va_Qi (fun r9 (_ : Unit) => r9 = F 9 2) (fun _ t => va_P (dC, dI) vwCl (cW tK tB h ak ab af ka kb n p (up F 9 2 b9)) t.heap) (va_A (cW tK tB h ak ab af ka kb n p F) sz)) 0 0 (va_A (cW tK tB h ak ab af ka kb n p F) sz) := by
  refine Met.ofW (cc := cX2_rain) (maxL := 3) (ret := (some .boolean)) (by decide) rfl ?_
  intro p9 e9 s m args below meth c s₁ B hml hv
  obtain ⟨rfl, hsz, hP, hK, hD0, hE, hH⟩ := hv
  have hx := B.exec
  have hb := B.bytes
  have hr := B.returns
  have hts := atoms_spec (ws := wsX2_rain) B.pre
  have hown : s.vm.findClass RX2 = some m.cls := findClass_of_methodNamed B.named
  have hlocks := B.notSynchronized
  have hi2 : ∀ w ∈ u_ws RX2 TX2 9, w ∈ wsX2_rain := by decide +kernel
  have lk158 := hts (.fieldLink RX2 158 "Windlane" "isRaining" "Z") (by decide +kernel)
  subst hsz
  have hD := hD0.self (sz := s.heap.size)
  generalize hAe : va_A (cW tK tB h ak ab af ka kb n p F) s.heap.size = A at hD hH ⊢
  have hA : ∀ q : Nat, s.heap.size ≤ q → A q := fun q h => by rw [← hAe]; exact Or.inr h
  have hS : va_S A s.heap s.heap [] := va_S.rf
  have hP : va_P (dC, dI) vwCl (cW tK tB h ak ab af ka kb n p F) s.heap := hP
  have hl := lv_entry ([.ref h, .int b9]) (n := 3) (Nat.le_of_ble_eq_true rfl)
  rw [lg_entry_eq]
  generalize (lg_sl ([.ref h, .int b9]) ++ List.replicate (3 - (lg_sl ([.ref h, .int b9])).length) Slot.unset).toArray = ls at hl ⊢
  have hl : lv_has ls 3 [(0, .ref h), (1, .int b9)] := hl
  refine lv_aload_n hx hb dX2_rain_0 rfl (lv_at hl 0 rfl) ?_
  refine va_get (D := (dC, dI)) (ci := 2) (v := .int (F 9 2)) (C := RX2) (T := TX2) (N := 9) hx hb hts hi2 hown hK hP 0 rfl rfl 7 (by decide) lk158 (fun _ h9 => h9) rfl dX2_rain_1 ?_
  refine lv_istore_n (lv' := [(2, .int (F 9 2)), (0, .ref h), (1, .int b9)]) hx hb dX2_rain_4 rfl hl (by decide) rfl (fun ls hl => ?_)
  refine lv_aload_n hx hb dX2_rain_5 rfl (lv_at hl 1 rfl) ?_
  refine lv_iload_n hx hb dX2_rain_6 rfl (lv_at hl 2 rfl) ?_
  refine va_put (D := (dC, dI)) (ci := 2) (v := .int b9) (ty := .boolean) (C := RX2) (T := TX2) (N := 9) hx hb hts hi2 tyX2 tyX2_ok nmX2 hown hK hP hD hS 0 rfl rfl 7 (by decide) lk158 (fun _ h9 => h9) rfl (by decide +kernel) (nar_01 hb9) (fit_01 hb9) (Nat.le_of_ble_eq_true rfl) dX2_rain_7 (fun H locs hP hD hS => ?_)
  have hP : va_P (dC, dI) vwCl (cG tK tB h ak ab af ka kb n p (up F 9 2 b9) (flF F n) (hbF F n)) H := P_eq (rfl) hP
  have hD : va_D A (cG tK tB h ak ab af ka kb n p (up F 9 2 b9) (flF F n) (hbF F n)) := D_eq (rfl) hD
  refine lv_iload_n hx hb dX2_rain_10 rfl (lv_at hl 0 rfl) ?_
  have hP : va_P (dC, dI) vwCl (cW tK tB h ak ab af ka kb n p (up F 9 2 b9)) H := hP
  have hD : va_D A (cW tK tB h ak ab af ka kb n p (up F 9 2 b9)) := hD
  exact W.zret (v := F 9 2) hx hb hr (nar_01 hI.2.2.2.2.1.2) (fun t ht hW => ⟨⟨F 9 2, (), rfl, rfl, by show va_P _ _ _ t.heap; rw [ht]; exact hP⟩, hS.F ht⟩) hS.2.2 dX2_rain_11

set_option maxHeartbeats 4000000 in
set_option maxRecDepth 100000 in
theorem c_X2_called (l9 : Launch) (dC : Nat → ClassId) (dI : Nat → Nat → Nat) {tK tB : ClassId} (h ak ab af : Nat) (ka kb : Nat → Nat) (n p : Nat) (F : Rows)  : Met l9 yX2_called wsX2_called ({ frames := 0, cells := 0, slots := 0, locals := 0 }) (va_Pc [.ref h] (PRo dC dI [(tK, .object "Windlane$Kite"), (tB, .object "Windlane$Borrower")] (cW tK tB h ak ab af ka kb n p F))) (vp_Si (fun r9 => r9 = F 9 3)) 0 0 (fun _ => False) := by
  refine Met.ofW (cc := cX2_called) (maxL := 1) (ret := (some .int)) (by decide) rfl ?_
  intro p9 e9 s m args below meth c s₁ B hml hv
  obtain ⟨rfl, hP, hK, hE⟩ := hv
  have hx := B.exec
  have hb := B.bytes
  have hr := B.returns
  have hts := atoms_spec (ws := wsX2_called) B.pre
  have hown : s.vm.findClass RX2 = some m.cls := findClass_of_methodNamed B.named
  have hlocks := B.notSynchronized
  have hP : va_P (dC, dI) vwCl (cW tK tB h ak ab af ka kb n p F) s.heap := hP
  have hi2 : ∀ w ∈ u_ws RX2 TX2 9, w ∈ wsX2_called := by decide +kernel
  have lk149 := hts (.fieldLink RX2 149 "Windlane" "calledCount" "I") (by decide +kernel)
  have hl := lv_entry ([.ref h]) (n := 1) (Nat.le_of_ble_eq_true rfl)
  rw [lg_entry_eq]
  generalize (lg_sl ([.ref h]) ++ List.replicate (1 - (lg_sl ([.ref h])).length) Slot.unset).toArray = ls at hl ⊢
  have hl : lv_has ls 1 [(0, .ref h)] := hl
  refine lv_aload_n hx hb dX2_called_0 rfl (lv_at hl 0 rfl) ?_
  refine va_get (D := (dC, dI)) (ci := 2) (v := .int (F 9 3)) (C := RX2) (T := TX2) (N := 9) hx hb hts hi2 hown hK hP 0 rfl rfl 8 (by decide) lk149 (fun _ h9 => h9) rfl dX2_called_1 ?_
  exact W.iret (v := F 9 3) hx hb hr (fun t ht _ => ⟨_, rfl, rfl, ht⟩) (fun q hq => absurd hq List.not_mem_nil) dX2_called_4
