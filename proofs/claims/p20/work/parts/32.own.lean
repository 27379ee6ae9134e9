abbrev xcr (F : Rows) (n : Nat) (ln e : Int32) (l : Nat) : Prop := ∃ k, lk (F 6) n (nI l) = some k ∧ (if nI l < ln then e ≤ ed F k else ed F k ≤ e)
theorem lane_ne {F : Rows} {n l k : Nat} (hl : l < 10) (h : lk (F 6) n (nI l) = some k) : ¬ F 6 k = -1 := by
  rw [(lk_some h).2]; exact nI_m1 (by omega)

set_option maxHeartbeats 4000000 in
set_option maxRecDepth 100000 in
theorem c_X2_wouldCross (l9 : Launch) (dC : Nat → ClassId) (dI : Nat → Nat → Nat) {tK tB : ClassId} (h ak ab af : Nat) (ka kb : Nat → Nat) (n p : Nat) (F : Rows) (ln e : Int32) (hn8 : n ≤ 8) (hkd : ∀ k, k < n → F 0 k = 0 ∨ F 0 k = 1 ∨ F 0 k = 2) (hfl : ∀ k, k < n → ¬ F 6 k = -1 → held F k (F 9 0)) : Met l9 yX2_wouldCross wsX2_wouldCross ({ frames := 4, cells := 0, slots := 0, locals := 90 }) (va_Pc [.ref h, .int ln, .int e] (PRo dC dI [(tK, .object "Windlane$Kite"), (tB, .object "Windlane$Borrower")] (cW tK tB h ak ab af ka kb n p F))) (vp_Si (fun r9 => (r9 = 1 ∧ ∃ l, l < 10 ∧ xcr F n ln e l) ∨ (r9 = 0 ∧ ∀ l, l < 10 → ¬ xcr F n ln e l))) 0 0 (fun _ => False) := by
  refine Met.ofW (cc := cX2_wouldCross) (maxL := 6) (ret := (some .boolean)) (by decide) rfl ?_
  intro p9 e9 s m args below meth c s₁ B hml hv
  obtain ⟨rfl, hP, hK, hE⟩ := hv
  have hx := B.exec
  have hb := B.bytes
  have hr := B.returns
  have hts := atoms_spec (ws := wsX2_wouldCross) B.pre
  have hown : s.vm.findClass RX2 = some m.cls := findClass_of_methodNamed B.named
  have hlocks := B.notSynchronized
  have hP : va_P (dC, dI) vwCl (cW tK tB h ak ab af ka kb n p F) s.heap := hP
  have hi2 : ∀ w ∈ u_ws RX2 TX2 9, w ∈ wsX2_wouldCross := by decide +kernel
  have lk21 := hts (.fieldLink RX2 21 "Windlane" "flyers" "[LWindlane$Kite;") (by decide +kernel)
  have lk112 := hts (.fieldLink RX2 112 "Windlane" "windSpeed" "I") (by decide +kernel)
  have lk120 := hts (.fieldLink RX2 120 "Windlane" "windSide" "I") (by decide +kernel)
  have hl := lv_entry ([.ref h, .int ln, .int e]) (n := 6) (Nat.le_of_ble_eq_true rfl)
  rw [lg_entry_eq]
  generalize (lg_sl ([.ref h, .int ln, .int e]) ++ List.replicate (6 - (lg_sl ([.ref h, .int ln, .int e])).length) Slot.unset).toArray = ls at hl ⊢
  have hl : lv_has ls 6 [(0, .ref h), (1, .int ln), (2, .int e)] := hl
  refine lv_iconst (v := 0) hx hb dX2_wouldCross_0 (by decide) ?_
  refine lv_istore_n (lv' := [(3, .int 0), (0, .ref h), (1, .int ln), (2, .int e)]) hx hb dX2_wouldCross_1 rfl hl (by decide) rfl (fun ls hl => ?_)
  refine W_loopR (nL := 6) (fun l : Nat => [(3, .int (nI l)), (0, .ref h), (1, .int ln), (2, .int e)]) (fun l => l ≤ 10 ∧ ∀ l', l' < l → ¬ xcr F n ln e l') (fun l => 10 - l) ?_ 0 (⟨Nat.zero_le _, lt_0⟩) (lv_sub hl [0, 1, 2, 3] rfl)
  intro l ls hI hl ih
  have hl : lv_has ls 6 [(3, .int (nI l)), (0, .ref h), (1, .int ln), (2, .int e)] := hl
  obtain ⟨hl10, hno⟩ := hI
  refine lv_iload_n hx hb dX2_wouldCross_2 rfl (lv_at hl 0 rfl) ?_
  refine lv_bipush (v := 10) hx hb dX2_wouldCross_3 (by decide) ?_
  refine lv_icmp_ge (tgt := 64) hx hb dX2_wouldCross_5 (by decide) (fun c_5 => ?_) (fun c_5 => ?_)
  · skip
    have he : l = 10 := by have q := (nI_leI (a := 10) (b := l) (by omega) (by omega)).mp c_5; omega
    subst he
    refine lv_iconst (v := 0) hx hb dX2_wouldCross_64 (by decide) ?_
    exact W.zret (v := 0) hx hb hr rfl (fun t ht _ => ⟨_, rfl, Or.inr ⟨rfl, fun l' hl' => hno l' hl'⟩, ht⟩) (fun q hq => absurd hq List.not_mem_nil) dX2_wouldCross_65
  · skip
    have hlt : l < 10 := Nat.not_le.mp (fun q => c_5 ((nI_leI (a := 10) (b := l) (by omega) (by omega)).mpr q))
    refine lv_aload_n hx hb dX2_wouldCross_8 rfl (lv_at hl 1 rfl) ?_
    refine va_get (D := (dC, dI)) (ci := 2) (v := .ref af) (C := RX2) (T := TX2) (N := 9) hx hb hts hi2 hown hK hP 0 rfl rfl 4 (by decide) lk21 (fun _ h9 => h9) rfl dX2_wouldCross_9 ?_
    refine lv_iload_n hx hb dX2_wouldCross_12 rfl (lv_at hl 0 rfl) ?_
    refine my_aldq hx hb hK hP 3 0 rfl rfl hlt (Nat.le_of_ble_eq_true rfl) dX2_wouldCross_13 ?_
    rcases hlk : lk (F 6) n (nI l) with _ | k
    · skip
      refine W_top (y := .null) (show va_rf ((flF F n l).map ka) = _ by rw [flF_at hlt, hlk]; rfl) ?_
      refine lv_astoreN (lv' := [(4, .null), (3, .int (nI l)), (0, .ref h), (1, .int ln), (2, .int e)]) hx hb dX2_wouldCross_14 hl (by decide) rfl (fun ls hl => ?_)
      refine lv_aloadN hx hb dX2_wouldCross_16 (lv_at hl 0 rfl) ?_
      refine lv_ifnullN (tgt := 58) hx hb dX2_wouldCross_18 (by decide) ?_
      refine lv_iinc (v := nI (l + 1)) (lv' := [(3, .int (nI (l + 1))), (4, .null), (0, .ref h), (1, .int ln), (2, .int e)]) hx hb dX2_wouldCross_58 hl (k := 1) rfl (nI_1 _) (by decide) rfl (fun ls hl => ?_)
      refine lv_goto (tgt := 2) hx hb dX2_wouldCross_61 (by decide) ?_
      exact ih (l + 1) ls (by omega) (⟨by omega, lt_s hno (fun q => by obtain ⟨k, q, -⟩ := q; rw [hlk] at q; cases q)⟩) (lv_sub hl [0, 2, 3, 4] rfl)
    · skip
      refine W_top (y := .ref (ka k)) (show va_rf ((flF F n l).map ka) = _ by rw [flF_at hlt, hlk]; rfl) ?_
      have hlkn : k < n := (lk_some hlk).1
      refine lv_astore (lv' := [(4, .ref (ka k)), (3, .int (nI l)), (0, .ref h), (1, .int ln), (2, .int e)]) hx hb dX2_wouldCross_14 hl (by decide) rfl (fun ls hl => ?_)
      refine lv_aload hx hb dX2_wouldCross_16 (lv_at hl 0 rfl) ?_
      refine lv_ifnull hx hb dX2_wouldCross_18 ?_
      refine lv_aload hx hb dX2_wouldCross_21 (lv_at hl 0 rfl) ?_
      refine lv_aload_n hx hb dX2_wouldCross_23 rfl (lv_at hl 2 rfl) ?_
      refine va_get (D := (dC, dI)) (ci := 2) (v := .int (F 9 0)) (C := RX2) (T := TX2) (N := 9) hx hb hts hi2 hown hK hP 0 rfl rfl 5 (by decide) lk112 (fun _ h9 => h9) rfl dX2_wouldCross_24 ?_
      refine lv_aload_n hx hb dX2_wouldCross_27 rfl (lv_at hl 2 rfl) ?_
      refine va_get (D := (dC, dI)) (ci := 2) (v := .int (F 9 1)) (C := RX2) (T := TX2) (N := 9) hx hb hts hi2 hown hK hP 0 rfl rfl 6 (by decide) lk120 (fun _ h9 => h9) rfl dX2_wouldCross_28 ?_
      have hq1 := one_P hP (cG_k hlkn)
      refine vp_callSi (va_Run.run (va_runV (As := [.int (F 9 0), .int (F 9 1)]) (rest := []) ⟨hx, hb, hml, hown, hts⟩ (c_X1_endIn l9 dC dI (ka k) k F (F 9 0) (F 9 1) (hkd k hlkn) (st_ok (hfl k hlkn (lane_ne hlt hlk)))) (cwV 2 hts gX2_wouldCross_X1_endIn rfl rfl rfl (by decide +kernel) ⟨Nat.le_of_ble_eq_true rfl, Nat.le_of_ble_eq_true rfl⟩) ⟨PRo.blind, va_recv (hK.sub (tys' := []) [] rfl) hq1 (ci := 1) (q0 := 0) rfl rfl, PRo.pre hq1 (hK.sub (tys' := []) [] rfl) hE⟩ rfl rfl hl.1 rfl (lv_room (Nat.le_of_ble_eq_true rfl)) dX2_wouldCross_31 ⟨Nat.le_of_ble_eq_true rfl, Nat.le_of_ble_eq_true rfl⟩)) (fun r hr => ?_)
      subst hr
      refine W_top (y := .int (ed F k)) (rfl) ?_
      refine lv_istore (lv' := [(5, .int (ed F k)), (4, .ref (ka k)), (3, .int (nI l)), (0, .ref h), (1, .int ln), (2, .int e)]) hx hb dX2_wouldCross_34 hl (by decide) rfl (fun ls hl => ?_)
      refine lv_iload_n hx hb dX2_wouldCross_36 rfl (lv_at hl 2 rfl) ?_
      refine lv_iload_n hx hb dX2_wouldCross_37 rfl (lv_at hl 4 rfl) ?_
      refine lv_icmp_ge (tgt := 50) hx hb dX2_wouldCross_38 (by decide) (fun c_38 => ?_) (fun c_38 => ?_)
      · skip
        refine lv_iload_n hx hb dX2_wouldCross_50 rfl (lv_at hl 5 rfl) ?_
        refine lv_iload hx hb dX2_wouldCross_51 (lv_at hl 0 rfl) ?_
        refine lv_icmp_lt (tgt := 58) hx hb dX2_wouldCross_53 (by decide) (fun c_53 => ?_) (fun c_53 => ?_)
        · skip
          refine lv_iinc (v := nI (l + 1)) (lv' := [(3, .int (nI (l + 1))), (5, .int (ed F k)), (4, .ref (ka k)), (0, .ref h), (1, .int ln), (2, .int e)]) hx hb dX2_wouldCross_58 hl (k := 2) rfl (nI_1 _) (by decide) rfl (fun ls hl => ?_)
          refine lv_goto (tgt := 2) hx hb dX2_wouldCross_61 (by decide) ?_
          exact ih (l + 1) ls (by omega) (⟨by omega, lt_s hno (fun q => by obtain ⟨k2, q1, q2⟩ := q; rw [hlk] at q1; cases q1; rw [if_neg (by rw [i32_lt]; rw [i32_le] at c_38; omega)] at q2; rw [i32_le] at q2; rw [i32_lt] at c_53; omega)⟩) (lv_sub hl [0, 3, 4, 5] rfl)
        · skip
          refine lv_iconst (v := 1) hx hb dX2_wouldCross_56 (by decide) ?_
          exact W.zret (v := 1) hx hb hr rfl (fun t ht _ => ⟨_, rfl, Or.inl ⟨rfl, l, hlt, ⟨k, hlk, by rw [if_neg (by rw [i32_lt]; rw [i32_le] at c_38; omega)]; rw [i32_le]; rw [i32_lt] at c_53; omega⟩⟩, ht⟩) (fun q hq => absurd hq List.not_mem_nil) dX2_wouldCross_57
      · skip
        refine lv_iload hx hb dX2_wouldCross_41 (lv_at hl 0 rfl) ?_
        refine lv_iload_n hx hb dX2_wouldCross_43 rfl (lv_at hl 5 rfl) ?_
        refine lv_icmp_lt (tgt := 58) hx hb dX2_wouldCross_44 (by decide) (fun c_44 => ?_) (fun c_44 => ?_)
        · skip
          refine lv_iinc (v := nI (l + 1)) (lv' := [(3, .int (nI (l + 1))), (5, .int (ed F k)), (4, .ref (ka k)), (0, .ref h), (1, .int ln), (2, .int e)]) hx hb dX2_wouldCross_58 hl (k := 2) rfl (nI_1 _) (by decide) rfl (fun ls hl => ?_)
          refine lv_goto (tgt := 2) hx hb dX2_wouldCross_61 (by decide) ?_
          exact ih (l + 1) ls (by omega) (⟨by omega, lt_s hno (fun q => by obtain ⟨k2, q1, q2⟩ := q; rw [hlk] at q1; cases q1; rw [if_pos (by rw [i32_lt]; rw [i32_le] at c_38; omega)] at q2; rw [i32_le] at q2; rw [i32_lt] at c_44; omega)⟩) (lv_sub hl [0, 3, 4, 5] rfl)
        · skip
          refine lv_goto (tgt := 56) hx hb dX2_wouldCross_47 (by decide) ?_
          refine lv_iconst (v := 1) hx hb dX2_wouldCross_56 (by decide) ?_
          exact W.zret (v := 1) hx hb hr rfl (fun t ht _ => ⟨_, rfl, Or.inl ⟨rfl, l, hlt, ⟨k, hlk, by rw [if_pos (by rw [i32_lt]; rw [i32_le] at c_38; omega)]; rw [i32_le]; rw [i32_lt] at c_44; omega⟩⟩, ht⟩) (fun q hq => absurd hq List.not_mem_nil) dX2_wouldCross_57

def wl (F : Rows) : Option Nat → Int32
  | none => -1
  | some k => F 6 k

set_option maxHeartbeats 4000000 in
set_option maxRecDepth 100000 in
theorem c_X2_weakerLaneOfFirstCrossing (l9 : Launch) (dC : Nat → ClassId) (dI : Nat → Nat → Nat) {tK tB : ClassId} (h ak ab af : Nat) (ka kb : Nat → Nat) (n p : Nat) (F : Rows)  (hn8 : n ≤ 8) (hkd : ∀ k, k < n → F 0 k = 0 ∨ F 0 k = 1 ∨ F 0 k = 2) (hfl : ∀ k, k < n → ¬ F 6 k = -1 → held F k (F 9 0)) : Met l9 yX2_weakerLaneOfFirstCrossing wsX2_weakerLaneOfFirstCrossing ({ frames := 4, cells := 0, slots := 0, locals := 90 }) (va_Pc [.ref h] (PRo dC dI [(tK, .object "Windlane$Kite"), (tB, .object "Windlane$Borrower")] (cW tK tB h ak ab af ka kb n p F))) (vp_Si (fun r9 => r9 = wl F (cK F n))) 0 0 (fun _ => False) := by
  refine Met.ofW (cc := cX2_weakerLaneOfFirstCrossing) (maxL := 5) (ret := (some .int)) (by decide) rfl ?_
  intro p9 e9 s m args below meth c s₁ B hml hv
  obtain ⟨rfl, hP, hK, hE⟩ := hv
  have hx := B.exec
  have hb := B.bytes
  have hr := B.returns
  have hts := atoms_spec (ws := wsX2_weakerLaneOfFirstCrossing) B.pre
  have hown : s.vm.findClass RX2 = some m.cls := findClass_of_methodNamed B.named
  have hlocks := B.notSynchronized
  have hP : va_P (dC, dI) vwCl (cW tK tB h ak ab af ka kb n p F) s.heap := hP
  have hi2 : ∀ w ∈ u_ws RX2 TX2 9, w ∈ wsX2_weakerLaneOfFirstCrossing := by decide +kernel
  have lk21 := hts (.fieldLink RX2 21 "Windlane" "flyers" "[LWindlane$Kite;") (by decide +kernel)
  have lk112 := hts (.fieldLink RX2 112 "Windlane" "windSpeed" "I") (by decide +kernel)
  have lk120 := hts (.fieldLink RX2 120 "Windlane" "windSide" "I") (by decide +kernel)
  have hl := lv_entry ([.ref h]) (n := 5) (Nat.le_of_ble_eq_true rfl)
  rw [lg_entry_eq]
  generalize (lg_sl ([.ref h]) ++ List.replicate (5 - (lg_sl ([.ref h])).length) Slot.unset).toArray = ls at hl ⊢
  have hl : lv_has ls 5 [(0, .ref h)] := hl
  refine lv_iconst (v := 0) hx hb dX2_weakerLaneOfFirstCrossing_0 (by decide) ?_
  refine lv_istore_n (lv' := [(1, .int 0), (0, .ref h)]) hx hb dX2_weakerLaneOfFirstCrossing_1 rfl hl (by decide) rfl (fun ls hl => ?_)
  refine W_loopR (nL := 5) (fun lo : Nat => [(1, .int (nI lo)), (0, .ref h)]) (fun lo => lo ≤ 10 ∧ ∀ l' h', l' < h' → h' < 10 → l' < lo → ¬ crs F n l' h') (fun lo => 10 - lo) ?_ 0 (⟨Nat.zero_le _, fun _ _ _ _ q => absurd q (Nat.not_lt_zero _)⟩) (lv_sub hl [0, 1] rfl)
  intro lo ls hI hl ih
  have hl : lv_has ls 5 [(1, .int (nI lo)), (0, .ref h)] := hl
  obtain ⟨hl10, hno⟩ := hI
  refine lv_iload_n hx hb dX2_weakerLaneOfFirstCrossing_2 rfl (lv_at hl 0 rfl) ?_
  refine lv_bipush (v := 10) hx hb dX2_weakerLaneOfFirstCrossing_3 (by decide) ?_
  refine lv_icmp_ge (tgt := 108) hx hb dX2_weakerLaneOfFirstCrossing_5 (by decide) (fun c_5 => ?_) (fun c_5 => ?_)
  · skip
    have he : lo = 10 := by have q := (nI_leI (a := 10) (b := lo) (by omega) (by omega)).mp c_5; omega
    subst he
    refine lv_iconst (v := (-1)) hx hb dX2_weakerLaneOfFirstCrossing_108 (by decide) ?_
    exact W.iret (v := (-1)) hx hb hr (fun t ht _ => ⟨_, rfl, by rw [cK_of (o := none) (fun l' h' q1 q2 => hno l' h' q1 q2 (by omega))]; rfl, ht⟩) (fun q hq => absurd hq List.not_mem_nil) dX2_weakerLaneOfFirstCrossing_109
  · skip
    have hlo : lo < 10 := Nat.not_le.mp (fun q => c_5 ((nI_leI (a := 10) (b := lo) (by omega) (by omega)).mpr q))
    refine lv_iload_n hx hb dX2_weakerLaneOfFirstCrossing_8 rfl (lv_at hl 0 rfl) ?_
    refine lv_iconst (v := 1) hx hb dX2_weakerLaneOfFirstCrossing_9 (by decide) ?_
    refine lv_iadd hx hb dX2_weakerLaneOfFirstCrossing_10 ?_
    refine W_top (y := .int (nI (lo + 1))) (congrArg Value.int (nI_1 lo)) ?_
    refine lv_istore_n (lv' := [(2, .int (nI (lo + 1))), (1, .int (nI lo)), (0, .ref h)]) hx hb dX2_weakerLaneOfFirstCrossing_11 rfl hl (by decide) rfl (fun ls hl => ?_)
    have ih0 := ih
    refine W_loopR (nL := 5) (fun hi : Nat => [(2, .int (nI hi)), (1, .int (nI lo)), (0, .ref h)]) (fun hi => (lo < hi ∧ hi ≤ 10) ∧ ∀ h', lo < h' → h' < hi → ¬ crs F n lo h') (fun hi => 10 - hi) ?_ (lo + 1) (⟨⟨by omega, by omega⟩, fun _ q1 q2 => by omega⟩) (lv_sub hl [0, 1, 2] rfl)
    intro hi ls hI2 hl ih
    have hl : lv_has ls 5 [(2, .int (nI hi)), (1, .int (nI lo)), (0, .ref h)] := hl
    obtain ⟨⟨hh1, hh2⟩, hni⟩ := hI2
    refine lv_iload_n hx hb dX2_weakerLaneOfFirstCrossing_12 rfl (lv_at hl 0 rfl) ?_
    refine lv_bipush (v := 10) hx hb dX2_weakerLaneOfFirstCrossing_13 (by decide) ?_
    refine lv_icmp_ge (tgt := 102) hx hb dX2_weakerLaneOfFirstCrossing_15 (by decide) (fun c_15 => ?_) (fun c_15 => ?_)
    · skip
      have he : hi = 10 := by have q := (nI_leI (a := 10) (b := hi) (by omega) (by omega)).mp c_15; omega
      have ih := ih0
      refine lv_iinc (v := nI (lo + 1)) (lv' := [(1, .int (nI (lo + 1))), (2, .int (nI hi)), (0, .ref h)]) hx hb dX2_weakerLaneOfFirstCrossing_102 hl (k := 1) rfl (nI_1 _) (by decide) rfl (fun ls hl => ?_)
      refine lv_goto (tgt := 2) hx hb dX2_weakerLaneOfFirstCrossing_105 (by decide) ?_
      have hnx : ∀ l' h', l' < h' → h' < 10 → l' < lo + 1 → ¬ crs F n l' h' := by
        intro l' h' q1 q2 q3
        rcases Nat.lt_or_ge l' lo with q | q
        · exact hno l' h' q1 q2 q
        · have e9 : l' = lo := by omega
          subst e9
          exact hni h' q1 (by omega)
      exact ih (lo + 1) ls (by omega) (⟨by omega, hnx⟩) (lv_sub hl [0, 2] rfl)
    · skip
      have hhi : hi < 10 := Nat.not_le.mp (fun q => c_15 ((nI_leI (a := 10) (b := hi) (by omega) (by omega)).mpr q))
      refine lv_aload_n hx hb dX2_weakerLaneOfFirstCrossing_18 rfl (lv_at hl 2 rfl) ?_
      refine va_get (D := (dC, dI)) (ci := 2) (v := .ref af) (C := RX2) (T := TX2) (N := 9) hx hb hts hi2 hown hK hP 0 rfl rfl 4 (by decide) lk21 (fun _ h9 => h9) rfl dX2_weakerLaneOfFirstCrossing_19 ?_
      refine lv_iload_n hx hb dX2_weakerLaneOfFirstCrossing_22 rfl (lv_at hl 1 rfl) ?_
      refine my_aldq hx hb hK hP 3 0 rfl rfl hlo (Nat.le_of_ble_eq_true rfl) dX2_weakerLaneOfFirstCrossing_23 ?_
      rcases hka : lk (F 6) n (nI lo) with _ | a
      · skip
        refine W_top (y := .null) (show va_rf ((flF F n lo).map ka) = _ by rw [flF_at hlo, hka]; rfl) ?_
        refine lv_astore_nN (lv' := [(3, .null), (2, .int (nI hi)), (1, .int (nI lo)), (0, .ref h)]) hx hb dX2_weakerLaneOfFirstCrossing_24 rfl hl (by decide) rfl (fun ls hl => ?_)
        refine lv_aload_n hx hb dX2_weakerLaneOfFirstCrossing_25 rfl (lv_at hl 3 rfl) ?_
        refine va_get (D := (dC, dI)) (ci := 2) (v := .ref af) (C := RX2) (T := TX2) (N := 9) hx hb hts hi2 hown hK hP 0 rfl rfl 4 (by decide) lk21 (fun _ h9 => h9) rfl dX2_weakerLaneOfFirstCrossing_26 ?_
        refine lv_iload_n hx hb dX2_weakerLaneOfFirstCrossing_29 rfl (lv_at hl 1 rfl) ?_
        refine my_aldq hx hb hK hP 3 0 rfl rfl hhi (Nat.le_of_ble_eq_true rfl) dX2_weakerLaneOfFirstCrossing_30 ?_
        rcases hkb : lk (F 6) n (nI hi) with _ | b
        · skip
          refine W_top (y := .null) (show va_rf ((flF F n hi).map ka) = _ by rw [flF_at hhi, hkb]; rfl) ?_
          refine lv_astoreN (lv' := [(4, .null), (3, .null), (2, .int (nI hi)), (1, .int (nI lo)), (0, .ref h)]) hx hb dX2_weakerLaneOfFirstCrossing_31 hl (by decide) rfl (fun ls hl => ?_)
          refine lv_aload_nN hx hb dX2_weakerLaneOfFirstCrossing_33 rfl (lv_at hl 1 rfl) ?_
          refine lv_ifnullN (tgt := 96) hx hb dX2_weakerLaneOfFirstCrossing_34 (by decide) ?_
          refine lv_iinc (v := nI (hi + 1)) (lv' := [(2, .int (nI (hi + 1))), (4, .null), (3, .null), (1, .int (nI lo)), (0, .ref h)]) hx hb dX2_weakerLaneOfFirstCrossing_96 hl (k := 2) rfl (nI_1 _) (by decide) rfl (fun ls hl => ?_)
          refine lv_goto (tgt := 12) hx hb dX2_weakerLaneOfFirstCrossing_99 (by decide) ?_
          have hnx : ∀ h', lo < h' → h' < hi + 1 → ¬ crs F n lo h' := by
            intro h' q1 q2
            rcases Nat.lt_or_ge h' hi with q | q
            · exact hni h' q1 q
            · have e9 : h' = hi := by omega
              subst e9
              exact (fun q => by obtain ⟨a9, b9, q1, q2, -⟩ := q; rw [hkb] at q2; cases q2)
          exact ih (hi + 1) ls (by omega) (⟨⟨by omega, by omega⟩, hnx⟩) (lv_sub hl [0, 3, 4] rfl)
        · skip
          refine W_top (y := .ref (ka b)) (show va_rf ((flF F n hi).map ka) = _ by rw [flF_at hhi, hkb]; rfl) ?_
          have hkbn : b < n := (lk_some hkb).1
          refine lv_astore (lv' := [(4, .ref (ka b)), (3, .null), (2, .int (nI hi)), (1, .int (nI lo)), (0, .ref h)]) hx hb dX2_weakerLaneOfFirstCrossing_31 hl (by decide) rfl (fun ls hl => ?_)
          refine lv_aload_nN hx hb dX2_weakerLaneOfFirstCrossing_33 rfl (lv_at hl 1 rfl) ?_
          refine lv_ifnullN (tgt := 96) hx hb dX2_weakerLaneOfFirstCrossing_34 (by decide) ?_
          refine lv_iinc (v := nI (hi + 1)) (lv' := [(2, .int (nI (hi + 1))), (4, .ref (ka b)), (3, .null), (1, .int (nI lo)), (0, .ref h)]) hx hb dX2_weakerLaneOfFirstCrossing_96 hl (k := 2) rfl (nI_1 _) (by decide) rfl (fun ls hl => ?_)
          refine lv_goto (tgt := 12) hx hb dX2_weakerLaneOfFirstCrossing_99 (by decide) ?_
          have hnx : ∀ h', lo < h' → h' < hi + 1 → ¬ crs F n lo h' := by
            intro h' q1 q2
            rcases Nat.lt_or_ge h' hi with q | q
            · exact hni h' q1 q
            · have e9 : h' = hi := by omega
              subst e9
              exact (fun q => by obtain ⟨a9, b9, q1, q2, -⟩ := q; rw [hka] at q1; cases q1)
          exact ih (hi + 1) ls (by omega) (⟨⟨by omega, by omega⟩, hnx⟩) (lv_sub hl [0, 3, 4] rfl)
      · skip
        refine W_top (y := .ref (ka a)) (show va_rf ((flF F n lo).map ka) = _ by rw [flF_at hlo, hka]; rfl) ?_
        have hkan : a < n := (lk_some hka).1
        refine lv_astore_n (lv' := [(3, .ref (ka a)), (2, .int (nI hi)), (1, .int (nI lo)), (0, .ref h)]) hx hb dX2_weakerLaneOfFirstCrossing_24 rfl hl (by decide) rfl (fun ls hl => ?_)
        refine lv_aload_n hx hb dX2_weakerLaneOfFirstCrossing_25 rfl (lv_at hl 3 rfl) ?_
        refine va_get (D := (dC, dI)) (ci := 2) (v := .ref af) (C := RX2) (T := TX2) (N := 9) hx hb hts hi2 hown hK hP 0 rfl rfl 4 (by decide) lk21 (fun _ h9 => h9) rfl dX2_weakerLaneOfFirstCrossing_26 ?_
        refine lv_iload_n hx hb dX2_weakerLaneOfFirstCrossing_29 rfl (lv_at hl 1 rfl) ?_
        refine my_aldq hx hb hK hP 3 0 rfl rfl hhi (Nat.le_of_ble_eq_true rfl) dX2_weakerLaneOfFirstCrossing_30 ?_
        rcases hkb : lk (F 6) n (nI hi) with _ | b
        · skip
          refine W_top (y := .null) (show va_rf ((flF F n hi).map ka) = _ by rw [flF_at hhi, hkb]; rfl) ?_
          refine lv_astoreN (lv' := [(4, .null), (3, .ref (ka a)), (2, .int (nI hi)), (1, .int (nI lo)), (0, .ref h)]) hx hb dX2_weakerLaneOfFirstCrossing_31 hl (by decide) rfl (fun ls hl => ?_)
          refine lv_aload_n hx hb dX2_weakerLaneOfFirstCrossing_33 rfl (lv_at hl 1 rfl) ?_
          refine lv_ifnull hx hb dX2_weakerLaneOfFirstCrossing_34 ?_
          refine lv_aloadN hx hb dX2_weakerLaneOfFirstCrossing_37 (lv_at hl 0 rfl) ?_
          refine lv_ifnullN (tgt := 96) hx hb dX2_weakerLaneOfFirstCrossing_39 (by decide) ?_
          refine lv_iinc (v := nI (hi + 1)) (lv' := [(2, .int (nI (hi + 1))), (4, .null), (3, .ref (ka a)), (1, .int (nI lo)), (0, .ref h)]) hx hb dX2_weakerLaneOfFirstCrossing_96 hl (k := 2) rfl (nI_1 _) (by decide) rfl (fun ls hl => ?_)
          refine lv_goto (tgt := 12) hx hb dX2_weakerLaneOfFirstCrossing_99 (by decide) ?_
          have hnx : ∀ h', lo < h' → h' < hi + 1 → ¬ crs F n lo h' := by
            intro h' q1 q2
            rcases Nat.lt_or_ge h' hi with q | q
            · exact hni h' q1 q
            · have e9 : h' = hi := by omega
              subst e9
              exact (fun q => by obtain ⟨a9, b9, q1, q2, -⟩ := q; rw [hkb] at q2; cases q2)
          exact ih (hi + 1) ls (by omega) (⟨⟨by omega, by omega⟩, hnx⟩) (lv_sub hl [0, 3, 4] rfl)
        · skip
          refine W_top (y := .ref (ka b)) (show va_rf ((flF F n hi).map ka) = _ by rw [flF_at hhi, hkb]; rfl) ?_
          have hkbn : b < n := (lk_some hkb).1
          refine lv_astore (lv' := [(4, .ref (ka b)), (3, .ref (ka a)), (2, .int (nI hi)), (1, .int (nI lo)), (0, .ref h)]) hx hb dX2_weakerLaneOfFirstCrossing_31 hl (by decide) rfl (fun ls hl => ?_)
          refine lv_aload_n hx hb dX2_weakerLaneOfFirstCrossing_33 rfl (lv_at hl 1 rfl) ?_
          refine lv_ifnull hx hb dX2_weakerLaneOfFirstCrossing_34 ?_
          refine lv_aload hx hb dX2_weakerLaneOfFirstCrossing_37 (lv_at hl 0 rfl) ?_
          refine lv_ifnull hx hb dX2_weakerLaneOfFirstCrossing_39 ?_
          refine lv_aload_n hx hb dX2_weakerLaneOfFirstCrossing_42 rfl (lv_at hl 1 rfl) ?_
          refine lv_aload_n hx hb dX2_weakerLaneOfFirstCrossing_43 rfl (lv_at hl 4 rfl) ?_
          refine va_get (D := (dC, dI)) (ci := 2) (v := .int (F 9 0)) (C := RX2) (T := TX2) (N := 9) hx hb hts hi2 hown hK hP 0 rfl rfl 5 (by decide) lk112 (fun _ h9 => h9) rfl dX2_weakerLaneOfFirstCrossing_44 ?_
          refine lv_aload_n hx hb dX2_weakerLaneOfFirstCrossing_47 rfl (lv_at hl 4 rfl) ?_
          refine va_get (D := (dC, dI)) (ci := 2) (v := .int (F 9 1)) (C := RX2) (T := TX2) (N := 9) hx hb hts hi2 hown hK hP 0 rfl rfl 6 (by decide) lk120 (fun _ h9 => h9) rfl dX2_weakerLaneOfFirstCrossing_48 ?_
          have hq1 := one_P hP (cG_k hkan)
          refine vp_callSi (va_Run.run (va_runV (As := [.int (F 9 0), .int (F 9 1)]) (rest := []) ⟨hx, hb, hml, hown, hts⟩ (c_X1_endIn l9 dC dI (ka a) a F (F 9 0) (F 9 1) (hkd a hkan) (st_ok (hfl a hkan (lane_ne hlo hka)))) (cwV 2 hts gX2_weakerLaneOfFirstCrossing_X1_endIn rfl rfl rfl (by decide +kernel) ⟨Nat.le_of_ble_eq_true rfl, Nat.le_of_ble_eq_true rfl⟩) ⟨PRo.blind, va_recv (hK.sub (tys' := []) [] rfl) hq1 (ci := 1) (q0 := 0) rfl rfl, PRo.pre hq1 (hK.sub (tys' := []) [] rfl) hE⟩ rfl rfl hl.1 rfl (lv_room (Nat.le_of_ble_eq_true rfl)) dX2_weakerLaneOfFirstCrossing_51 ⟨Nat.le_of_ble_eq_true rfl, Nat.le_of_ble_eq_true rfl⟩)) (fun r hr => ?_)
          subst hr
          refine W_top (y := .int (ed F a)) (rfl) ?_
          refine lv_aload hx hb dX2_weakerLaneOfFirstCrossing_54 (lv_at hl 0 rfl) ?_
          refine lv_aload_n hx hb dX2_weakerLaneOfFirstCrossing_56 rfl (lv_at hl 4 rfl) ?_
          refine va_get (D := (dC, dI)) (ci := 2) (v := .int (F 9 0)) (C := RX2) (T := TX2) (N := 9) hx hb hts hi2 hown hK hP 0 rfl rfl 5 (by decide) lk112 (fun _ h9 => h9) rfl dX2_weakerLaneOfFirstCrossing_57 ?_
          refine lv_aload_n hx hb dX2_weakerLaneOfFirstCrossing_60 rfl (lv_at hl 4 rfl) ?_
          refine va_get (D := (dC, dI)) (ci := 2) (v := .int (F 9 1)) (C := RX2) (T := TX2) (N := 9) hx hb hts hi2 hown hK hP 0 rfl rfl 6 (by decide) lk120 (fun _ h9 => h9) rfl dX2_weakerLaneOfFirstCrossing_61 ?_
          have hq1 := one_P hP (cG_k hkbn)
          refine vp_callSi (va_Run.run (va_runV (As := [.int (F 9 0), .int (F 9 1)]) (rest := [.int (ed F a)]) ⟨hx, hb, hml, hown, hts⟩ (c_X1_endIn l9 dC dI (ka b) b F (F 9 0) (F 9 1) (hkd b hkbn) (st_ok (hfl b hkbn (lane_ne hhi hkb)))) (cwV 2 hts gX2_weakerLaneOfFirstCrossing_X1_endIn rfl rfl rfl (by decide +kernel) ⟨Nat.le_of_ble_eq_true rfl, Nat.le_of_ble_eq_true rfl⟩) ⟨PRo.blind, va_recv (hK.sub (tys' := []) [] rfl) hq1 (ci := 1) (q0 := 0) rfl rfl, PRo.pre hq1 (hK.sub (tys' := []) [] rfl) hE⟩ rfl rfl hl.1 rfl (lv_room (Nat.le_of_ble_eq_true rfl)) dX2_weakerLaneOfFirstCrossing_64 ⟨Nat.le_of_ble_eq_true rfl, Nat.le_of_ble_eq_true rfl⟩)) (fun r hr => ?_)
          subst hr
          refine W_top (y := .int (ed F b)) (rfl) ?_
          refine lv_icmp_lt (tgt := 96) hx hb dX2_weakerLaneOfFirstCrossing_67 (by decide) (fun c_67 => ?_) (fun c_67 => ?_)
          · skip
            refine lv_iinc (v := nI (hi + 1)) (lv' := [(2, .int (nI (hi + 1))), (4, .ref (ka b)), (3, .ref (ka a)), (1, .int (nI lo)), (0, .ref h)]) hx hb dX2_weakerLaneOfFirstCrossing_96 hl (k := 2) rfl (nI_1 _) (by decide) rfl (fun ls hl => ?_)
            refine lv_goto (tgt := 12) hx hb dX2_weakerLaneOfFirstCrossing_99 (by decide) ?_
            have hnx : ∀ h', lo < h' → h' < hi + 1 → ¬ crs F n lo h' := by
              intro h' q1 q2
              rcases Nat.lt_or_ge h' hi with q | q
              · exact hni h' q1 q
              · have e9 : h' = hi := by omega
                subst e9
                exact (fun q => by obtain ⟨a9, b9, q1, q2, q3⟩ := q; rw [hka] at q1; rw [hkb] at q2; cases q1; cases q2; rw [i32_le] at q3; rw [i32_lt] at c_67; omega)
            exact ih (hi + 1) ls (by omega) (⟨⟨by omega, by omega⟩, hnx⟩) (lv_sub hl [0, 3, 4] rfl)
          · skip
            refine lv_aload_n hx hb dX2_weakerLaneOfFirstCrossing_70 rfl (lv_at hl 1 rfl) ?_
            refine lv_aload_n hx hb dX2_weakerLaneOfFirstCrossing_71 rfl (lv_at hl 4 rfl) ?_
            refine va_get (D := (dC, dI)) (ci := 2) (v := .int (F 9 0)) (C := RX2) (T := TX2) (N := 9) hx hb hts hi2 hown hK hP 0 rfl rfl 5 (by decide) lk112 (fun _ h9 => h9) rfl dX2_weakerLaneOfFirstCrossing_72 ?_
            have hq1 := one_P hP (cG_k hkan)
            refine vp_callSi (va_Run.run (va_runV (As := [.int (F 9 0)]) (rest := []) ⟨hx, hb, hml, hown, hts⟩ (c_X1_pullIn l9 dC dI (ka a) a F (F 9 0) (hkd a hkan)) (cwV 1 hts gX2_weakerLaneOfFirstCrossing_X1_pullIn rfl rfl rfl (by decide +kernel) ⟨Nat.le_of_ble_eq_true rfl, Nat.le_of_ble_eq_true rfl⟩) ⟨PRo.blind, va_recv (hK.sub (tys' := []) [] rfl) hq1 (ci := 1) (q0 := 0) rfl rfl, PRo.pre hq1 (hK.sub (tys' := []) [] rfl) hE⟩ rfl rfl hl.1 rfl (lv_room (Nat.le_of_ble_eq_true rfl)) dX2_weakerLaneOfFirstCrossing_75 ⟨Nat.le_of_ble_eq_true rfl, Nat.le_of_ble_eq_true rfl⟩)) (fun r hr => ?_)
            subst hr
            refine lv_aload hx hb dX2_weakerLaneOfFirstCrossing_78 (lv_at hl 0 rfl) ?_
            refine lv_aload_n hx hb dX2_weakerLaneOfFirstCrossing_80 rfl (lv_at hl 4 rfl) ?_
            refine va_get (D := (dC, dI)) (ci := 2) (v := .int (F 9 0)) (C := RX2) (T := TX2) (N := 9) hx hb hts hi2 hown hK hP 0 rfl rfl 5 (by decide) lk112 (fun _ h9 => h9) rfl dX2_weakerLaneOfFirstCrossing_81 ?_
            have hq1 := one_P hP (cG_k hkbn)
            refine vp_callSi (va_Run.run (va_runV (As := [.int (F 9 0)]) (rest := [.int (pl F a (F 9 0))]) ⟨hx, hb, hml, hown, hts⟩ (c_X1_pullIn l9 dC dI (ka b) b F (F 9 0) (hkd b hkbn)) (cwV 1 hts gX2_weakerLaneOfFirstCrossing_X1_pullIn rfl rfl rfl (by decide +kernel) ⟨Nat.le_of_ble_eq_true rfl, Nat.le_of_ble_eq_true rfl⟩) ⟨PRo.blind, va_recv (hK.sub (tys' := []) [] rfl) hq1 (ci := 1) (q0 := 0) rfl rfl, PRo.pre hq1 (hK.sub (tys' := []) [] rfl) hE⟩ rfl rfl hl.1 rfl (lv_room (Nat.le_of_ble_eq_true rfl)) dX2_weakerLaneOfFirstCrossing_84 ⟨Nat.le_of_ble_eq_true rfl, Nat.le_of_ble_eq_true rfl⟩)) (fun r hr => ?_)
            subst hr
            refine lv_icmp_ge (tgt := 94) hx hb dX2_weakerLaneOfFirstCrossing_87 (by decide) (fun c_87 => ?_) (fun c_87 => ?_)
            · skip
              refine lv_iload_n hx hb dX2_weakerLaneOfFirstCrossing_94 rfl (lv_at hl 2 rfl) ?_
              exact W.iret (v := nI hi) hx hb hr (fun t ht _ => ⟨_, rfl, by rw [cK_of (o := some b) ⟨lo, hi, a, b, by omega, hhi, hka, hkb, by rw [i32_le]; rw [i32_lt] at c_67; omega, fun l' h' q1 q2 q3 => q3.elim (fun q => hno l' h' q1 q2 q) (fun q => by obtain ⟨q4, q5⟩ := q; subst q4; exact hni h' q1 q5), (if_neg (fun q => by rw [i32_lt] at q; rw [i32_le] at c_87; omega)).symm⟩]; exact (lk_some hkb).2.symm, ht⟩) (fun q hq => absurd hq List.not_mem_nil) dX2_weakerLaneOfFirstCrossing_95
            · skip
              refine lv_iload_n hx hb dX2_weakerLaneOfFirstCrossing_90 rfl (lv_at hl 3 rfl) ?_
              refine lv_goto (tgt := 95) hx hb dX2_weakerLaneOfFirstCrossing_91 (by decide) ?_
              exact W.iret (v := nI lo) hx hb hr (fun t ht _ => ⟨_, rfl, by rw [cK_of (o := some a) ⟨lo, hi, a, b, by omega, hhi, hka, hkb, by rw [i32_le]; rw [i32_lt] at c_67; omega, fun l' h' q1 q2 q3 => q3.elim (fun q => hno l' h' q1 q2 q) (fun q => by obtain ⟨q4, q5⟩ := q; subst q4; exact hni h' q1 q5), (if_pos (by rw [i32_lt]; rw [i32_le] at c_87; omega)).symm⟩]; exact (lk_some hka).2.symm, ht⟩) (fun q hq => absurd hq List.not_mem_nil) dX2_weakerLaneOfFirstCrossing_95
