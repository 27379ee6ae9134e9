/-! ===== the reference: its calls ===== -/
theorem clr_s {F : Rows} {i k : Nat} {ln len : Int32} : clr F (i + 1) k ln len ↔ clr F i k ln len ∧ ¬ (¬ F 6 i = -1 ∧ F 6 i < ln ∧ en F k ln len ≤ ed F i) ∧ ¬ (¬ F 6 i = -1 ∧ ln < F 6 i ∧ ed F i ≤ en F k ln len) := by
  constructor
  · intro h
    exact ⟨fun j hj => h j (by omega), (h i (by omega)).1, (h i (by omega)).2⟩
  · rintro ⟨h1, h2, h3⟩ j hj
    rcases Nat.lt_or_ge j i with q | q
    · exact h1 j q
    · have : j = i := by omega
      subst this
      exact ⟨h2, h3⟩
theorem clr_0 {F : Rows} {k : Nat} {ln len : Int32} : clr F 0 k ln len := fun j hj => absurd hj (Nat.not_lt_zero j)
theorem nI_back (n : Nat) : nI (n + 1) - 1 = nI n := by rw [← nI_1, Int32.add_sub_cancel]
theorem hc_ne {n : Nat} (h8 : n ≤ 8) (h : ¬ nI n = 8) : n < 8 := by
  rcases Nat.lt_or_ge n 8 with q | q
  · exact q
  · have : n = 8 := by omega
    subst this; exact absurd rfl h
theorem hc_eq {n : Nat} (h8 : n ≤ 8) (h : nI n = 8) : n = 8 := nI_inj (by omega) (by omega) h
theorem lk_oI {g : Nat → Int32} {n : Nat} {v : Int32} (h8 : n ≤ 8) : oI (lk g n v) = -1 ↔ lk g n v = none := oI_m1 (fun k hk => by have := (lk_some hk).1; omega)
theorem ed_new {F : Rows} {k : Nat} {ln len : Int32} : ed (up (up F 6 k ln) 7 k len) k = en F k ln len := by
  show en F k (up F 6 k ln 6 k) (up (up F 6 k ln) 7 k len 7 k) = _
  rw [up_ss, up_ss]
theorem bset_add {F : Rows} {i : Nat} (h : unh F i = true) : bset (fun j => decide (j < i) && unh F j) i = fun j => decide (j < i + 1) && unh F j := by
  funext j
  unfold bset
  by_cases e : j = i
  · subst e; rw [if_pos rfl, h, decide_eq_true (by omega)]; rfl
  · rw [if_neg e]
    show (decide (j < i) && unh F j) = (decide (j < i + 1) && unh F j)
    congr 1
    exact decide_eq_decide.mpr ⟨fun z => by omega, fun z => by omega⟩
theorem bset_no {F : Rows} {i : Nat} (h : unh F i = false) : (fun j => decide (j < i) && unh F j) = fun j => decide (j < i + 1) && unh F j := by
  funext j
  show (decide (j < i) && unh F j) = (decide (j < i + 1) && unh F j)
  by_cases e : j = i
  · subst e; rw [h, Bool.and_false, Bool.and_false]
  · congr 1
    exact decide_eq_decide.mpr ⟨fun z => by omega, fun z => by omega⟩
theorem bset_0 {F : Rows} {n : Nat} : mvd F n (fun j => decide (j < 0) && unh F j) = F := mvd_none (fun j => by rw [decide_eq_false (Nat.not_lt_zero j)]; rfl)
theorem mvd_6i {F : Rows} {n i : Nat} : mvd F n (fun j => decide (j < i) && unh F j) 6 i = F 6 i := by
  rw [mvd_6, decide_eq_false (Nat.lt_irrefl i)]; rfl
theorem wet_0 {F : Rows} {h : Int32} : wetF F 0 h = F := by
  unfold wetF
  have e : (fun j => if j < 0 then wetv F h j else F 4 j) = F 4 := by
    funext j; rw [if_neg (Nat.not_lt_zero j)]
  rw [e, ro_id]
theorem wet_i {F : Rows} {i : Nat} {h : Int32} : wetF F i h 4 i = F 4 i := by
  show (if i < i then wetv F h i else F 4 i) = _
  rw [if_neg (Nat.lt_irrefl i)]
theorem wet_i1 {F : Rows} {i : Nat} {h : Int32} : wetF F (i + 1) h 4 i = wetv F h i := by
  show (if i < i + 1 then wetv F h i else F 4 i) = _
  rw [if_pos (Nat.lt_succ_self i)]
theorem wet_step {F : Rows} {i : Nat} {h : Int32} : up (wetF F i h) 4 i (wetv F h i) = wetF F (i + 1) h := by
  funext a
  by_cases ha : a = 4
  · subst ha
    rw [up_r]
    show upd (fun j => if j < i then wetv F h j else F 4 j) i (wetv F h i) = fun j => if j < i + 1 then wetv F h j else F 4 j
    funext j
    rw [upd_at]
    by_cases e : j = i
    · subst e; rw [if_pos rfl, if_pos (Nat.lt_succ_self j)]
    · rw [if_neg e]
      by_cases q : j < i
      · rw [if_pos q, if_pos (by omega)]
      · rw [if_neg q, if_neg (by omega)]
  · rw [up_n _ _ ha]
    unfold wetF
    rw [ro_n _ ha, ro_n _ ha]

set_option maxHeartbeats 4000000 in
set_option maxRecDepth 100000 in
theorem c_X3_isClear (l9 : Launch) (dC : Nat → ClassId) (dI : Nat → Nat → Nat) {cI cZ : ClassId} (h : Nat) (a : Nat → Nat) (th : Int32) (n p : Nat) (F : Rows) (k : Nat) (ln len : Int32) (hn8 : n ≤ 8) (hk8 : k < 8) (hkk : F 0 k = 0 ∨ F 0 k = 1 ∨ F 0 k = 2) (hst : ¬ 1000 + pl F k (F 9 0) ≤ 0) (hkd : ∀ k, k < n → F 0 k = 0 ∨ F 0 k = 1 ∨ F 0 k = 2) (hfl : ∀ k, k < n → ¬ F 6 k = -1 → held F k (F 9 0)) : Met l9 yX3_isClear wsX3_isClear ({ frames := 3, cells := 0, slots := 0, locals := 67 }) (va_Pc [.ref h, .int (nI k), .int ln, .int len] (PRo dC dI [(cI, .int), (cZ, .boolean)] (rW cI cZ h a th n p F))) (vp_Si (fun r9 => r9 = bi (clr F n k ln len))) 0 0 (fun _ => False) := by
  refine Met.ofW (cc := cX3_isClear) (maxL := 9) (ret := (some .boolean)) (by decide) rfl ?_
  intro p9 e9 s m args below meth c s₁ B hml hv
  obtain ⟨rfl, hP, hK, hE⟩ := hv
  have hx := B.exec
  have hb := B.bytes
  have hr := B.returns
  have hts := atoms_spec (ws := wsX3_isClear) B.pre
  have hown : s.vm.findClass RX3 = some m.cls := findClass_of_methodNamed B.named
  have hlocks := B.notSynchronized
  have hi3 : ∀ w ∈ u_ws RX3 TX3 16, w ∈ wsX3_isClear := by decide +kernel
  have lk29 := hts (.fieldLink RX3 29 "WindlaneModel" "laneOf" "[I") (by decide +kernel)
  have lk42 := hts (.fieldLink RX3 42 "WindlaneModel" "kites" "I") (by decide +kernel)
  have hP : va_P (dC, dI) vwCl (rW cI cZ h a th n p F) s.heap := hP
  have hl := lv_entry ([.ref h, .int (nI k), .int ln, .int len]) (n := 9) (Nat.le_of_ble_eq_true rfl)
  rw [lg_entry_eq]
  generalize (lg_sl ([.ref h, .int (nI k), .int ln, .int len]) ++ List.replicate (9 - (lg_sl ([.ref h, .int (nI k), .int ln, .int len])).length) Slot.unset).toArray = ls at hl ⊢
  have hl : lv_has ls 9 [(0, .ref h), (1, .int (nI k)), (2, .int ln), (3, .int len)] := hl
  refine lv_aload_n hx hb dX3_isClear_0 rfl (lv_at hl 0 rfl) ?_
  refine lv_iload_n hx hb dX3_isClear_1 rfl (lv_at hl 1 rfl) ?_
  refine lv_iload_n hx hb dX3_isClear_2 rfl (lv_at hl 2 rfl) ?_
  refine lv_iload_n hx hb dX3_isClear_3 rfl (lv_at hl 3 rfl) ?_
  refine vp_callSi (va_Run.run (va_runV (As := [.int (nI k), .int ln, .int len]) (rest := []) ⟨hx, hb, hml, hown, hts⟩ (c_X3_endOf l9 dC dI h a th n p F k ln len hk8 hkk hst) (cwV 3 hts gX3_isClear_X3_endOf rfl rfl rfl (by decide +kernel) ⟨Nat.le_of_ble_eq_true rfl, Nat.le_of_ble_eq_true rfl⟩) ⟨PRo.blind, va_recv hK hP (ci := 3) (q0 := 0) rfl rfl, PRo.pre hP hK hE⟩ rfl rfl hl.1 rfl (lv_room (Nat.le_of_ble_eq_true rfl)) dX3_isClear_4 ⟨Nat.le_of_ble_eq_true rfl, Nat.le_of_ble_eq_true rfl⟩)) (fun r hr => ?_)
  subst hr
  refine lv_istore (lv' := [(4, .int (en F k ln len)), (0, .ref h), (1, .int (nI k)), (2, .int ln), (3, .int len)]) hx hb dX3_isClear_7 hl (by decide) rfl (fun ls hl => ?_)
  refine lv_iconst (v := 1) hx hb dX3_isClear_9 (by decide) ?_
  refine lv_istore (lv' := [(5, .int 1), (4, .int (en F k ln len)), (0, .ref h), (1, .int (nI k)), (2, .int ln), (3, .int len)]) hx hb dX3_isClear_10 hl (by decide) rfl (fun ls hl => ?_)
  refine lv_iconst (v := 0) hx hb dX3_isClear_12 (by decide) ?_
  refine lv_istore (lv' := [(6, .int 0), (5, .int 1), (4, .int (en F k ln len)), (0, .ref h), (1, .int (nI k)), (2, .int ln), (3, .int len)]) hx hb dX3_isClear_13 hl (by decide) rfl (fun ls hl => ?_)
  have hc0 : (1 : Int32) = bi (clr F 0 k ln len) := (bi_t clr_0).symm
  rw [show ([(6, .int 0), (5, .int 1), (4, .int (en F k ln len)), (0, .ref h), (1, .int (nI k)), (2, .int ln), (3, .int len)] : List (Nat × Value)) = [(6, .int (nI 0)), (5, .int (bi (clr F 0 k ln len))), (4, .int (en F k ln len)), (0, .ref h), (1, .int (nI k)), (2, .int ln), (3, .int len)] by rw [← hc0]; rfl] at hl
  refine W_loopR (nL := 9) (fun i : Nat => [(5, .int (bi (clr F i k ln len))), (6, .int (nI i)), (0, .ref h), (1, .int (nI k)), (2, .int ln), (3, .int len), (4, .int (en F k ln len))]) (fun i => i ≤ n) (fun i => n - i) ?_ 0 (Nat.zero_le _) (lv_sub hl [1, 0, 3, 4, 5, 6, 2] rfl)
  intro i ls hI hl ih
  have hl : lv_has ls 9 [(5, .int (bi (clr F i k ln len))), (6, .int (nI i)), (0, .ref h), (1, .int (nI k)), (2, .int ln), (3, .int len), (4, .int (en F k ln len))] := hl
  refine lv_iload hx hb dX3_isClear_15 (lv_at hl 1 rfl) ?_
  refine lv_aload_n hx hb dX3_isClear_17 rfl (lv_at hl 2 rfl) ?_
  refine va_get (D := (dC, dI)) (ci := 3) (v := .int (nI n)) (C := RX3) (T := TX3) (N := 16) hx hb hts hi3 hown hK hP 0 rfl rfl 1 (by decide) lk42 (fun _ h9 => h9) rfl dX3_isClear_18 ?_
  refine lv_icmp_ge (tgt := 132) hx hb dX3_isClear_21 (by decide) (fun c_21 => ?_) (fun c_21 => ?_)
  · skip
    have he : i = n := by have q := (nI_leI (a := n) (b := i) (by omega) (by omega)).mp c_21; omega
    subst he
    refine lv_iload hx hb dX3_isClear_132 (lv_at hl 0 rfl) ?_
    exact W.zret (v := bi (clr F i k ln len)) hx hb hr (nar_01 (bi_01 _)) (fun t ht _ => ⟨_, rfl, rfl, ht⟩) (fun q hq => absurd hq List.not_mem_nil) dX3_isClear_134
  · skip
    have hlt9 : i < n := Nat.not_le.mp (fun q => c_21 ((nI_leI (a := n) (b := i) (by omega) (by omega)).mpr q))
    refine W_join (pc := 62) (rest := []) (fun v => v = bi (¬ F 6 i = -1 ∧ F 6 i < ln ∧ en F k ln len ≤ ed F i)) (fun v hv => ?_) (fun K => ?_)
    · subst hv
      refine lv_istore (lv' := [(7, .int (bi (¬ F 6 i = -1 ∧ F 6 i < ln ∧ en F k ln len ≤ ed F i))), (5, .int (bi (clr F i k ln len))), (6, .int (nI i)), (0, .ref h), (1, .int (nI k)), (2, .int ln), (3, .int len), (4, .int (en F k ln len))]) hx hb dX3_isClear_62 hl (by decide) rfl (fun ls hl => ?_)
      refine W_join (pc := 102) (rest := []) (fun v => v = bi (¬ F 6 i = -1 ∧ ln < F 6 i ∧ ed F i ≤ en F k ln len)) (fun v hv => ?_) (fun K => ?_)
      · subst hv
        refine lv_istore (lv' := [(8, .int (bi (¬ F 6 i = -1 ∧ ln < F 6 i ∧ ed F i ≤ en F k ln len))), (7, .int (bi (¬ F 6 i = -1 ∧ F 6 i < ln ∧ en F k ln len ≤ ed F i))), (5, .int (bi (clr F i k ln len))), (6, .int (nI i)), (0, .ref h), (1, .int (nI k)), (2, .int ln), (3, .int len), (4, .int (en F k ln len))]) hx hb dX3_isClear_102 hl (by decide) rfl (fun ls hl => ?_)
        refine lv_iload hx hb dX3_isClear_104 (lv_at hl 2 rfl) ?_
        refine lv_if_eq (tgt := 123) hx hb dX3_isClear_106 (by decide) (fun c_106 => ?_) (fun c_106 => ?_)
        · skip
          have c_106 := bi_z.mp c_106
          refine lv_iconst (v := 0) hx hb dX3_isClear_123 (by decide) ?_
          refine W_top (y := .int (bi (clr F (i + 1) k ln len))) (congrArg Value.int ((bi_f (fun q => c_106 (clr_s.mp q).1)).symm)) ?_
          refine lv_istore (lv' := [(5, .int (bi (clr F (i + 1) k ln len))), (8, .int (bi (¬ F 6 i = -1 ∧ ln < F 6 i ∧ ed F i ≤ en F k ln len))), (7, .int (bi (¬ F 6 i = -1 ∧ F 6 i < ln ∧ en F k ln len ≤ ed F i))), (6, .int (nI i)), (0, .ref h), (1, .int (nI k)), (2, .int ln), (3, .int len), (4, .int (en F k ln len))]) hx hb dX3_isClear_124 hl (by decide) rfl (fun ls hl => ?_)
          refine lv_iinc (v := nI (i + 1)) (lv' := [(6, .int (nI (i + 1))), (5, .int (bi (clr F (i + 1) k ln len))), (8, .int (bi (¬ F 6 i = -1 ∧ ln < F 6 i ∧ ed F i ≤ en F k ln len))), (7, .int (bi (¬ F 6 i = -1 ∧ F 6 i < ln ∧ en F k ln len ≤ ed F i))), (0, .ref h), (1, .int (nI k)), (2, .int ln), (3, .int len), (4, .int (en F k ln len))]) hx hb dX3_isClear_126 hl (k := 3) rfl (nI_1 _) (by decide) rfl (fun ls hl => ?_)
          refine lv_goto (tgt := 15) hx hb dX3_isClear_129 (by decide) ?_
          exact ih (i + 1) ls (by omega) (by omega) (lv_sub hl [1, 0, 4, 5, 6, 7, 8] rfl)
        · skip
          have c_106 := bi_nz.mp c_106
          refine lv_iload hx hb dX3_isClear_109 (lv_at hl 1 rfl) ?_
          refine lv_if_ne (tgt := 123) hx hb dX3_isClear_111 (by decide) (fun c_111 => ?_) (fun c_111 => ?_)
          · skip
            have c_111 := bi_nz.mp c_111
            refine lv_iconst (v := 0) hx hb dX3_isClear_123 (by decide) ?_
            refine W_top (y := .int (bi (clr F (i + 1) k ln len))) (congrArg Value.int ((bi_f (fun q => (clr_s.mp q).2.1 c_111)).symm)) ?_
            refine lv_istore (lv' := [(5, .int (bi (clr F (i + 1) k ln len))), (8, .int (bi (¬ F 6 i = -1 ∧ ln < F 6 i ∧ ed F i ≤ en F k ln len))), (7, .int (bi (¬ F 6 i = -1 ∧ F 6 i < ln ∧ en F k ln len ≤ ed F i))), (6, .int (nI i)), (0, .ref h), (1, .int (nI k)), (2, .int ln), (3, .int len), (4, .int (en F k ln len))]) hx hb dX3_isClear_124 hl (by decide) rfl (fun ls hl => ?_)
            refine lv_iinc (v := nI (i + 1)) (lv' := [(6, .int (nI (i + 1))), (5, .int (bi (clr F (i + 1) k ln len))), (8, .int (bi (¬ F 6 i = -1 ∧ ln < F 6 i ∧ ed F i ≤ en F k ln len))), (7, .int (bi (¬ F 6 i = -1 ∧ F 6 i < ln ∧ en F k ln len ≤ ed F i))), (0, .ref h), (1, .int (nI k)), (2, .int ln), (3, .int len), (4, .int (en F k ln len))]) hx hb dX3_isClear_126 hl (k := 3) rfl (nI_1 _) (by decide) rfl (fun ls hl => ?_)
            refine lv_goto (tgt := 15) hx hb dX3_isClear_129 (by decide) ?_
            exact ih (i + 1) ls (by omega) (by omega) (lv_sub hl [1, 0, 4, 5, 6, 7, 8] rfl)
          · skip
            have c_111 := bi_z.mp c_111
            refine lv_iload hx hb dX3_isClear_114 (lv_at hl 0 rfl) ?_
            refine lv_if_ne (tgt := 123) hx hb dX3_isClear_116 (by decide) (fun c_116 => ?_) (fun c_116 => ?_)
            · skip
              have c_116 := bi_nz.mp c_116
              refine lv_iconst (v := 0) hx hb dX3_isClear_123 (by decide) ?_
              refine W_top (y := .int (bi (clr F (i + 1) k ln len))) (congrArg Value.int ((bi_f (fun q => (clr_s.mp q).2.2 c_116)).symm)) ?_
              refine lv_istore (lv' := [(5, .int (bi (clr F (i + 1) k ln len))), (8, .int (bi (¬ F 6 i = -1 ∧ ln < F 6 i ∧ ed F i ≤ en F k ln len))), (7, .int (bi (¬ F 6 i = -1 ∧ F 6 i < ln ∧ en F k ln len ≤ ed F i))), (6, .int (nI i)), (0, .ref h), (1, .int (nI k)), (2, .int ln), (3, .int len), (4, .int (en F k ln len))]) hx hb dX3_isClear_124 hl (by decide) rfl (fun ls hl => ?_)
              refine lv_iinc (v := nI (i + 1)) (lv' := [(6, .int (nI (i + 1))), (5, .int (bi (clr F (i + 1) k ln len))), (8, .int (bi (¬ F 6 i = -1 ∧ ln < F 6 i ∧ ed F i ≤ en F k ln len))), (7, .int (bi (¬ F 6 i = -1 ∧ F 6 i < ln ∧ en F k ln len ≤ ed F i))), (0, .ref h), (1, .int (nI k)), (2, .int ln), (3, .int len), (4, .int (en F k ln len))]) hx hb dX3_isClear_126 hl (k := 3) rfl (nI_1 _) (by decide) rfl (fun ls hl => ?_)
              refine lv_goto (tgt := 15) hx hb dX3_isClear_129 (by decide) ?_
              exact ih (i + 1) ls (by omega) (by omega) (lv_sub hl [1, 0, 4, 5, 6, 7, 8] rfl)
            · skip
              have c_116 := bi_z.mp c_116
              refine lv_iconst (v := 1) hx hb dX3_isClear_119 (by decide) ?_
              refine lv_goto (tgt := 124) hx hb dX3_isClear_120 (by decide) ?_
              refine W_top (y := .int (bi (clr F (i + 1) k ln len))) (congrArg Value.int ((bi_t (clr_s.mpr ⟨c_106, c_111, c_116⟩)).symm)) ?_
              refine lv_istore (lv' := [(5, .int (bi (clr F (i + 1) k ln len))), (8, .int (bi (¬ F 6 i = -1 ∧ ln < F 6 i ∧ ed F i ≤ en F k ln len))), (7, .int (bi (¬ F 6 i = -1 ∧ F 6 i < ln ∧ en F k ln len ≤ ed F i))), (6, .int (nI i)), (0, .ref h), (1, .int (nI k)), (2, .int ln), (3, .int len), (4, .int (en F k ln len))]) hx hb dX3_isClear_124 hl (by decide) rfl (fun ls hl => ?_)
              refine lv_iinc (v := nI (i + 1)) (lv' := [(6, .int (nI (i + 1))), (5, .int (bi (clr F (i + 1) k ln len))), (8, .int (bi (¬ F 6 i = -1 ∧ ln < F 6 i ∧ ed F i ≤ en F k ln len))), (7, .int (bi (¬ F 6 i = -1 ∧ F 6 i < ln ∧ en F k ln len ≤ ed F i))), (0, .ref h), (1, .int (nI k)), (2, .int ln), (3, .int len), (4, .int (en F k ln len))]) hx hb dX3_isClear_126 hl (k := 3) rfl (nI_1 _) (by decide) rfl (fun ls hl => ?_)
              refine lv_goto (tgt := 15) hx hb dX3_isClear_129 (by decide) ?_
              exact ih (i + 1) ls (by omega) (by omega) (lv_sub hl [1, 0, 4, 5, 6, 7, 8] rfl)
      · skip
        refine lv_aload_n hx hb dX3_isClear_64 rfl (lv_at hl 3 rfl) ?_
        refine va_get (D := (dC, dI)) (ci := 3) (v := .ref (a 6)) (C := RX3) (T := TX3) (N := 16) hx hb hts hi3 hown hK hP 0 rfl rfl 8 (by decide) lk29 (fun _ h9 => h9) rfl dX3_isClear_65 ?_
        refine lv_iload hx hb dX3_isClear_68 (lv_at hl 2 rfl) ?_
        refine my_iald hx hb hK hP 7 0 rfl rfl (Nat.lt_of_lt_of_le hlt9 hn8) (Nat.le_of_ble_eq_true rfl) dX3_isClear_70 ?_
        refine W_top (y := .int (F 6 i)) (rfl) ?_
        refine lv_iconst (v := (-1)) hx hb dX3_isClear_71 (by decide) ?_
        refine lv_icmp_eq (tgt := 101) hx hb dX3_isClear_72 (by decide) (fun c_72 => ?_) (fun c_72 => ?_)
        · skip
          refine lv_iconst (v := 0) hx hb dX3_isClear_101 (by decide) ?_
          exact K _ ((bi_f (fun q => q.1 c_72)).symm)
        · skip
          refine lv_aload_n hx hb dX3_isClear_75 rfl (lv_at hl 3 rfl) ?_
          refine va_get (D := (dC, dI)) (ci := 3) (v := .ref (a 6)) (C := RX3) (T := TX3) (N := 16) hx hb hts hi3 hown hK hP 0 rfl rfl 8 (by decide) lk29 (fun _ h9 => h9) rfl dX3_isClear_76 ?_
          refine lv_iload hx hb dX3_isClear_79 (lv_at hl 2 rfl) ?_
          refine my_iald hx hb hK hP 7 0 rfl rfl (Nat.lt_of_lt_of_le hlt9 hn8) (Nat.le_of_ble_eq_true rfl) dX3_isClear_81 ?_
          refine W_top (y := .int (F 6 i)) (rfl) ?_
          refine lv_iload_n hx hb dX3_isClear_82 rfl (lv_at hl 5 rfl) ?_
          refine lv_icmp_le (tgt := 101) hx hb dX3_isClear_83 (by decide) (fun c_83 => ?_) (fun c_83 => ?_)
          · skip
            refine lv_iconst (v := 0) hx hb dX3_isClear_101 (by decide) ?_
            exact K _ ((bi_f (fun q => by have := q.2.1; rw [i32_lt] at this; rw [i32_le] at c_83; omega)).symm)
          · skip
            refine lv_iload hx hb dX3_isClear_86 (lv_at hl 7 rfl) ?_
            refine lv_aload_n hx hb dX3_isClear_88 rfl (lv_at hl 3 rfl) ?_
            refine lv_iload hx hb dX3_isClear_89 (lv_at hl 2 rfl) ?_
            refine vp_callSi (va_Run.run (va_runV (As := [.int (nI i)]) (rest := [.int (en F k ln len)]) ⟨hx, hb, hml, hown, hts⟩ (c_X3_end l9 dC dI h a th n p F i (Nat.lt_of_lt_of_le hlt9 hn8) (hkd i hlt9) (st_ok (hfl i hlt9 c_72))) (cwV 1 hts gX3_isClear_X3_end rfl rfl rfl (by decide +kernel) ⟨Nat.le_of_ble_eq_true rfl, Nat.le_of_ble_eq_true rfl⟩) ⟨PRo.blind, va_recv hK hP (ci := 3) (q0 := 0) rfl rfl, PRo.pre hP hK hE⟩ rfl rfl hl.1 rfl (lv_room (Nat.le_of_ble_eq_true rfl)) dX3_isClear_91 ⟨Nat.le_of_ble_eq_true rfl, Nat.le_of_ble_eq_true rfl⟩)) (fun r hr => ?_)
            subst hr
            refine lv_icmp_lt (tgt := 101) hx hb dX3_isClear_94 (by decide) (fun c_94 => ?_) (fun c_94 => ?_)
            · skip
              refine lv_iconst (v := 0) hx hb dX3_isClear_101 (by decide) ?_
              exact K _ ((bi_f (fun q => by have := q.2.2; rw [i32_le] at this; rw [i32_lt] at c_94; omega)).symm)
            · skip
              refine lv_iconst (v := 1) hx hb dX3_isClear_97 (by decide) ?_
              refine lv_goto (tgt := 102) hx hb dX3_isClear_98 (by decide) ?_
              exact K _ ((bi_t ⟨c_72, by rw [i32_lt]; rw [i32_le] at c_83; omega, by rw [i32_le]; rw [i32_lt] at c_94; omega⟩).symm)
    · skip
      refine lv_aload_n hx hb dX3_isClear_24 rfl (lv_at hl 2 rfl) ?_
      refine va_get (D := (dC, dI)) (ci := 3) (v := .ref (a 6)) (C := RX3) (T := TX3) (N := 16) hx hb hts hi3 hown hK hP 0 rfl rfl 8 (by decide) lk29 (fun _ h9 => h9) rfl dX3_isClear_25 ?_
      refine lv_iload hx hb dX3_isClear_28 (lv_at hl 1 rfl) ?_
      refine my_iald hx hb hK hP 7 0 rfl rfl (Nat.lt_of_lt_of_le hlt9 hn8) (Nat.le_of_ble_eq_true rfl) dX3_isClear_30 ?_
      refine W_top (y := .int (F 6 i)) (rfl) ?_
      refine lv_iconst (v := (-1)) hx hb dX3_isClear_31 (by decide) ?_
      refine lv_icmp_eq (tgt := 61) hx hb dX3_isClear_32 (by decide) (fun c_32 => ?_) (fun c_32 => ?_)
      · skip
        refine lv_iconst (v := 0) hx hb dX3_isClear_61 (by decide) ?_
        exact K _ ((bi_f (fun q => q.1 c_32)).symm)
      · skip
        refine lv_aload_n hx hb dX3_isClear_35 rfl (lv_at hl 2 rfl) ?_
        refine va_get (D := (dC, dI)) (ci := 3) (v := .ref (a 6)) (C := RX3) (T := TX3) (N := 16) hx hb hts hi3 hown hK hP 0 rfl rfl 8 (by decide) lk29 (fun _ h9 => h9) rfl dX3_isClear_36 ?_
        refine lv_iload hx hb dX3_isClear_39 (lv_at hl 1 rfl) ?_
        refine my_iald hx hb hK hP 7 0 rfl rfl (Nat.lt_of_lt_of_le hlt9 hn8) (Nat.le_of_ble_eq_true rfl) dX3_isClear_41 ?_
        refine W_top (y := .int (F 6 i)) (rfl) ?_
        refine lv_iload_n hx hb dX3_isClear_42 rfl (lv_at hl 4 rfl) ?_
        refine lv_icmp_ge (tgt := 61) hx hb dX3_isClear_43 (by decide) (fun c_43 => ?_) (fun c_43 => ?_)
        · skip
          refine lv_iconst (v := 0) hx hb dX3_isClear_61 (by decide) ?_
          exact K _ ((bi_f (fun q => by have := q.2.1; rw [i32_lt] at this; rw [i32_le] at c_43; omega)).symm)
        · skip
          refine lv_aload_n hx hb dX3_isClear_46 rfl (lv_at hl 2 rfl) ?_
          refine lv_iload hx hb dX3_isClear_47 (lv_at hl 1 rfl) ?_
          refine vp_callSi (va_Run.run (va_runV (As := [.int (nI i)]) (rest := []) ⟨hx, hb, hml, hown, hts⟩ (c_X3_end l9 dC dI h a th n p F i (Nat.lt_of_lt_of_le hlt9 hn8) (hkd i hlt9) (st_ok (hfl i hlt9 c_32))) (cwV 1 hts gX3_isClear_X3_end rfl rfl rfl (by decide +kernel) ⟨Nat.le_of_ble_eq_true rfl, Nat.le_of_ble_eq_true rfl⟩) ⟨PRo.blind, va_recv hK hP (ci := 3) (q0 := 0) rfl rfl, PRo.pre hP hK hE⟩ rfl rfl hl.1 rfl (lv_room (Nat.le_of_ble_eq_true rfl)) dX3_isClear_49 ⟨Nat.le_of_ble_eq_true rfl, Nat.le_of_ble_eq_true rfl⟩)) (fun r hr => ?_)
          subst hr
          refine lv_iload hx hb dX3_isClear_52 (lv_at hl 6 rfl) ?_
          refine lv_icmp_lt (tgt := 61) hx hb dX3_isClear_54 (by decide) (fun c_54 => ?_) (fun c_54 => ?_)
          · skip
            refine lv_iconst (v := 0) hx hb dX3_isClear_61 (by decide) ?_
            exact K _ ((bi_f (fun q => by have := q.2.2; rw [i32_le] at this; rw [i32_lt] at c_54; omega)).symm)
          · skip
            refine lv_iconst (v := 1) hx hb dX3_isClear_57 (by decide) ?_
            refine lv_goto (tgt := 62) hx hb dX3_isClear_58 (by decide) ?_
            exact K _ ((bi_t ⟨c_32, by rw [i32_lt]; rw [i32_le] at c_43; omega, by rw [i32_le]; rw [i32_lt] at c_54; omega⟩).symm)

set_option maxHeartbeats 4000000 in
set_option maxRecDepth 100000 in
theorem c_X3_kite (l9 : Launch) (dC : Nat → ClassId) (dI : Nat → Nat → Nat) (sz : Nat) {cI cZ : ClassId} (h : Nat) (a : Nat → Nat) (th : Int32) (n p : Nat) (F : Rows) (kd ar wt : Int32) (hI : Inv n p F) : Met l9 yX3_kite wsX3_kite ({ frames := 1, cells := 0, slots := 0, locals := 22 }) (va_Pc [.ref h, .int kd, .int ar, .int wt] (PWr dC dI [(cI, .int), (cZ, .boolean)] (rW cI cZ h a th n p F) sz)) (va_Qi (fun r9 (_ : Unit) => r9 = (S_kite n F kd ar wt).2.1) (fun _ t => va_P (dC, dI) vwCl (rW cI cZ h a ((S_kite n F kd ar wt).1) ((S_kite n F kd ar wt).2.2.1) p ((S_kite n F kd ar wt).2.2.2)) t.heap) (va_A (rW cI cZ h a th n p F) sz)) 0 0 (va_A (rW cI cZ h a th n p F) sz) := by
  refine Met.ofW (cc := cX3_kite) (maxL := 5) (ret := (some .int)) (by decide) rfl ?_
  intro p9 e9 s m args below meth c s₁ B hml hv
  obtain ⟨rfl, hsz, hP, hK, hD0, hE, hH⟩ := hv
  have hx := B.exec
  have hb := B.bytes
  have hr := B.returns
  have hts := atoms_spec (ws := wsX3_kite) B.pre
  have hown : s.vm.findClass RX3 = some m.cls := findClass_of_methodNamed B.named
  have hlocks := B.notSynchronized
  have hi3 : ∀ w ∈ u_ws RX3 TX3 16, w ∈ wsX3_kite := by decide +kernel
  have lk7 := hts (.fieldLink RX3 7 "WindlaneModel" "kind" "[I") (by decide +kernel)
  have lk13 := hts (.fieldLink RX3 13 "WindlaneModel" "area" "[I") (by decide +kernel)
  have lk16 := hts (.fieldLink RX3 16 "WindlaneModel" "weight" "[I") (by decide +kernel)
  have lk26 := hts (.fieldLink RX3 26 "WindlaneModel" "holder" "[I") (by decide +kernel)
  have lk29 := hts (.fieldLink RX3 29 "WindlaneModel" "laneOf" "[I") (by decide +kernel)
  have lk42 := hts (.fieldLink RX3 42 "WindlaneModel" "kites" "I") (by decide +kernel)
  subst hsz
  have hD := hD0.self (sz := s.heap.size)
  generalize hAe : va_A (rW cI cZ h a th n p F) s.heap.size = A at hD hH ⊢
  have hA : ∀ q : Nat, s.heap.size ≤ q → A q := fun q h => by rw [← hAe]; exact Or.inr h
  have hS : va_S A s.heap s.heap [] := va_S.rf
  have hP : va_P (dC, dI) vwCl (rW cI cZ h a th n p F) s.heap := hP
  have hn8 : n ≤ 8 := hI.1.1
  have hp8 : p ≤ 8 := hI.1.2
  have hl := lv_entry ([.ref h, .int kd, .int ar, .int wt]) (n := 5) (Nat.le_of_ble_eq_true rfl)
  rw [lg_entry_eq]
  generalize (lg_sl ([.ref h, .int kd, .int ar, .int wt]) ++ List.replicate (5 - (lg_sl ([.ref h, .int kd, .int ar, .int wt])).length) Slot.unset).toArray = ls at hl ⊢
  have hl : lv_has ls 5 [(0, .ref h), (1, .int kd), (2, .int ar), (3, .int wt)] := hl
  refine lv_iload_n hx hb dX3_kite_0 rfl (lv_at hl 1 rfl) ?_
  refine lv_iconst (v := 0) hx hb dX3_kite_1 (by decide) ?_
  refine lv_iconst (v := 2) hx hb dX3_kite_2 (by decide) ?_
  refine vp_callSi (va_Run.run (va_runS (As := [.int kd, .int 0, .int 2]) (rest := []) ⟨hx, hb, hml, hown, hts⟩ (c_X3_isIn l9 kd 0 2) (va_cwS 3 hts gX3_kite_X3_isIn rfl rfl rfl (by decide +kernel) ⟨Nat.le_of_ble_eq_true rfl, Nat.le_of_ble_eq_true rfl⟩) ⟨fun a U g mk q => q, fun U hU hW => ⟨rfl, trivial⟩⟩ rfl rfl hl.1 rfl (lv_room (Nat.le_of_ble_eq_true rfl)) dX3_kite_3 ⟨Nat.le_of_ble_eq_true rfl, Nat.le_of_ble_eq_true rfl⟩)) (fun r hr => ?_)
  subst hr
  refine lv_if_eq (tgt := 33) hx hb dX3_kite_6 (by decide) (fun c_6 => ?_) (fun c_6 => ?_)
  · skip
    have c_6 := bi_z.mp c_6
    refine lv_iconst (v := 0) hx hb dX3_kite_33 (by decide) ?_
    refine lv_istore (lv' := [(4, .int 0), (0, .ref h), (1, .int kd), (2, .int ar), (3, .int wt)]) hx hb dX3_kite_34 hl (by decide) rfl (fun ls hl => ?_)
    refine lv_aload_n hx hb dX3_kite_36 rfl (lv_at hl 1 rfl) ?_
    refine lv_iload hx hb dX3_kite_37 (lv_at hl 0 rfl) ?_
    refine lv_if_ne (tgt := 46) hx hb dX3_kite_39 (by decide) (fun c_39 => absurd (by decide) c_39) (fun _ => ?_)
    refine lv_iconst (v := 1) hx hb dX3_kite_42 (by decide) ?_
    refine lv_goto (tgt := 60) hx hb dX3_kite_43 (by decide) ?_
    refine va_calli (va_runV (As := [.int 1]) (rest := []) ⟨hx, hb, hml, hown, hts⟩ (c_X3_holds l9 dC dI s.heap.size h a th n p F 1) (cwV 1 hts gX3_kite_X3_holds rfl rfl rfl (by decide +kernel) ⟨Nat.le_of_ble_eq_true rfl, Nat.le_of_ble_eq_true rfl⟩) ⟨PWr.blind, va_recv hK hP (ci := 3) (q0 := 0) rfl rfl, PWr.pre hP hK hD hE ((hH.kept hS.2.1).narrow (A_in hD hS hA))⟩ rfl rfl hl.1 rfl (lv_room (Nat.le_of_ble_eq_true rfl)) dX3_kite_60 ⟨Nat.le_of_ble_eq_true rfl, Nat.le_of_ble_eq_true rfl⟩) hS (fun q _ hq => A_in hD hS hA q hq) (A_in hD hS hA) (fun r9 u9 t9 H locs ht9 hvm hw9 hB hz1 hk1 hS => ?_)
    have hP : va_P (dC, dI) vwCl (rW cI cZ h a 1 n p F) H := by rw [← ht9]; exact hB
    have hD : va_D A (rW cI cZ h a 1 n p F) := D_same hD rfl
    refine W_top (y := .int (bi (1 = 0))) (congrArg Value.int hw9) ?_
    refine W_top (y := .int 0) (congrArg Value.int (bi_f (by decide))) ?_
    refine lv_if_ne (tgt := 68) hx hb dX3_kite_63 (by decide) (fun c_63 => absurd (by decide) c_63) (fun _ => ?_)
    refine lv_iconst (v := 0) hx hb dX3_kite_66 (by decide) ?_
    have hS9 : S_kite n F kd ar wt = (1, 0, n, F) := by rw [S_kite]; exact if_neg (fun q => c_6 q.1)
    exact W.iret (v := 0) hx hb hr (fun t ht hW => ⟨⟨_, (), rfl, (by rw [hS9]), by show va_P _ _ _ t.heap; rw [hS9, ht]; exact hP⟩, hS.F ht⟩) hS.2.2 dX3_kite_67
  · skip
    have c_6 := bi_nz.mp c_6
    refine lv_iload_n hx hb dX3_kite_9 rfl (lv_at hl 2 rfl) ?_
    refine lv_iconst (v := 1) hx hb dX3_kite_10 (by decide) ?_
    refine lv_bipush (v := 20) hx hb dX3_kite_11 (by decide) ?_
    refine vp_callSi (va_Run.run (va_runS (As := [.int ar, .int 1, .int 20]) (rest := []) ⟨hx, hb, hml, hown, hts⟩ (c_X3_isIn l9 ar 1 20) (va_cwS 3 hts gX3_kite_X3_isIn rfl rfl rfl (by decide +kernel) ⟨Nat.le_of_ble_eq_true rfl, Nat.le_of_ble_eq_true rfl⟩) ⟨fun a U g mk q => q, fun U hU hW => ⟨rfl, trivial⟩⟩ rfl rfl hl.1 rfl (lv_room (Nat.le_of_ble_eq_true rfl)) dX3_kite_13 ⟨Nat.le_of_ble_eq_true rfl, Nat.le_of_ble_eq_true rfl⟩)) (fun r hr => ?_)
    subst hr
    refine lv_if_eq (tgt := 33) hx hb dX3_kite_16 (by decide) (fun c_16 => ?_) (fun c_16 => ?_)
    · skip
      have c_16 := bi_z.mp c_16
      refine lv_iconst (v := 0) hx hb dX3_kite_33 (by decide) ?_
      refine lv_istore (lv' := [(4, .int 0), (0, .ref h), (1, .int kd), (2, .int ar), (3, .int wt)]) hx hb dX3_kite_34 hl (by decide) rfl (fun ls hl => ?_)
      refine lv_aload_n hx hb dX3_kite_36 rfl (lv_at hl 1 rfl) ?_
      refine lv_iload hx hb dX3_kite_37 (lv_at hl 0 rfl) ?_
      refine lv_if_ne (tgt := 46) hx hb dX3_kite_39 (by decide) (fun c_39 => absurd (by decide) c_39) (fun _ => ?_)
      refine lv_iconst (v := 1) hx hb dX3_kite_42 (by decide) ?_
      refine lv_goto (tgt := 60) hx hb dX3_kite_43 (by decide) ?_
      refine va_calli (va_runV (As := [.int 1]) (rest := []) ⟨hx, hb, hml, hown, hts⟩ (c_X3_holds l9 dC dI s.heap.size h a th n p F 1) (cwV 1 hts gX3_kite_X3_holds rfl rfl rfl (by decide +kernel) ⟨Nat.le_of_ble_eq_true rfl, Nat.le_of_ble_eq_true rfl⟩) ⟨PWr.blind, va_recv hK hP (ci := 3) (q0 := 0) rfl rfl, PWr.pre hP hK hD hE ((hH.kept hS.2.1).narrow (A_in hD hS hA))⟩ rfl rfl hl.1 rfl (lv_room (Nat.le_of_ble_eq_true rfl)) dX3_kite_60 ⟨Nat.le_of_ble_eq_true rfl, Nat.le_of_ble_eq_true rfl⟩) hS (fun q _ hq => A_in hD hS hA q hq) (A_in hD hS hA) (fun r9 u9 t9 H locs ht9 hvm hw9 hB hz1 hk1 hS => ?_)
      have hP : va_P (dC, dI) vwCl (rW cI cZ h a 1 n p F) H := by rw [← ht9]; exact hB
      have hD : va_D A (rW cI cZ h a 1 n p F) := D_same hD rfl
      refine W_top (y := .int (bi (1 = 0))) (congrArg Value.int hw9) ?_
      refine W_top (y := .int 0) (congrArg Value.int (bi_f (by decide))) ?_
      refine lv_if_ne (tgt := 68) hx hb dX3_kite_63 (by decide) (fun c_63 => absurd (by decide) c_63) (fun _ => ?_)
      refine lv_iconst (v := 0) hx hb dX3_kite_66 (by decide) ?_
      have hS9 : S_kite n F kd ar wt = (1, 0, n, F) := by rw [S_kite]; exact if_neg (fun q => c_16 q.2.1)
      exact W.iret (v := 0) hx hb hr (fun t ht hW => ⟨⟨_, (), rfl, (by rw [hS9]), by show va_P _ _ _ t.heap; rw [hS9, ht]; exact hP⟩, hS.F ht⟩) hS.2.2 dX3_kite_67
    · skip
      have c_16 := bi_nz.mp c_16
      refine lv_iload_n hx hb dX3_kite_19 rfl (lv_at hl 3 rfl) ?_
      refine lv_iconst (v := 1) hx hb dX3_kite_20 (by decide) ?_
      refine lv_bipush (v := 20) hx hb dX3_kite_21 (by decide) ?_
      refine vp_callSi (va_Run.run (va_runS (As := [.int wt, .int 1, .int 20]) (rest := []) ⟨hx, hb, hml, hown, hts⟩ (c_X3_isIn l9 wt 1 20) (va_cwS 3 hts gX3_kite_X3_isIn rfl rfl rfl (by decide +kernel) ⟨Nat.le_of_ble_eq_true rfl, Nat.le_of_ble_eq_true rfl⟩) ⟨fun a U g mk q => q, fun U hU hW => ⟨rfl, trivial⟩⟩ rfl rfl hl.1 rfl (lv_room (Nat.le_of_ble_eq_true rfl)) dX3_kite_23 ⟨Nat.le_of_ble_eq_true rfl, Nat.le_of_ble_eq_true rfl⟩)) (fun r hr => ?_)
      subst hr
      refine lv_if_eq (tgt := 33) hx hb dX3_kite_26 (by decide) (fun c_26 => ?_) (fun c_26 => ?_)
      · skip
        have c_26 := bi_z.mp c_26
        refine lv_iconst (v := 0) hx hb dX3_kite_33 (by decide) ?_
        refine lv_istore (lv' := [(4, .int 0), (0, .ref h), (1, .int kd), (2, .int ar), (3, .int wt)]) hx hb dX3_kite_34 hl (by decide) rfl (fun ls hl => ?_)
        refine lv_aload_n hx hb dX3_kite_36 rfl (lv_at hl 1 rfl) ?_
        refine lv_iload hx hb dX3_kite_37 (lv_at hl 0 rfl) ?_
        refine lv_if_ne (tgt := 46) hx hb dX3_kite_39 (by decide) (fun c_39 => absurd (by decide) c_39) (fun _ => ?_)
        refine lv_iconst (v := 1) hx hb dX3_kite_42 (by decide) ?_
        refine lv_goto (tgt := 60) hx hb dX3_kite_43 (by decide) ?_
        refine va_calli (va_runV (As := [.int 1]) (rest := []) ⟨hx, hb, hml, hown, hts⟩ (c_X3_holds l9 dC dI s.heap.size h a th n p F 1) (cwV 1 hts gX3_kite_X3_holds rfl rfl rfl (by decide +kernel) ⟨Nat.le_of_ble_eq_true rfl, Nat.le_of_ble_eq_true rfl⟩) ⟨PWr.blind, va_recv hK hP (ci := 3) (q0 := 0) rfl rfl, PWr.pre hP hK hD hE ((hH.kept hS.2.1).narrow (A_in hD hS hA))⟩ rfl rfl hl.1 rfl (lv_room (Nat.le_of_ble_eq_true rfl)) dX3_kite_60 ⟨Nat.le_of_ble_eq_true rfl, Nat.le_of_ble_eq_true rfl⟩) hS (fun q _ hq => A_in hD hS hA q hq) (A_in hD hS hA) (fun r9 u9 t9 H locs ht9 hvm hw9 hB hz1 hk1 hS => ?_)
        have hP : va_P (dC, dI) vwCl (rW cI cZ h a 1 n p F) H := by rw [← ht9]; exact hB
        have hD : va_D A (rW cI cZ h a 1 n p F) := D_same hD rfl
        refine W_top (y := .int (bi (1 = 0))) (congrArg Value.int hw9) ?_
        refine W_top (y := .int 0) (congrArg Value.int (bi_f (by decide))) ?_
        refine lv_if_ne (tgt := 68) hx hb dX3_kite_63 (by decide) (fun c_63 => absurd (by decide) c_63) (fun _ => ?_)
        refine lv_iconst (v := 0) hx hb dX3_kite_66 (by decide) ?_
        have hS9 : S_kite n F kd ar wt = (1, 0, n, F) := by rw [S_kite]; exact if_neg (fun q => c_26 q.2.2)
        exact W.iret (v := 0) hx hb hr (fun t ht hW => ⟨⟨_, (), rfl, (by rw [hS9]), by show va_P _ _ _ t.heap; rw [hS9, ht]; exact hP⟩, hS.F ht⟩) hS.2.2 dX3_kite_67
      · skip
        have c_26 := bi_nz.mp c_26
        refine lv_iconst (v := 1) hx hb dX3_kite_29 (by decide) ?_
        refine lv_goto (tgt := 34) hx hb dX3_kite_30 (by decide) ?_
        refine lv_istore (lv' := [(4, .int 1), (0, .ref h), (1, .int kd), (2, .int ar), (3, .int wt)]) hx hb dX3_kite_34 hl (by decide) rfl (fun ls hl => ?_)
        refine lv_aload_n hx hb dX3_kite_36 rfl (lv_at hl 1 rfl) ?_
        refine lv_iload hx hb dX3_kite_37 (lv_at hl 0 rfl) ?_
        refine lv_if_ne (tgt := 46) hx hb dX3_kite_39 (by decide) (fun _ => ?_) (fun c_39 => absurd c_39 (by decide))
        refine lv_aload_n hx hb dX3_kite_46 rfl (lv_at hl 1 rfl) ?_
        refine va_get (D := (dC, dI)) (ci := 3) (v := .int (nI n)) (C := RX3) (T := TX3) (N := 16) hx hb hts hi3 hown hK hP 0 rfl rfl 1 (by decide) lk42 (fun _ h9 => h9) rfl dX3_kite_47 ?_
        refine lv_bipush (v := 8) hx hb dX3_kite_50 (by decide) ?_
        refine lv_icmp_ne (tgt := 59) hx hb dX3_kite_52 (by decide) (fun c_52 => ?_) (fun c_52 => ?_)
        · skip
          have hc8 := hc_ne hn8 c_52
          refine lv_iconst (v := 0) hx hb dX3_kite_59 (by decide) ?_
          refine va_calli (va_runV (As := [.int 0]) (rest := []) ⟨hx, hb, hml, hown, hts⟩ (c_X3_holds l9 dC dI s.heap.size h a th n p F 0) (cwV 1 hts gX3_kite_X3_holds rfl rfl rfl (by decide +kernel) ⟨Nat.le_of_ble_eq_true rfl, Nat.le_of_ble_eq_true rfl⟩) ⟨PWr.blind, va_recv hK hP (ci := 3) (q0 := 0) rfl rfl, PWr.pre hP hK hD hE ((hH.kept hS.2.1).narrow (A_in hD hS hA))⟩ rfl rfl hl.1 rfl (lv_room (Nat.le_of_ble_eq_true rfl)) dX3_kite_60 ⟨Nat.le_of_ble_eq_true rfl, Nat.le_of_ble_eq_true rfl⟩) hS (fun q _ hq => A_in hD hS hA q hq) (A_in hD hS hA) (fun r9 u9 t9 H locs ht9 hvm hw9 hB hz1 hk1 hS => ?_)
          have hP : va_P (dC, dI) vwCl (rW cI cZ h a 0 n p F) H := by rw [← ht9]; exact hB
          have hD : va_D A (rW cI cZ h a 0 n p F) := D_same hD rfl
          refine W_top (y := .int (bi (0 = 0))) (congrArg Value.int hw9) ?_
          refine W_top (y := .int 1) (congrArg Value.int (bi_t rfl)) ?_
          refine lv_if_ne (tgt := 68) hx hb dX3_kite_63 (by decide) (fun _ => ?_) (fun c_63 => absurd c_63 (by decide))
          refine lv_aload_n hx hb dX3_kite_68 rfl (lv_at hl 1 rfl) ?_
          refine va_get (D := (dC, dI)) (ci := 3) (v := .ref (a 0)) (C := RX3) (T := TX3) (N := 16) hx hb hts hi3 hown hK hP 0 rfl rfl 2 (by decide) lk7 (fun _ h9 => h9) rfl dX3_kite_69 ?_
          refine lv_aload_n hx hb dX3_kite_72 rfl (lv_at hl 1 rfl) ?_
          refine va_get (D := (dC, dI)) (ci := 3) (v := .int (nI n)) (C := RX3) (T := TX3) (N := 16) hx hb hts hi3 hown hK hP 0 rfl rfl 1 (by decide) lk42 (fun _ h9 => h9) rfl dX3_kite_73 ?_
          refine lv_iload_n hx hb dX3_kite_76 rfl (lv_at hl 2 rfl) ?_
          refine my_iast hx hb hK hP hD hS 1 0 rfl rfl hc8 (Nat.le_of_ble_eq_true rfl) dX3_kite_77 (fun H locs hP hD hS => ?_)
          have hP : va_P (dC, dI) vwCl (rW cI cZ h a 0 n p (up F 0 n kd)) H := hP
          have hD : va_D A (rW cI cZ h a 0 n p (up F 0 n kd)) := hD
          refine lv_aload_n hx hb dX3_kite_78 rfl (lv_at hl 1 rfl) ?_
          refine va_get (D := (dC, dI)) (ci := 3) (v := .ref (a 1)) (C := RX3) (T := TX3) (N := 16) hx hb hts hi3 hown hK hP 0 rfl rfl 3 (by decide) lk13 (fun _ h9 => h9) rfl dX3_kite_79 ?_
          refine lv_aload_n hx hb dX3_kite_82 rfl (lv_at hl 1 rfl) ?_
          refine va_get (D := (dC, dI)) (ci := 3) (v := .int (nI n)) (C := RX3) (T := TX3) (N := 16) hx hb hts hi3 hown hK hP 0 rfl rfl 1 (by decide) lk42 (fun _ h9 => h9) rfl dX3_kite_83 ?_
          refine lv_iload_n hx hb dX3_kite_86 rfl (lv_at hl 3 rfl) ?_
          refine my_iast hx hb hK hP hD hS 2 0 rfl rfl hc8 (Nat.le_of_ble_eq_true rfl) dX3_kite_87 (fun H locs hP hD hS => ?_)
          have hP : va_P (dC, dI) vwCl (rW cI cZ h a 0 n p (up (up F 0 n kd) 1 n ar)) H := hP
          have hD : va_D A (rW cI cZ h a 0 n p (up (up F 0 n kd) 1 n ar)) := hD
          refine lv_aload_n hx hb dX3_kite_88 rfl (lv_at hl 1 rfl) ?_
          refine va_get (D := (dC, dI)) (ci := 3) (v := .ref (a 2)) (C := RX3) (T := TX3) (N := 16) hx hb hts hi3 hown hK hP 0 rfl rfl 4 (by decide) lk16 (fun _ h9 => h9) rfl dX3_kite_89 ?_
          refine lv_aload_n hx hb dX3_kite_92 rfl (lv_at hl 1 rfl) ?_
          refine va_get (D := (dC, dI)) (ci := 3) (v := .int (nI n)) (C := RX3) (T := TX3) (N := 16) hx hb hts hi3 hown hK hP 0 rfl rfl 1 (by decide) lk42 (fun _ h9 => h9) rfl dX3_kite_93 ?_
          refine lv_iload_n hx hb dX3_kite_96 rfl (lv_at hl 4 rfl) ?_
          refine my_iast hx hb hK hP hD hS 3 0 rfl rfl hc8 (Nat.le_of_ble_eq_true rfl) dX3_kite_97 (fun H locs hP hD hS => ?_)
          have hP : va_P (dC, dI) vwCl (rW cI cZ h a 0 n p (up (up (up F 0 n kd) 1 n ar) 2 n wt)) H := hP
          have hD : va_D A (rW cI cZ h a 0 n p (up (up (up F 0 n kd) 1 n ar) 2 n wt)) := hD
          refine lv_aload_n hx hb dX3_kite_98 rfl (lv_at hl 1 rfl) ?_
          refine va_get (D := (dC, dI)) (ci := 3) (v := .ref (a 5)) (C := RX3) (T := TX3) (N := 16) hx hb hts hi3 hown hK hP 0 rfl rfl 7 (by decide) lk26 (fun _ h9 => h9) rfl dX3_kite_99 ?_
          refine lv_aload_n hx hb dX3_kite_102 rfl (lv_at hl 1 rfl) ?_
          refine va_get (D := (dC, dI)) (ci := 3) (v := .int (nI n)) (C := RX3) (T := TX3) (N := 16) hx hb hts hi3 hown hK hP 0 rfl rfl 1 (by decide) lk42 (fun _ h9 => h9) rfl dX3_kite_103 ?_
          refine lv_iconst (v := (-1)) hx hb dX3_kite_106 (by decide) ?_
          refine my_iast hx hb hK hP hD hS 6 0 rfl rfl hc8 (Nat.le_of_ble_eq_true rfl) dX3_kite_107 (fun H locs hP hD hS => ?_)
          have hP : va_P (dC, dI) vwCl (rW cI cZ h a 0 n p (up (up (up (up F 0 n kd) 1 n ar) 2 n wt) 5 n (-1))) H := hP
          have hD : va_D A (rW cI cZ h a 0 n p (up (up (up (up F 0 n kd) 1 n ar) 2 n wt) 5 n (-1))) := hD
          refine lv_aload_n hx hb dX3_kite_108 rfl (lv_at hl 1 rfl) ?_
          refine va_get (D := (dC, dI)) (ci := 3) (v := .ref (a 6)) (C := RX3) (T := TX3) (N := 16) hx hb hts hi3 hown hK hP 0 rfl rfl 8 (by decide) lk29 (fun _ h9 => h9) rfl dX3_kite_109 ?_
          refine lv_aload_n hx hb dX3_kite_112 rfl (lv_at hl 1 rfl) ?_
          refine va_get (D := (dC, dI)) (ci := 3) (v := .int (nI n)) (C := RX3) (T := TX3) (N := 16) hx hb hts hi3 hown hK hP 0 rfl rfl 1 (by decide) lk42 (fun _ h9 => h9) rfl dX3_kite_113 ?_
          refine lv_iconst (v := (-1)) hx hb dX3_kite_116 (by decide) ?_
          refine my_iast hx hb hK hP hD hS 7 0 rfl rfl hc8 (Nat.le_of_ble_eq_true rfl) dX3_kite_117 (fun H locs hP hD hS => ?_)
          have hP : va_P (dC, dI) vwCl (rW cI cZ h a 0 n p (up (up (up (up (up F 0 n kd) 1 n ar) 2 n wt) 5 n (-1)) 6 n (-1))) H := hP
          have hD : va_D A (rW cI cZ h a 0 n p (up (up (up (up (up F 0 n kd) 1 n ar) 2 n wt) 5 n (-1)) 6 n (-1))) := hD
          refine lv_aload_n hx hb dX3_kite_118 rfl (lv_at hl 1 rfl) ?_
          refine lv_dup hx hb dX3_kite_119 rfl ?_
          refine va_get (D := (dC, dI)) (ci := 3) (v := .int (nI n)) (C := RX3) (T := TX3) (N := 16) hx hb hts hi3 hown hK hP 0 rfl rfl 1 (by decide) lk42 (fun _ h9 => h9) rfl dX3_kite_120 ?_
          refine lv_iconst (v := 1) hx hb dX3_kite_123 (by decide) ?_
          refine lv_iadd hx hb dX3_kite_124 ?_
          refine W_top (y := .int (nI (n + 1))) (congrArg Value.int (nI_1 n)) ?_
          refine va_put (D := (dC, dI)) (ci := 3) (v := .int (nI (n + 1))) (ty := .int) (C := RX3) (T := TX3) (N := 16) hx hb hts hi3 tyX3 tyX3_ok nmX3 hown hK hP hD hS 0 rfl rfl 1 (by decide) lk42 (fun _ h9 => h9) rfl (by decide +kernel) rfl rfl (Nat.le_of_ble_eq_true rfl) dX3_kite_125 (fun H locs hP hD hS => ?_)
          have hP : va_P (dC, dI) vwCl (rW cI cZ h a 0 (n + 1) p (up (up (up (up (up F 0 n kd) 1 n ar) 2 n wt) 5 n (-1)) 6 n (-1))) H := hP
          have hD : va_D A (rW cI cZ h a 0 (n + 1) p (up (up (up (up (up F 0 n kd) 1 n ar) 2 n wt) 5 n (-1)) 6 n (-1))) := hD
          refine lv_aload_n hx hb dX3_kite_128 rfl (lv_at hl 1 rfl) ?_
          refine va_get (D := (dC, dI)) (ci := 3) (v := .int (nI (n + 1))) (C := RX3) (T := TX3) (N := 16) hx hb hts hi3 hown hK hP 0 rfl rfl 1 (by decide) lk42 (fun _ h9 => h9) rfl dX3_kite_129 ?_
          refine lv_iconst (v := 1) hx hb dX3_kite_132 (by decide) ?_
          refine lv_isub hx hb dX3_kite_133 ?_
          refine W_top (y := .int (nI n)) (congrArg Value.int (nI_back n)) ?_
          have hS9 : S_kite n F kd ar wt = (0, nI n, n + 1, nwF n F kd ar wt) := by rw [S_kite, if_pos ⟨c_6, c_16, c_26⟩]; exact if_neg (by omega)
          exact W.iret (v := nI n) hx hb hr (fun t ht hW => ⟨⟨_, (), rfl, (by rw [hS9]), by show va_P _ _ _ t.heap; rw [hS9, ht]; exact hP⟩, hS.F ht⟩) hS.2.2 dX3_kite_134
        · skip
          refine lv_iconst (v := 2) hx hb dX3_kite_55 (by decide) ?_
          refine lv_goto (tgt := 60) hx hb dX3_kite_56 (by decide) ?_
          refine va_calli (va_runV (As := [.int 2]) (rest := []) ⟨hx, hb, hml, hown, hts⟩ (c_X3_holds l9 dC dI s.heap.size h a th n p F 2) (cwV 1 hts gX3_kite_X3_holds rfl rfl rfl (by decide +kernel) ⟨Nat.le_of_ble_eq_true rfl, Nat.le_of_ble_eq_true rfl⟩) ⟨PWr.blind, va_recv hK hP (ci := 3) (q0 := 0) rfl rfl, PWr.pre hP hK hD hE ((hH.kept hS.2.1).narrow (A_in hD hS hA))⟩ rfl rfl hl.1 rfl (lv_room (Nat.le_of_ble_eq_true rfl)) dX3_kite_60 ⟨Nat.le_of_ble_eq_true rfl, Nat.le_of_ble_eq_true rfl⟩) hS (fun q _ hq => A_in hD hS hA q hq) (A_in hD hS hA) (fun r9 u9 t9 H locs ht9 hvm hw9 hB hz1 hk1 hS => ?_)
          have hP : va_P (dC, dI) vwCl (rW cI cZ h a 2 n p F) H := by rw [← ht9]; exact hB
          have hD : va_D A (rW cI cZ h a 2 n p F) := D_same hD rfl
          refine W_top (y := .int (bi (2 = 0))) (congrArg Value.int hw9) ?_
          refine W_top (y := .int 0) (congrArg Value.int (bi_f (by decide))) ?_
          refine lv_if_ne (tgt := 68) hx hb dX3_kite_63 (by decide) (fun c_63 => absurd (by decide) c_63) (fun _ => ?_)
          refine lv_iconst (v := 0) hx hb dX3_kite_66 (by decide) ?_
          have hS9 : S_kite n F kd ar wt = (2, 0, n, F) := by rw [S_kite, if_pos ⟨c_6, c_16, c_26⟩]; exact if_pos (hc_eq hn8 c_52)
          exact W.iret (v := 0) hx hb hr (fun t ht hW => ⟨⟨_, (), rfl, (by rw [hS9]), by show va_P _ _ _ t.heap; rw [hS9, ht]; exact hP⟩, hS.F ht⟩) hS.2.2 dX3_kite_67

set_option maxHeartbeats 4000000 in
set_option maxRecDepth 100000 in
theorem c_X3_patch (l9 : Launch) (dC : Nat → ClassId) (dI : Nat → Nat → Nat) (sz : Nat) {cI cZ : ClassId} (h : Nat) (a : Nat → Nat) (th : Int32) (n p : Nat) (F : Rows) (its : Int32) (hI : Inv n p F) : Met l9 yX3_patch wsX3_patch ({ frames := 2, cells := 0, slots := 0, locals := 43 }) (va_Pc [.ref h, .int its] (PWr dC dI [(cI, .int), (cZ, .boolean)] (rW cI cZ h a th n p F) sz)) (va_Qi (fun r9 (_ : Unit) => r9 = (S_patch n F its).2.1) (fun _ t => va_P (dC, dI) vwCl (rW cI cZ h a ((S_patch n F its).1) n p ((S_patch n F its).2.2)) t.heap) (va_A (rW cI cZ h a th n p F) sz)) 0 0 (va_A (rW cI cZ h a th n p F) sz) := by
  refine Met.ofW (cc := cX3_patch) (maxL := 3) (ret := (some .int)) (by decide) rfl ?_
  intro p9 e9 s m args below meth c s₁ B hml hv
  obtain ⟨rfl, hsz, hP, hK, hD0, hE, hH⟩ := hv
  have hx := B.exec
  have hb := B.bytes
  have hr := B.returns
  have hts := atoms_spec (ws := wsX3_patch) B.pre
  have hown : s.vm.findClass RX3 = some m.cls := findClass_of_methodNamed B.named
  have hlocks := B.notSynchronized
  have hi3 : ∀ w ∈ u_ws RX3 TX3 16, w ∈ wsX3_patch := by decide +kernel
  have lk16 := hts (.fieldLink RX3 16 "WindlaneModel" "weight" "[I") (by decide +kernel)
  have lk19 := hts (.fieldLink RX3 19 "WindlaneModel" "isTorn" "[Z") (by decide +kernel)
  subst hsz
  have hD := hD0.self (sz := s.heap.size)
  generalize hAe : va_A (rW cI cZ h a th n p F) s.heap.size = A at hD hH ⊢
  have hA : ∀ q : Nat, s.heap.size ≤ q → A q := fun q h => by rw [← hAe]; exact Or.inr h
  have hS : va_S A s.heap s.heap [] := va_S.rf
  have hP : va_P (dC, dI) vwCl (rW cI cZ h a th n p F) s.heap := hP
  have hn8 : n ≤ 8 := hI.1.1
  have hp8 : p ≤ 8 := hI.1.2
  have hl := lv_entry ([.ref h, .int its]) (n := 3) (Nat.le_of_ble_eq_true rfl)
  rw [lg_entry_eq]
  generalize (lg_sl ([.ref h, .int its]) ++ List.replicate (3 - (lg_sl ([.ref h, .int its])).length) Slot.unset).toArray = ls at hl ⊢
  have hl : lv_has ls 3 [(0, .ref h), (1, .int its)] := hl
  rcases inR_cases n its with ⟨k, hkn, rfl⟩ | hno
  · skip
    have hixk : ix n (nI k) = some k := ix_t hkn (by omega)
    refine lv_aload_n hx hb dX3_patch_0 rfl (lv_at hl 0 rfl) ?_
    refine lv_iload_n hx hb dX3_patch_1 rfl (lv_at hl 1 rfl) ?_
    refine vp_callSi (va_Run.run (va_runV (As := [.int (nI k)]) (rest := []) ⟨hx, hb, hml, hown, hts⟩ (c_X3_isKite l9 dC dI h a th n p F (nI k) hn8) (cwV 1 hts gX3_patch_X3_isKite rfl rfl rfl (by decide +kernel) ⟨Nat.le_of_ble_eq_true rfl, Nat.le_of_ble_eq_true rfl⟩) ⟨PRo.blind, va_recv hK hP (ci := 3) (q0 := 0) rfl rfl, PRo.pre hP hK hE⟩ rfl rfl hl.1 rfl (lv_room (Nat.le_of_ble_eq_true rfl)) dX3_patch_2 ⟨Nat.le_of_ble_eq_true rfl, Nat.le_of_ble_eq_true rfl⟩)) (fun r hr => ?_)
    subst hr
    refine lv_istore_n (lv' := [(2, .int (bi (inR n (nI k)))), (0, .ref h), (1, .int (nI k))]) hx hb dX3_patch_5 rfl hl (by decide) rfl (fun ls hl => ?_)
    refine lv_aload_n hx hb dX3_patch_6 rfl (lv_at hl 1 rfl) ?_
    refine lv_iload_n hx hb dX3_patch_7 rfl (lv_at hl 0 rfl) ?_
    refine lv_if_ne (tgt := 15) hx hb dX3_patch_8 (by decide) (fun _ => ?_) (fun c_8 => absurd c_8 (bi_nz.mpr (inR_nI hkn (by omega))))
    refine lv_aload_n hx hb dX3_patch_15 rfl (lv_at hl 1 rfl) ?_
    refine va_get (D := (dC, dI)) (ci := 3) (v := .ref (a 3)) (C := RX3) (T := TX3) (N := 16) hx hb hts hi3 hown hK hP 0 rfl rfl 5 (by decide) lk19 (fun _ h9 => h9) rfl dX3_patch_16 ?_
    refine lv_iload_n hx hb dX3_patch_19 rfl (lv_at hl 2 rfl) ?_
    refine my_zald hx hb hK hP 4 1 rfl rfl (Nat.lt_of_lt_of_le hkn hn8) (Nat.le_of_ble_eq_true rfl) dX3_patch_20 ?_
    refine W_top (y := .int (F 3 k)) (rfl) ?_
    refine lv_if_eq (tgt := 41) hx hb dX3_patch_21 (by decide) (fun c_21 => ?_) (fun c_21 => ?_)
    · skip
      refine lv_iconst (v := 2) hx hb dX3_patch_41 (by decide) ?_
      refine va_calli (va_runV (As := [.int 2]) (rest := []) ⟨hx, hb, hml, hown, hts⟩ (c_X3_holds l9 dC dI s.heap.size h a th n p F 2) (cwV 1 hts gX3_patch_X3_holds rfl rfl rfl (by decide +kernel) ⟨Nat.le_of_ble_eq_true rfl, Nat.le_of_ble_eq_true rfl⟩) ⟨PWr.blind, va_recv hK hP (ci := 3) (q0 := 0) rfl rfl, PWr.pre hP hK hD hE ((hH.kept hS.2.1).narrow (A_in hD hS hA))⟩ rfl rfl hl.1 rfl (lv_room (Nat.le_of_ble_eq_true rfl)) dX3_patch_42 ⟨Nat.le_of_ble_eq_true rfl, Nat.le_of_ble_eq_true rfl⟩) hS (fun q _ hq => A_in hD hS hA q hq) (A_in hD hS hA) (fun r9 u9 t9 H locs ht9 hvm hw9 hB hz1 hk1 hS => ?_)
      have hP : va_P (dC, dI) vwCl (rW cI cZ h a 2 n p F) H := by rw [← ht9]; exact hB
      have hD : va_D A (rW cI cZ h a 2 n p F) := D_same hD rfl
      refine W_top (y := .int (bi (2 = 0))) (congrArg Value.int hw9) ?_
      refine W_top (y := .int 0) (congrArg Value.int (bi_f (by decide))) ?_
      refine lv_if_ne (tgt := 50) hx hb dX3_patch_45 (by decide) (fun c_45 => absurd (by decide) c_45) (fun _ => ?_)
      refine lv_iconst (v := 0) hx hb dX3_patch_48 (by decide) ?_
      have hS9 : S_patch n F (nI k) = (2, 0, F) := by rw [S_patch, hixk]; exact if_neg (fun q => q.1 c_21)
      exact W.iret (v := 0) hx hb hr (fun t ht hW => ⟨⟨_, (), rfl, (by rw [hS9]), by show va_P _ _ _ t.heap; rw [hS9, ht]; exact hP⟩, hS.F ht⟩) hS.2.2 dX3_patch_49
    · skip
      refine lv_aload_n hx hb dX3_patch_24 rfl (lv_at hl 1 rfl) ?_
      refine va_get (D := (dC, dI)) (ci := 3) (v := .ref (a 2)) (C := RX3) (T := TX3) (N := 16) hx hb hts hi3 hown hK hP 0 rfl rfl 4 (by decide) lk16 (fun _ h9 => h9) rfl dX3_patch_25 ?_
      refine lv_iload_n hx hb dX3_patch_28 rfl (lv_at hl 2 rfl) ?_
      refine my_iald hx hb hK hP 3 0 rfl rfl (Nat.lt_of_lt_of_le hkn hn8) (Nat.le_of_ble_eq_true rfl) dX3_patch_29 ?_
      refine W_top (y := .int (F 2 k)) (rfl) ?_
      refine lv_iconst (v := 2) hx hb dX3_patch_30 (by decide) ?_
      refine lv_iadd hx hb dX3_patch_31 ?_
      refine lv_bipush (v := 40) hx hb dX3_patch_32 (by decide) ?_
      refine lv_icmp_gt (tgt := 41) hx hb dX3_patch_34 (by decide) (fun c_34 => ?_) (fun c_34 => ?_)
      · skip
        refine lv_iconst (v := 2) hx hb dX3_patch_41 (by decide) ?_
        refine va_calli (va_runV (As := [.int 2]) (rest := []) ⟨hx, hb, hml, hown, hts⟩ (c_X3_holds l9 dC dI s.heap.size h a th n p F 2) (cwV 1 hts gX3_patch_X3_holds rfl rfl rfl (by decide +kernel) ⟨Nat.le_of_ble_eq_true rfl, Nat.le_of_ble_eq_true rfl⟩) ⟨PWr.blind, va_recv hK hP (ci := 3) (q0 := 0) rfl rfl, PWr.pre hP hK hD hE ((hH.kept hS.2.1).narrow (A_in hD hS hA))⟩ rfl rfl hl.1 rfl (lv_room (Nat.le_of_ble_eq_true rfl)) dX3_patch_42 ⟨Nat.le_of_ble_eq_true rfl, Nat.le_of_ble_eq_true rfl⟩) hS (fun q _ hq => A_in hD hS hA q hq) (A_in hD hS hA) (fun r9 u9 t9 H locs ht9 hvm hw9 hB hz1 hk1 hS => ?_)
        have hP : va_P (dC, dI) vwCl (rW cI cZ h a 2 n p F) H := by rw [← ht9]; exact hB
        have hD : va_D A (rW cI cZ h a 2 n p F) := D_same hD rfl
        refine W_top (y := .int (bi (2 = 0))) (congrArg Value.int hw9) ?_
        refine W_top (y := .int 0) (congrArg Value.int (bi_f (by decide))) ?_
        refine lv_if_ne (tgt := 50) hx hb dX3_patch_45 (by decide) (fun c_45 => absurd (by decide) c_45) (fun _ => ?_)
        refine lv_iconst (v := 0) hx hb dX3_patch_48 (by decide) ?_
        have hS9 : S_patch n F (nI k) = (2, 0, F) := by rw [S_patch, hixk]; exact if_neg (fun q => by have := q.2; rw [i32_le] at this; rw [i32_lt] at c_34; omega)
        exact W.iret (v := 0) hx hb hr (fun t ht hW => ⟨⟨_, (), rfl, (by rw [hS9]), by show va_P _ _ _ t.heap; rw [hS9, ht]; exact hP⟩, hS.F ht⟩) hS.2.2 dX3_patch_49
      · skip
        refine lv_iconst (v := 0) hx hb dX3_patch_37 (by decide) ?_
        refine lv_goto (tgt := 42) hx hb dX3_patch_38 (by decide) ?_
        refine va_calli (va_runV (As := [.int 0]) (rest := []) ⟨hx, hb, hml, hown, hts⟩ (c_X3_holds l9 dC dI s.heap.size h a th n p F 0) (cwV 1 hts gX3_patch_X3_holds rfl rfl rfl (by decide +kernel) ⟨Nat.le_of_ble_eq_true rfl, Nat.le_of_ble_eq_true rfl⟩) ⟨PWr.blind, va_recv hK hP (ci := 3) (q0 := 0) rfl rfl, PWr.pre hP hK hD hE ((hH.kept hS.2.1).narrow (A_in hD hS hA))⟩ rfl rfl hl.1 rfl (lv_room (Nat.le_of_ble_eq_true rfl)) dX3_patch_42 ⟨Nat.le_of_ble_eq_true rfl, Nat.le_of_ble_eq_true rfl⟩) hS (fun q _ hq => A_in hD hS hA q hq) (A_in hD hS hA) (fun r9 u9 t9 H locs ht9 hvm hw9 hB hz1 hk1 hS => ?_)
        have hP : va_P (dC, dI) vwCl (rW cI cZ h a 0 n p F) H := by rw [← ht9]; exact hB
        have hD : va_D A (rW cI cZ h a 0 n p F) := D_same hD rfl
        refine W_top (y := .int (bi (0 = 0))) (congrArg Value.int hw9) ?_
        refine W_top (y := .int 1) (congrArg Value.int (bi_t rfl)) ?_
        refine lv_if_ne (tgt := 50) hx hb dX3_patch_45 (by decide) (fun _ => ?_) (fun c_45 => absurd c_45 (by decide))
        refine lv_aload_n hx hb dX3_patch_50 rfl (lv_at hl 1 rfl) ?_
        refine va_get (D := (dC, dI)) (ci := 3) (v := .ref (a 3)) (C := RX3) (T := TX3) (N := 16) hx hb hts hi3 hown hK hP 0 rfl rfl 5 (by decide) lk19 (fun _ h9 => h9) rfl dX3_patch_51 ?_
        refine lv_iload_n hx hb dX3_patch_54 rfl (lv_at hl 2 rfl) ?_
        refine lv_iconst (v := 0) hx hb dX3_patch_55 (by decide) ?_
        refine my_zast hx hb hK hP hD hS 4 1 rfl rfl (Nat.lt_of_lt_of_le hkn hn8) (Nat.le_of_ble_eq_true rfl) (Or.inl rfl) dX3_patch_56 (fun H locs hP hD hS => ?_)
        have hP : va_P (dC, dI) vwCl (rW cI cZ h a 0 n p (up F 3 k 0)) H := hP
        have hD : va_D A (rW cI cZ h a 0 n p (up F 3 k 0)) := hD
        refine lv_aload_n hx hb dX3_patch_57 rfl (lv_at hl 1 rfl) ?_
        refine va_get (D := (dC, dI)) (ci := 3) (v := .ref (a 2)) (C := RX3) (T := TX3) (N := 16) hx hb hts hi3 hown hK hP 0 rfl rfl 4 (by decide) lk16 (fun _ h9 => h9) rfl dX3_patch_58 ?_
        refine lv_iload_n hx hb dX3_patch_61 rfl (lv_at hl 2 rfl) ?_
        refine lv_dup2_11 hx hb dX3_patch_62 rfl rfl ?_
        refine my_iald hx hb hK hP 3 0 rfl rfl (Nat.lt_of_lt_of_le hkn hn8) (Nat.le_of_ble_eq_true rfl) dX3_patch_63 ?_
        refine W_top (y := .int (F 2 k)) (rfl) ?_
        refine lv_iconst (v := 2) hx hb dX3_patch_64 (by decide) ?_
        refine lv_iadd hx hb dX3_patch_65 ?_
        refine my_iast hx hb hK hP hD hS 3 0 rfl rfl (Nat.lt_of_lt_of_le hkn hn8) (Nat.le_of_ble_eq_true rfl) dX3_patch_66 (fun H locs hP hD hS => ?_)
        have hP : va_P (dC, dI) vwCl (rW cI cZ h a 0 n p (up (up F 3 k 0) 2 k ((F 2 k) + 2))) H := hP
        have hD : va_D A (rW cI cZ h a 0 n p (up (up F 3 k 0) 2 k ((F 2 k) + 2))) := hD
        refine lv_aload_n hx hb dX3_patch_67 rfl (lv_at hl 1 rfl) ?_
        refine va_get (D := (dC, dI)) (ci := 3) (v := .ref (a 2)) (C := RX3) (T := TX3) (N := 16) hx hb hts hi3 hown hK hP 0 rfl rfl 4 (by decide) lk16 (fun _ h9 => h9) rfl dX3_patch_68 ?_
        refine lv_iload_n hx hb dX3_patch_71 rfl (lv_at hl 2 rfl) ?_
        refine my_iald hx hb hK hP 3 0 rfl rfl (Nat.lt_of_lt_of_le hkn hn8) (Nat.le_of_ble_eq_true rfl) dX3_patch_72 ?_
        refine W_top (y := .int ((F 2 k) + 2)) (congrArg Value.int (up_ss _ _ _ _)) ?_
        have hS9 : S_patch n F (nI k) = (0, F 2 k + 2, up (up F 3 k 0) 2 k (F 2 k + 2)) := by rw [S_patch, hixk]; exact if_pos ⟨c_21, by rw [i32_le]; rw [i32_lt] at c_34; omega⟩
        exact W.iret (v := ((F 2 k) + 2)) hx hb hr (fun t ht hW => ⟨⟨_, (), rfl, (by rw [hS9]), by show va_P _ _ _ t.heap; rw [hS9, ht]; exact hP⟩, hS.F ht⟩) hS.2.2 dX3_patch_73
  · skip
    refine lv_aload_n hx hb dX3_patch_0 rfl (lv_at hl 0 rfl) ?_
    refine lv_iload_n hx hb dX3_patch_1 rfl (lv_at hl 1 rfl) ?_
    refine vp_callSi (va_Run.run (va_runV (As := [.int its]) (rest := []) ⟨hx, hb, hml, hown, hts⟩ (c_X3_isKite l9 dC dI h a th n p F its hn8) (cwV 1 hts gX3_patch_X3_isKite rfl rfl rfl (by decide +kernel) ⟨Nat.le_of_ble_eq_true rfl, Nat.le_of_ble_eq_true rfl⟩) ⟨PRo.blind, va_recv hK hP (ci := 3) (q0 := 0) rfl rfl, PRo.pre hP hK hE⟩ rfl rfl hl.1 rfl (lv_room (Nat.le_of_ble_eq_true rfl)) dX3_patch_2 ⟨Nat.le_of_ble_eq_true rfl, Nat.le_of_ble_eq_true rfl⟩)) (fun r hr => ?_)
    subst hr
    refine lv_istore_n (lv' := [(2, .int (bi (inR n its))), (0, .ref h), (1, .int its)]) hx hb dX3_patch_5 rfl hl (by decide) rfl (fun ls hl => ?_)
    refine lv_aload_n hx hb dX3_patch_6 rfl (lv_at hl 1 rfl) ?_
    refine lv_iload_n hx hb dX3_patch_7 rfl (lv_at hl 0 rfl) ?_
    refine lv_if_ne (tgt := 15) hx hb dX3_patch_8 (by decide) (fun c_8 => absurd (bi_f hno) c_8) (fun _ => ?_)
    refine lv_iconst (v := 1) hx hb dX3_patch_11 (by decide) ?_
    refine lv_goto (tgt := 42) hx hb dX3_patch_12 (by decide) ?_
    refine va_calli (va_runV (As := [.int 1]) (rest := []) ⟨hx, hb, hml, hown, hts⟩ (c_X3_holds l9 dC dI s.heap.size h a th n p F 1) (cwV 1 hts gX3_patch_X3_holds rfl rfl rfl (by decide +kernel) ⟨Nat.le_of_ble_eq_true rfl, Nat.le_of_ble_eq_true rfl⟩) ⟨PWr.blind, va_recv hK hP (ci := 3) (q0 := 0) rfl rfl, PWr.pre hP hK hD hE ((hH.kept hS.2.1).narrow (A_in hD hS hA))⟩ rfl rfl hl.1 rfl (lv_room (Nat.le_of_ble_eq_true rfl)) dX3_patch_42 ⟨Nat.le_of_ble_eq_true rfl, Nat.le_of_ble_eq_true rfl⟩) hS (fun q _ hq => A_in hD hS hA q hq) (A_in hD hS hA) (fun r9 u9 t9 H locs ht9 hvm hw9 hB hz1 hk1 hS => ?_)
    have hP : va_P (dC, dI) vwCl (rW cI cZ h a 1 n p F) H := by rw [← ht9]; exact hB
    have hD : va_D A (rW cI cZ h a 1 n p F) := D_same hD rfl
    refine W_top (y := .int (bi (1 = 0))) (congrArg Value.int hw9) ?_
    refine W_top (y := .int 0) (congrArg Value.int (bi_f (by decide))) ?_
    refine lv_if_ne (tgt := 50) hx hb dX3_patch_45 (by decide) (fun c_45 => absurd (by decide) c_45) (fun _ => ?_)
    refine lv_iconst (v := 0) hx hb dX3_patch_48 (by decide) ?_
    have hS9 : S_patch n F its = (1, 0, F) := by rw [S_patch, ix_f hno]
    exact W.iret (v := 0) hx hb hr (fun t ht hW => ⟨⟨_, (), rfl, (by rw [hS9]), by show va_P _ _ _ t.heap; rw [hS9, ht]; exact hP⟩, hS.F ht⟩) hS.2.2 dX3_patch_49

set_option maxHeartbeats 4000000 in
set_option maxRecDepth 100000 in
theorem c_X3_borrower (l9 : Launch) (dC : Nat → ClassId) (dI : Nat → Nat → Nat) (sz : Nat) {cI cZ : ClassId} (h : Nat) (a : Nat → Nat) (th : Int32) (n p : Nat) (F : Rows) (sk : Int32) (hI : Inv n p F) : Met l9 yX3_borrower wsX3_borrower ({ frames := 1, cells := 0, slots := 0, locals := 22 }) (va_Pc [.ref h, .int sk] (PWr dC dI [(cI, .int), (cZ, .boolean)] (rW cI cZ h a th n p F) sz)) (va_Qi (fun r9 (_ : Unit) => r9 = (S_borrower p F sk).2.1) (fun _ t => va_P (dC, dI) vwCl (rW cI cZ h a ((S_borrower p F sk).1) n ((S_borrower p F sk).2.2.1) ((S_borrower p F sk).2.2.2)) t.heap) (va_A (rW cI cZ h a th n p F) sz)) 0 0 (va_A (rW cI cZ h a th n p F) sz) := by
  refine Met.ofW (cc := cX3_borrower) (maxL := 2) (ret := (some .int)) (by decide) rfl ?_
  intro p9 e9 s m args below meth c s₁ B hml hv
  obtain ⟨rfl, hsz, hP, hK, hD0, hE, hH⟩ := hv
  have hx := B.exec
  have hb := B.bytes
  have hr := B.returns
  have hts := atoms_spec (ws := wsX3_borrower) B.pre
  have hown : s.vm.findClass RX3 = some m.cls := findClass_of_methodNamed B.named
  have hlocks := B.notSynchronized
  have hi3 : ∀ w ∈ u_ws RX3 TX3 16, w ∈ wsX3_borrower := by decide +kernel
  have lk35 := hts (.fieldLink RX3 35 "WindlaneModel" "skill" "[I") (by decide +kernel)
  have lk49 := hts (.fieldLink RX3 49 "WindlaneModel" "people" "I") (by decide +kernel)
  subst hsz
  have hD := hD0.self (sz := s.heap.size)
  generalize hAe : va_A (rW cI cZ h a th n p F) s.heap.size = A at hD hH ⊢
  have hA : ∀ q : Nat, s.heap.size ≤ q → A q := fun q h => by rw [← hAe]; exact Or.inr h
  have hS : va_S A s.heap s.heap [] := va_S.rf
  have hP : va_P (dC, dI) vwCl (rW cI cZ h a th n p F) s.heap := hP
  have hn8 : n ≤ 8 := hI.1.1
  have hp8 : p ≤ 8 := hI.1.2
  have hl := lv_entry ([.ref h, .int sk]) (n := 2) (Nat.le_of_ble_eq_true rfl)
  rw [lg_entry_eq]
  generalize (lg_sl ([.ref h, .int sk]) ++ List.replicate (2 - (lg_sl ([.ref h, .int sk])).length) Slot.unset).toArray = ls at hl ⊢
  have hl : lv_has ls 2 [(0, .ref h), (1, .int sk)] := hl
  refine lv_aload_n hx hb dX3_borrower_0 rfl (lv_at hl 0 rfl) ?_
  refine lv_iload_n hx hb dX3_borrower_1 rfl (lv_at hl 1 rfl) ?_
  refine lv_iconst (v := 1) hx hb dX3_borrower_2 (by decide) ?_
  refine lv_iconst (v := 3) hx hb dX3_borrower_3 (by decide) ?_
  refine vp_callSi (va_Run.run (va_runS (As := [.int sk, .int 1, .int 3]) (rest := [.ref h]) ⟨hx, hb, hml, hown, hts⟩ (c_X3_isIn l9 sk 1 3) (va_cwS 3 hts gX3_borrower_X3_isIn rfl rfl rfl (by decide +kernel) ⟨Nat.le_of_ble_eq_true rfl, Nat.le_of_ble_eq_true rfl⟩) ⟨fun a U g mk q => q, fun U hU hW => ⟨rfl, trivial⟩⟩ rfl rfl hl.1 rfl (lv_room (Nat.le_of_ble_eq_true rfl)) dX3_borrower_4 ⟨Nat.le_of_ble_eq_true rfl, Nat.le_of_ble_eq_true rfl⟩)) (fun r hr => ?_)
  subst hr
  refine lv_if_ne (tgt := 14) hx hb dX3_borrower_7 (by decide) (fun c_7 => ?_) (fun c_7 => ?_)
  · skip
    have c_7 := bi_nz.mp c_7
    refine lv_aload_n hx hb dX3_borrower_14 rfl (lv_at hl 0 rfl) ?_
    refine va_get (D := (dC, dI)) (ci := 3) (v := .int (nI p)) (C := RX3) (T := TX3) (N := 16) hx hb hts hi3 hown hK hP 0 rfl rfl 10 (by decide) lk49 (fun _ h9 => h9) rfl dX3_borrower_15 ?_
    refine lv_bipush (v := 8) hx hb dX3_borrower_18 (by decide) ?_
    refine lv_icmp_ne (tgt := 27) hx hb dX3_borrower_20 (by decide) (fun c_20 => ?_) (fun c_20 => ?_)
    · skip
      have hc8 := hc_ne hp8 c_20
      refine lv_iconst (v := 0) hx hb dX3_borrower_27 (by decide) ?_
      refine va_calli (va_runV (As := [.int 0]) (rest := []) ⟨hx, hb, hml, hown, hts⟩ (c_X3_holds l9 dC dI s.heap.size h a th n p F 0) (cwV 1 hts gX3_borrower_X3_holds rfl rfl rfl (by decide +kernel) ⟨Nat.le_of_ble_eq_true rfl, Nat.le_of_ble_eq_true rfl⟩) ⟨PWr.blind, va_recv hK hP (ci := 3) (q0 := 0) rfl rfl, PWr.pre hP hK hD hE ((hH.kept hS.2.1).narrow (A_in hD hS hA))⟩ rfl rfl hl.1 rfl (lv_room (Nat.le_of_ble_eq_true rfl)) dX3_borrower_28 ⟨Nat.le_of_ble_eq_true rfl, Nat.le_of_ble_eq_true rfl⟩) hS (fun q _ hq => A_in hD hS hA q hq) (A_in hD hS hA) (fun r9 u9 t9 H locs ht9 hvm hw9 hB hz1 hk1 hS => ?_)
      have hP : va_P (dC, dI) vwCl (rW cI cZ h a 0 n p F) H := by rw [← ht9]; exact hB
      have hD : va_D A (rW cI cZ h a 0 n p F) := D_same hD rfl
      refine W_top (y := .int (bi (0 = 0))) (congrArg Value.int hw9) ?_
      refine W_top (y := .int 1) (congrArg Value.int (bi_t rfl)) ?_
      refine lv_if_ne (tgt := 36) hx hb dX3_borrower_31 (by decide) (fun _ => ?_) (fun c_31 => absurd c_31 (by decide))
      refine lv_aload_n hx hb dX3_borrower_36 rfl (lv_at hl 0 rfl) ?_
      refine va_get (D := (dC, dI)) (ci := 3) (v := .ref (a 8)) (C := RX3) (T := TX3) (N := 16) hx hb hts hi3 hown hK hP 0 rfl rfl 11 (by decide) lk35 (fun _ h9 => h9) rfl dX3_borrower_37 ?_
      refine lv_aload_n hx hb dX3_borrower_40 rfl (lv_at hl 0 rfl) ?_
      refine va_get (D := (dC, dI)) (ci := 3) (v := .int (nI p)) (C := RX3) (T := TX3) (N := 16) hx hb hts hi3 hown hK hP 0 rfl rfl 10 (by decide) lk49 (fun _ h9 => h9) rfl dX3_borrower_41 ?_
      refine lv_iload_n hx hb dX3_borrower_44 rfl (lv_at hl 1 rfl) ?_
      refine my_iast hx hb hK hP hD hS 9 0 rfl rfl hc8 (Nat.le_of_ble_eq_true rfl) dX3_borrower_45 (fun H locs hP hD hS => ?_)
      have hP : va_P (dC, dI) vwCl (rW cI cZ h a 0 n p (up F 8 p sk)) H := hP
      have hD : va_D A (rW cI cZ h a 0 n p (up F 8 p sk)) := hD
      refine lv_aload_n hx hb dX3_borrower_46 rfl (lv_at hl 0 rfl) ?_
      refine lv_dup hx hb dX3_borrower_47 rfl ?_
      refine va_get (D := (dC, dI)) (ci := 3) (v := .int (nI p)) (C := RX3) (T := TX3) (N := 16) hx hb hts hi3 hown hK hP 0 rfl rfl 10 (by decide) lk49 (fun _ h9 => h9) rfl dX3_borrower_48 ?_
      refine lv_iconst (v := 1) hx hb dX3_borrower_51 (by decide) ?_
      refine lv_iadd hx hb dX3_borrower_52 ?_
      refine W_top (y := .int (nI (p + 1))) (congrArg Value.int (nI_1 p)) ?_
      refine va_put (D := (dC, dI)) (ci := 3) (v := .int (nI (p + 1))) (ty := .int) (C := RX3) (T := TX3) (N := 16) hx hb hts hi3 tyX3 tyX3_ok nmX3 hown hK hP hD hS 0 rfl rfl 10 (by decide) lk49 (fun _ h9 => h9) rfl (by decide +kernel) rfl rfl (Nat.le_of_ble_eq_true rfl) dX3_borrower_53 (fun H locs hP hD hS => ?_)
      have hP : va_P (dC, dI) vwCl (rW cI cZ h a 0 n (p + 1) (up F 8 p sk)) H := hP
      have hD : va_D A (rW cI cZ h a 0 n (p + 1) (up F 8 p sk)) := hD
      refine lv_aload_n hx hb dX3_borrower_56 rfl (lv_at hl 0 rfl) ?_
      refine va_get (D := (dC, dI)) (ci := 3) (v := .int (nI (p + 1))) (C := RX3) (T := TX3) (N := 16) hx hb hts hi3 hown hK hP 0 rfl rfl 10 (by decide) lk49 (fun _ h9 => h9) rfl dX3_borrower_57 ?_
      refine lv_iconst (v := 1) hx hb dX3_borrower_60 (by decide) ?_
      refine lv_isub hx hb dX3_borrower_61 ?_
      refine W_top (y := .int (nI p)) (congrArg Value.int (nI_back p)) ?_
      have hS9 : S_borrower p F sk = (0, nI p, p + 1, up F 8 p sk) := by rw [S_borrower, if_pos c_7]; exact if_neg (by omega)
      exact W.iret (v := nI p) hx hb hr (fun t ht hW => ⟨⟨_, (), rfl, (by rw [hS9]), by show va_P _ _ _ t.heap; rw [hS9, ht]; exact hP⟩, hS.F ht⟩) hS.2.2 dX3_borrower_62
    · skip
      refine lv_iconst (v := 2) hx hb dX3_borrower_23 (by decide) ?_
      refine lv_goto (tgt := 28) hx hb dX3_borrower_24 (by decide) ?_
      refine va_calli (va_runV (As := [.int 2]) (rest := []) ⟨hx, hb, hml, hown, hts⟩ (c_X3_holds l9 dC dI s.heap.size h a th n p F 2) (cwV 1 hts gX3_borrower_X3_holds rfl rfl rfl (by decide +kernel) ⟨Nat.le_of_ble_eq_true rfl, Nat.le_of_ble_eq_true rfl⟩) ⟨PWr.blind, va_recv hK hP (ci := 3) (q0 := 0) rfl rfl, PWr.pre hP hK hD hE ((hH.kept hS.2.1).narrow (A_in hD hS hA))⟩ rfl rfl hl.1 rfl (lv_room (Nat.le_of_ble_eq_true rfl)) dX3_borrower_28 ⟨Nat.le_of_ble_eq_true rfl, Nat.le_of_ble_eq_true rfl⟩) hS (fun q _ hq => A_in hD hS hA q hq) (A_in hD hS hA) (fun r9 u9 t9 H locs ht9 hvm hw9 hB hz1 hk1 hS => ?_)
      have hP : va_P (dC, dI) vwCl (rW cI cZ h a 2 n p F) H := by rw [← ht9]; exact hB
      have hD : va_D A (rW cI cZ h a 2 n p F) := D_same hD rfl
      refine W_top (y := .int (bi (2 = 0))) (congrArg Value.int hw9) ?_
      refine W_top (y := .int 0) (congrArg Value.int (bi_f (by decide))) ?_
      refine lv_if_ne (tgt := 36) hx hb dX3_borrower_31 (by decide) (fun c_31 => absurd (by decide) c_31) (fun _ => ?_)
      refine lv_iconst (v := 0) hx hb dX3_borrower_34 (by decide) ?_
      have hS9 : S_borrower p F sk = (2, 0, p, F) := by rw [S_borrower, if_pos c_7]; exact if_pos (hc_eq hp8 c_20)
      exact W.iret (v := 0) hx hb hr (fun t ht hW => ⟨⟨_, (), rfl, (by rw [hS9]), by show va_P _ _ _ t.heap; rw [hS9, ht]; exact hP⟩, hS.F ht⟩) hS.2.2 dX3_borrower_35
  · skip
    have c_7 := bi_z.mp c_7
    refine lv_iconst (v := 1) hx hb dX3_borrower_10 (by decide) ?_
    refine lv_goto (tgt := 28) hx hb dX3_borrower_11 (by decide) ?_
    refine va_calli (va_runV (As := [.int 1]) (rest := []) ⟨hx, hb, hml, hown, hts⟩ (c_X3_holds l9 dC dI s.heap.size h a th n p F 1) (cwV 1 hts gX3_borrower_X3_holds rfl rfl rfl (by decide +kernel) ⟨Nat.le_of_ble_eq_true rfl, Nat.le_of_ble_eq_true rfl⟩) ⟨PWr.blind, va_recv hK hP (ci := 3) (q0 := 0) rfl rfl, PWr.pre hP hK hD hE ((hH.kept hS.2.1).narrow (A_in hD hS hA))⟩ rfl rfl hl.1 rfl (lv_room (Nat.le_of_ble_eq_true rfl)) dX3_borrower_28 ⟨Nat.le_of_ble_eq_true rfl, Nat.le_of_ble_eq_true rfl⟩) hS (fun q _ hq => A_in hD hS hA q hq) (A_in hD hS hA) (fun r9 u9 t9 H locs ht9 hvm hw9 hB hz1 hk1 hS => ?_)
    have hP : va_P (dC, dI) vwCl (rW cI cZ h a 1 n p F) H := by rw [← ht9]; exact hB
    have hD : va_D A (rW cI cZ h a 1 n p F) := D_same hD rfl
    refine W_top (y := .int (bi (1 = 0))) (congrArg Value.int hw9) ?_
    refine W_top (y := .int 0) (congrArg Value.int (bi_f (by decide))) ?_
    refine lv_if_ne (tgt := 36) hx hb dX3_borrower_31 (by decide) (fun c_31 => absurd (by decide) c_31) (fun _ => ?_)
    refine lv_iconst (v := 0) hx hb dX3_borrower_34 (by decide) ?_
    have hS9 : S_borrower p F sk = (1, 0, p, F) := by rw [S_borrower]; exact if_neg c_7
    exact W.iret (v := 0) hx hb hr (fun t ht hW => ⟨⟨_, (), rfl, (by rw [hS9]), by show va_P _ _ _ t.heap; rw [hS9, ht]; exact hP⟩, hS.F ht⟩) hS.2.2 dX3_borrower_35

set_option maxHeartbeats 4000000 in
set_option maxRecDepth 100000 in
theorem c_X3_lend (l9 : Launch) (dC : Nat → ClassId) (dI : Nat → Nat → Nat) (sz : Nat) {cI cZ : ClassId} (h : Nat) (a : Nat → Nat) (th : Int32) (n p : Nat) (F : Rows) (its b : Int32) (hI : Inv n p F) : Met l9 yX3_lend wsX3_lend ({ frames := 2, cells := 0, slots := 0, locals := 43 }) (va_Pc [.ref h, .int its, .int b] (PWr dC dI [(cI, .int), (cZ, .boolean)] (rW cI cZ h a th n p F) sz)) (va_Qv (fun _ : Unit => True) (fun _ t => va_P (dC, dI) vwCl (rW cI cZ h a ((S_lend n p F its b).1) n p ((S_lend n p F its b).2)) t.heap) (va_A (rW cI cZ h a th n p F) sz)) 0 0 (va_A (rW cI cZ h a th n p F) sz) := by
  refine Met.ofW (cc := cX3_lend) (maxL := 5) (ret := none) (by decide) rfl ?_
  intro p9 e9 s m args below meth c s₁ B hml hv
  obtain ⟨rfl, hsz, hP, hK, hD0, hE, hH⟩ := hv
  have hx := B.exec
  have hb := B.bytes
  have hr := B.returns
  have hts := atoms_spec (ws := wsX3_lend) B.pre
  have hown : s.vm.findClass RX3 = some m.cls := findClass_of_methodNamed B.named
  have hlocks := B.notSynchronized
  have hi3 : ∀ w ∈ u_ws RX3 TX3 16, w ∈ wsX3_lend := by decide +kernel
  have lk7 := hts (.fieldLink RX3 7 "WindlaneModel" "kind" "[I") (by decide +kernel)
  have lk19 := hts (.fieldLink RX3 19 "WindlaneModel" "isTorn" "[Z") (by decide +kernel)
  have lk23 := hts (.fieldLink RX3 23 "WindlaneModel" "wet" "[I") (by decide +kernel)
  have lk26 := hts (.fieldLink RX3 26 "WindlaneModel" "holder" "[I") (by decide +kernel)
  have lk35 := hts (.fieldLink RX3 35 "WindlaneModel" "skill" "[I") (by decide +kernel)
  subst hsz
  have hD := hD0.self (sz := s.heap.size)
  generalize hAe : va_A (rW cI cZ h a th n p F) s.heap.size = A at hD hH ⊢
  have hA : ∀ q : Nat, s.heap.size ≤ q → A q := fun q h => by rw [← hAe]; exact Or.inr h
  have hS : va_S A s.heap s.heap [] := va_S.rf
  have hP : va_P (dC, dI) vwCl (rW cI cZ h a th n p F) s.heap := hP
  have hn8 : n ≤ 8 := hI.1.1
  have hp8 : p ≤ 8 := hI.1.2
  have hl := lv_entry ([.ref h, .int its, .int b]) (n := 5) (Nat.le_of_ble_eq_true rfl)
  rw [lg_entry_eq]
  generalize (lg_sl ([.ref h, .int its, .int b]) ++ List.replicate (5 - (lg_sl ([.ref h, .int its, .int b])).length) Slot.unset).toArray = ls at hl ⊢
  have hl : lv_has ls 5 [(0, .ref h), (1, .int its), (2, .int b)] := hl
  rcases inR_cases n its with ⟨k, hkn, rfl⟩ | hno
  · skip
    have hixk : ix n (nI k) = some k := ix_t hkn (by omega)
    rcases inR_cases p b with ⟨j, hjn, rfl⟩ | hno2
    · skip
      have hixj : ix p (nI j) = some j := ix_t hjn (by omega)
      refine lv_aload_n hx hb dX3_lend_0 rfl (lv_at hl 0 rfl) ?_
      refine lv_iload_n hx hb dX3_lend_1 rfl (lv_at hl 1 rfl) ?_
      refine vp_callSi (va_Run.run (va_runV (As := [.int (nI k)]) (rest := []) ⟨hx, hb, hml, hown, hts⟩ (c_X3_isKite l9 dC dI h a th n p F (nI k) hn8) (cwV 1 hts gX3_lend_X3_isKite rfl rfl rfl (by decide +kernel) ⟨Nat.le_of_ble_eq_true rfl, Nat.le_of_ble_eq_true rfl⟩) ⟨PRo.blind, va_recv hK hP (ci := 3) (q0 := 0) rfl rfl, PRo.pre hP hK hE⟩ rfl rfl hl.1 rfl (lv_room (Nat.le_of_ble_eq_true rfl)) dX3_lend_2 ⟨Nat.le_of_ble_eq_true rfl, Nat.le_of_ble_eq_true rfl⟩)) (fun r hr => ?_)
      subst hr
      refine lv_if_eq (tgt := 20) hx hb dX3_lend_5 (by decide) (fun c_5 => absurd c_5 (bi_nz.mpr (inR_nI hkn (by omega)))) (fun _ => ?_)
      refine lv_aload_n hx hb dX3_lend_8 rfl (lv_at hl 0 rfl) ?_
      refine lv_iload_n hx hb dX3_lend_9 rfl (lv_at hl 2 rfl) ?_
      refine vp_callSi (va_Run.run (va_runV (As := [.int (nI j)]) (rest := []) ⟨hx, hb, hml, hown, hts⟩ (c_X3_isPerson l9 dC dI h a th n p F (nI j) hp8) (cwV 1 hts gX3_lend_X3_isPerson rfl rfl rfl (by decide +kernel) ⟨Nat.le_of_ble_eq_true rfl, Nat.le_of_ble_eq_true rfl⟩) ⟨PRo.blind, va_recv hK hP (ci := 3) (q0 := 0) rfl rfl, PRo.pre hP hK hE⟩ rfl rfl hl.1 rfl (lv_room (Nat.le_of_ble_eq_true rfl)) dX3_lend_10 ⟨Nat.le_of_ble_eq_true rfl, Nat.le_of_ble_eq_true rfl⟩)) (fun r hr => ?_)
      subst hr
      refine lv_if_eq (tgt := 20) hx hb dX3_lend_13 (by decide) (fun c_13 => absurd c_13 (bi_nz.mpr (inR_nI hjn (by omega)))) (fun _ => ?_)
      refine lv_iconst (v := 1) hx hb dX3_lend_16 (by decide) ?_
      refine lv_goto (tgt := 21) hx hb dX3_lend_17 (by decide) ?_
      refine lv_istore_n (lv' := [(3, .int 1), (0, .ref h), (1, .int (nI k)), (2, .int (nI j))]) hx hb dX3_lend_21 rfl hl (by decide) rfl (fun ls hl => ?_)
      refine lv_iload_n hx hb dX3_lend_22 rfl (lv_at hl 0 rfl) ?_
      refine lv_if_eq (tgt := 82) hx hb dX3_lend_23 (by decide) (fun c_23 => absurd c_23 (by decide)) (fun _ => ?_)
      refine lv_aload_n hx hb dX3_lend_26 rfl (lv_at hl 1 rfl) ?_
      refine va_get (D := (dC, dI)) (ci := 3) (v := .ref (a 5)) (C := RX3) (T := TX3) (N := 16) hx hb hts hi3 hown hK hP 0 rfl rfl 7 (by decide) lk26 (fun _ h9 => h9) rfl dX3_lend_27 ?_
      refine lv_iload_n hx hb dX3_lend_30 rfl (lv_at hl 2 rfl) ?_
      refine my_iald hx hb hK hP 6 0 rfl rfl (Nat.lt_of_lt_of_le hkn hn8) (Nat.le_of_ble_eq_true rfl) dX3_lend_31 ?_
      refine W_top (y := .int (F 5 k)) (rfl) ?_
      refine lv_iconst (v := (-1)) hx hb dX3_lend_32 (by decide) ?_
      refine lv_icmp_ne (tgt := 82) hx hb dX3_lend_33 (by decide) (fun c_33 => ?_) (fun c_33 => ?_)
      · skip
        refine lv_iconst (v := 0) hx hb dX3_lend_82 (by decide) ?_
        refine lv_istore (lv' := [(4, .int 0), (3, .int 1), (0, .ref h), (1, .int (nI k)), (2, .int (nI j))]) hx hb dX3_lend_83 hl (by decide) rfl (fun ls hl => ?_)
        refine lv_aload_n hx hb dX3_lend_85 rfl (lv_at hl 2 rfl) ?_
        refine lv_iload_n hx hb dX3_lend_86 rfl (lv_at hl 1 rfl) ?_
        refine lv_if_ne (tgt := 94) hx hb dX3_lend_87 (by decide) (fun _ => ?_) (fun c_87 => absurd c_87 (by decide))
        refine lv_iload hx hb dX3_lend_94 (lv_at hl 0 rfl) ?_
        refine lv_if_eq (tgt := 103) hx hb dX3_lend_96 (by decide) (fun _ => ?_) (fun c_96 => absurd (by decide) c_96)
        refine lv_iconst (v := 2) hx hb dX3_lend_103 (by decide) ?_
        refine va_calli (va_runV (As := [.int 2]) (rest := []) ⟨hx, hb, hml, hown, hts⟩ (c_X3_holds l9 dC dI s.heap.size h a th n p F 2) (cwV 1 hts gX3_lend_X3_holds rfl rfl rfl (by decide +kernel) ⟨Nat.le_of_ble_eq_true rfl, Nat.le_of_ble_eq_true rfl⟩) ⟨PWr.blind, va_recv hK hP (ci := 3) (q0 := 0) rfl rfl, PWr.pre hP hK hD hE ((hH.kept hS.2.1).narrow (A_in hD hS hA))⟩ rfl rfl hl.1 rfl (lv_room (Nat.le_of_ble_eq_true rfl)) dX3_lend_104 ⟨Nat.le_of_ble_eq_true rfl, Nat.le_of_ble_eq_true rfl⟩) hS (fun q _ hq => A_in hD hS hA q hq) (A_in hD hS hA) (fun r9 u9 t9 H locs ht9 hvm hw9 hB hz1 hk1 hS => ?_)
        have hP : va_P (dC, dI) vwCl (rW cI cZ h a 2 n p F) H := by rw [← ht9]; exact hB
        have hD : va_D A (rW cI cZ h a 2 n p F) := D_same hD rfl
        refine W_top (y := .int (bi (2 = 0))) (congrArg Value.int hw9) ?_
        refine W_top (y := .int 0) (congrArg Value.int (bi_f (by decide))) ?_
        refine lv_if_eq (tgt := 117) hx hb dX3_lend_107 (by decide) (fun _ => ?_) (fun c_107 => absurd (by decide) c_107)
        have hS9 : S_lend n p F (nI k) (nI j) = (2, F) := by rw [S_lend, hixk]; show (match ix p (nI j) with | none => _ | some j => _) = _; rw [hixj]; exact if_neg (fun q => c_33 q.1)
        exact W.vret hx hb hr (fun t ht hW => ⟨⟨(), rfl, trivial, by show va_P _ _ _ t.heap; rw [hS9, ht]; exact hP⟩, hS.F ht⟩) hS.2.2 dX3_lend_117
      · skip
        refine lv_aload_n hx hb dX3_lend_36 rfl (lv_at hl 1 rfl) ?_
        refine va_get (D := (dC, dI)) (ci := 3) (v := .ref (a 3)) (C := RX3) (T := TX3) (N := 16) hx hb hts hi3 hown hK hP 0 rfl rfl 5 (by decide) lk19 (fun _ h9 => h9) rfl dX3_lend_37 ?_
        refine lv_iload_n hx hb dX3_lend_40 rfl (lv_at hl 2 rfl) ?_
        refine my_zald hx hb hK hP 4 1 rfl rfl (Nat.lt_of_lt_of_le hkn hn8) (Nat.le_of_ble_eq_true rfl) dX3_lend_41 ?_
        refine W_top (y := .int (F 3 k)) (rfl) ?_
        refine lv_if_ne (tgt := 82) hx hb dX3_lend_42 (by decide) (fun c_42 => ?_) (fun c_42 => ?_)
        · skip
          refine lv_iconst (v := 0) hx hb dX3_lend_82 (by decide) ?_
          refine lv_istore (lv' := [(4, .int 0), (3, .int 1), (0, .ref h), (1, .int (nI k)), (2, .int (nI j))]) hx hb dX3_lend_83 hl (by decide) rfl (fun ls hl => ?_)
          refine lv_aload_n hx hb dX3_lend_85 rfl (lv_at hl 2 rfl) ?_
          refine lv_iload_n hx hb dX3_lend_86 rfl (lv_at hl 1 rfl) ?_
          refine lv_if_ne (tgt := 94) hx hb dX3_lend_87 (by decide) (fun _ => ?_) (fun c_87 => absurd c_87 (by decide))
          refine lv_iload hx hb dX3_lend_94 (lv_at hl 0 rfl) ?_
          refine lv_if_eq (tgt := 103) hx hb dX3_lend_96 (by decide) (fun _ => ?_) (fun c_96 => absurd (by decide) c_96)
          refine lv_iconst (v := 2) hx hb dX3_lend_103 (by decide) ?_
          refine va_calli (va_runV (As := [.int 2]) (rest := []) ⟨hx, hb, hml, hown, hts⟩ (c_X3_holds l9 dC dI s.heap.size h a th n p F 2) (cwV 1 hts gX3_lend_X3_holds rfl rfl rfl (by decide +kernel) ⟨Nat.le_of_ble_eq_true rfl, Nat.le_of_ble_eq_true rfl⟩) ⟨PWr.blind, va_recv hK hP (ci := 3) (q0 := 0) rfl rfl, PWr.pre hP hK hD hE ((hH.kept hS.2.1).narrow (A_in hD hS hA))⟩ rfl rfl hl.1 rfl (lv_room (Nat.le_of_ble_eq_true rfl)) dX3_lend_104 ⟨Nat.le_of_ble_eq_true rfl, Nat.le_of_ble_eq_true rfl⟩) hS (fun q _ hq => A_in hD hS hA q hq) (A_in hD hS hA) (fun r9 u9 t9 H locs ht9 hvm hw9 hB hz1 hk1 hS => ?_)
          have hP : va_P (dC, dI) vwCl (rW cI cZ h a 2 n p F) H := by rw [← ht9]; exact hB
          have hD : va_D A (rW cI cZ h a 2 n p F) := D_same hD rfl
          refine W_top (y := .int (bi (2 = 0))) (congrArg Value.int hw9) ?_
          refine W_top (y := .int 0) (congrArg Value.int (bi_f (by decide))) ?_
          refine lv_if_eq (tgt := 117) hx hb dX3_lend_107 (by decide) (fun _ => ?_) (fun c_107 => absurd (by decide) c_107)
          have hS9 : S_lend n p F (nI k) (nI j) = (2, F) := by rw [S_lend, hixk]; show (match ix p (nI j) with | none => _ | some j => _) = _; rw [hixj]; exact if_neg (fun q => c_42 q.2.1)
          exact W.vret hx hb hr (fun t ht hW => ⟨⟨(), rfl, trivial, by show va_P _ _ _ t.heap; rw [hS9, ht]; exact hP⟩, hS.F ht⟩) hS.2.2 dX3_lend_117
        · skip
          refine lv_aload_n hx hb dX3_lend_45 rfl (lv_at hl 1 rfl) ?_
          refine va_get (D := (dC, dI)) (ci := 3) (v := .ref (a 4)) (C := RX3) (T := TX3) (N := 16) hx hb hts hi3 hown hK hP 0 rfl rfl 6 (by decide) lk23 (fun _ h9 => h9) rfl dX3_lend_46 ?_
          refine lv_iload_n hx hb dX3_lend_49 rfl (lv_at hl 2 rfl) ?_
          refine my_iald hx hb hK hP 5 0 rfl rfl (Nat.lt_of_lt_of_le hkn hn8) (Nat.le_of_ble_eq_true rfl) dX3_lend_50 ?_
          refine W_top (y := .int (F 4 k)) (rfl) ?_
          refine lv_if_ne (tgt := 82) hx hb dX3_lend_51 (by decide) (fun c_51 => ?_) (fun c_51 => ?_)
          · skip
            refine lv_iconst (v := 0) hx hb dX3_lend_82 (by decide) ?_
            refine lv_istore (lv' := [(4, .int 0), (3, .int 1), (0, .ref h), (1, .int (nI k)), (2, .int (nI j))]) hx hb dX3_lend_83 hl (by decide) rfl (fun ls hl => ?_)
            refine lv_aload_n hx hb dX3_lend_85 rfl (lv_at hl 2 rfl) ?_
            refine lv_iload_n hx hb dX3_lend_86 rfl (lv_at hl 1 rfl) ?_
            refine lv_if_ne (tgt := 94) hx hb dX3_lend_87 (by decide) (fun _ => ?_) (fun c_87 => absurd c_87 (by decide))
            refine lv_iload hx hb dX3_lend_94 (lv_at hl 0 rfl) ?_
            refine lv_if_eq (tgt := 103) hx hb dX3_lend_96 (by decide) (fun _ => ?_) (fun c_96 => absurd (by decide) c_96)
            refine lv_iconst (v := 2) hx hb dX3_lend_103 (by decide) ?_
            refine va_calli (va_runV (As := [.int 2]) (rest := []) ⟨hx, hb, hml, hown, hts⟩ (c_X3_holds l9 dC dI s.heap.size h a th n p F 2) (cwV 1 hts gX3_lend_X3_holds rfl rfl rfl (by decide +kernel) ⟨Nat.le_of_ble_eq_true rfl, Nat.le_of_ble_eq_true rfl⟩) ⟨PWr.blind, va_recv hK hP (ci := 3) (q0 := 0) rfl rfl, PWr.pre hP hK hD hE ((hH.kept hS.2.1).narrow (A_in hD hS hA))⟩ rfl rfl hl.1 rfl (lv_room (Nat.le_of_ble_eq_true rfl)) dX3_lend_104 ⟨Nat.le_of_ble_eq_true rfl, Nat.le_of_ble_eq_true rfl⟩) hS (fun q _ hq => A_in hD hS hA q hq) (A_in hD hS hA) (fun r9 u9 t9 H locs ht9 hvm hw9 hB hz1 hk1 hS => ?_)
            have hP : va_P (dC, dI) vwCl (rW cI cZ h a 2 n p F) H := by rw [← ht9]; exact hB
            have hD : va_D A (rW cI cZ h a 2 n p F) := D_same hD rfl
            refine W_top (y := .int (bi (2 = 0))) (congrArg Value.int hw9) ?_
            refine W_top (y := .int 0) (congrArg Value.int (bi_f (by decide))) ?_
            refine lv_if_eq (tgt := 117) hx hb dX3_lend_107 (by decide) (fun _ => ?_) (fun c_107 => absurd (by decide) c_107)
            have hS9 : S_lend n p F (nI k) (nI j) = (2, F) := by rw [S_lend, hixk]; show (match ix p (nI j) with | none => _ | some j => _) = _; rw [hixj]; exact if_neg (fun q => c_51 q.2.2.1)
            exact W.vret hx hb hr (fun t ht hW => ⟨⟨(), rfl, trivial, by show va_P _ _ _ t.heap; rw [hS9, ht]; exact hP⟩, hS.F ht⟩) hS.2.2 dX3_lend_117
          · skip
            refine lv_aload_n hx hb dX3_lend_54 rfl (lv_at hl 1 rfl) ?_
            refine lv_iload_n hx hb dX3_lend_55 rfl (lv_at hl 3 rfl) ?_
            refine vp_callSi (va_Run.run (va_runV (As := [.int (nI j)]) (rest := []) ⟨hx, hb, hml, hown, hts⟩ (c_X3_heldBy l9 dC dI h a th n p F (nI j) hn8) (cwV 1 hts gX3_lend_X3_heldBy rfl rfl rfl (by decide +kernel) ⟨Nat.le_of_ble_eq_true rfl, Nat.le_of_ble_eq_true rfl⟩) ⟨PRo.blind, va_recv hK hP (ci := 3) (q0 := 0) rfl rfl, PRo.pre hP hK hE⟩ rfl rfl hl.1 rfl (lv_room (Nat.le_of_ble_eq_true rfl)) dX3_lend_56 ⟨Nat.le_of_ble_eq_true rfl, Nat.le_of_ble_eq_true rfl⟩)) (fun r hr => ?_)
            subst hr
            refine lv_iconst (v := (-1)) hx hb dX3_lend_59 (by decide) ?_
            refine lv_icmp_ne (tgt := 82) hx hb dX3_lend_60 (by decide) (fun c_60 => ?_) (fun c_60 => ?_)
            · skip
              refine lv_iconst (v := 0) hx hb dX3_lend_82 (by decide) ?_
              refine lv_istore (lv' := [(4, .int 0), (3, .int 1), (0, .ref h), (1, .int (nI k)), (2, .int (nI j))]) hx hb dX3_lend_83 hl (by decide) rfl (fun ls hl => ?_)
              refine lv_aload_n hx hb dX3_lend_85 rfl (lv_at hl 2 rfl) ?_
              refine lv_iload_n hx hb dX3_lend_86 rfl (lv_at hl 1 rfl) ?_
              refine lv_if_ne (tgt := 94) hx hb dX3_lend_87 (by decide) (fun _ => ?_) (fun c_87 => absurd c_87 (by decide))
              refine lv_iload hx hb dX3_lend_94 (lv_at hl 0 rfl) ?_
              refine lv_if_eq (tgt := 103) hx hb dX3_lend_96 (by decide) (fun _ => ?_) (fun c_96 => absurd (by decide) c_96)
              refine lv_iconst (v := 2) hx hb dX3_lend_103 (by decide) ?_
              refine va_calli (va_runV (As := [.int 2]) (rest := []) ⟨hx, hb, hml, hown, hts⟩ (c_X3_holds l9 dC dI s.heap.size h a th n p F 2) (cwV 1 hts gX3_lend_X3_holds rfl rfl rfl (by decide +kernel) ⟨Nat.le_of_ble_eq_true rfl, Nat.le_of_ble_eq_true rfl⟩) ⟨PWr.blind, va_recv hK hP (ci := 3) (q0 := 0) rfl rfl, PWr.pre hP hK hD hE ((hH.kept hS.2.1).narrow (A_in hD hS hA))⟩ rfl rfl hl.1 rfl (lv_room (Nat.le_of_ble_eq_true rfl)) dX3_lend_104 ⟨Nat.le_of_ble_eq_true rfl, Nat.le_of_ble_eq_true rfl⟩) hS (fun q _ hq => A_in hD hS hA q hq) (A_in hD hS hA) (fun r9 u9 t9 H locs ht9 hvm hw9 hB hz1 hk1 hS => ?_)
              have hP : va_P (dC, dI) vwCl (rW cI cZ h a 2 n p F) H := by rw [← ht9]; exact hB
              have hD : va_D A (rW cI cZ h a 2 n p F) := D_same hD rfl
              refine W_top (y := .int (bi (2 = 0))) (congrArg Value.int hw9) ?_
              refine W_top (y := .int 0) (congrArg Value.int (bi_f (by decide))) ?_
              refine lv_if_eq (tgt := 117) hx hb dX3_lend_107 (by decide) (fun _ => ?_) (fun c_107 => absurd (by decide) c_107)
              have hS9 : S_lend n p F (nI k) (nI j) = (2, F) := by rw [S_lend, hixk]; show (match ix p (nI j) with | none => _ | some j => _) = _; rw [hixj]; exact if_neg (fun q => c_60 ((lk_oI hn8).mpr q.2.2.2.1))
              exact W.vret hx hb hr (fun t ht hW => ⟨⟨(), rfl, trivial, by show va_P _ _ _ t.heap; rw [hS9, ht]; exact hP⟩, hS.F ht⟩) hS.2.2 dX3_lend_117
            · skip
              refine lv_aload_n hx hb dX3_lend_63 rfl (lv_at hl 1 rfl) ?_
              refine va_get (D := (dC, dI)) (ci := 3) (v := .ref (a 8)) (C := RX3) (T := TX3) (N := 16) hx hb hts hi3 hown hK hP 0 rfl rfl 11 (by decide) lk35 (fun _ h9 => h9) rfl dX3_lend_64 ?_
              refine lv_iload_n hx hb dX3_lend_67 rfl (lv_at hl 3 rfl) ?_
              refine my_iald hx hb hK hP 9 0 rfl rfl (Nat.lt_of_lt_of_le hjn hp8) (Nat.le_of_ble_eq_true rfl) dX3_lend_68 ?_
              refine W_top (y := .int (F 8 j)) (rfl) ?_
              refine lv_aload_n hx hb dX3_lend_69 rfl (lv_at hl 1 rfl) ?_
              refine va_get (D := (dC, dI)) (ci := 3) (v := .ref (a 0)) (C := RX3) (T := TX3) (N := 16) hx hb hts hi3 hown hK hP 0 rfl rfl 2 (by decide) lk7 (fun _ h9 => h9) rfl dX3_lend_70 ?_
              refine lv_iload_n hx hb dX3_lend_73 rfl (lv_at hl 2 rfl) ?_
              refine my_iald hx hb hK hP 1 0 rfl rfl (Nat.lt_of_lt_of_le hkn hn8) (Nat.le_of_ble_eq_true rfl) dX3_lend_74 ?_
              refine W_top (y := .int (F 0 k)) (rfl) ?_
              refine lv_icmp_le (tgt := 82) hx hb dX3_lend_75 (by decide) (fun c_75 => ?_) (fun c_75 => ?_)
              · skip
                refine lv_iconst (v := 0) hx hb dX3_lend_82 (by decide) ?_
                refine lv_istore (lv' := [(4, .int 0), (3, .int 1), (0, .ref h), (1, .int (nI k)), (2, .int (nI j))]) hx hb dX3_lend_83 hl (by decide) rfl (fun ls hl => ?_)
                refine lv_aload_n hx hb dX3_lend_85 rfl (lv_at hl 2 rfl) ?_
                refine lv_iload_n hx hb dX3_lend_86 rfl (lv_at hl 1 rfl) ?_
                refine lv_if_ne (tgt := 94) hx hb dX3_lend_87 (by decide) (fun _ => ?_) (fun c_87 => absurd c_87 (by decide))
                refine lv_iload hx hb dX3_lend_94 (lv_at hl 0 rfl) ?_
                refine lv_if_eq (tgt := 103) hx hb dX3_lend_96 (by decide) (fun _ => ?_) (fun c_96 => absurd (by decide) c_96)
                refine lv_iconst (v := 2) hx hb dX3_lend_103 (by decide) ?_
                refine va_calli (va_runV (As := [.int 2]) (rest := []) ⟨hx, hb, hml, hown, hts⟩ (c_X3_holds l9 dC dI s.heap.size h a th n p F 2) (cwV 1 hts gX3_lend_X3_holds rfl rfl rfl (by decide +kernel) ⟨Nat.le_of_ble_eq_true rfl, Nat.le_of_ble_eq_true rfl⟩) ⟨PWr.blind, va_recv hK hP (ci := 3) (q0 := 0) rfl rfl, PWr.pre hP hK hD hE ((hH.kept hS.2.1).narrow (A_in hD hS hA))⟩ rfl rfl hl.1 rfl (lv_room (Nat.le_of_ble_eq_true rfl)) dX3_lend_104 ⟨Nat.le_of_ble_eq_true rfl, Nat.le_of_ble_eq_true rfl⟩) hS (fun q _ hq => A_in hD hS hA q hq) (A_in hD hS hA) (fun r9 u9 t9 H locs ht9 hvm hw9 hB hz1 hk1 hS => ?_)
                have hP : va_P (dC, dI) vwCl (rW cI cZ h a 2 n p F) H := by rw [← ht9]; exact hB
                have hD : va_D A (rW cI cZ h a 2 n p F) := D_same hD rfl
                refine W_top (y := .int (bi (2 = 0))) (congrArg Value.int hw9) ?_
                refine W_top (y := .int 0) (congrArg Value.int (bi_f (by decide))) ?_
                refine lv_if_eq (tgt := 117) hx hb dX3_lend_107 (by decide) (fun _ => ?_) (fun c_107 => absurd (by decide) c_107)
                have hS9 : S_lend n p F (nI k) (nI j) = (2, F) := by rw [S_lend, hixk]; show (match ix p (nI j) with | none => _ | some j => _) = _; rw [hixj]; exact if_neg (fun q => by have := q.2.2.2.2; rw [i32_lt] at this; rw [i32_le] at c_75; omega)
                exact W.vret hx hb hr (fun t ht hW => ⟨⟨(), rfl, trivial, by show va_P _ _ _ t.heap; rw [hS9, ht]; exact hP⟩, hS.F ht⟩) hS.2.2 dX3_lend_117
              · skip
                refine lv_iconst (v := 1) hx hb dX3_lend_78 (by decide) ?_
                refine lv_goto (tgt := 83) hx hb dX3_lend_79 (by decide) ?_
                refine lv_istore (lv' := [(4, .int 1), (3, .int 1), (0, .ref h), (1, .int (nI k)), (2, .int (nI j))]) hx hb dX3_lend_83 hl (by decide) rfl (fun ls hl => ?_)
                refine lv_aload_n hx hb dX3_lend_85 rfl (lv_at hl 2 rfl) ?_
                refine lv_iload_n hx hb dX3_lend_86 rfl (lv_at hl 1 rfl) ?_
                refine lv_if_ne (tgt := 94) hx hb dX3_lend_87 (by decide) (fun _ => ?_) (fun c_87 => absurd c_87 (by decide))
                refine lv_iload hx hb dX3_lend_94 (lv_at hl 0 rfl) ?_
                refine lv_if_eq (tgt := 103) hx hb dX3_lend_96 (by decide) (fun c_96 => absurd c_96 (by decide)) (fun _ => ?_)
                refine lv_iconst (v := 0) hx hb dX3_lend_99 (by decide) ?_
                refine lv_goto (tgt := 104) hx hb dX3_lend_100 (by decide) ?_
                refine va_calli (va_runV (As := [.int 0]) (rest := []) ⟨hx, hb, hml, hown, hts⟩ (c_X3_holds l9 dC dI s.heap.size h a th n p F 0) (cwV 1 hts gX3_lend_X3_holds rfl rfl rfl (by decide +kernel) ⟨Nat.le_of_ble_eq_true rfl, Nat.le_of_ble_eq_true rfl⟩) ⟨PWr.blind, va_recv hK hP (ci := 3) (q0 := 0) rfl rfl, PWr.pre hP hK hD hE ((hH.kept hS.2.1).narrow (A_in hD hS hA))⟩ rfl rfl hl.1 rfl (lv_room (Nat.le_of_ble_eq_true rfl)) dX3_lend_104 ⟨Nat.le_of_ble_eq_true rfl, Nat.le_of_ble_eq_true rfl⟩) hS (fun q _ hq => A_in hD hS hA q hq) (A_in hD hS hA) (fun r9 u9 t9 H locs ht9 hvm hw9 hB hz1 hk1 hS => ?_)
                have hP : va_P (dC, dI) vwCl (rW cI cZ h a 0 n p F) H := by rw [← ht9]; exact hB
                have hD : va_D A (rW cI cZ h a 0 n p F) := D_same hD rfl
                refine W_top (y := .int (bi (0 = 0))) (congrArg Value.int hw9) ?_
                refine W_top (y := .int 1) (congrArg Value.int (bi_t rfl)) ?_
                refine lv_if_eq (tgt := 117) hx hb dX3_lend_107 (by decide) (fun c_107 => absurd c_107 (by decide)) (fun _ => ?_)
                refine lv_aload_n hx hb dX3_lend_110 rfl (lv_at hl 2 rfl) ?_
                refine va_get (D := (dC, dI)) (ci := 3) (v := .ref (a 5)) (C := RX3) (T := TX3) (N := 16) hx hb hts hi3 hown hK hP 0 rfl rfl 7 (by decide) lk26 (fun _ h9 => h9) rfl dX3_lend_111 ?_
                refine lv_iload_n hx hb dX3_lend_114 rfl (lv_at hl 3 rfl) ?_
                refine lv_iload_n hx hb dX3_lend_115 rfl (lv_at hl 4 rfl) ?_
                refine my_iast hx hb hK hP hD hS 6 0 rfl rfl (Nat.lt_of_lt_of_le hkn hn8) (Nat.le_of_ble_eq_true rfl) dX3_lend_116 (fun H locs hP hD hS => ?_)
                have hP : va_P (dC, dI) vwCl (rW cI cZ h a 0 n p (up F 5 k (nI j))) H := hP
                have hD : va_D A (rW cI cZ h a 0 n p (up F 5 k (nI j))) := hD
                have hS9 : S_lend n p F (nI k) (nI j) = (0, up F 5 k (nI j)) := by rw [S_lend, hixk]; show (match ix p (nI j) with | none => _ | some j => _) = _; rw [hixj]; exact if_pos ⟨c_33, c_42, c_51, (lk_oI hn8).mp c_60, by rw [i32_lt]; rw [i32_le] at c_75; omega⟩
                exact W.vret hx hb hr (fun t ht hW => ⟨⟨(), rfl, trivial, by show va_P _ _ _ t.heap; rw [hS9, ht]; exact hP⟩, hS.F ht⟩) hS.2.2 dX3_lend_117
    · skip
      refine lv_aload_n hx hb dX3_lend_0 rfl (lv_at hl 0 rfl) ?_
      refine lv_iload_n hx hb dX3_lend_1 rfl (lv_at hl 1 rfl) ?_
      refine vp_callSi (va_Run.run (va_runV (As := [.int (nI k)]) (rest := []) ⟨hx, hb, hml, hown, hts⟩ (c_X3_isKite l9 dC dI h a th n p F (nI k) hn8) (cwV 1 hts gX3_lend_X3_isKite rfl rfl rfl (by decide +kernel) ⟨Nat.le_of_ble_eq_true rfl, Nat.le_of_ble_eq_true rfl⟩) ⟨PRo.blind, va_recv hK hP (ci := 3) (q0 := 0) rfl rfl, PRo.pre hP hK hE⟩ rfl rfl hl.1 rfl (lv_room (Nat.le_of_ble_eq_true rfl)) dX3_lend_2 ⟨Nat.le_of_ble_eq_true rfl, Nat.le_of_ble_eq_true rfl⟩)) (fun r hr => ?_)
      subst hr
      refine lv_if_eq (tgt := 20) hx hb dX3_lend_5 (by decide) (fun c_5 => absurd c_5 (bi_nz.mpr (inR_nI hkn (by omega)))) (fun _ => ?_)
      refine lv_aload_n hx hb dX3_lend_8 rfl (lv_at hl 0 rfl) ?_
      refine lv_iload_n hx hb dX3_lend_9 rfl (lv_at hl 2 rfl) ?_
      refine vp_callSi (va_Run.run (va_runV (As := [.int b]) (rest := []) ⟨hx, hb, hml, hown, hts⟩ (c_X3_isPerson l9 dC dI h a th n p F b hp8) (cwV 1 hts gX3_lend_X3_isPerson rfl rfl rfl (by decide +kernel) ⟨Nat.le_of_ble_eq_true rfl, Nat.le_of_ble_eq_true rfl⟩) ⟨PRo.blind, va_recv hK hP (ci := 3) (q0 := 0) rfl rfl, PRo.pre hP hK hE⟩ rfl rfl hl.1 rfl (lv_room (Nat.le_of_ble_eq_true rfl)) dX3_lend_10 ⟨Nat.le_of_ble_eq_true rfl, Nat.le_of_ble_eq_true rfl⟩)) (fun r hr => ?_)
      subst hr
      refine lv_if_eq (tgt := 20) hx hb dX3_lend_13 (by decide) (fun _ => ?_) (fun c_13 => absurd (bi_f hno2) c_13)
      refine lv_iconst (v := 0) hx hb dX3_lend_20 (by decide) ?_
      refine lv_istore_n (lv' := [(3, .int 0), (0, .ref h), (1, .int (nI k)), (2, .int b)]) hx hb dX3_lend_21 rfl hl (by decide) rfl (fun ls hl => ?_)
      refine lv_iload_n hx hb dX3_lend_22 rfl (lv_at hl 0 rfl) ?_
      refine lv_if_eq (tgt := 82) hx hb dX3_lend_23 (by decide) (fun _ => ?_) (fun c_23 => absurd (by decide) c_23)
      refine lv_iconst (v := 0) hx hb dX3_lend_82 (by decide) ?_
      refine lv_istore (lv' := [(4, .int 0), (3, .int 0), (0, .ref h), (1, .int (nI k)), (2, .int b)]) hx hb dX3_lend_83 hl (by decide) rfl (fun ls hl => ?_)
      refine lv_aload_n hx hb dX3_lend_85 rfl (lv_at hl 2 rfl) ?_
      refine lv_iload_n hx hb dX3_lend_86 rfl (lv_at hl 1 rfl) ?_
      refine lv_if_ne (tgt := 94) hx hb dX3_lend_87 (by decide) (fun c_87 => absurd (by decide) c_87) (fun _ => ?_)
      refine lv_iconst (v := 1) hx hb dX3_lend_90 (by decide) ?_
      refine lv_goto (tgt := 104) hx hb dX3_lend_91 (by decide) ?_
      refine va_calli (va_runV (As := [.int 1]) (rest := []) ⟨hx, hb, hml, hown, hts⟩ (c_X3_holds l9 dC dI s.heap.size h a th n p F 1) (cwV 1 hts gX3_lend_X3_holds rfl rfl rfl (by decide +kernel) ⟨Nat.le_of_ble_eq_true rfl, Nat.le_of_ble_eq_true rfl⟩) ⟨PWr.blind, va_recv hK hP (ci := 3) (q0 := 0) rfl rfl, PWr.pre hP hK hD hE ((hH.kept hS.2.1).narrow (A_in hD hS hA))⟩ rfl rfl hl.1 rfl (lv_room (Nat.le_of_ble_eq_true rfl)) dX3_lend_104 ⟨Nat.le_of_ble_eq_true rfl, Nat.le_of_ble_eq_true rfl⟩) hS (fun q _ hq => A_in hD hS hA q hq) (A_in hD hS hA) (fun r9 u9 t9 H locs ht9 hvm hw9 hB hz1 hk1 hS => ?_)
      have hP : va_P (dC, dI) vwCl (rW cI cZ h a 1 n p F) H := by rw [← ht9]; exact hB
      have hD : va_D A (rW cI cZ h a 1 n p F) := D_same hD rfl
      refine W_top (y := .int (bi (1 = 0))) (congrArg Value.int hw9) ?_
      refine W_top (y := .int 0) (congrArg Value.int (bi_f (by decide))) ?_
      refine lv_if_eq (tgt := 117) hx hb dX3_lend_107 (by decide) (fun _ => ?_) (fun c_107 => absurd (by decide) c_107)
      have hS9 : S_lend n p F (nI k) b = (1, F) := by rw [S_lend, hixk]; show (match ix p b with | none => _ | some j => _) = _; rw [ix_f hno2]
      exact W.vret hx hb hr (fun t ht hW => ⟨⟨(), rfl, trivial, by show va_P _ _ _ t.heap; rw [hS9, ht]; exact hP⟩, hS.F ht⟩) hS.2.2 dX3_lend_117
  · skip
    refine lv_aload_n hx hb dX3_lend_0 rfl (lv_at hl 0 rfl) ?_
    refine lv_iload_n hx hb dX3_lend_1 rfl (lv_at hl 1 rfl) ?_
    refine vp_callSi (va_Run.run (va_runV (As := [.int its]) (rest := []) ⟨hx, hb, hml, hown, hts⟩ (c_X3_isKite l9 dC dI h a th n p F its hn8) (cwV 1 hts gX3_lend_X3_isKite rfl rfl rfl (by decide +kernel) ⟨Nat.le_of_ble_eq_true rfl, Nat.le_of_ble_eq_true rfl⟩) ⟨PRo.blind, va_recv hK hP (ci := 3) (q0 := 0) rfl rfl, PRo.pre hP hK hE⟩ rfl rfl hl.1 rfl (lv_room (Nat.le_of_ble_eq_true rfl)) dX3_lend_2 ⟨Nat.le_of_ble_eq_true rfl, Nat.le_of_ble_eq_true rfl⟩)) (fun r hr => ?_)
    subst hr
    refine lv_if_eq (tgt := 20) hx hb dX3_lend_5 (by decide) (fun _ => ?_) (fun c_5 => absurd (bi_f hno) c_5)
    refine lv_iconst (v := 0) hx hb dX3_lend_20 (by decide) ?_
    refine lv_istore_n (lv' := [(3, .int 0), (0, .ref h), (1, .int its), (2, .int b)]) hx hb dX3_lend_21 rfl hl (by decide) rfl (fun ls hl => ?_)
    refine lv_iload_n hx hb dX3_lend_22 rfl (lv_at hl 0 rfl) ?_
    refine lv_if_eq (tgt := 82) hx hb dX3_lend_23 (by decide) (fun _ => ?_) (fun c_23 => absurd (by decide) c_23)
    refine lv_iconst (v := 0) hx hb dX3_lend_82 (by decide) ?_
    refine lv_istore (lv' := [(4, .int 0), (3, .int 0), (0, .ref h), (1, .int its), (2, .int b)]) hx hb dX3_lend_83 hl (by decide) rfl (fun ls hl => ?_)
    refine lv_aload_n hx hb dX3_lend_85 rfl (lv_at hl 2 rfl) ?_
    refine lv_iload_n hx hb dX3_lend_86 rfl (lv_at hl 1 rfl) ?_
    refine lv_if_ne (tgt := 94) hx hb dX3_lend_87 (by decide) (fun c_87 => absurd (by decide) c_87) (fun _ => ?_)
    refine lv_iconst (v := 1) hx hb dX3_lend_90 (by decide) ?_
    refine lv_goto (tgt := 104) hx hb dX3_lend_91 (by decide) ?_
    refine va_calli (va_runV (As := [.int 1]) (rest := []) ⟨hx, hb, hml, hown, hts⟩ (c_X3_holds l9 dC dI s.heap.size h a th n p F 1) (cwV 1 hts gX3_lend_X3_holds rfl rfl rfl (by decide +kernel) ⟨Nat.le_of_ble_eq_true rfl, Nat.le_of_ble_eq_true rfl⟩) ⟨PWr.blind, va_recv hK hP (ci := 3) (q0 := 0) rfl rfl, PWr.pre hP hK hD hE ((hH.kept hS.2.1).narrow (A_in hD hS hA))⟩ rfl rfl hl.1 rfl (lv_room (Nat.le_of_ble_eq_true rfl)) dX3_lend_104 ⟨Nat.le_of_ble_eq_true rfl, Nat.le_of_ble_eq_true rfl⟩) hS (fun q _ hq => A_in hD hS hA q hq) (A_in hD hS hA) (fun r9 u9 t9 H locs ht9 hvm hw9 hB hz1 hk1 hS => ?_)
    have hP : va_P (dC, dI) vwCl (rW cI cZ h a 1 n p F) H := by rw [← ht9]; exact hB
    have hD : va_D A (rW cI cZ h a 1 n p F) := D_same hD rfl
    refine W_top (y := .int (bi (1 = 0))) (congrArg Value.int hw9) ?_
    refine W_top (y := .int 0) (congrArg Value.int (bi_f (by decide))) ?_
    refine lv_if_eq (tgt := 117) hx hb dX3_lend_107 (by decide) (fun _ => ?_) (fun c_107 => absurd (by decide) c_107)
    have hS9 : S_lend n p F its b = (1, F) := by rw [S_lend, ix_f hno]
    exact W.vret hx hb hr (fun t ht hW => ⟨⟨(), rfl, trivial, by show va_P _ _ _ t.heap; rw [hS9, ht]; exact hP⟩, hS.F ht⟩) hS.2.2 dX3_lend_117

set_option maxHeartbeats 4000000 in
set_option maxRecDepth 100000 in
theorem c_X3_giveBack (l9 : Launch) (dC : Nat → ClassId) (dI : Nat → Nat → Nat) (sz : Nat) {cI cZ : ClassId} (h : Nat) (a : Nat → Nat) (th : Int32) (n p : Nat) (F : Rows) (b : Int32) (hI : Inv n p F) : Met l9 yX3_giveBack wsX3_giveBack ({ frames := 2, cells := 0, slots := 0, locals := 43 }) (va_Pc [.ref h, .int b] (PWr dC dI [(cI, .int), (cZ, .boolean)] (rW cI cZ h a th n p F) sz)) (va_Qi (fun r9 (_ : Unit) => r9 = (S_giveBack n p F b).2.1) (fun _ t => va_P (dC, dI) vwCl (rW cI cZ h a ((S_giveBack n p F b).1) n p ((S_giveBack n p F b).2.2)) t.heap) (va_A (rW cI cZ h a th n p F) sz)) 0 0 (va_A (rW cI cZ h a th n p F) sz) := by
  refine Met.ofW (cc := cX3_giveBack) (maxL := 4) (ret := (some .int)) (by decide) rfl ?_
  intro p9 e9 s m args below meth c s₁ B hml hv
  obtain ⟨rfl, hsz, hP, hK, hD0, hE, hH⟩ := hv
  have hx := B.exec
  have hb := B.bytes
  have hr := B.returns
  have hts := atoms_spec (ws := wsX3_giveBack) B.pre
  have hown : s.vm.findClass RX3 = some m.cls := findClass_of_methodNamed B.named
  have hlocks := B.notSynchronized
  have hi3 : ∀ w ∈ u_ws RX3 TX3 16, w ∈ wsX3_giveBack := by decide +kernel
  have lk26 := hts (.fieldLink RX3 26 "WindlaneModel" "holder" "[I") (by decide +kernel)
  have lk29 := hts (.fieldLink RX3 29 "WindlaneModel" "laneOf" "[I") (by decide +kernel)
  subst hsz
  have hD := hD0.self (sz := s.heap.size)
  generalize hAe : va_A (rW cI cZ h a th n p F) s.heap.size = A at hD hH ⊢
  have hA : ∀ q : Nat, s.heap.size ≤ q → A q := fun q h => by rw [← hAe]; exact Or.inr h
  have hS : va_S A s.heap s.heap [] := va_S.rf
  have hP : va_P (dC, dI) vwCl (rW cI cZ h a th n p F) s.heap := hP
  have hn8 : n ≤ 8 := hI.1.1
  have hp8 : p ≤ 8 := hI.1.2
  have hl := lv_entry ([.ref h, .int b]) (n := 4) (Nat.le_of_ble_eq_true rfl)
  rw [lg_entry_eq]
  generalize (lg_sl ([.ref h, .int b]) ++ List.replicate (4 - (lg_sl ([.ref h, .int b])).length) Slot.unset).toArray = ls at hl ⊢
  have hl : lv_has ls 4 [(0, .ref h), (1, .int b)] := hl
  rcases inR_cases p b with ⟨j, hjn, rfl⟩ | hno
  · skip
    have hixj : ix p (nI j) = some j := ix_t hjn (by omega)
    refine lv_aload_n hx hb dX3_giveBack_0 rfl (lv_at hl 0 rfl) ?_
    refine lv_iload_n hx hb dX3_giveBack_1 rfl (lv_at hl 1 rfl) ?_
    refine vp_callSi (va_Run.run (va_runV (As := [.int (nI j)]) (rest := []) ⟨hx, hb, hml, hown, hts⟩ (c_X3_isPerson l9 dC dI h a th n p F (nI j) hp8) (cwV 1 hts gX3_giveBack_X3_isPerson rfl rfl rfl (by decide +kernel) ⟨Nat.le_of_ble_eq_true rfl, Nat.le_of_ble_eq_true rfl⟩) ⟨PRo.blind, va_recv hK hP (ci := 3) (q0 := 0) rfl rfl, PRo.pre hP hK hE⟩ rfl rfl hl.1 rfl (lv_room (Nat.le_of_ble_eq_true rfl)) dX3_giveBack_2 ⟨Nat.le_of_ble_eq_true rfl, Nat.le_of_ble_eq_true rfl⟩)) (fun r hr => ?_)
    subst hr
    refine lv_istore_n (lv' := [(2, .int (bi (inR p (nI j)))), (0, .ref h), (1, .int (nI j))]) hx hb dX3_giveBack_5 rfl hl (by decide) rfl (fun ls hl => ?_)
    refine lv_iload_n hx hb dX3_giveBack_6 rfl (lv_at hl 0 rfl) ?_
    refine lv_if_eq (tgt := 18) hx hb dX3_giveBack_7 (by decide) (fun c_7 => absurd c_7 (bi_nz.mpr (inR_nI hjn (by omega)))) (fun _ => ?_)
    refine lv_aload_n hx hb dX3_giveBack_10 rfl (lv_at hl 1 rfl) ?_
    refine lv_iload_n hx hb dX3_giveBack_11 rfl (lv_at hl 2 rfl) ?_
    refine vp_callSi (va_Run.run (va_runV (As := [.int (nI j)]) (rest := []) ⟨hx, hb, hml, hown, hts⟩ (c_X3_heldBy l9 dC dI h a th n p F (nI j) hn8) (cwV 1 hts gX3_giveBack_X3_heldBy rfl rfl rfl (by decide +kernel) ⟨Nat.le_of_ble_eq_true rfl, Nat.le_of_ble_eq_true rfl⟩) ⟨PRo.blind, va_recv hK hP (ci := 3) (q0 := 0) rfl rfl, PRo.pre hP hK hE⟩ rfl rfl hl.1 rfl (lv_room (Nat.le_of_ble_eq_true rfl)) dX3_giveBack_12 ⟨Nat.le_of_ble_eq_true rfl, Nat.le_of_ble_eq_true rfl⟩)) (fun r hr => ?_)
    subst hr
    rcases hlk : lk (F 5) n (nI j) with _ | k
    · skip
      refine W_top (y := .int (-1)) (rfl) ?_
      refine lv_goto (tgt := 19) hx hb dX3_giveBack_15 (by decide) ?_
      refine lv_istore_n (lv' := [(3, .int (-1)), (2, .int (bi (inR p (nI j)))), (0, .ref h), (1, .int (nI j))]) hx hb dX3_giveBack_19 rfl hl (by decide) rfl (fun ls hl => ?_)
      refine lv_aload_n hx hb dX3_giveBack_20 rfl (lv_at hl 2 rfl) ?_
      refine lv_iload_n hx hb dX3_giveBack_21 rfl (lv_at hl 1 rfl) ?_
      refine lv_if_ne (tgt := 29) hx hb dX3_giveBack_22 (by decide) (fun _ => ?_) (fun c_22 => absurd c_22 (bi_nz.mpr (inR_nI hjn (by omega))))
      refine lv_iload_n hx hb dX3_giveBack_29 rfl (lv_at hl 0 rfl) ?_
      refine lv_iconst (v := (-1)) hx hb dX3_giveBack_30 (by decide) ?_
      refine lv_icmp_eq (tgt := 44) hx hb dX3_giveBack_31 (by decide) (fun _ => ?_) (fun c_31 => absurd (by decide) c_31)
      refine lv_iconst (v := 2) hx hb dX3_giveBack_44 (by decide) ?_
      refine lv_goto (tgt := 49) hx hb dX3_giveBack_45 (by decide) ?_
      refine va_calli (va_runV (As := [.int 2]) (rest := []) ⟨hx, hb, hml, hown, hts⟩ (c_X3_holds l9 dC dI s.heap.size h a th n p F 2) (cwV 1 hts gX3_giveBack_X3_holds rfl rfl rfl (by decide +kernel) ⟨Nat.le_of_ble_eq_true rfl, Nat.le_of_ble_eq_true rfl⟩) ⟨PWr.blind, va_recv hK hP (ci := 3) (q0 := 0) rfl rfl, PWr.pre hP hK hD hE ((hH.kept hS.2.1).narrow (A_in hD hS hA))⟩ rfl rfl hl.1 rfl (lv_room (Nat.le_of_ble_eq_true rfl)) dX3_giveBack_49 ⟨Nat.le_of_ble_eq_true rfl, Nat.le_of_ble_eq_true rfl⟩) hS (fun q _ hq => A_in hD hS hA q hq) (A_in hD hS hA) (fun r9 u9 t9 H locs ht9 hvm hw9 hB hz1 hk1 hS => ?_)
      have hP : va_P (dC, dI) vwCl (rW cI cZ h a 2 n p F) H := by rw [← ht9]; exact hB
      have hD : va_D A (rW cI cZ h a 2 n p F) := D_same hD rfl
      refine W_top (y := .int (bi (2 = 0))) (congrArg Value.int hw9) ?_
      refine W_top (y := .int 0) (congrArg Value.int (bi_f (by decide))) ?_
      refine lv_if_ne (tgt := 57) hx hb dX3_giveBack_52 (by decide) (fun c_52 => absurd (by decide) c_52) (fun _ => ?_)
      refine lv_iconst (v := 0) hx hb dX3_giveBack_55 (by decide) ?_
      have hS9 : S_giveBack n p F (nI j) = (2, 0, F) := by rw [S_giveBack, hixj]; show (match lk (F 5) n (nI j) with | none => _ | some k => _) = _; rw [hlk]
      exact W.iret (v := 0) hx hb hr (fun t ht hW => ⟨⟨_, (), rfl, (by rw [hS9]), by show va_P _ _ _ t.heap; rw [hS9, ht]; exact hP⟩, hS.F ht⟩) hS.2.2 dX3_giveBack_56
    · skip
      refine W_top (y := .int (nI k)) (rfl) ?_
      obtain ⟨hkn, hk5⟩ := lk_some hlk
      refine lv_goto (tgt := 19) hx hb dX3_giveBack_15 (by decide) ?_
      refine lv_istore_n (lv' := [(3, .int (nI k)), (2, .int (bi (inR p (nI j)))), (0, .ref h), (1, .int (nI j))]) hx hb dX3_giveBack_19 rfl hl (by decide) rfl (fun ls hl => ?_)
      refine lv_aload_n hx hb dX3_giveBack_20 rfl (lv_at hl 2 rfl) ?_
      refine lv_iload_n hx hb dX3_giveBack_21 rfl (lv_at hl 1 rfl) ?_
      refine lv_if_ne (tgt := 29) hx hb dX3_giveBack_22 (by decide) (fun _ => ?_) (fun c_22 => absurd c_22 (bi_nz.mpr (inR_nI hjn (by omega))))
      refine lv_iload_n hx hb dX3_giveBack_29 rfl (lv_at hl 0 rfl) ?_
      refine lv_iconst (v := (-1)) hx hb dX3_giveBack_30 (by decide) ?_
      refine lv_icmp_eq (tgt := 44) hx hb dX3_giveBack_31 (by decide) (fun c_31 => absurd c_31 (nI_m1 (by omega))) (fun _ => ?_)
      refine lv_aload_n hx hb dX3_giveBack_34 rfl (lv_at hl 2 rfl) ?_
      refine va_get (D := (dC, dI)) (ci := 3) (v := .ref (a 6)) (C := RX3) (T := TX3) (N := 16) hx hb hts hi3 hown hK hP 0 rfl rfl 8 (by decide) lk29 (fun _ h9 => h9) rfl dX3_giveBack_35 ?_
      refine lv_iload_n hx hb dX3_giveBack_38 rfl (lv_at hl 0 rfl) ?_
      refine my_iald hx hb hK hP 7 0 rfl rfl (Nat.lt_of_lt_of_le hkn hn8) (Nat.le_of_ble_eq_true rfl) dX3_giveBack_39 ?_
      refine W_top (y := .int (F 6 k)) (rfl) ?_
      refine lv_iconst (v := (-1)) hx hb dX3_giveBack_40 (by decide) ?_
      refine lv_icmp_eq (tgt := 48) hx hb dX3_giveBack_41 (by decide) (fun c_41 => ?_) (fun c_41 => ?_)
      · skip
        refine lv_iconst (v := 0) hx hb dX3_giveBack_48 (by decide) ?_
        refine va_calli (va_runV (As := [.int 0]) (rest := []) ⟨hx, hb, hml, hown, hts⟩ (c_X3_holds l9 dC dI s.heap.size h a th n p F 0) (cwV 1 hts gX3_giveBack_X3_holds rfl rfl rfl (by decide +kernel) ⟨Nat.le_of_ble_eq_true rfl, Nat.le_of_ble_eq_true rfl⟩) ⟨PWr.blind, va_recv hK hP (ci := 3) (q0 := 0) rfl rfl, PWr.pre hP hK hD hE ((hH.kept hS.2.1).narrow (A_in hD hS hA))⟩ rfl rfl hl.1 rfl (lv_room (Nat.le_of_ble_eq_true rfl)) dX3_giveBack_49 ⟨Nat.le_of_ble_eq_true rfl, Nat.le_of_ble_eq_true rfl⟩) hS (fun q _ hq => A_in hD hS hA q hq) (A_in hD hS hA) (fun r9 u9 t9 H locs ht9 hvm hw9 hB hz1 hk1 hS => ?_)
        have hP : va_P (dC, dI) vwCl (rW cI cZ h a 0 n p F) H := by rw [← ht9]; exact hB
        have hD : va_D A (rW cI cZ h a 0 n p F) := D_same hD rfl
        refine W_top (y := .int (bi (0 = 0))) (congrArg Value.int hw9) ?_
        refine W_top (y := .int 1) (congrArg Value.int (bi_t rfl)) ?_
        refine lv_if_ne (tgt := 57) hx hb dX3_giveBack_52 (by decide) (fun _ => ?_) (fun c_52 => absurd c_52 (by decide))
        refine lv_aload_n hx hb dX3_giveBack_57 rfl (lv_at hl 2 rfl) ?_
        refine va_get (D := (dC, dI)) (ci := 3) (v := .ref (a 5)) (C := RX3) (T := TX3) (N := 16) hx hb hts hi3 hown hK hP 0 rfl rfl 7 (by decide) lk26 (fun _ h9 => h9) rfl dX3_giveBack_58 ?_
        refine lv_iload_n hx hb dX3_giveBack_61 rfl (lv_at hl 0 rfl) ?_
        refine lv_iconst (v := (-1)) hx hb dX3_giveBack_62 (by decide) ?_
        refine my_iast hx hb hK hP hD hS 6 0 rfl rfl (Nat.lt_of_lt_of_le hkn hn8) (Nat.le_of_ble_eq_true rfl) dX3_giveBack_63 (fun H locs hP hD hS => ?_)
        have hP : va_P (dC, dI) vwCl (rW cI cZ h a 0 n p (up F 5 k (-1))) H := hP
        have hD : va_D A (rW cI cZ h a 0 n p (up F 5 k (-1))) := hD
        refine lv_iload_n hx hb dX3_giveBack_64 rfl (lv_at hl 0 rfl) ?_
        have hS9 : S_giveBack n p F (nI j) = (0, nI k, up F 5 k (-1)) := by rw [S_giveBack, hixj]; show (match lk (F 5) n (nI j) with | none => _ | some k => _) = _; rw [hlk]; exact if_pos c_41
        exact W.iret (v := nI k) hx hb hr (fun t ht hW => ⟨⟨_, (), rfl, (by rw [hS9]), by show va_P _ _ _ t.heap; rw [hS9, ht]; exact hP⟩, hS.F ht⟩) hS.2.2 dX3_giveBack_65
      · skip
        refine lv_iconst (v := 2) hx hb dX3_giveBack_44 (by decide) ?_
        refine lv_goto (tgt := 49) hx hb dX3_giveBack_45 (by decide) ?_
        refine va_calli (va_runV (As := [.int 2]) (rest := []) ⟨hx, hb, hml, hown, hts⟩ (c_X3_holds l9 dC dI s.heap.size h a th n p F 2) (cwV 1 hts gX3_giveBack_X3_holds rfl rfl rfl (by decide +kernel) ⟨Nat.le_of_ble_eq_true rfl, Nat.le_of_ble_eq_true rfl⟩) ⟨PWr.blind, va_recv hK hP (ci := 3) (q0 := 0) rfl rfl, PWr.pre hP hK hD hE ((hH.kept hS.2.1).narrow (A_in hD hS hA))⟩ rfl rfl hl.1 rfl (lv_room (Nat.le_of_ble_eq_true rfl)) dX3_giveBack_49 ⟨Nat.le_of_ble_eq_true rfl, Nat.le_of_ble_eq_true rfl⟩) hS (fun q _ hq => A_in hD hS hA q hq) (A_in hD hS hA) (fun r9 u9 t9 H locs ht9 hvm hw9 hB hz1 hk1 hS => ?_)
        have hP : va_P (dC, dI) vwCl (rW cI cZ h a 2 n p F) H := by rw [← ht9]; exact hB
        have hD : va_D A (rW cI cZ h a 2 n p F) := D_same hD rfl
        refine W_top (y := .int (bi (2 = 0))) (congrArg Value.int hw9) ?_
        refine W_top (y := .int 0) (congrArg Value.int (bi_f (by decide))) ?_
        refine lv_if_ne (tgt := 57) hx hb dX3_giveBack_52 (by decide) (fun c_52 => absurd (by decide) c_52) (fun _ => ?_)
        refine lv_iconst (v := 0) hx hb dX3_giveBack_55 (by decide) ?_
        have hS9 : S_giveBack n p F (nI j) = (2, 0, F) := by rw [S_giveBack, hixj]; show (match lk (F 5) n (nI j) with | none => _ | some k => _) = _; rw [hlk]; exact if_neg c_41
        exact W.iret (v := 0) hx hb hr (fun t ht hW => ⟨⟨_, (), rfl, (by rw [hS9]), by show va_P _ _ _ t.heap; rw [hS9, ht]; exact hP⟩, hS.F ht⟩) hS.2.2 dX3_giveBack_56
  · skip
    refine lv_aload_n hx hb dX3_giveBack_0 rfl (lv_at hl 0 rfl) ?_
    refine lv_iload_n hx hb dX3_giveBack_1 rfl (lv_at hl 1 rfl) ?_
    refine vp_callSi (va_Run.run (va_runV (As := [.int b]) (rest := []) ⟨hx, hb, hml, hown, hts⟩ (c_X3_isPerson l9 dC dI h a th n p F b hp8) (cwV 1 hts gX3_giveBack_X3_isPerson rfl rfl rfl (by decide +kernel) ⟨Nat.le_of_ble_eq_true rfl, Nat.le_of_ble_eq_true rfl⟩) ⟨PRo.blind, va_recv hK hP (ci := 3) (q0 := 0) rfl rfl, PRo.pre hP hK hE⟩ rfl rfl hl.1 rfl (lv_room (Nat.le_of_ble_eq_true rfl)) dX3_giveBack_2 ⟨Nat.le_of_ble_eq_true rfl, Nat.le_of_ble_eq_true rfl⟩)) (fun r hr => ?_)
    subst hr
    refine lv_istore_n (lv' := [(2, .int (bi (inR p b))), (0, .ref h), (1, .int b)]) hx hb dX3_giveBack_5 rfl hl (by decide) rfl (fun ls hl => ?_)
    refine lv_iload_n hx hb dX3_giveBack_6 rfl (lv_at hl 0 rfl) ?_
    refine lv_if_eq (tgt := 18) hx hb dX3_giveBack_7 (by decide) (fun _ => ?_) (fun c_7 => absurd (bi_f hno) c_7)
    refine lv_iconst (v := (-1)) hx hb dX3_giveBack_18 (by decide) ?_
    refine lv_istore_n (lv' := [(3, .int (-1)), (2, .int (bi (inR p b))), (0, .ref h), (1, .int b)]) hx hb dX3_giveBack_19 rfl hl (by decide) rfl (fun ls hl => ?_)
    refine lv_aload_n hx hb dX3_giveBack_20 rfl (lv_at hl 2 rfl) ?_
    refine lv_iload_n hx hb dX3_giveBack_21 rfl (lv_at hl 1 rfl) ?_
    refine lv_if_ne (tgt := 29) hx hb dX3_giveBack_22 (by decide) (fun c_22 => absurd (bi_f hno) c_22) (fun _ => ?_)
    refine lv_iconst (v := 1) hx hb dX3_giveBack_25 (by decide) ?_
    refine lv_goto (tgt := 49) hx hb dX3_giveBack_26 (by decide) ?_
    refine va_calli (va_runV (As := [.int 1]) (rest := []) ⟨hx, hb, hml, hown, hts⟩ (c_X3_holds l9 dC dI s.heap.size h a th n p F 1) (cwV 1 hts gX3_giveBack_X3_holds rfl rfl rfl (by decide +kernel) ⟨Nat.le_of_ble_eq_true rfl, Nat.le_of_ble_eq_true rfl⟩) ⟨PWr.blind, va_recv hK hP (ci := 3) (q0 := 0) rfl rfl, PWr.pre hP hK hD hE ((hH.kept hS.2.1).narrow (A_in hD hS hA))⟩ rfl rfl hl.1 rfl (lv_room (Nat.le_of_ble_eq_true rfl)) dX3_giveBack_49 ⟨Nat.le_of_ble_eq_true rfl, Nat.le_of_ble_eq_true rfl⟩) hS (fun q _ hq => A_in hD hS hA q hq) (A_in hD hS hA) (fun r9 u9 t9 H locs ht9 hvm hw9 hB hz1 hk1 hS => ?_)
    have hP : va_P (dC, dI) vwCl (rW cI cZ h a 1 n p F) H := by rw [← ht9]; exact hB
    have hD : va_D A (rW cI cZ h a 1 n p F) := D_same hD rfl
    refine W_top (y := .int (bi (1 = 0))) (congrArg Value.int hw9) ?_
    refine W_top (y := .int 0) (congrArg Value.int (bi_f (by decide))) ?_
    refine lv_if_ne (tgt := 57) hx hb dX3_giveBack_52 (by decide) (fun c_52 => absurd (by decide) c_52) (fun _ => ?_)
    refine lv_iconst (v := 0) hx hb dX3_giveBack_55 (by decide) ?_
    have hS9 : S_giveBack n p F b = (1, 0, F) := by rw [S_giveBack, ix_f hno]
    exact W.iret (v := 0) hx hb hr (fun t ht hW => ⟨⟨_, (), rfl, (by rw [hS9]), by show va_P _ _ _ t.heap; rw [hS9, ht]; exact hP⟩, hS.F ht⟩) hS.2.2 dX3_giveBack_56

set_option maxHeartbeats 4000000 in
set_option maxRecDepth 100000 in
theorem c_X3_fly (l9 : Launch) (dC : Nat → ClassId) (dI : Nat → Nat → Nat) (sz : Nat) {cI cZ : ClassId} (h : Nat) (a : Nat → Nat) (th : Int32) (n p : Nat) (F : Rows) (its ln len : Int32) (hI : Inv n p F) : Met l9 yX3_fly wsX3_fly ({ frames := 4, cells := 0, slots := 0, locals := 95 }) (va_Pc [.ref h, .int its, .int ln, .int len] (PWr dC dI [(cI, .int), (cZ, .boolean)] (rW cI cZ h a th n p F) sz)) (va_Qi (fun r9 (_ : Unit) => r9 = (S_fly n F its ln len).2.1) (fun _ t => va_P (dC, dI) vwCl (rW cI cZ h a ((S_fly n F its ln len).1) n p ((S_fly n F its ln len).2.2)) t.heap) (va_A (rW cI cZ h a th n p F) sz)) 0 0 (va_A (rW cI cZ h a th n p F) sz) := by
  refine Met.ofW (cc := cX3_fly) (maxL := 7) (ret := (some .int)) (by decide) rfl ?_
  intro p9 e9 s m args below meth c s₁ B hml hv
  obtain ⟨rfl, hsz, hP, hK, hD0, hE, hH⟩ := hv
  have hx := B.exec
  have hb := B.bytes
  have hr := B.returns
  have hts := atoms_spec (ws := wsX3_fly) B.pre
  have hown : s.vm.findClass RX3 = some m.cls := findClass_of_methodNamed B.named
  have hlocks := B.notSynchronized
  have hi3 : ∀ w ∈ u_ws RX3 TX3 16, w ∈ wsX3_fly := by decide +kernel
  have lk19 := hts (.fieldLink RX3 19 "WindlaneModel" "isTorn" "[Z") (by decide +kernel)
  have lk26 := hts (.fieldLink RX3 26 "WindlaneModel" "holder" "[I") (by decide +kernel)
  have lk29 := hts (.fieldLink RX3 29 "WindlaneModel" "laneOf" "[I") (by decide +kernel)
  have lk32 := hts (.fieldLink RX3 32 "WindlaneModel" "length" "[I") (by decide +kernel)
  have lk59 := hts (.fieldLink RX3 59 "WindlaneModel" "speed" "I") (by decide +kernel)
  subst hsz
  have hD := hD0.self (sz := s.heap.size)
  generalize hAe : va_A (rW cI cZ h a th n p F) s.heap.size = A at hD hH ⊢
  have hA : ∀ q : Nat, s.heap.size ≤ q → A q := fun q h => by rw [← hAe]; exact Or.inr h
  have hS : va_S A s.heap s.heap [] := va_S.rf
  have hP : va_P (dC, dI) vwCl (rW cI cZ h a th n p F) s.heap := hP
  have hn8 : n ≤ 8 := hI.1.1
  have hp8 : p ≤ 8 := hI.1.2
  have hl := lv_entry ([.ref h, .int its, .int ln, .int len]) (n := 7) (Nat.le_of_ble_eq_true rfl)
  rw [lg_entry_eq]
  generalize (lg_sl ([.ref h, .int its, .int ln, .int len]) ++ List.replicate (7 - (lg_sl ([.ref h, .int its, .int ln, .int len])).length) Slot.unset).toArray = ls at hl ⊢
  have hl : lv_has ls 7 [(0, .ref h), (1, .int its), (2, .int ln), (3, .int len)] := hl
  rcases inR_cases n its with ⟨k, hkn, rfl⟩ | hno
  · skip
    have hixk : ix n (nI k) = some k := ix_t hkn (by omega)
    rcases inR_cases 10 ln with ⟨l, hl10, rfl⟩ | hno2
    · skip
      have hixl : ix 10 (nI l) = some l := ix_t hl10 (by omega)
      refine lv_aload_n hx hb dX3_fly_0 rfl (lv_at hl 0 rfl) ?_
      refine lv_iload_n hx hb dX3_fly_1 rfl (lv_at hl 1 rfl) ?_
      refine vp_callSi (va_Run.run (va_runV (As := [.int (nI k)]) (rest := []) ⟨hx, hb, hml, hown, hts⟩ (c_X3_isKite l9 dC dI h a th n p F (nI k) hn8) (cwV 1 hts gX3_fly_X3_isKite rfl rfl rfl (by decide +kernel) ⟨Nat.le_of_ble_eq_true rfl, Nat.le_of_ble_eq_true rfl⟩) ⟨PRo.blind, va_recv hK hP (ci := 3) (q0 := 0) rfl rfl, PRo.pre hP hK hE⟩ rfl rfl hl.1 rfl (lv_room (Nat.le_of_ble_eq_true rfl)) dX3_fly_2 ⟨Nat.le_of_ble_eq_true rfl, Nat.le_of_ble_eq_true rfl⟩)) (fun r hr => ?_)
      subst hr
      refine lv_if_eq (tgt := 19) hx hb dX3_fly_5 (by decide) (fun c_5 => absurd c_5 (bi_nz.mpr (inR_nI hkn (by omega)))) (fun _ => ?_)
      refine lv_iload_n hx hb dX3_fly_8 rfl (lv_at hl 2 rfl) ?_
      refine vp_callSi (va_Run.run (va_runS (As := [.int (nI l)]) (rest := []) ⟨hx, hb, hml, hown, hts⟩ (c_X3_isLane l9 (nI l)) (va_cwS 1 hts gX3_fly_X3_isLane rfl rfl rfl (by decide +kernel) ⟨Nat.le_of_ble_eq_true rfl, Nat.le_of_ble_eq_true rfl⟩) ⟨fun a U g mk q => q, fun U hU hW => ⟨rfl, trivial⟩⟩ rfl rfl hl.1 rfl (lv_room (Nat.le_of_ble_eq_true rfl)) dX3_fly_9 ⟨Nat.le_of_ble_eq_true rfl, Nat.le_of_ble_eq_true rfl⟩)) (fun r hr => ?_)
      subst hr
      refine lv_if_eq (tgt := 19) hx hb dX3_fly_12 (by decide) (fun c_12 => absurd c_12 (bi_nz.mpr (inR_nI hl10 (by omega)))) (fun _ => ?_)
      refine lv_iconst (v := 1) hx hb dX3_fly_15 (by decide) ?_
      refine lv_goto (tgt := 20) hx hb dX3_fly_16 (by decide) ?_
      refine lv_istore (lv' := [(4, .int 1), (0, .ref h), (1, .int (nI k)), (2, .int (nI l)), (3, .int len)]) hx hb dX3_fly_20 hl (by decide) rfl (fun ls hl => ?_)
      refine lv_iload_n hx hb dX3_fly_22 rfl (lv_at hl 4 rfl) ?_
      refine lv_bipush (v := 10) hx hb dX3_fly_23 (by decide) ?_
      refine lv_bipush (v := 100) hx hb dX3_fly_25 (by decide) ?_
      refine vp_callSi (va_Run.run (va_runS (As := [.int len, .int 10, .int 100]) (rest := []) ⟨hx, hb, hml, hown, hts⟩ (c_X3_isIn l9 len 10 100) (va_cwS 3 hts gX3_fly_X3_isIn rfl rfl rfl (by decide +kernel) ⟨Nat.le_of_ble_eq_true rfl, Nat.le_of_ble_eq_true rfl⟩) ⟨fun a U g mk q => q, fun U hU hW => ⟨rfl, trivial⟩⟩ rfl rfl hl.1 rfl (lv_room (Nat.le_of_ble_eq_true rfl)) dX3_fly_27 ⟨Nat.le_of_ble_eq_true rfl, Nat.le_of_ble_eq_true rfl⟩)) (fun r hr => ?_)
      subst hr
      refine lv_istore (lv' := [(5, .int (bi (10 ≤ len ∧ len ≤ 100))), (4, .int 1), (0, .ref h), (1, .int (nI k)), (2, .int (nI l)), (3, .int len)]) hx hb dX3_fly_30 hl (by decide) rfl (fun ls hl => ?_)
      refine lv_iload hx hb dX3_fly_32 (lv_at hl 1 rfl) ?_
      refine lv_if_eq (tgt := 106) hx hb dX3_fly_34 (by decide) (fun c_34 => absurd c_34 (by decide)) (fun _ => ?_)
      refine lv_iload hx hb dX3_fly_37 (lv_at hl 0 rfl) ?_
      refine lv_if_eq (tgt := 106) hx hb dX3_fly_39 (by decide) (fun c_39 => ?_) (fun c_39 => ?_)
      · skip
        have c_39 := bi_z.mp c_39
        refine lv_iconst (v := 0) hx hb dX3_fly_106 (by decide) ?_
        refine lv_istore (lv' := [(6, .int 0), (5, .int (bi (10 ≤ len ∧ len ≤ 100))), (4, .int 1), (0, .ref h), (1, .int (nI k)), (2, .int (nI l)), (3, .int len)]) hx hb dX3_fly_107 hl (by decide) rfl (fun ls hl => ?_)
        refine lv_aload_n hx hb dX3_fly_109 rfl (lv_at hl 3 rfl) ?_
        refine lv_iload hx hb dX3_fly_110 (lv_at hl 2 rfl) ?_
        refine lv_if_ne (tgt := 119) hx hb dX3_fly_112 (by decide) (fun _ => ?_) (fun c_112 => absurd c_112 (by decide))
        refine lv_iload hx hb dX3_fly_119 (lv_at hl 1 rfl) ?_
        refine lv_if_ne (tgt := 128) hx hb dX3_fly_121 (by decide) (fun c_121 => absurd (bi_f c_39) c_121) (fun _ => ?_)
        refine lv_iconst (v := 2) hx hb dX3_fly_124 (by decide) ?_
        refine lv_goto (tgt := 138) hx hb dX3_fly_125 (by decide) ?_
        refine va_calli (va_runV (As := [.int 2]) (rest := []) ⟨hx, hb, hml, hown, hts⟩ (c_X3_holds l9 dC dI s.heap.size h a th n p F 2) (cwV 1 hts gX3_fly_X3_holds rfl rfl rfl (by decide +kernel) ⟨Nat.le_of_ble_eq_true rfl, Nat.le_of_ble_eq_true rfl⟩) ⟨PWr.blind, va_recv hK hP (ci := 3) (q0 := 0) rfl rfl, PWr.pre hP hK hD hE ((hH.kept hS.2.1).narrow (A_in hD hS hA))⟩ rfl rfl hl.1 rfl (lv_room (Nat.le_of_ble_eq_true rfl)) dX3_fly_138 ⟨Nat.le_of_ble_eq_true rfl, Nat.le_of_ble_eq_true rfl⟩) hS (fun q _ hq => A_in hD hS hA q hq) (A_in hD hS hA) (fun r9 u9 t9 H locs ht9 hvm hw9 hB hz1 hk1 hS => ?_)
        have hP : va_P (dC, dI) vwCl (rW cI cZ h a 2 n p F) H := by rw [← ht9]; exact hB
        have hD : va_D A (rW cI cZ h a 2 n p F) := D_same hD rfl
        refine W_top (y := .int (bi (2 = 0))) (congrArg Value.int hw9) ?_
        refine W_top (y := .int 0) (congrArg Value.int (bi_f (by decide))) ?_
        refine lv_if_ne (tgt := 146) hx hb dX3_fly_141 (by decide) (fun c_141 => absurd (by decide) c_141) (fun _ => ?_)
        refine lv_iconst (v := 0) hx hb dX3_fly_144 (by decide) ?_
        have hS9 : S_fly n F (nI k) (nI l) len = (2, 0, F) := by simp only [S_fly, hixk, hixl]; exact if_neg c_39
        exact W.iret (v := 0) hx hb hr (fun t ht hW => ⟨⟨_, (), rfl, (by rw [hS9]), by show va_P _ _ _ t.heap; rw [hS9, ht]; exact hP⟩, hS.F ht⟩) hS.2.2 dX3_fly_145
      · skip
        have c_39 := bi_nz.mp c_39
        refine lv_aload_n hx hb dX3_fly_42 rfl (lv_at hl 2 rfl) ?_
        refine va_get (D := (dC, dI)) (ci := 3) (v := .ref (a 5)) (C := RX3) (T := TX3) (N := 16) hx hb hts hi3 hown hK hP 0 rfl rfl 7 (by decide) lk26 (fun _ h9 => h9) rfl dX3_fly_43 ?_
        refine lv_iload_n hx hb dX3_fly_46 rfl (lv_at hl 3 rfl) ?_
        refine my_iald hx hb hK hP 6 0 rfl rfl (Nat.lt_of_lt_of_le hkn hn8) (Nat.le_of_ble_eq_true rfl) dX3_fly_47 ?_
        refine W_top (y := .int (F 5 k)) (rfl) ?_
        refine lv_iconst (v := (-1)) hx hb dX3_fly_48 (by decide) ?_
        refine lv_icmp_eq (tgt := 106) hx hb dX3_fly_49 (by decide) (fun c_49 => ?_) (fun c_49 => ?_)
        · skip
          refine lv_iconst (v := 0) hx hb dX3_fly_106 (by decide) ?_
          refine lv_istore (lv' := [(6, .int 0), (5, .int (bi (10 ≤ len ∧ len ≤ 100))), (4, .int 1), (0, .ref h), (1, .int (nI k)), (2, .int (nI l)), (3, .int len)]) hx hb dX3_fly_107 hl (by decide) rfl (fun ls hl => ?_)
          refine lv_aload_n hx hb dX3_fly_109 rfl (lv_at hl 3 rfl) ?_
          refine lv_iload hx hb dX3_fly_110 (lv_at hl 2 rfl) ?_
          refine lv_if_ne (tgt := 119) hx hb dX3_fly_112 (by decide) (fun _ => ?_) (fun c_112 => absurd c_112 (by decide))
          refine lv_iload hx hb dX3_fly_119 (lv_at hl 1 rfl) ?_
          refine lv_if_ne (tgt := 128) hx hb dX3_fly_121 (by decide) (fun _ => ?_) (fun c_121 => absurd c_121 (bi_nz.mpr c_39))
          refine lv_iload hx hb dX3_fly_128 (lv_at hl 0 rfl) ?_
          refine lv_if_eq (tgt := 137) hx hb dX3_fly_130 (by decide) (fun _ => ?_) (fun c_130 => absurd (by decide) c_130)
          refine lv_iconst (v := 3) hx hb dX3_fly_137 (by decide) ?_
          refine va_calli (va_runV (As := [.int 3]) (rest := []) ⟨hx, hb, hml, hown, hts⟩ (c_X3_holds l9 dC dI s.heap.size h a th n p F 3) (cwV 1 hts gX3_fly_X3_holds rfl rfl rfl (by decide +kernel) ⟨Nat.le_of_ble_eq_true rfl, Nat.le_of_ble_eq_true rfl⟩) ⟨PWr.blind, va_recv hK hP (ci := 3) (q0 := 0) rfl rfl, PWr.pre hP hK hD hE ((hH.kept hS.2.1).narrow (A_in hD hS hA))⟩ rfl rfl hl.1 rfl (lv_room (Nat.le_of_ble_eq_true rfl)) dX3_fly_138 ⟨Nat.le_of_ble_eq_true rfl, Nat.le_of_ble_eq_true rfl⟩) hS (fun q _ hq => A_in hD hS hA q hq) (A_in hD hS hA) (fun r9 u9 t9 H locs ht9 hvm hw9 hB hz1 hk1 hS => ?_)
          have hP : va_P (dC, dI) vwCl (rW cI cZ h a 3 n p F) H := by rw [← ht9]; exact hB
          have hD : va_D A (rW cI cZ h a 3 n p F) := D_same hD rfl
          refine W_top (y := .int (bi (3 = 0))) (congrArg Value.int hw9) ?_
          refine W_top (y := .int 0) (congrArg Value.int (bi_f (by decide))) ?_
          refine lv_if_ne (tgt := 146) hx hb dX3_fly_141 (by decide) (fun c_141 => absurd (by decide) c_141) (fun _ => ?_)
          refine lv_iconst (v := 0) hx hb dX3_fly_144 (by decide) ?_
          have hS9 : S_fly n F (nI k) (nI l) len = (3, 0, F) := by simp only [S_fly, hixk, hixl]; rw [if_pos c_39]; exact if_neg (fun q => q.1 c_49)
          exact W.iret (v := 0) hx hb hr (fun t ht hW => ⟨⟨_, (), rfl, (by rw [hS9]), by show va_P _ _ _ t.heap; rw [hS9, ht]; exact hP⟩, hS.F ht⟩) hS.2.2 dX3_fly_145
        · skip
          refine lv_aload_n hx hb dX3_fly_52 rfl (lv_at hl 2 rfl) ?_
          refine va_get (D := (dC, dI)) (ci := 3) (v := .ref (a 3)) (C := RX3) (T := TX3) (N := 16) hx hb hts hi3 hown hK hP 0 rfl rfl 5 (by decide) lk19 (fun _ h9 => h9) rfl dX3_fly_53 ?_
          refine lv_iload_n hx hb dX3_fly_56 rfl (lv_at hl 3 rfl) ?_
          refine my_zald hx hb hK hP 4 1 rfl rfl (Nat.lt_of_lt_of_le hkn hn8) (Nat.le_of_ble_eq_true rfl) dX3_fly_57 ?_
          refine W_top (y := .int (F 3 k)) (rfl) ?_
          refine lv_if_ne (tgt := 106) hx hb dX3_fly_58 (by decide) (fun c_58 => ?_) (fun c_58 => ?_)
          · skip
            refine lv_iconst (v := 0) hx hb dX3_fly_106 (by decide) ?_
            refine lv_istore (lv' := [(6, .int 0), (5, .int (bi (10 ≤ len ∧ len ≤ 100))), (4, .int 1), (0, .ref h), (1, .int (nI k)), (2, .int (nI l)), (3, .int len)]) hx hb dX3_fly_107 hl (by decide) rfl (fun ls hl => ?_)
            refine lv_aload_n hx hb dX3_fly_109 rfl (lv_at hl 3 rfl) ?_
            refine lv_iload hx hb dX3_fly_110 (lv_at hl 2 rfl) ?_
            refine lv_if_ne (tgt := 119) hx hb dX3_fly_112 (by decide) (fun _ => ?_) (fun c_112 => absurd c_112 (by decide))
            refine lv_iload hx hb dX3_fly_119 (lv_at hl 1 rfl) ?_
            refine lv_if_ne (tgt := 128) hx hb dX3_fly_121 (by decide) (fun _ => ?_) (fun c_121 => absurd c_121 (bi_nz.mpr c_39))
            refine lv_iload hx hb dX3_fly_128 (lv_at hl 0 rfl) ?_
            refine lv_if_eq (tgt := 137) hx hb dX3_fly_130 (by decide) (fun _ => ?_) (fun c_130 => absurd (by decide) c_130)
            refine lv_iconst (v := 3) hx hb dX3_fly_137 (by decide) ?_
            refine va_calli (va_runV (As := [.int 3]) (rest := []) ⟨hx, hb, hml, hown, hts⟩ (c_X3_holds l9 dC dI s.heap.size h a th n p F 3) (cwV 1 hts gX3_fly_X3_holds rfl rfl rfl (by decide +kernel) ⟨Nat.le_of_ble_eq_true rfl, Nat.le_of_ble_eq_true rfl⟩) ⟨PWr.blind, va_recv hK hP (ci := 3) (q0 := 0) rfl rfl, PWr.pre hP hK hD hE ((hH.kept hS.2.1).narrow (A_in hD hS hA))⟩ rfl rfl hl.1 rfl (lv_room (Nat.le_of_ble_eq_true rfl)) dX3_fly_138 ⟨Nat.le_of_ble_eq_true rfl, Nat.le_of_ble_eq_true rfl⟩) hS (fun q _ hq => A_in hD hS hA q hq) (A_in hD hS hA) (fun r9 u9 t9 H locs ht9 hvm hw9 hB hz1 hk1 hS => ?_)
            have hP : va_P (dC, dI) vwCl (rW cI cZ h a 3 n p F) H := by rw [← ht9]; exact hB
            have hD : va_D A (rW cI cZ h a 3 n p F) := D_same hD rfl
            refine W_top (y := .int (bi (3 = 0))) (congrArg Value.int hw9) ?_
            refine W_top (y := .int 0) (congrArg Value.int (bi_f (by decide))) ?_
            refine lv_if_ne (tgt := 146) hx hb dX3_fly_141 (by decide) (fun c_141 => absurd (by decide) c_141) (fun _ => ?_)
            refine lv_iconst (v := 0) hx hb dX3_fly_144 (by decide) ?_
            have hS9 : S_fly n F (nI k) (nI l) len = (3, 0, F) := by simp only [S_fly, hixk, hixl]; rw [if_pos c_39]; exact if_neg (fun q => c_58 q.2.1)
            exact W.iret (v := 0) hx hb hr (fun t ht hW => ⟨⟨_, (), rfl, (by rw [hS9]), by show va_P _ _ _ t.heap; rw [hS9, ht]; exact hP⟩, hS.F ht⟩) hS.2.2 dX3_fly_145
          · skip
            refine lv_aload_n hx hb dX3_fly_61 rfl (lv_at hl 2 rfl) ?_
            refine va_get (D := (dC, dI)) (ci := 3) (v := .ref (a 6)) (C := RX3) (T := TX3) (N := 16) hx hb hts hi3 hown hK hP 0 rfl rfl 8 (by decide) lk29 (fun _ h9 => h9) rfl dX3_fly_62 ?_
            refine lv_iload_n hx hb dX3_fly_65 rfl (lv_at hl 3 rfl) ?_
            refine my_iald hx hb hK hP 7 0 rfl rfl (Nat.lt_of_lt_of_le hkn hn8) (Nat.le_of_ble_eq_true rfl) dX3_fly_66 ?_
            refine W_top (y := .int (F 6 k)) (rfl) ?_
            refine lv_iconst (v := (-1)) hx hb dX3_fly_67 (by decide) ?_
            refine lv_icmp_ne (tgt := 106) hx hb dX3_fly_68 (by decide) (fun c_68 => ?_) (fun c_68 => ?_)
            · skip
              refine lv_iconst (v := 0) hx hb dX3_fly_106 (by decide) ?_
              refine lv_istore (lv' := [(6, .int 0), (5, .int (bi (10 ≤ len ∧ len ≤ 100))), (4, .int 1), (0, .ref h), (1, .int (nI k)), (2, .int (nI l)), (3, .int len)]) hx hb dX3_fly_107 hl (by decide) rfl (fun ls hl => ?_)
              refine lv_aload_n hx hb dX3_fly_109 rfl (lv_at hl 3 rfl) ?_
              refine lv_iload hx hb dX3_fly_110 (lv_at hl 2 rfl) ?_
              refine lv_if_ne (tgt := 119) hx hb dX3_fly_112 (by decide) (fun _ => ?_) (fun c_112 => absurd c_112 (by decide))
              refine lv_iload hx hb dX3_fly_119 (lv_at hl 1 rfl) ?_
              refine lv_if_ne (tgt := 128) hx hb dX3_fly_121 (by decide) (fun _ => ?_) (fun c_121 => absurd c_121 (bi_nz.mpr c_39))
              refine lv_iload hx hb dX3_fly_128 (lv_at hl 0 rfl) ?_
              refine lv_if_eq (tgt := 137) hx hb dX3_fly_130 (by decide) (fun _ => ?_) (fun c_130 => absurd (by decide) c_130)
              refine lv_iconst (v := 3) hx hb dX3_fly_137 (by decide) ?_
              refine va_calli (va_runV (As := [.int 3]) (rest := []) ⟨hx, hb, hml, hown, hts⟩ (c_X3_holds l9 dC dI s.heap.size h a th n p F 3) (cwV 1 hts gX3_fly_X3_holds rfl rfl rfl (by decide +kernel) ⟨Nat.le_of_ble_eq_true rfl, Nat.le_of_ble_eq_true rfl⟩) ⟨PWr.blind, va_recv hK hP (ci := 3) (q0 := 0) rfl rfl, PWr.pre hP hK hD hE ((hH.kept hS.2.1).narrow (A_in hD hS hA))⟩ rfl rfl hl.1 rfl (lv_room (Nat.le_of_ble_eq_true rfl)) dX3_fly_138 ⟨Nat.le_of_ble_eq_true rfl, Nat.le_of_ble_eq_true rfl⟩) hS (fun q _ hq => A_in hD hS hA q hq) (A_in hD hS hA) (fun r9 u9 t9 H locs ht9 hvm hw9 hB hz1 hk1 hS => ?_)
              have hP : va_P (dC, dI) vwCl (rW cI cZ h a 3 n p F) H := by rw [← ht9]; exact hB
              have hD : va_D A (rW cI cZ h a 3 n p F) := D_same hD rfl
              refine W_top (y := .int (bi (3 = 0))) (congrArg Value.int hw9) ?_
              refine W_top (y := .int 0) (congrArg Value.int (bi_f (by decide))) ?_
              refine lv_if_ne (tgt := 146) hx hb dX3_fly_141 (by decide) (fun c_141 => absurd (by decide) c_141) (fun _ => ?_)
              refine lv_iconst (v := 0) hx hb dX3_fly_144 (by decide) ?_
              have hS9 : S_fly n F (nI k) (nI l) len = (3, 0, F) := by simp only [S_fly, hixk, hixl]; rw [if_pos c_39]; exact if_neg (fun q => c_68 q.2.2.1)
              exact W.iret (v := 0) hx hb hr (fun t ht hW => ⟨⟨_, (), rfl, (by rw [hS9]), by show va_P _ _ _ t.heap; rw [hS9, ht]; exact hP⟩, hS.F ht⟩) hS.2.2 dX3_fly_145
            · skip
              refine lv_aload_n hx hb dX3_fly_71 rfl (lv_at hl 2 rfl) ?_
              refine lv_iload_n hx hb dX3_fly_72 rfl (lv_at hl 3 rfl) ?_
              refine lv_aload_n hx hb dX3_fly_73 rfl (lv_at hl 2 rfl) ?_
              refine va_get (D := (dC, dI)) (ci := 3) (v := .int (F 9 0)) (C := RX3) (T := TX3) (N := 16) hx hb hts hi3 hown hK hP 0 rfl rfl 12 (by decide) lk59 (fun _ h9 => h9) rfl dX3_fly_74 ?_
              refine vp_callSi (va_Run.run (va_runV (As := [.int (nI k), .int (F 9 0)]) (rest := []) ⟨hx, hb, hml, hown, hts⟩ (c_X3_isHeld l9 dC dI h a th n p F k (F 9 0) (Nat.lt_of_lt_of_le hkn hn8) (hI.kd k hkn)) (cwV 2 hts gX3_fly_X3_isHeld rfl rfl rfl (by decide +kernel) ⟨Nat.le_of_ble_eq_true rfl, Nat.le_of_ble_eq_true rfl⟩) ⟨PRo.blind, va_recv hK hP (ci := 3) (q0 := 0) rfl rfl, PRo.pre hP hK hE⟩ rfl rfl hl.1 rfl (lv_room (Nat.le_of_ble_eq_true rfl)) dX3_fly_77 ⟨Nat.le_of_ble_eq_true rfl, Nat.le_of_ble_eq_true rfl⟩)) (fun r hr => ?_)
              subst hr
              refine lv_if_eq (tgt := 106) hx hb dX3_fly_80 (by decide) (fun c_80 => ?_) (fun c_80 => ?_)
              · skip
                have c_80 := bi_z.mp c_80
                refine lv_iconst (v := 0) hx hb dX3_fly_106 (by decide) ?_
                refine lv_istore (lv' := [(6, .int 0), (5, .int (bi (10 ≤ len ∧ len ≤ 100))), (4, .int 1), (0, .ref h), (1, .int (nI k)), (2, .int (nI l)), (3, .int len)]) hx hb dX3_fly_107 hl (by decide) rfl (fun ls hl => ?_)
                refine lv_aload_n hx hb dX3_fly_109 rfl (lv_at hl 3 rfl) ?_
                refine lv_iload hx hb dX3_fly_110 (lv_at hl 2 rfl) ?_
                refine lv_if_ne (tgt := 119) hx hb dX3_fly_112 (by decide) (fun _ => ?_) (fun c_112 => absurd c_112 (by decide))
                refine lv_iload hx hb dX3_fly_119 (lv_at hl 1 rfl) ?_
                refine lv_if_ne (tgt := 128) hx hb dX3_fly_121 (by decide) (fun _ => ?_) (fun c_121 => absurd c_121 (bi_nz.mpr c_39))
                refine lv_iload hx hb dX3_fly_128 (lv_at hl 0 rfl) ?_
                refine lv_if_eq (tgt := 137) hx hb dX3_fly_130 (by decide) (fun _ => ?_) (fun c_130 => absurd (by decide) c_130)
                refine lv_iconst (v := 3) hx hb dX3_fly_137 (by decide) ?_
                refine va_calli (va_runV (As := [.int 3]) (rest := []) ⟨hx, hb, hml, hown, hts⟩ (c_X3_holds l9 dC dI s.heap.size h a th n p F 3) (cwV 1 hts gX3_fly_X3_holds rfl rfl rfl (by decide +kernel) ⟨Nat.le_of_ble_eq_true rfl, Nat.le_of_ble_eq_true rfl⟩) ⟨PWr.blind, va_recv hK hP (ci := 3) (q0 := 0) rfl rfl, PWr.pre hP hK hD hE ((hH.kept hS.2.1).narrow (A_in hD hS hA))⟩ rfl rfl hl.1 rfl (lv_room (Nat.le_of_ble_eq_true rfl)) dX3_fly_138 ⟨Nat.le_of_ble_eq_true rfl, Nat.le_of_ble_eq_true rfl⟩) hS (fun q _ hq => A_in hD hS hA q hq) (A_in hD hS hA) (fun r9 u9 t9 H locs ht9 hvm hw9 hB hz1 hk1 hS => ?_)
                have hP : va_P (dC, dI) vwCl (rW cI cZ h a 3 n p F) H := by rw [← ht9]; exact hB
                have hD : va_D A (rW cI cZ h a 3 n p F) := D_same hD rfl
                refine W_top (y := .int (bi (3 = 0))) (congrArg Value.int hw9) ?_
                refine W_top (y := .int 0) (congrArg Value.int (bi_f (by decide))) ?_
                refine lv_if_ne (tgt := 146) hx hb dX3_fly_141 (by decide) (fun c_141 => absurd (by decide) c_141) (fun _ => ?_)
                refine lv_iconst (v := 0) hx hb dX3_fly_144 (by decide) ?_
                have hS9 : S_fly n F (nI k) (nI l) len = (3, 0, F) := by simp only [S_fly, hixk, hixl]; rw [if_pos c_39]; exact if_neg (fun q => c_80 q.2.2.2.1)
                exact W.iret (v := 0) hx hb hr (fun t ht hW => ⟨⟨_, (), rfl, (by rw [hS9]), by show va_P _ _ _ t.heap; rw [hS9, ht]; exact hP⟩, hS.F ht⟩) hS.2.2 dX3_fly_145
              · skip
                have c_80 := bi_nz.mp c_80
                refine lv_aload_n hx hb dX3_fly_83 rfl (lv_at hl 2 rfl) ?_
                refine lv_iload_n hx hb dX3_fly_84 rfl (lv_at hl 4 rfl) ?_
                refine vp_callSi (va_Run.run (va_runV (As := [.int (nI l)]) (rest := []) ⟨hx, hb, hml, hown, hts⟩ (c_X3_inLane l9 dC dI h a th n p F (nI l) hn8) (cwV 1 hts gX3_fly_X3_inLane rfl rfl rfl (by decide +kernel) ⟨Nat.le_of_ble_eq_true rfl, Nat.le_of_ble_eq_true rfl⟩) ⟨PRo.blind, va_recv hK hP (ci := 3) (q0 := 0) rfl rfl, PRo.pre hP hK hE⟩ rfl rfl hl.1 rfl (lv_room (Nat.le_of_ble_eq_true rfl)) dX3_fly_85 ⟨Nat.le_of_ble_eq_true rfl, Nat.le_of_ble_eq_true rfl⟩)) (fun r hr => ?_)
                subst hr
                refine lv_iconst (v := (-1)) hx hb dX3_fly_88 (by decide) ?_
                refine lv_icmp_ne (tgt := 106) hx hb dX3_fly_89 (by decide) (fun c_89 => ?_) (fun c_89 => ?_)
                · skip
                  refine lv_iconst (v := 0) hx hb dX3_fly_106 (by decide) ?_
                  refine lv_istore (lv' := [(6, .int 0), (5, .int (bi (10 ≤ len ∧ len ≤ 100))), (4, .int 1), (0, .ref h), (1, .int (nI k)), (2, .int (nI l)), (3, .int len)]) hx hb dX3_fly_107 hl (by decide) rfl (fun ls hl => ?_)
                  refine lv_aload_n hx hb dX3_fly_109 rfl (lv_at hl 3 rfl) ?_
                  refine lv_iload hx hb dX3_fly_110 (lv_at hl 2 rfl) ?_
                  refine lv_if_ne (tgt := 119) hx hb dX3_fly_112 (by decide) (fun _ => ?_) (fun c_112 => absurd c_112 (by decide))
                  refine lv_iload hx hb dX3_fly_119 (lv_at hl 1 rfl) ?_
                  refine lv_if_ne (tgt := 128) hx hb dX3_fly_121 (by decide) (fun _ => ?_) (fun c_121 => absurd c_121 (bi_nz.mpr c_39))
                  refine lv_iload hx hb dX3_fly_128 (lv_at hl 0 rfl) ?_
                  refine lv_if_eq (tgt := 137) hx hb dX3_fly_130 (by decide) (fun _ => ?_) (fun c_130 => absurd (by decide) c_130)
                  refine lv_iconst (v := 3) hx hb dX3_fly_137 (by decide) ?_
                  refine va_calli (va_runV (As := [.int 3]) (rest := []) ⟨hx, hb, hml, hown, hts⟩ (c_X3_holds l9 dC dI s.heap.size h a th n p F 3) (cwV 1 hts gX3_fly_X3_holds rfl rfl rfl (by decide +kernel) ⟨Nat.le_of_ble_eq_true rfl, Nat.le_of_ble_eq_true rfl⟩) ⟨PWr.blind, va_recv hK hP (ci := 3) (q0 := 0) rfl rfl, PWr.pre hP hK hD hE ((hH.kept hS.2.1).narrow (A_in hD hS hA))⟩ rfl rfl hl.1 rfl (lv_room (Nat.le_of_ble_eq_true rfl)) dX3_fly_138 ⟨Nat.le_of_ble_eq_true rfl, Nat.le_of_ble_eq_true rfl⟩) hS (fun q _ hq => A_in hD hS hA q hq) (A_in hD hS hA) (fun r9 u9 t9 H locs ht9 hvm hw9 hB hz1 hk1 hS => ?_)
                  have hP : va_P (dC, dI) vwCl (rW cI cZ h a 3 n p F) H := by rw [← ht9]; exact hB
                  have hD : va_D A (rW cI cZ h a 3 n p F) := D_same hD rfl
                  refine W_top (y := .int (bi (3 = 0))) (congrArg Value.int hw9) ?_
                  refine W_top (y := .int 0) (congrArg Value.int (bi_f (by decide))) ?_
                  refine lv_if_ne (tgt := 146) hx hb dX3_fly_141 (by decide) (fun c_141 => absurd (by decide) c_141) (fun _ => ?_)
                  refine lv_iconst (v := 0) hx hb dX3_fly_144 (by decide) ?_
                  have hS9 : S_fly n F (nI k) (nI l) len = (3, 0, F) := by simp only [S_fly, hixk, hixl]; rw [if_pos c_39]; exact if_neg (fun q => c_89 ((lk_oI hn8).mpr q.2.2.2.2.1))
                  exact W.iret (v := 0) hx hb hr (fun t ht hW => ⟨⟨_, (), rfl, (by rw [hS9]), by show va_P _ _ _ t.heap; rw [hS9, ht]; exact hP⟩, hS.F ht⟩) hS.2.2 dX3_fly_145
                · skip
                  refine lv_aload_n hx hb dX3_fly_92 rfl (lv_at hl 2 rfl) ?_
                  refine lv_iload_n hx hb dX3_fly_93 rfl (lv_at hl 3 rfl) ?_
                  refine lv_iload_n hx hb dX3_fly_94 rfl (lv_at hl 4 rfl) ?_
                  refine lv_iload_n hx hb dX3_fly_95 rfl (lv_at hl 5 rfl) ?_
                  refine vp_callSi (va_Run.run (va_runV (As := [.int (nI k), .int (nI l), .int len]) (rest := []) ⟨hx, hb, hml, hown, hts⟩ (c_X3_isClear l9 dC dI h a th n p F k (nI l) len hn8 (Nat.lt_of_lt_of_le hkn hn8) (hI.kd k hkn) (st_ok c_80) hI.kd hI.fl) (cwV 3 hts gX3_fly_X3_isClear rfl rfl rfl (by decide +kernel) ⟨Nat.le_of_ble_eq_true rfl, Nat.le_of_ble_eq_true rfl⟩) ⟨PRo.blind, va_recv hK hP (ci := 3) (q0 := 0) rfl rfl, PRo.pre hP hK hE⟩ rfl rfl hl.1 rfl (lv_room (Nat.le_of_ble_eq_true rfl)) dX3_fly_96 ⟨Nat.le_of_ble_eq_true rfl, Nat.le_of_ble_eq_true rfl⟩)) (fun r hr => ?_)
                  subst hr
                  refine lv_if_eq (tgt := 106) hx hb dX3_fly_99 (by decide) (fun c_99 => ?_) (fun c_99 => ?_)
                  · skip
                    have c_99 := bi_z.mp c_99
                    refine lv_iconst (v := 0) hx hb dX3_fly_106 (by decide) ?_
                    refine lv_istore (lv' := [(6, .int 0), (5, .int (bi (10 ≤ len ∧ len ≤ 100))), (4, .int 1), (0, .ref h), (1, .int (nI k)), (2, .int (nI l)), (3, .int len)]) hx hb dX3_fly_107 hl (by decide) rfl (fun ls hl => ?_)
                    refine lv_aload_n hx hb dX3_fly_109 rfl (lv_at hl 3 rfl) ?_
                    refine lv_iload hx hb dX3_fly_110 (lv_at hl 2 rfl) ?_
                    refine lv_if_ne (tgt := 119) hx hb dX3_fly_112 (by decide) (fun _ => ?_) (fun c_112 => absurd c_112 (by decide))
                    refine lv_iload hx hb dX3_fly_119 (lv_at hl 1 rfl) ?_
                    refine lv_if_ne (tgt := 128) hx hb dX3_fly_121 (by decide) (fun _ => ?_) (fun c_121 => absurd c_121 (bi_nz.mpr c_39))
                    refine lv_iload hx hb dX3_fly_128 (lv_at hl 0 rfl) ?_
                    refine lv_if_eq (tgt := 137) hx hb dX3_fly_130 (by decide) (fun _ => ?_) (fun c_130 => absurd (by decide) c_130)
                    refine lv_iconst (v := 3) hx hb dX3_fly_137 (by decide) ?_
                    refine va_calli (va_runV (As := [.int 3]) (rest := []) ⟨hx, hb, hml, hown, hts⟩ (c_X3_holds l9 dC dI s.heap.size h a th n p F 3) (cwV 1 hts gX3_fly_X3_holds rfl rfl rfl (by decide +kernel) ⟨Nat.le_of_ble_eq_true rfl, Nat.le_of_ble_eq_true rfl⟩) ⟨PWr.blind, va_recv hK hP (ci := 3) (q0 := 0) rfl rfl, PWr.pre hP hK hD hE ((hH.kept hS.2.1).narrow (A_in hD hS hA))⟩ rfl rfl hl.1 rfl (lv_room (Nat.le_of_ble_eq_true rfl)) dX3_fly_138 ⟨Nat.le_of_ble_eq_true rfl, Nat.le_of_ble_eq_true rfl⟩) hS (fun q _ hq => A_in hD hS hA q hq) (A_in hD hS hA) (fun r9 u9 t9 H locs ht9 hvm hw9 hB hz1 hk1 hS => ?_)
                    have hP : va_P (dC, dI) vwCl (rW cI cZ h a 3 n p F) H := by rw [← ht9]; exact hB
                    have hD : va_D A (rW cI cZ h a 3 n p F) := D_same hD rfl
                    refine W_top (y := .int (bi (3 = 0))) (congrArg Value.int hw9) ?_
                    refine W_top (y := .int 0) (congrArg Value.int (bi_f (by decide))) ?_
                    refine lv_if_ne (tgt := 146) hx hb dX3_fly_141 (by decide) (fun c_141 => absurd (by decide) c_141) (fun _ => ?_)
                    refine lv_iconst (v := 0) hx hb dX3_fly_144 (by decide) ?_
                    have hS9 : S_fly n F (nI k) (nI l) len = (3, 0, F) := by simp only [S_fly, hixk, hixl]; rw [if_pos c_39]; exact if_neg (fun q => c_99 q.2.2.2.2.2)
                    exact W.iret (v := 0) hx hb hr (fun t ht hW => ⟨⟨_, (), rfl, (by rw [hS9]), by show va_P _ _ _ t.heap; rw [hS9, ht]; exact hP⟩, hS.F ht⟩) hS.2.2 dX3_fly_145
                  · skip
                    have c_99 := bi_nz.mp c_99
                    refine lv_iconst (v := 1) hx hb dX3_fly_102 (by decide) ?_
                    refine lv_goto (tgt := 107) hx hb dX3_fly_103 (by decide) ?_
                    refine lv_istore (lv' := [(6, .int 1), (5, .int (bi (10 ≤ len ∧ len ≤ 100))), (4, .int 1), (0, .ref h), (1, .int (nI k)), (2, .int (nI l)), (3, .int len)]) hx hb dX3_fly_107 hl (by decide) rfl (fun ls hl => ?_)
                    refine lv_aload_n hx hb dX3_fly_109 rfl (lv_at hl 3 rfl) ?_
                    refine lv_iload hx hb dX3_fly_110 (lv_at hl 2 rfl) ?_
                    refine lv_if_ne (tgt := 119) hx hb dX3_fly_112 (by decide) (fun _ => ?_) (fun c_112 => absurd c_112 (by decide))
                    refine lv_iload hx hb dX3_fly_119 (lv_at hl 1 rfl) ?_
                    refine lv_if_ne (tgt := 128) hx hb dX3_fly_121 (by decide) (fun _ => ?_) (fun c_121 => absurd c_121 (bi_nz.mpr c_39))
                    refine lv_iload hx hb dX3_fly_128 (lv_at hl 0 rfl) ?_
                    refine lv_if_eq (tgt := 137) hx hb dX3_fly_130 (by decide) (fun c_130 => absurd c_130 (by decide)) (fun _ => ?_)
                    refine lv_iconst (v := 0) hx hb dX3_fly_133 (by decide) ?_
                    refine lv_goto (tgt := 138) hx hb dX3_fly_134 (by decide) ?_
                    refine va_calli (va_runV (As := [.int 0]) (rest := []) ⟨hx, hb, hml, hown, hts⟩ (c_X3_holds l9 dC dI s.heap.size h a th n p F 0) (cwV 1 hts gX3_fly_X3_holds rfl rfl rfl (by decide +kernel) ⟨Nat.le_of_ble_eq_true rfl, Nat.le_of_ble_eq_true rfl⟩) ⟨PWr.blind, va_recv hK hP (ci := 3) (q0 := 0) rfl rfl, PWr.pre hP hK hD hE ((hH.kept hS.2.1).narrow (A_in hD hS hA))⟩ rfl rfl hl.1 rfl (lv_room (Nat.le_of_ble_eq_true rfl)) dX3_fly_138 ⟨Nat.le_of_ble_eq_true rfl, Nat.le_of_ble_eq_true rfl⟩) hS (fun q _ hq => A_in hD hS hA q hq) (A_in hD hS hA) (fun r9 u9 t9 H locs ht9 hvm hw9 hB hz1 hk1 hS => ?_)
                    have hP : va_P (dC, dI) vwCl (rW cI cZ h a 0 n p F) H := by rw [← ht9]; exact hB
                    have hD : va_D A (rW cI cZ h a 0 n p F) := D_same hD rfl
                    refine W_top (y := .int (bi (0 = 0))) (congrArg Value.int hw9) ?_
                    refine W_top (y := .int 1) (congrArg Value.int (bi_t rfl)) ?_
                    refine lv_if_ne (tgt := 146) hx hb dX3_fly_141 (by decide) (fun _ => ?_) (fun c_141 => absurd c_141 (by decide))
                    refine lv_aload_n hx hb dX3_fly_146 rfl (lv_at hl 3 rfl) ?_
                    refine va_get (D := (dC, dI)) (ci := 3) (v := .ref (a 6)) (C := RX3) (T := TX3) (N := 16) hx hb hts hi3 hown hK hP 0 rfl rfl 8 (by decide) lk29 (fun _ h9 => h9) rfl dX3_fly_147 ?_
                    refine lv_iload_n hx hb dX3_fly_150 rfl (lv_at hl 4 rfl) ?_
                    refine lv_iload_n hx hb dX3_fly_151 rfl (lv_at hl 5 rfl) ?_
                    refine my_iast hx hb hK hP hD hS 7 0 rfl rfl (Nat.lt_of_lt_of_le hkn hn8) (Nat.le_of_ble_eq_true rfl) dX3_fly_152 (fun H locs hP hD hS => ?_)
                    have hP : va_P (dC, dI) vwCl (rW cI cZ h a 0 n p (up F 6 k (nI l))) H := hP
                    have hD : va_D A (rW cI cZ h a 0 n p (up F 6 k (nI l))) := hD
                    refine lv_aload_n hx hb dX3_fly_153 rfl (lv_at hl 3 rfl) ?_
                    refine va_get (D := (dC, dI)) (ci := 3) (v := .ref (a 7)) (C := RX3) (T := TX3) (N := 16) hx hb hts hi3 hown hK hP 0 rfl rfl 9 (by decide) lk32 (fun _ h9 => h9) rfl dX3_fly_154 ?_
                    refine lv_iload_n hx hb dX3_fly_157 rfl (lv_at hl 4 rfl) ?_
                    refine lv_iload_n hx hb dX3_fly_158 rfl (lv_at hl 6 rfl) ?_
                    refine my_iast hx hb hK hP hD hS 8 0 rfl rfl (Nat.lt_of_lt_of_le hkn hn8) (Nat.le_of_ble_eq_true rfl) dX3_fly_159 (fun H locs hP hD hS => ?_)
                    have hP : va_P (dC, dI) vwCl (rW cI cZ h a 0 n p (up (up F 6 k (nI l)) 7 k len)) H := hP
                    have hD : va_D A (rW cI cZ h a 0 n p (up (up F 6 k (nI l)) 7 k len)) := hD
                    refine lv_aload_n hx hb dX3_fly_160 rfl (lv_at hl 3 rfl) ?_
                    refine lv_iload_n hx hb dX3_fly_161 rfl (lv_at hl 4 rfl) ?_
                    refine vp_callSi (va_Run.run (va_runV (As := [.int (nI k)]) (rest := []) ⟨hx, hb, hml, hown, hts⟩ (c_X3_end l9 dC dI h a 0 n p (up (up F 6 k (nI l)) 7 k len) k (Nat.lt_of_lt_of_le hkn hn8) (hI.kd k hkn) (st_ok (F := F) c_80)) (cwV 1 hts gX3_fly_X3_end rfl rfl rfl (by decide +kernel) ⟨Nat.le_of_ble_eq_true rfl, Nat.le_of_ble_eq_true rfl⟩) ⟨PRo.blind, va_recv hK hP (ci := 3) (q0 := 0) rfl rfl, PRo.pre hP hK hE⟩ rfl rfl hl.1 rfl (lv_room (Nat.le_of_ble_eq_true rfl)) dX3_fly_162 ⟨Nat.le_of_ble_eq_true rfl, Nat.le_of_ble_eq_true rfl⟩)) (fun r hr => ?_)
                    subst hr
                    refine W_top (y := .int (ed (up (up F 6 k (nI l)) 7 k len) k)) (rfl) ?_
                    refine W_top (y := .int (en F k (nI l) len)) (congrArg Value.int ed_new) ?_
                    have hS9 : S_fly n F (nI k) (nI l) len = (0, en F k (nI l) len, up (up F 6 k (nI l)) 7 k len) := by simp only [S_fly, hixk, hixl]; rw [if_pos c_39]; exact if_pos ⟨c_49, c_58, c_68, c_80, (lk_oI hn8).mp c_89, c_99⟩
                    exact W.iret (v := en F k (nI l) len) hx hb hr (fun t ht hW => ⟨⟨_, (), rfl, (by rw [hS9]), by show va_P _ _ _ t.heap; rw [hS9, ht]; exact hP⟩, hS.F ht⟩) hS.2.2 dX3_fly_165
    · skip
      refine lv_aload_n hx hb dX3_fly_0 rfl (lv_at hl 0 rfl) ?_
      refine lv_iload_n hx hb dX3_fly_1 rfl (lv_at hl 1 rfl) ?_
      refine vp_callSi (va_Run.run (va_runV (As := [.int (nI k)]) (rest := []) ⟨hx, hb, hml, hown, hts⟩ (c_X3_isKite l9 dC dI h a th n p F (nI k) hn8) (cwV 1 hts gX3_fly_X3_isKite rfl rfl rfl (by decide +kernel) ⟨Nat.le_of_ble_eq_true rfl, Nat.le_of_ble_eq_true rfl⟩) ⟨PRo.blind, va_recv hK hP (ci := 3) (q0 := 0) rfl rfl, PRo.pre hP hK hE⟩ rfl rfl hl.1 rfl (lv_room (Nat.le_of_ble_eq_true rfl)) dX3_fly_2 ⟨Nat.le_of_ble_eq_true rfl, Nat.le_of_ble_eq_true rfl⟩)) (fun r hr => ?_)
      subst hr
      refine lv_if_eq (tgt := 19) hx hb dX3_fly_5 (by decide) (fun c_5 => absurd c_5 (bi_nz.mpr (inR_nI hkn (by omega)))) (fun _ => ?_)
      refine lv_iload_n hx hb dX3_fly_8 rfl (lv_at hl 2 rfl) ?_
      refine vp_callSi (va_Run.run (va_runS (As := [.int ln]) (rest := []) ⟨hx, hb, hml, hown, hts⟩ (c_X3_isLane l9 ln) (va_cwS 1 hts gX3_fly_X3_isLane rfl rfl rfl (by decide +kernel) ⟨Nat.le_of_ble_eq_true rfl, Nat.le_of_ble_eq_true rfl⟩) ⟨fun a U g mk q => q, fun U hU hW => ⟨rfl, trivial⟩⟩ rfl rfl hl.1 rfl (lv_room (Nat.le_of_ble_eq_true rfl)) dX3_fly_9 ⟨Nat.le_of_ble_eq_true rfl, Nat.le_of_ble_eq_true rfl⟩)) (fun r hr => ?_)
      subst hr
      refine lv_if_eq (tgt := 19) hx hb dX3_fly_12 (by decide) (fun _ => ?_) (fun c_12 => absurd (bi_f hno2) c_12)
      refine lv_iconst (v := 0) hx hb dX3_fly_19 (by decide) ?_
      refine lv_istore (lv' := [(4, .int 0), (0, .ref h), (1, .int (nI k)), (2, .int ln), (3, .int len)]) hx hb dX3_fly_20 hl (by decide) rfl (fun ls hl => ?_)
      refine lv_iload_n hx hb dX3_fly_22 rfl (lv_at hl 4 rfl) ?_
      refine lv_bipush (v := 10) hx hb dX3_fly_23 (by decide) ?_
      refine lv_bipush (v := 100) hx hb dX3_fly_25 (by decide) ?_
      refine vp_callSi (va_Run.run (va_runS (As := [.int len, .int 10, .int 100]) (rest := []) ⟨hx, hb, hml, hown, hts⟩ (c_X3_isIn l9 len 10 100) (va_cwS 3 hts gX3_fly_X3_isIn rfl rfl rfl (by decide +kernel) ⟨Nat.le_of_ble_eq_true rfl, Nat.le_of_ble_eq_true rfl⟩) ⟨fun a U g mk q => q, fun U hU hW => ⟨rfl, trivial⟩⟩ rfl rfl hl.1 rfl (lv_room (Nat.le_of_ble_eq_true rfl)) dX3_fly_27 ⟨Nat.le_of_ble_eq_true rfl, Nat.le_of_ble_eq_true rfl⟩)) (fun r hr => ?_)
      subst hr
      refine lv_istore (lv' := [(5, .int (bi (10 ≤ len ∧ len ≤ 100))), (4, .int 0), (0, .ref h), (1, .int (nI k)), (2, .int ln), (3, .int len)]) hx hb dX3_fly_30 hl (by decide) rfl (fun ls hl => ?_)
      refine lv_iload hx hb dX3_fly_32 (lv_at hl 1 rfl) ?_
      refine lv_if_eq (tgt := 106) hx hb dX3_fly_34 (by decide) (fun _ => ?_) (fun c_34 => absurd (by decide) c_34)
      refine lv_iconst (v := 0) hx hb dX3_fly_106 (by decide) ?_
      refine lv_istore (lv' := [(6, .int 0), (5, .int (bi (10 ≤ len ∧ len ≤ 100))), (4, .int 0), (0, .ref h), (1, .int (nI k)), (2, .int ln), (3, .int len)]) hx hb dX3_fly_107 hl (by decide) rfl (fun ls hl => ?_)
      refine lv_aload_n hx hb dX3_fly_109 rfl (lv_at hl 3 rfl) ?_
      refine lv_iload hx hb dX3_fly_110 (lv_at hl 2 rfl) ?_
      refine lv_if_ne (tgt := 119) hx hb dX3_fly_112 (by decide) (fun c_112 => absurd (by decide) c_112) (fun _ => ?_)
      refine lv_iconst (v := 1) hx hb dX3_fly_115 (by decide) ?_
      refine lv_goto (tgt := 138) hx hb dX3_fly_116 (by decide) ?_
      refine va_calli (va_runV (As := [.int 1]) (rest := []) ⟨hx, hb, hml, hown, hts⟩ (c_X3_holds l9 dC dI s.heap.size h a th n p F 1) (cwV 1 hts gX3_fly_X3_holds rfl rfl rfl (by decide +kernel) ⟨Nat.le_of_ble_eq_true rfl, Nat.le_of_ble_eq_true rfl⟩) ⟨PWr.blind, va_recv hK hP (ci := 3) (q0 := 0) rfl rfl, PWr.pre hP hK hD hE ((hH.kept hS.2.1).narrow (A_in hD hS hA))⟩ rfl rfl hl.1 rfl (lv_room (Nat.le_of_ble_eq_true rfl)) dX3_fly_138 ⟨Nat.le_of_ble_eq_true rfl, Nat.le_of_ble_eq_true rfl⟩) hS (fun q _ hq => A_in hD hS hA q hq) (A_in hD hS hA) (fun r9 u9 t9 H locs ht9 hvm hw9 hB hz1 hk1 hS => ?_)
      have hP : va_P (dC, dI) vwCl (rW cI cZ h a 1 n p F) H := by rw [← ht9]; exact hB
      have hD : va_D A (rW cI cZ h a 1 n p F) := D_same hD rfl
      refine W_top (y := .int (bi (1 = 0))) (congrArg Value.int hw9) ?_
      refine W_top (y := .int 0) (congrArg Value.int (bi_f (by decide))) ?_
      refine lv_if_ne (tgt := 146) hx hb dX3_fly_141 (by decide) (fun c_141 => absurd (by decide) c_141) (fun _ => ?_)
      refine lv_iconst (v := 0) hx hb dX3_fly_144 (by decide) ?_
      have hS9 : S_fly n F (nI k) ln len = (1, 0, F) := by simp only [S_fly, hixk, ix_f hno2]
      exact W.iret (v := 0) hx hb hr (fun t ht hW => ⟨⟨_, (), rfl, (by rw [hS9]), by show va_P _ _ _ t.heap; rw [hS9, ht]; exact hP⟩, hS.F ht⟩) hS.2.2 dX3_fly_145
  · skip
    refine lv_aload_n hx hb dX3_fly_0 rfl (lv_at hl 0 rfl) ?_
    refine lv_iload_n hx hb dX3_fly_1 rfl (lv_at hl 1 rfl) ?_
    refine vp_callSi (va_Run.run (va_runV (As := [.int its]) (rest := []) ⟨hx, hb, hml, hown, hts⟩ (c_X3_isKite l9 dC dI h a th n p F its hn8) (cwV 1 hts gX3_fly_X3_isKite rfl rfl rfl (by decide +kernel) ⟨Nat.le_of_ble_eq_true rfl, Nat.le_of_ble_eq_true rfl⟩) ⟨PRo.blind, va_recv hK hP (ci := 3) (q0 := 0) rfl rfl, PRo.pre hP hK hE⟩ rfl rfl hl.1 rfl (lv_room (Nat.le_of_ble_eq_true rfl)) dX3_fly_2 ⟨Nat.le_of_ble_eq_true rfl, Nat.le_of_ble_eq_true rfl⟩)) (fun r hr => ?_)
    subst hr
    refine lv_if_eq (tgt := 19) hx hb dX3_fly_5 (by decide) (fun _ => ?_) (fun c_5 => absurd (bi_f hno) c_5)
    refine lv_iconst (v := 0) hx hb dX3_fly_19 (by decide) ?_
    refine lv_istore (lv' := [(4, .int 0), (0, .ref h), (1, .int its), (2, .int ln), (3, .int len)]) hx hb dX3_fly_20 hl (by decide) rfl (fun ls hl => ?_)
    refine lv_iload_n hx hb dX3_fly_22 rfl (lv_at hl 4 rfl) ?_
    refine lv_bipush (v := 10) hx hb dX3_fly_23 (by decide) ?_
    refine lv_bipush (v := 100) hx hb dX3_fly_25 (by decide) ?_
    refine vp_callSi (va_Run.run (va_runS (As := [.int len, .int 10, .int 100]) (rest := []) ⟨hx, hb, hml, hown, hts⟩ (c_X3_isIn l9 len 10 100) (va_cwS 3 hts gX3_fly_X3_isIn rfl rfl rfl (by decide +kernel) ⟨Nat.le_of_ble_eq_true rfl, Nat.le_of_ble_eq_true rfl⟩) ⟨fun a U g mk q => q, fun U hU hW => ⟨rfl, trivial⟩⟩ rfl rfl hl.1 rfl (lv_room (Nat.le_of_ble_eq_true rfl)) dX3_fly_27 ⟨Nat.le_of_ble_eq_true rfl, Nat.le_of_ble_eq_true rfl⟩)) (fun r hr => ?_)
    subst hr
    refine lv_istore (lv' := [(5, .int (bi (10 ≤ len ∧ len ≤ 100))), (4, .int 0), (0, .ref h), (1, .int its), (2, .int ln), (3, .int len)]) hx hb dX3_fly_30 hl (by decide) rfl (fun ls hl => ?_)
    refine lv_iload hx hb dX3_fly_32 (lv_at hl 1 rfl) ?_
    refine lv_if_eq (tgt := 106) hx hb dX3_fly_34 (by decide) (fun _ => ?_) (fun c_34 => absurd (by decide) c_34)
    refine lv_iconst (v := 0) hx hb dX3_fly_106 (by decide) ?_
    refine lv_istore (lv' := [(6, .int 0), (5, .int (bi (10 ≤ len ∧ len ≤ 100))), (4, .int 0), (0, .ref h), (1, .int its), (2, .int ln), (3, .int len)]) hx hb dX3_fly_107 hl (by decide) rfl (fun ls hl => ?_)
    refine lv_aload_n hx hb dX3_fly_109 rfl (lv_at hl 3 rfl) ?_
    refine lv_iload hx hb dX3_fly_110 (lv_at hl 2 rfl) ?_
    refine lv_if_ne (tgt := 119) hx hb dX3_fly_112 (by decide) (fun c_112 => absurd (by decide) c_112) (fun _ => ?_)
    refine lv_iconst (v := 1) hx hb dX3_fly_115 (by decide) ?_
    refine lv_goto (tgt := 138) hx hb dX3_fly_116 (by decide) ?_
    refine va_calli (va_runV (As := [.int 1]) (rest := []) ⟨hx, hb, hml, hown, hts⟩ (c_X3_holds l9 dC dI s.heap.size h a th n p F 1) (cwV 1 hts gX3_fly_X3_holds rfl rfl rfl (by decide +kernel) ⟨Nat.le_of_ble_eq_true rfl, Nat.le_of_ble_eq_true rfl⟩) ⟨PWr.blind, va_recv hK hP (ci := 3) (q0 := 0) rfl rfl, PWr.pre hP hK hD hE ((hH.kept hS.2.1).narrow (A_in hD hS hA))⟩ rfl rfl hl.1 rfl (lv_room (Nat.le_of_ble_eq_true rfl)) dX3_fly_138 ⟨Nat.le_of_ble_eq_true rfl, Nat.le_of_ble_eq_true rfl⟩) hS (fun q _ hq => A_in hD hS hA q hq) (A_in hD hS hA) (fun r9 u9 t9 H locs ht9 hvm hw9 hB hz1 hk1 hS => ?_)
    have hP : va_P (dC, dI) vwCl (rW cI cZ h a 1 n p F) H := by rw [← ht9]; exact hB
    have hD : va_D A (rW cI cZ h a 1 n p F) := D_same hD rfl
    refine W_top (y := .int (bi (1 = 0))) (congrArg Value.int hw9) ?_
    refine W_top (y := .int 0) (congrArg Value.int (bi_f (by decide))) ?_
    refine lv_if_ne (tgt := 146) hx hb dX3_fly_141 (by decide) (fun c_141 => absurd (by decide) c_141) (fun _ => ?_)
    refine lv_iconst (v := 0) hx hb dX3_fly_144 (by decide) ?_
    have hS9 : S_fly n F its ln len = (1, 0, F) := by rw [S_fly, ix_f hno]
    exact W.iret (v := 0) hx hb hr (fun t ht hW => ⟨⟨_, (), rfl, (by rw [hS9]), by show va_P _ _ _ t.heap; rw [hS9, ht]; exact hP⟩, hS.F ht⟩) hS.2.2 dX3_fly_145

set_option maxHeartbeats 4000000 in
set_option maxRecDepth 100000 in
theorem c_X3_land (l9 : Launch) (dC : Nat → ClassId) (dI : Nat → Nat → Nat) (sz : Nat) {cI cZ : ClassId} (h : Nat) (a : Nat → Nat) (th : Int32) (n p : Nat) (F : Rows) (its : Int32) (hI : Inv n p F) : Met l9 yX3_land wsX3_land ({ frames := 2, cells := 0, slots := 0, locals := 43 }) (va_Pc [.ref h, .int its] (PWr dC dI [(cI, .int), (cZ, .boolean)] (rW cI cZ h a th n p F) sz)) (va_Qi (fun r9 (_ : Unit) => r9 = (S_land n F its).2.1) (fun _ t => va_P (dC, dI) vwCl (rW cI cZ h a ((S_land n F its).1) n p ((S_land n F its).2.2)) t.heap) (va_A (rW cI cZ h a th n p F) sz)) 0 0 (va_A (rW cI cZ h a th n p F) sz) := by
  refine Met.ofW (cc := cX3_land) (maxL := 4) (ret := (some .int)) (by decide) rfl ?_
  intro p9 e9 s m args below meth c s₁ B hml hv
  obtain ⟨rfl, hsz, hP, hK, hD0, hE, hH⟩ := hv
  have hx := B.exec
  have hb := B.bytes
  have hr := B.returns
  have hts := atoms_spec (ws := wsX3_land) B.pre
  have hown : s.vm.findClass RX3 = some m.cls := findClass_of_methodNamed B.named
  have hlocks := B.notSynchronized
  have hi3 : ∀ w ∈ u_ws RX3 TX3 16, w ∈ wsX3_land := by decide +kernel
  have lk29 := hts (.fieldLink RX3 29 "WindlaneModel" "laneOf" "[I") (by decide +kernel)
  subst hsz
  have hD := hD0.self (sz := s.heap.size)
  generalize hAe : va_A (rW cI cZ h a th n p F) s.heap.size = A at hD hH ⊢
  have hA : ∀ q : Nat, s.heap.size ≤ q → A q := fun q h => by rw [← hAe]; exact Or.inr h
  have hS : va_S A s.heap s.heap [] := va_S.rf
  have hP : va_P (dC, dI) vwCl (rW cI cZ h a th n p F) s.heap := hP
  have hn8 : n ≤ 8 := hI.1.1
  have hp8 : p ≤ 8 := hI.1.2
  have hl := lv_entry ([.ref h, .int its]) (n := 4) (Nat.le_of_ble_eq_true rfl)
  rw [lg_entry_eq]
  generalize (lg_sl ([.ref h, .int its]) ++ List.replicate (4 - (lg_sl ([.ref h, .int its])).length) Slot.unset).toArray = ls at hl ⊢
  have hl : lv_has ls 4 [(0, .ref h), (1, .int its)] := hl
  rcases inR_cases n its with ⟨k, hkn, rfl⟩ | hno
  · skip
    have hixk : ix n (nI k) = some k := ix_t hkn (by omega)
    refine lv_aload_n hx hb dX3_land_0 rfl (lv_at hl 0 rfl) ?_
    refine lv_iload_n hx hb dX3_land_1 rfl (lv_at hl 1 rfl) ?_
    refine vp_callSi (va_Run.run (va_runV (As := [.int (nI k)]) (rest := []) ⟨hx, hb, hml, hown, hts⟩ (c_X3_isKite l9 dC dI h a th n p F (nI k) hn8) (cwV 1 hts gX3_land_X3_isKite rfl rfl rfl (by decide +kernel) ⟨Nat.le_of_ble_eq_true rfl, Nat.le_of_ble_eq_true rfl⟩) ⟨PRo.blind, va_recv hK hP (ci := 3) (q0 := 0) rfl rfl, PRo.pre hP hK hE⟩ rfl rfl hl.1 rfl (lv_room (Nat.le_of_ble_eq_true rfl)) dX3_land_2 ⟨Nat.le_of_ble_eq_true rfl, Nat.le_of_ble_eq_true rfl⟩)) (fun r hr => ?_)
    subst hr
    refine lv_istore_n (lv' := [(2, .int (bi (inR n (nI k)))), (0, .ref h), (1, .int (nI k))]) hx hb dX3_land_5 rfl hl (by decide) rfl (fun ls hl => ?_)
    refine lv_aload_n hx hb dX3_land_6 rfl (lv_at hl 1 rfl) ?_
    refine lv_iload_n hx hb dX3_land_7 rfl (lv_at hl 0 rfl) ?_
    refine lv_if_ne (tgt := 15) hx hb dX3_land_8 (by decide) (fun _ => ?_) (fun c_8 => absurd c_8 (bi_nz.mpr (inR_nI hkn (by omega))))
    refine lv_aload_n hx hb dX3_land_15 rfl (lv_at hl 1 rfl) ?_
    refine va_get (D := (dC, dI)) (ci := 3) (v := .ref (a 6)) (C := RX3) (T := TX3) (N := 16) hx hb hts hi3 hown hK hP 0 rfl rfl 8 (by decide) lk29 (fun _ h9 => h9) rfl dX3_land_16 ?_
    refine lv_iload_n hx hb dX3_land_19 rfl (lv_at hl 2 rfl) ?_
    refine my_iald hx hb hK hP 7 0 rfl rfl (Nat.lt_of_lt_of_le hkn hn8) (Nat.le_of_ble_eq_true rfl) dX3_land_20 ?_
    refine W_top (y := .int (F 6 k)) (rfl) ?_
    refine lv_iconst (v := (-1)) hx hb dX3_land_21 (by decide) ?_
    refine lv_icmp_ne (tgt := 29) hx hb dX3_land_22 (by decide) (fun c_22 => ?_) (fun c_22 => ?_)
    · skip
      refine lv_iconst (v := 0) hx hb dX3_land_29 (by decide) ?_
      refine va_calli (va_runV (As := [.int 0]) (rest := []) ⟨hx, hb, hml, hown, hts⟩ (c_X3_holds l9 dC dI s.heap.size h a th n p F 0) (cwV 1 hts gX3_land_X3_holds rfl rfl rfl (by decide +kernel) ⟨Nat.le_of_ble_eq_true rfl, Nat.le_of_ble_eq_true rfl⟩) ⟨PWr.blind, va_recv hK hP (ci := 3) (q0 := 0) rfl rfl, PWr.pre hP hK hD hE ((hH.kept hS.2.1).narrow (A_in hD hS hA))⟩ rfl rfl hl.1 rfl (lv_room (Nat.le_of_ble_eq_true rfl)) dX3_land_30 ⟨Nat.le_of_ble_eq_true rfl, Nat.le_of_ble_eq_true rfl⟩) hS (fun q _ hq => A_in hD hS hA q hq) (A_in hD hS hA) (fun r9 u9 t9 H locs ht9 hvm hw9 hB hz1 hk1 hS => ?_)
      have hP : va_P (dC, dI) vwCl (rW cI cZ h a 0 n p F) H := by rw [← ht9]; exact hB
      have hD : va_D A (rW cI cZ h a 0 n p F) := D_same hD rfl
      refine W_top (y := .int (bi (0 = 0))) (congrArg Value.int hw9) ?_
      refine W_top (y := .int 1) (congrArg Value.int (bi_t rfl)) ?_
      refine lv_if_ne (tgt := 38) hx hb dX3_land_33 (by decide) (fun _ => ?_) (fun c_33 => absurd c_33 (by decide))
      refine lv_aload_n hx hb dX3_land_38 rfl (lv_at hl 1 rfl) ?_
      refine va_get (D := (dC, dI)) (ci := 3) (v := .ref (a 6)) (C := RX3) (T := TX3) (N := 16) hx hb hts hi3 hown hK hP 0 rfl rfl 8 (by decide) lk29 (fun _ h9 => h9) rfl dX3_land_39 ?_
      refine lv_iload_n hx hb dX3_land_42 rfl (lv_at hl 2 rfl) ?_
      refine my_iald hx hb hK hP 7 0 rfl rfl (Nat.lt_of_lt_of_le hkn hn8) (Nat.le_of_ble_eq_true rfl) dX3_land_43 ?_
      refine W_top (y := .int (F 6 k)) (rfl) ?_
      refine lv_istore_n (lv' := [(3, .int (F 6 k)), (2, .int (bi (inR n (nI k)))), (0, .ref h), (1, .int (nI k))]) hx hb dX3_land_44 rfl hl (by decide) rfl (fun ls hl => ?_)
      refine lv_aload_n hx hb dX3_land_45 rfl (lv_at hl 2 rfl) ?_
      refine va_get (D := (dC, dI)) (ci := 3) (v := .ref (a 6)) (C := RX3) (T := TX3) (N := 16) hx hb hts hi3 hown hK hP 0 rfl rfl 8 (by decide) lk29 (fun _ h9 => h9) rfl dX3_land_46 ?_
      refine lv_iload_n hx hb dX3_land_49 rfl (lv_at hl 3 rfl) ?_
      refine lv_iconst (v := (-1)) hx hb dX3_land_50 (by decide) ?_
      refine my_iast hx hb hK hP hD hS 7 0 rfl rfl (Nat.lt_of_lt_of_le hkn hn8) (Nat.le_of_ble_eq_true rfl) dX3_land_51 (fun H locs hP hD hS => ?_)
      have hP : va_P (dC, dI) vwCl (rW cI cZ h a 0 n p (up F 6 k (-1))) H := hP
      have hD : va_D A (rW cI cZ h a 0 n p (up F 6 k (-1))) := hD
      refine lv_iload_n hx hb dX3_land_52 rfl (lv_at hl 0 rfl) ?_
      have hS9 : S_land n F (nI k) = (0, F 6 k, up F 6 k (-1)) := by rw [S_land, hixk]; exact if_neg c_22
      exact W.iret (v := F 6 k) hx hb hr (fun t ht hW => ⟨⟨_, (), rfl, (by rw [hS9]), by show va_P _ _ _ t.heap; rw [hS9, ht]; exact hP⟩, hS.F ht⟩) hS.2.2 dX3_land_53
    · skip
      refine lv_iconst (v := 2) hx hb dX3_land_25 (by decide) ?_
      refine lv_goto (tgt := 30) hx hb dX3_land_26 (by decide) ?_
      refine va_calli (va_runV (As := [.int 2]) (rest := []) ⟨hx, hb, hml, hown, hts⟩ (c_X3_holds l9 dC dI s.heap.size h a th n p F 2) (cwV 1 hts gX3_land_X3_holds rfl rfl rfl (by decide +kernel) ⟨Nat.le_of_ble_eq_true rfl, Nat.le_of_ble_eq_true rfl⟩) ⟨PWr.blind, va_recv hK hP (ci := 3) (q0 := 0) rfl rfl, PWr.pre hP hK hD hE ((hH.kept hS.2.1).narrow (A_in hD hS hA))⟩ rfl rfl hl.1 rfl (lv_room (Nat.le_of_ble_eq_true rfl)) dX3_land_30 ⟨Nat.le_of_ble_eq_true rfl, Nat.le_of_ble_eq_true rfl⟩) hS (fun q _ hq => A_in hD hS hA q hq) (A_in hD hS hA) (fun r9 u9 t9 H locs ht9 hvm hw9 hB hz1 hk1 hS => ?_)
      have hP : va_P (dC, dI) vwCl (rW cI cZ h a 2 n p F) H := by rw [← ht9]; exact hB
      have hD : va_D A (rW cI cZ h a 2 n p F) := D_same hD rfl
      refine W_top (y := .int (bi (2 = 0))) (congrArg Value.int hw9) ?_
      refine W_top (y := .int 0) (congrArg Value.int (bi_f (by decide))) ?_
      refine lv_if_ne (tgt := 38) hx hb dX3_land_33 (by decide) (fun c_33 => absurd (by decide) c_33) (fun _ => ?_)
      refine lv_iconst (v := 0) hx hb dX3_land_36 (by decide) ?_
      have hS9 : S_land n F (nI k) = (2, 0, F) := by rw [S_land, hixk]; exact if_pos c_22
      exact W.iret (v := 0) hx hb hr (fun t ht hW => ⟨⟨_, (), rfl, (by rw [hS9]), by show va_P _ _ _ t.heap; rw [hS9, ht]; exact hP⟩, hS.F ht⟩) hS.2.2 dX3_land_37
  · skip
    refine lv_aload_n hx hb dX3_land_0 rfl (lv_at hl 0 rfl) ?_
    refine lv_iload_n hx hb dX3_land_1 rfl (lv_at hl 1 rfl) ?_
    refine vp_callSi (va_Run.run (va_runV (As := [.int its]) (rest := []) ⟨hx, hb, hml, hown, hts⟩ (c_X3_isKite l9 dC dI h a th n p F its hn8) (cwV 1 hts gX3_land_X3_isKite rfl rfl rfl (by decide +kernel) ⟨Nat.le_of_ble_eq_true rfl, Nat.le_of_ble_eq_true rfl⟩) ⟨PRo.blind, va_recv hK hP (ci := 3) (q0 := 0) rfl rfl, PRo.pre hP hK hE⟩ rfl rfl hl.1 rfl (lv_room (Nat.le_of_ble_eq_true rfl)) dX3_land_2 ⟨Nat.le_of_ble_eq_true rfl, Nat.le_of_ble_eq_true rfl⟩)) (fun r hr => ?_)
    subst hr
    refine lv_istore_n (lv' := [(2, .int (bi (inR n its))), (0, .ref h), (1, .int its)]) hx hb dX3_land_5 rfl hl (by decide) rfl (fun ls hl => ?_)
    refine lv_aload_n hx hb dX3_land_6 rfl (lv_at hl 1 rfl) ?_
    refine lv_iload_n hx hb dX3_land_7 rfl (lv_at hl 0 rfl) ?_
    refine lv_if_ne (tgt := 15) hx hb dX3_land_8 (by decide) (fun c_8 => absurd (bi_f hno) c_8) (fun _ => ?_)
    refine lv_iconst (v := 1) hx hb dX3_land_11 (by decide) ?_
    refine lv_goto (tgt := 30) hx hb dX3_land_12 (by decide) ?_
    refine va_calli (va_runV (As := [.int 1]) (rest := []) ⟨hx, hb, hml, hown, hts⟩ (c_X3_holds l9 dC dI s.heap.size h a th n p F 1) (cwV 1 hts gX3_land_X3_holds rfl rfl rfl (by decide +kernel) ⟨Nat.le_of_ble_eq_true rfl, Nat.le_of_ble_eq_true rfl⟩) ⟨PWr.blind, va_recv hK hP (ci := 3) (q0 := 0) rfl rfl, PWr.pre hP hK hD hE ((hH.kept hS.2.1).narrow (A_in hD hS hA))⟩ rfl rfl hl.1 rfl (lv_room (Nat.le_of_ble_eq_true rfl)) dX3_land_30 ⟨Nat.le_of_ble_eq_true rfl, Nat.le_of_ble_eq_true rfl⟩) hS (fun q _ hq => A_in hD hS hA q hq) (A_in hD hS hA) (fun r9 u9 t9 H locs ht9 hvm hw9 hB hz1 hk1 hS => ?_)
    have hP : va_P (dC, dI) vwCl (rW cI cZ h a 1 n p F) H := by rw [← ht9]; exact hB
    have hD : va_D A (rW cI cZ h a 1 n p F) := D_same hD rfl
    refine W_top (y := .int (bi (1 = 0))) (congrArg Value.int hw9) ?_
    refine W_top (y := .int 0) (congrArg Value.int (bi_f (by decide))) ?_
    refine lv_if_ne (tgt := 38) hx hb dX3_land_33 (by decide) (fun c_33 => absurd (by decide) c_33) (fun _ => ?_)
    refine lv_iconst (v := 0) hx hb dX3_land_36 (by decide) ?_
    have hS9 : S_land n F its = (1, 0, F) := by rw [S_land, ix_f hno]
    exact W.iret (v := 0) hx hb hr (fun t ht hW => ⟨⟨_, (), rfl, (by rw [hS9]), by show va_P _ _ _ t.heap; rw [hS9, ht]; exact hP⟩, hS.F ht⟩) hS.2.2 dX3_land_37

set_option maxHeartbeats 4000000 in
set_option maxRecDepth 100000 in
theorem c_X3_wind (l9 : Launch) (dC : Nat → ClassId) (dI : Nat → Nat → Nat) (sz : Nat) {cI cZ : ClassId} (h : Nat) (a : Nat → Nat) (th : Int32) (n p : Nat) (F : Rows) (sp sd : Int32) (hI : Inv n p F) : Met l9 yX3_wind wsX3_wind ({ frames := 4, cells := 0, slots := 0, locals := 91 }) (va_Pc [.ref h, .int sp, .int sd] (PWr dC dI [(cI, .int), (cZ, .boolean)] (rW cI cZ h a th n p F) sz)) (va_Qi (fun r9 (_ : Unit) => r9 = (S_wind n F sp sd).2.1) (fun _ t => va_P (dC, dI) vwCl (rW cI cZ h a ((S_wind n F sp sd).1) n p ((S_wind n F sp sd).2.2)) t.heap) (va_A (rW cI cZ h a th n p F) sz)) 0 0 (va_A (rW cI cZ h a th n p F) sz) := by
  refine Met.ofW (cc := cX3_wind) (maxL := 5) (ret := (some .int)) (by decide) rfl ?_
  intro p9 e9 s m args below meth c s₁ B hml hv
  obtain ⟨rfl, hsz, hP, hK, hD0, hE, hH⟩ := hv
  have hx := B.exec
  have hb := B.bytes
  have hr := B.returns
  have hts := atoms_spec (ws := wsX3_wind) B.pre
  have hown : s.vm.findClass RX3 = some m.cls := findClass_of_methodNamed B.named
  have hlocks := B.notSynchronized
  have hi3 : ∀ w ∈ u_ws RX3 TX3 16, w ∈ wsX3_wind := by decide +kernel
  have lk19 := hts (.fieldLink RX3 19 "WindlaneModel" "isTorn" "[Z") (by decide +kernel)
  have lk29 := hts (.fieldLink RX3 29 "WindlaneModel" "laneOf" "[I") (by decide +kernel)
  have lk42 := hts (.fieldLink RX3 42 "WindlaneModel" "kites" "I") (by decide +kernel)
  have lk56 := hts (.fieldLink RX3 56 "WindlaneModel" "side" "I") (by decide +kernel)
  have lk59 := hts (.fieldLink RX3 59 "WindlaneModel" "speed" "I") (by decide +kernel)
  have lk96 := hts (.fieldLink RX3 96 "WindlaneModel" "called" "I") (by decide +kernel)
  subst hsz
  have hD := hD0.self (sz := s.heap.size)
  generalize hAe : va_A (rW cI cZ h a th n p F) s.heap.size = A at hD hH ⊢
  have hA : ∀ q : Nat, s.heap.size ≤ q → A q := fun q h => by rw [← hAe]; exact Or.inr h
  have hS : va_S A s.heap s.heap [] := va_S.rf
  have hP : va_P (dC, dI) vwCl (rW cI cZ h a th n p F) s.heap := hP
  have hn8 : n ≤ 8 := hI.1.1
  have hp8 : p ≤ 8 := hI.1.2
  have hl := lv_entry ([.ref h, .int sp, .int sd]) (n := 5) (Nat.le_of_ble_eq_true rfl)
  rw [lg_entry_eq]
  generalize (lg_sl ([.ref h, .int sp, .int sd]) ++ List.replicate (5 - (lg_sl ([.ref h, .int sp, .int sd])).length) Slot.unset).toArray = ls at hl ⊢
  have hl : lv_has ls 5 [(0, .ref h), (1, .int sp), (2, .int sd)] := hl
  refine lv_aload_n hx hb dX3_wind_0 rfl (lv_at hl 0 rfl) ?_
  refine lv_iload_n hx hb dX3_wind_1 rfl (lv_at hl 1 rfl) ?_
  refine lv_iconst (v := 0) hx hb dX3_wind_2 (by decide) ?_
  refine lv_bipush (v := 30) hx hb dX3_wind_3 (by decide) ?_
  refine vp_callSi (va_Run.run (va_runS (As := [.int sp, .int 0, .int 30]) (rest := [.ref h]) ⟨hx, hb, hml, hown, hts⟩ (c_X3_isIn l9 sp 0 30) (va_cwS 3 hts gX3_wind_X3_isIn rfl rfl rfl (by decide +kernel) ⟨Nat.le_of_ble_eq_true rfl, Nat.le_of_ble_eq_true rfl⟩) ⟨fun a U g mk q => q, fun U hU hW => ⟨rfl, trivial⟩⟩ rfl rfl hl.1 rfl (lv_room (Nat.le_of_ble_eq_true rfl)) dX3_wind_5 ⟨Nat.le_of_ble_eq_true rfl, Nat.le_of_ble_eq_true rfl⟩)) (fun r hr => ?_)
  subst hr
  refine lv_if_eq (tgt := 25) hx hb dX3_wind_8 (by decide) (fun c_8 => ?_) (fun c_8 => ?_)
  · skip
    have c_8 := bi_z.mp c_8
    refine lv_iconst (v := 1) hx hb dX3_wind_25 (by decide) ?_
    refine va_calli (va_runV (As := [.int 1]) (rest := []) ⟨hx, hb, hml, hown, hts⟩ (c_X3_holds l9 dC dI s.heap.size h a th n p F 1) (cwV 1 hts gX3_wind_X3_holds rfl rfl rfl (by decide +kernel) ⟨Nat.le_of_ble_eq_true rfl, Nat.le_of_ble_eq_true rfl⟩) ⟨PWr.blind, va_recv hK hP (ci := 3) (q0 := 0) rfl rfl, PWr.pre hP hK hD hE ((hH.kept hS.2.1).narrow (A_in hD hS hA))⟩ rfl rfl hl.1 rfl (lv_room (Nat.le_of_ble_eq_true rfl)) dX3_wind_26 ⟨Nat.le_of_ble_eq_true rfl, Nat.le_of_ble_eq_true rfl⟩) hS (fun q _ hq => A_in hD hS hA q hq) (A_in hD hS hA) (fun r9 u9 t9 H locs ht9 hvm hw9 hB hz1 hk1 hS => ?_)
    have hP : va_P (dC, dI) vwCl (rW cI cZ h a 1 n p F) H := by rw [← ht9]; exact hB
    have hD : va_D A (rW cI cZ h a 1 n p F) := D_same hD rfl
    refine W_top (y := .int (bi (1 = 0))) (congrArg Value.int hw9) ?_
    refine W_top (y := .int 0) (congrArg Value.int (bi_f (by decide))) ?_
    refine lv_if_ne (tgt := 34) hx hb dX3_wind_29 (by decide) (fun c_29 => absurd (by decide) c_29) (fun _ => ?_)
    refine lv_iconst (v := 0) hx hb dX3_wind_32 (by decide) ?_
    have hS9 : S_wind n F sp sd = (1, 0, F) := by rw [S_wind]; exact if_neg (fun q => c_8 q.1)
    exact W.iret (v := 0) hx hb hr (fun t ht hW => ⟨⟨_, (), rfl, (by rw [hS9]), by show va_P _ _ _ t.heap; rw [hS9, ht]; exact hP⟩, hS.F ht⟩) hS.2.2 dX3_wind_33
  · skip
    have c_8 := bi_nz.mp c_8
    refine lv_iload_n hx hb dX3_wind_11 rfl (lv_at hl 2 rfl) ?_
    refine lv_bipush (v := (-5)) hx hb dX3_wind_12 (by decide) ?_
    refine lv_iconst (v := 5) hx hb dX3_wind_14 (by decide) ?_
    refine vp_callSi (va_Run.run (va_runS (As := [.int sd, .int (-5), .int 5]) (rest := [.ref h]) ⟨hx, hb, hml, hown, hts⟩ (c_X3_isIn l9 sd (-5) 5) (va_cwS 3 hts gX3_wind_X3_isIn rfl rfl rfl (by decide +kernel) ⟨Nat.le_of_ble_eq_true rfl, Nat.le_of_ble_eq_true rfl⟩) ⟨fun a U g mk q => q, fun U hU hW => ⟨rfl, trivial⟩⟩ rfl rfl hl.1 rfl (lv_room (Nat.le_of_ble_eq_true rfl)) dX3_wind_15 ⟨Nat.le_of_ble_eq_true rfl, Nat.le_of_ble_eq_true rfl⟩)) (fun r hr => ?_)
    subst hr
    refine lv_if_eq (tgt := 25) hx hb dX3_wind_18 (by decide) (fun c_18 => ?_) (fun c_18 => ?_)
    · skip
      have c_18 := bi_z.mp c_18
      refine lv_iconst (v := 1) hx hb dX3_wind_25 (by decide) ?_
      refine va_calli (va_runV (As := [.int 1]) (rest := []) ⟨hx, hb, hml, hown, hts⟩ (c_X3_holds l9 dC dI s.heap.size h a th n p F 1) (cwV 1 hts gX3_wind_X3_holds rfl rfl rfl (by decide +kernel) ⟨Nat.le_of_ble_eq_true rfl, Nat.le_of_ble_eq_true rfl⟩) ⟨PWr.blind, va_recv hK hP (ci := 3) (q0 := 0) rfl rfl, PWr.pre hP hK hD hE ((hH.kept hS.2.1).narrow (A_in hD hS hA))⟩ rfl rfl hl.1 rfl (lv_room (Nat.le_of_ble_eq_true rfl)) dX3_wind_26 ⟨Nat.le_of_ble_eq_true rfl, Nat.le_of_ble_eq_true rfl⟩) hS (fun q _ hq => A_in hD hS hA q hq) (A_in hD hS hA) (fun r9 u9 t9 H locs ht9 hvm hw9 hB hz1 hk1 hS => ?_)
      have hP : va_P (dC, dI) vwCl (rW cI cZ h a 1 n p F) H := by rw [← ht9]; exact hB
      have hD : va_D A (rW cI cZ h a 1 n p F) := D_same hD rfl
      refine W_top (y := .int (bi (1 = 0))) (congrArg Value.int hw9) ?_
      refine W_top (y := .int 0) (congrArg Value.int (bi_f (by decide))) ?_
      refine lv_if_ne (tgt := 34) hx hb dX3_wind_29 (by decide) (fun c_29 => absurd (by decide) c_29) (fun _ => ?_)
      refine lv_iconst (v := 0) hx hb dX3_wind_32 (by decide) ?_
      have hS9 : S_wind n F sp sd = (1, 0, F) := by rw [S_wind]; exact if_neg (fun q => c_18 q.2)
      exact W.iret (v := 0) hx hb hr (fun t ht hW => ⟨⟨_, (), rfl, (by rw [hS9]), by show va_P _ _ _ t.heap; rw [hS9, ht]; exact hP⟩, hS.F ht⟩) hS.2.2 dX3_wind_33
    · skip
      have c_18 := bi_nz.mp c_18
      refine lv_iconst (v := 0) hx hb dX3_wind_21 (by decide) ?_
      refine lv_goto (tgt := 26) hx hb dX3_wind_22 (by decide) ?_
      refine va_calli (va_runV (As := [.int 0]) (rest := []) ⟨hx, hb, hml, hown, hts⟩ (c_X3_holds l9 dC dI s.heap.size h a th n p F 0) (cwV 1 hts gX3_wind_X3_holds rfl rfl rfl (by decide +kernel) ⟨Nat.le_of_ble_eq_true rfl, Nat.le_of_ble_eq_true rfl⟩) ⟨PWr.blind, va_recv hK hP (ci := 3) (q0 := 0) rfl rfl, PWr.pre hP hK hD hE ((hH.kept hS.2.1).narrow (A_in hD hS hA))⟩ rfl rfl hl.1 rfl (lv_room (Nat.le_of_ble_eq_true rfl)) dX3_wind_26 ⟨Nat.le_of_ble_eq_true rfl, Nat.le_of_ble_eq_true rfl⟩) hS (fun q _ hq => A_in hD hS hA q hq) (A_in hD hS hA) (fun r9 u9 t9 H locs ht9 hvm hw9 hB hz1 hk1 hS => ?_)
      have hP : va_P (dC, dI) vwCl (rW cI cZ h a 0 n p F) H := by rw [← ht9]; exact hB
      have hD : va_D A (rW cI cZ h a 0 n p F) := D_same hD rfl
      refine W_top (y := .int (bi (0 = 0))) (congrArg Value.int hw9) ?_
      refine W_top (y := .int 1) (congrArg Value.int (bi_t rfl)) ?_
      refine lv_if_ne (tgt := 34) hx hb dX3_wind_29 (by decide) (fun _ => ?_) (fun c_29 => absurd c_29 (by decide))
      refine lv_aload_n hx hb dX3_wind_34 rfl (lv_at hl 0 rfl) ?_
      refine va_get (D := (dC, dI)) (ci := 3) (v := .int (F 9 3)) (C := RX3) (T := TX3) (N := 16) hx hb hts hi3 hown hK hP 0 rfl rfl 15 (by decide) lk96 (fun _ h9 => h9) rfl dX3_wind_35 ?_
      refine lv_istore_n (lv' := [(3, .int (F 9 3)), (0, .ref h), (1, .int sp), (2, .int sd)]) hx hb dX3_wind_38 rfl hl (by decide) rfl (fun ls hl => ?_)
      refine lv_aload_n hx hb dX3_wind_39 rfl (lv_at hl 1 rfl) ?_
      refine lv_iload_n hx hb dX3_wind_40 rfl (lv_at hl 2 rfl) ?_
      refine va_put (D := (dC, dI)) (ci := 3) (v := .int sp) (ty := .int) (C := RX3) (T := TX3) (N := 16) hx hb hts hi3 tyX3 tyX3_ok nmX3 hown hK hP hD hS 0 rfl rfl 12 (by decide) lk59 (fun _ h9 => h9) rfl (by decide +kernel) rfl rfl (Nat.le_of_ble_eq_true rfl) dX3_wind_41 (fun H locs hP hD hS => ?_)
      have hP : va_P (dC, dI) vwCl (rW cI cZ h a 0 n p (up F 9 0 sp)) H := hP
      have hD : va_D A (rW cI cZ h a 0 n p (up F 9 0 sp)) := hD
      refine lv_aload_n hx hb dX3_wind_44 rfl (lv_at hl 1 rfl) ?_
      refine lv_iload_n hx hb dX3_wind_45 rfl (lv_at hl 3 rfl) ?_
      refine va_put (D := (dC, dI)) (ci := 3) (v := .int sd) (ty := .int) (C := RX3) (T := TX3) (N := 16) hx hb hts hi3 tyX3 tyX3_ok nmX3 hown hK hP hD hS 0 rfl rfl 13 (by decide) lk56 (fun _ h9 => h9) rfl (by decide +kernel) rfl rfl (Nat.le_of_ble_eq_true rfl) dX3_wind_46 (fun H locs hP hD hS => ?_)
      have hP : va_P (dC, dI) vwCl (rW cI cZ h a 0 n p (up (up F 9 0 sp) 9 1 sd)) H := hP
      have hD : va_D A (rW cI cZ h a 0 n p (up (up F 9 0 sp) 9 1 sd)) := hD
      refine lv_iconst (v := 0) hx hb dX3_wind_49 (by decide) ?_
      refine lv_istore (lv' := [(4, .int 0), (3, .int (F 9 3)), (0, .ref h), (1, .int sp), (2, .int sd)]) hx hb dX3_wind_50 hl (by decide) rfl (fun ls hl => ?_)
      refine W_loopH (nL := 5) (fun i : Nat => [(4, .int (nI i)), (0, .ref h), (1, .int sp), (2, .int sd), (3, .int (F 9 3))]) (fun (i : Nat) (H : Heap) (locs : List Loc) => i ≤ n ∧ va_P (dC, dI) vwCl (rW cI cZ h a 0 n p (mvd (up (up F 9 0 sp) 9 1 sd) n (fun j => decide (j < i) && unh (up (up F 9 0 sp) 9 1 sd) j))) H ∧ va_S A s.heap H locs) (fun i => n - i) ?_ 0 (⟨Nat.zero_le _, by rw [bset_0]; exact hP, hS⟩) (lv_sub hl [0, 2, 3, 4, 1] rfl)
      intro i H locs ls hI hl ih
      obtain ⟨hin9, hP, hS⟩ := hI
      have hl : lv_has ls 5 [(4, .int (nI i)), (0, .ref h), (1, .int sp), (2, .int sd), (3, .int (F 9 3))] := hl
      have hP : va_P (dC, dI) vwCl (rW cI cZ h a 0 n p (mvd (up (up F 9 0 sp) 9 1 sd) n (fun j => decide (j < i) && unh (up (up F 9 0 sp) 9 1 sd) j))) H := hP
      have hD : va_D A (rW cI cZ h a 0 n p (mvd (up (up F 9 0 sp) 9 1 sd) n (fun j => decide (j < i) && unh (up (up F 9 0 sp) 9 1 sd) j))) := D_same hD rfl
      refine lv_iload hx hb dX3_wind_52 (lv_at hl 0 rfl) ?_
      refine lv_aload_n hx hb dX3_wind_54 rfl (lv_at hl 1 rfl) ?_
      refine va_get (D := (dC, dI)) (ci := 3) (v := .int (nI n)) (C := RX3) (T := TX3) (N := 16) hx hb hts hi3 hown hK hP 0 rfl rfl 1 (by decide) lk42 (fun _ h9 => h9) rfl dX3_wind_55 ?_
      refine lv_icmp_ge (tgt := 125) hx hb dX3_wind_58 (by decide) (fun c_58 => ?_) (fun c_58 => ?_)
      · skip
        have he : i = n := by have q := (nI_leI (a := n) (b := i) (by omega) (by omega)).mp c_58; omega
        subst he
        refine lv_aload_n hx hb dX3_wind_125 rfl (lv_at hl 1 rfl) ?_
        have hP : va_P (dC, dI) vwCl (rW cI cZ h a 0 i p (uh (up (up F 9 0 sp) 9 1 sd) i)) H := hP
        have hF := uh_HF (F := (up (up F 9 0 sp) 9 1 sd)) hn8 hI.kd hI.2.2.2.1.2 hI.lr
        refine vp_callSi (va_Run.run (va_runV (As := []) (rest := []) ⟨hx, hb, hml, hown, hts⟩ (c_X3_crossing l9 dC dI h a 0 i p (uh (up (up F 9 0 sp) 9 1 sd) i) hF.1 hF.2.1 hF.2.2.1) (cwV 0 hts gX3_wind_X3_crossing rfl rfl rfl (by decide +kernel) ⟨Nat.le_of_ble_eq_true rfl, Nat.le_of_ble_eq_true rfl⟩) ⟨PRo.blind, va_recv hK hP (ci := 3) (q0 := 0) rfl rfl, PRo.pre hP hK hE⟩ rfl rfl hl.1 rfl (lv_room (Nat.le_of_ble_eq_true rfl)) dX3_wind_126 ⟨Nat.le_of_ble_eq_true rfl, Nat.le_of_ble_eq_true rfl⟩)) (fun r hr => ?_)
        subst hr
        refine W_top (y := .int (oI (cK (uh (up (up F 9 0 sp) 9 1 sd) i) i))) (rfl) ?_
        refine lv_istore (lv' := [(4, .int (oI (cK (uh (up (up F 9 0 sp) 9 1 sd) i) i))), (0, .ref h), (1, .int sp), (2, .int sd), (3, .int (F 9 3))]) hx hb dX3_wind_129 hl (by decide) rfl (fun ls hl => ?_)
        refine W_loopH (nL := 5) (fun x : Nat × Rows => [(4, .int (oI (cK x.2 i))), (0, .ref h), (1, .int sp), (2, .int sd), (3, .int (F 9 3))]) (fun (x : Nat × Rows) (H : Heap) (locs : List Loc) => fc x.2 i ≤ x.1 ∧ HF i x.2 ∧ stl i x.1 x.2 = stl i 10 (uh (up (up F 9 0 sp) 9 1 sd) i) ∧ va_P (dC, dI) vwCl (rW cI cZ h a 0 i p x.2) H ∧ va_S A s.heap H locs) (fun x => x.1) ?_ (10, uh (up (up F 9 0 sp) 9 1 sd) i) (⟨Nat.le_trans (cnt_le _ i) (by omega), hF, rfl, hP, hS⟩) (lv_sub hl [0, 1, 2, 3, 4] rfl)
        intro x H locs ls hI hl ih
        obtain ⟨mm, G⟩ := x
        dsimp only at hI
        obtain ⟨hfc, hF, hst, hP, hS⟩ := hI
        have hl : lv_has ls 5 [(4, .int (oI (cK G i))), (0, .ref h), (1, .int sp), (2, .int sd), (3, .int (F 9 3))] := hl
        have hD : va_D A (rW cI cZ h a 0 i p G) := D_same hD rfl
        refine lv_iload hx hb dX3_wind_131 (lv_at hl 0 rfl) ?_
        rcases hcK : cK G i with _ | k
        · skip
          rw [hcK] at hl
          have hl : lv_has ls 5 [(4, .int (-1)), (0, .ref h), (1, .int sp), (2, .int sd), (3, .int (F 9 3))] := hl
          refine W_top (y := .int (-1)) (rfl) ?_
          refine lv_iconst (v := (-1)) hx hb dX3_wind_133 (by decide) ?_
          refine lv_icmp_eq (tgt := 152) hx hb dX3_wind_134 (by decide) (fun _ => ?_) (fun c_134 => absurd (by decide) c_134)
          rw [stl_none hcK] at hst
          subst hst
          refine lv_aload_n hx hb dX3_wind_152 rfl (lv_at hl 1 rfl) ?_
          refine va_get (D := (dC, dI)) (ci := 3) (v := .int ((stl i 10 (uh (up (up F 9 0 sp) 9 1 sd) i)) 9 3)) (C := RX3) (T := TX3) (N := 16) hx hb hts hi3 hown hK hP 0 rfl rfl 15 (by decide) lk96 (fun _ h9 => h9) rfl dX3_wind_153 ?_
          refine lv_iload_n hx hb dX3_wind_156 rfl (lv_at hl 4 rfl) ?_
          refine lv_isub hx hb dX3_wind_157 ?_
          have hS9 : S_wind i F sp sd = (0, stl i 10 (uh (up (up F 9 0 sp) 9 1 sd) i) 9 3 - F 9 3, stl i 10 (uh (up (up F 9 0 sp) 9 1 sd) i)) := by rw [S_wind]; exact if_pos ⟨c_8, c_18⟩
          exact W.iret (v := ((stl i 10 (uh (up (up F 9 0 sp) 9 1 sd) i)) 9 3) - (F 9 3)) hx hb hr (fun t ht hW => ⟨⟨_, (), rfl, (by rw [hS9]), by show va_P _ _ _ t.heap; rw [hS9, ht]; exact hP⟩, hS.F ht⟩) hS.2.2 dX3_wind_158
        · skip
          rw [hcK] at hl
          have hl : lv_has ls 5 [(4, .int (nI k)), (0, .ref h), (1, .int sp), (2, .int sd), (3, .int (F 9 3))] := hl
          refine W_top (y := .int (nI k)) (rfl) ?_
          obtain ⟨l, hl10, hlk⟩ := cK_fl hcK
          obtain ⟨hkn, hkl⟩ := lk_some hlk
          have hk6 : ¬ G 6 k = -1 := by rw [hkl]; exact nI_m1 (by omega)
          refine lv_iconst (v := (-1)) hx hb dX3_wind_133 (by decide) ?_
          refine lv_icmp_eq (tgt := 152) hx hb dX3_wind_134 (by decide) (fun c_134 => absurd c_134 (nI_m1 (by omega))) (fun _ => ?_)
          refine lv_aload_n hx hb dX3_wind_137 rfl (lv_at hl 1 rfl) ?_
          refine lv_iload hx hb dX3_wind_138 (lv_at hl 0 rfl) ?_
          refine va_callv (va_runV (As := [.int (nI k)]) (rest := []) ⟨hx, hb, hml, hown, hts⟩ (c_X3_comesDown l9 dC dI H.size h a 0 i p G k (Nat.lt_of_lt_of_le hkn hn8)) (cwV 1 hts gX3_wind_X3_comesDown rfl rfl rfl (by decide +kernel) ⟨Nat.le_of_ble_eq_true rfl, Nat.le_of_ble_eq_true rfl⟩) ⟨PWr.blind, va_recv hK hP (ci := 3) (q0 := 0) rfl rfl, PWr.pre hP hK hD hE ((hH.kept hS.2.1).narrow (A_in hD hS hA))⟩ rfl rfl hl.1 rfl (lv_room (Nat.le_of_ble_eq_true rfl)) dX3_wind_140 ⟨Nat.le_of_ble_eq_true rfl, Nat.le_of_ble_eq_true rfl⟩) hS (fun q _ hq => A_in hD hS hA q hq) (A_in hD hS hA) (fun u9 t9 H locs ht9 hvm hw9 hB hz1 hk1 hS => ?_)
          have hP : va_P (dC, dI) vwCl (rW cI cZ h a 0 i p (dn G k)) H := by rw [← ht9]; exact hB
          have hD : va_D A (rW cI cZ h a 0 i p (dn G k)) := D_same hD rfl
          refine lv_aload_n hx hb dX3_wind_143 rfl (lv_at hl 1 rfl) ?_
          refine vp_callSi (va_Run.run (va_runV (As := []) (rest := []) ⟨hx, hb, hml, hown, hts⟩ (c_X3_crossing l9 dC dI h a 0 i p (dn G k) hn8 hF.2.1 (hF.dn k).2.2.1) (cwV 0 hts gX3_wind_X3_crossing rfl rfl rfl (by decide +kernel) ⟨Nat.le_of_ble_eq_true rfl, Nat.le_of_ble_eq_true rfl⟩) ⟨PRo.blind, va_recv hK hP (ci := 3) (q0 := 0) rfl rfl, PRo.pre hP hK hE⟩ rfl rfl hl.1 rfl (lv_room (Nat.le_of_ble_eq_true rfl)) dX3_wind_144 ⟨Nat.le_of_ble_eq_true rfl, Nat.le_of_ble_eq_true rfl⟩)) (fun r hr => ?_)
          subst hr
          refine W_top (y := .int (oI (cK (dn G k) i))) (rfl) ?_
          refine lv_istore (lv' := [(4, .int (oI (cK (dn G k) i))), (0, .ref h), (1, .int sp), (2, .int sd), (3, .int (F 9 3))]) hx hb dX3_wind_147 hl (by decide) rfl (fun ls hl => ?_)
          refine lv_goto (tgt := 131) hx hb dX3_wind_149 (by decide) ?_
          have hfd := fc_dn hkn hk6
          obtain ⟨m2, em⟩ : ∃ m2, mm = m2 + 1 := ⟨mm - 1, by omega⟩
          exact ih ((m2, dn G k)) _ _ ls (by show m2 < mm; omega) (⟨by show fc (dn G k) i ≤ m2; omega, hF.dn k, by rw [← hst, em, stl_some hcK], hP, hS⟩) (lv_sub hl [0, 1, 2, 3, 4] rfl)
      · skip
        have hlt9 : i < n := Nat.not_le.mp (fun q => c_58 ((nI_leI (a := n) (b := i) (by omega) (by omega)).mpr q))
        refine lv_aload_n hx hb dX3_wind_61 rfl (lv_at hl 1 rfl) ?_
        refine va_get (D := (dC, dI)) (ci := 3) (v := .ref (a 6)) (C := RX3) (T := TX3) (N := 16) hx hb hts hi3 hown hK hP 0 rfl rfl 8 (by decide) lk29 (fun _ h9 => h9) rfl dX3_wind_62 ?_
        refine lv_iload hx hb dX3_wind_65 (lv_at hl 0 rfl) ?_
        refine my_iald hx hb hK hP 7 0 rfl rfl (Nat.lt_of_lt_of_le hlt9 hn8) (Nat.le_of_ble_eq_true rfl) dX3_wind_67 ?_
        refine W_top (y := .int ((mvd (up (up F 9 0 sp) 9 1 sd) n (fun j => decide (j < i) && unh (up (up F 9 0 sp) 9 1 sd) j)) 6 i)) (rfl) ?_
        refine W_top (y := .int (F 6 i)) (congrArg Value.int mvd_6i) ?_
        refine lv_iconst (v := (-1)) hx hb dX3_wind_68 (by decide) ?_
        refine lv_icmp_eq (tgt := 119) hx hb dX3_wind_69 (by decide) (fun c_69 => ?_) (fun c_69 => ?_)
        · skip
          refine lv_iinc (v := nI (i + 1)) (lv' := [(4, .int (nI (i + 1))), (0, .ref h), (1, .int sp), (2, .int sd), (3, .int (F 9 3))]) hx hb dX3_wind_119 hl (k := 0) rfl (nI_1 _) (by decide) rfl (fun ls hl => ?_)
          refine lv_goto (tgt := 52) hx hb dX3_wind_122 (by decide) ?_
          rw [bset_no (unh_f (F := (up (up F 9 0 sp) 9 1 sd)) c_69)] at hP
          exact ih (i + 1) _ _ ls (by omega) (⟨by omega, hP, hS⟩) (lv_sub hl [0, 1, 2, 3, 4] rfl)
        · skip
          refine lv_aload_n hx hb dX3_wind_72 rfl (lv_at hl 1 rfl) ?_
          refine lv_iload hx hb dX3_wind_73 (lv_at hl 0 rfl) ?_
          refine lv_aload_n hx hb dX3_wind_75 rfl (lv_at hl 1 rfl) ?_
          refine va_get (D := (dC, dI)) (ci := 3) (v := .int sp) (C := RX3) (T := TX3) (N := 16) hx hb hts hi3 hown hK hP 0 rfl rfl 12 (by decide) lk59 (fun _ h9 => h9) rfl dX3_wind_76 ?_
          refine vp_callSi (va_Run.run (va_runV (As := [.int (nI i), .int sp]) (rest := []) ⟨hx, hb, hml, hown, hts⟩ (c_X3_isHeld l9 dC dI h a 0 n p (mvd (up (up F 9 0 sp) 9 1 sd) n (fun j => decide (j < i) && unh (up (up F 9 0 sp) 9 1 sd) j)) i sp (Nat.lt_of_lt_of_le hlt9 hn8) (hI.kd i hlt9)) (cwV 2 hts gX3_wind_X3_isHeld rfl rfl rfl (by decide +kernel) ⟨Nat.le_of_ble_eq_true rfl, Nat.le_of_ble_eq_true rfl⟩) ⟨PRo.blind, va_recv hK hP (ci := 3) (q0 := 0) rfl rfl, PRo.pre hP hK hE⟩ rfl rfl hl.1 rfl (lv_room (Nat.le_of_ble_eq_true rfl)) dX3_wind_79 ⟨Nat.le_of_ble_eq_true rfl, Nat.le_of_ble_eq_true rfl⟩)) (fun r hr => ?_)
          subst hr
          refine W_top (y := .int (bi (held F i sp))) (rfl) ?_
          refine lv_if_ne (tgt := 119) hx hb dX3_wind_82 (by decide) (fun c_82 => ?_) (fun c_82 => ?_)
          · skip
            have c_82 := bi_nz.mp c_82
            refine lv_iinc (v := nI (i + 1)) (lv' := [(4, .int (nI (i + 1))), (0, .ref h), (1, .int sp), (2, .int sd), (3, .int (F 9 3))]) hx hb dX3_wind_119 hl (k := 0) rfl (nI_1 _) (by decide) rfl (fun ls hl => ?_)
            refine lv_goto (tgt := 52) hx hb dX3_wind_122 (by decide) ?_
            rw [bset_no (show unh (up (up F 9 0 sp) 9 1 sd) i = false from decide_eq_false (fun z => z.2 c_82))] at hP
            exact ih (i + 1) _ _ ls (by omega) (⟨by omega, hP, hS⟩) (lv_sub hl [0, 1, 2, 3, 4] rfl)
          · skip
            have c_82 := bi_z.mp c_82
            have hun : unh (up (up F 9 0 sp) 9 1 sd) i = true := decide_eq_true ⟨c_69, c_82⟩
            refine lv_aload_n hx hb dX3_wind_85 rfl (lv_at hl 1 rfl) ?_
            refine va_get (D := (dC, dI)) (ci := 3) (v := .ref (a 3)) (C := RX3) (T := TX3) (N := 16) hx hb hts hi3 hown hK hP 0 rfl rfl 5 (by decide) lk19 (fun _ h9 => h9) rfl dX3_wind_86 ?_
            refine lv_iload hx hb dX3_wind_89 (lv_at hl 0 rfl) ?_
            refine lv_aload_n hx hb dX3_wind_91 rfl (lv_at hl 1 rfl) ?_
            refine lv_iload hx hb dX3_wind_92 (lv_at hl 0 rfl) ?_
            refine lv_aload_n hx hb dX3_wind_94 rfl (lv_at hl 1 rfl) ?_
            refine va_get (D := (dC, dI)) (ci := 3) (v := .int sp) (C := RX3) (T := TX3) (N := 16) hx hb hts hi3 hown hK hP 0 rfl rfl 12 (by decide) lk59 (fun _ h9 => h9) rfl dX3_wind_95 ?_
            refine vp_callSi (va_Run.run (va_runV (As := [.int (nI i), .int sp]) (rest := [.int (nI i), .ref (a 3)]) ⟨hx, hb, hml, hown, hts⟩ (c_X3_pullIn l9 dC dI h a 0 n p (mvd (up (up F 9 0 sp) 9 1 sd) n (fun j => decide (j < i) && unh (up (up F 9 0 sp) 9 1 sd) j)) i sp (Nat.lt_of_lt_of_le hlt9 hn8) (hI.kd i hlt9)) (cwV 2 hts gX3_wind_X3_pullIn rfl rfl rfl (by decide +kernel) ⟨Nat.le_of_ble_eq_true rfl, Nat.le_of_ble_eq_true rfl⟩) ⟨PRo.blind, va_recv hK hP (ci := 3) (q0 := 0) rfl rfl, PRo.pre hP hK hE⟩ rfl rfl hl.1 rfl (lv_room (Nat.le_of_ble_eq_true rfl)) dX3_wind_98 ⟨Nat.le_of_ble_eq_true rfl, Nat.le_of_ble_eq_true rfl⟩)) (fun r hr => ?_)
            subst hr
            refine W_top (y := .int (pl F i sp)) (rfl) ?_
            refine lv_sipush (v := 6000) hx hb dX3_wind_101 (by decide) ?_
            refine W_join (pc := 112) (rest := [.int (nI i), .ref (a 3)]) (fun v => v = bi (6000 < pl F i sp)) (fun v hv => ?_) (fun K => ?_)
            · subst hv
              refine my_zast hx hb hK hP hD hS 4 1 rfl rfl (Nat.lt_of_lt_of_le hlt9 hn8) (Nat.le_of_ble_eq_true rfl) (bi_01 _) dX3_wind_112 (fun H locs hP hD hS => ?_)
              have hP : va_P (dC, dI) vwCl (rW cI cZ h a 0 n p (up (mvd (up (up F 9 0 sp) 9 1 sd) n (fun j => decide (j < i) && unh (up (up F 9 0 sp) 9 1 sd) j)) 3 i (bi (6000 < pl F i sp)))) H := hP
              have hD : va_D A (rW cI cZ h a 0 n p (up (mvd (up (up F 9 0 sp) 9 1 sd) n (fun j => decide (j < i) && unh (up (up F 9 0 sp) 9 1 sd) j)) 3 i (bi (6000 < pl F i sp)))) := hD
              refine lv_aload_n hx hb dX3_wind_113 rfl (lv_at hl 1 rfl) ?_
              refine lv_iload hx hb dX3_wind_114 (lv_at hl 0 rfl) ?_
              refine va_callv (va_runV (As := [.int (nI i)]) (rest := []) ⟨hx, hb, hml, hown, hts⟩ (c_X3_comesDown l9 dC dI H.size h a 0 n p (up (mvd (up (up F 9 0 sp) 9 1 sd) n (fun j => decide (j < i) && unh (up (up F 9 0 sp) 9 1 sd) j)) 3 i (bi (6000 < pl F i sp))) i (Nat.lt_of_lt_of_le hlt9 hn8)) (cwV 1 hts gX3_wind_X3_comesDown rfl rfl rfl (by decide +kernel) ⟨Nat.le_of_ble_eq_true rfl, Nat.le_of_ble_eq_true rfl⟩) ⟨PWr.blind, va_recv hK hP (ci := 3) (q0 := 0) rfl rfl, PWr.pre hP hK hD hE ((hH.kept hS.2.1).narrow (A_in hD hS hA))⟩ rfl rfl hl.1 rfl (lv_room (Nat.le_of_ble_eq_true rfl)) dX3_wind_116 ⟨Nat.le_of_ble_eq_true rfl, Nat.le_of_ble_eq_true rfl⟩) hS (fun q _ hq => A_in hD hS hA q hq) (A_in hD hS hA) (fun u9 t9 H locs ht9 hvm hw9 hB hz1 hk1 hS => ?_)
              have hP : va_P (dC, dI) vwCl (rW cI cZ h a 0 n p (dn (up (mvd (up (up F 9 0 sp) 9 1 sd) n (fun j => decide (j < i) && unh (up (up F 9 0 sp) 9 1 sd) j)) 3 i (bi (6000 < pl F i sp))) i)) H := by rw [← ht9]; exact hB
              have hD : va_D A (rW cI cZ h a 0 n p (dn (up (mvd (up (up F 9 0 sp) 9 1 sd) n (fun j => decide (j < i) && unh (up (up F 9 0 sp) 9 1 sd) j)) 3 i (bi (6000 < pl F i sp))) i)) := D_same hD rfl
              have hP : va_P (dC, dI) vwCl (rW cI cZ h a 0 n p (dn (up (mvd (up (up F 9 0 sp) 9 1 sd) n (fun j => decide (j < i) && unh (up (up F 9 0 sp) 9 1 sd) j)) 3 i (bi (6000 < pl (up (up F 9 0 sp) 9 1 sd) i ((up (up F 9 0 sp) 9 1 sd) 9 0)))) i)) H := hP
              rw [mvd_step hlt9 (by rw [decide_eq_false (Nat.lt_irrefl i)]; rfl), bset_add hun] at hP
              refine lv_iinc (v := nI (i + 1)) (lv' := [(4, .int (nI (i + 1))), (0, .ref h), (1, .int sp), (2, .int sd), (3, .int (F 9 3))]) hx hb dX3_wind_119 hl (k := 0) rfl (nI_1 _) (by decide) rfl (fun ls hl => ?_)
              refine lv_goto (tgt := 52) hx hb dX3_wind_122 (by decide) ?_
              exact ih (i + 1) _ _ ls (by omega) (⟨by omega, hP, hS⟩) (lv_sub hl [0, 1, 2, 3, 4] rfl)
            · skip
              refine lv_icmp_le (tgt := 111) hx hb dX3_wind_104 (by decide) (fun c_104 => ?_) (fun c_104 => ?_)
              · skip
                refine lv_iconst (v := 0) hx hb dX3_wind_111 (by decide) ?_
                exact K _ ((bi_f (fun q => by rw [i32_lt] at q; rw [i32_le] at c_104; omega)).symm)
              · skip
                refine lv_iconst (v := 1) hx hb dX3_wind_107 (by decide) ?_
                refine lv_goto (tgt := 112) hx hb dX3_wind_108 (by decide) ?_
                exact K _ ((bi_t (by rw [i32_lt]; rw [i32_le] at c_104; omega)).symm)

set_option maxHeartbeats 4000000 in
set_option maxRecDepth 100000 in
theorem c_X3_rain (l9 : Launch) (dC : Nat → ClassId) (dI : Nat → Nat → Nat) (sz : Nat) {cI cZ : ClassId} (h : Nat) (a : Nat → Nat) (th : Int32) (n p : Nat) (F : Rows) (b9 : Int32) (hI : Inv n p F) (hb9 : b9 = 0 ∨ b9 = 1) : Met l9 yX3_rain wsX3_rain ({ frames := 0, cells := 0, slots := 0, locals := 0 }) (va_Pc [.ref h, .int b9] (PWr dC dI [(cI, .int), (cZ, .boolean)] (rW cI cZ h a th n p F) sz)) (va_Qi (fun r9 (_ : Unit) => r9 = F 9 2) (fun _ t => va_P (dC, dI) vwCl (rW cI cZ h a 0 n p (up F 9 2 b9)) t.heap) (va_A (rW cI cZ h a th n p F) sz)) 0 0 (va_A (rW cI cZ h a th n p F) sz) := by
  refine Met.ofW (cc := cX3_rain) (maxL := 3) (ret := (some .boolean)) (by decide) rfl ?_
  intro p9 e9 s m args below meth c s₁ B hml hv
  obtain ⟨rfl, hsz, hP, hK, hD0, hE, hH⟩ := hv
  have hx := B.exec
  have hb := B.bytes
  have hr := B.returns
  have hts := atoms_spec (ws := wsX3_rain) B.pre
  have hown : s.vm.findClass RX3 = some m.cls := findClass_of_methodNamed B.named
  have hlocks := B.notSynchronized
  have hi3 : ∀ w ∈ u_ws RX3 TX3 16, w ∈ wsX3_rain := by decide +kernel
  have lk38 := hts (.fieldLink RX3 38 "WindlaneModel" "thrown" "I") (by decide +kernel)
  have lk107 := hts (.fieldLink RX3 107 "WindlaneModel" "isRain" "Z") (by decide +kernel)
  subst hsz
  have hD := hD0.self (sz := s.heap.size)
  generalize hAe : va_A (rW cI cZ h a th n p F) s.heap.size = A at hD hH ⊢
  have hA : ∀ q : Nat, s.heap.size ≤ q → A q := fun q h => by rw [← hAe]; exact Or.inr h
  have hS : va_S A s.heap s.heap [] := va_S.rf
  have hP : va_P (dC, dI) vwCl (rW cI cZ h a th n p F) s.heap := hP
  have hn8 : n ≤ 8 := hI.1.1
  have hp8 : p ≤ 8 := hI.1.2
  have hl := lv_entry ([.ref h, .int b9]) (n := 3) (Nat.le_of_ble_eq_true rfl)
  rw [lg_entry_eq]
  generalize (lg_sl ([.ref h, .int b9]) ++ List.replicate (3 - (lg_sl ([.ref h, .int b9])).length) Slot.unset).toArray = ls at hl ⊢
  have hl : lv_has ls 3 [(0, .ref h), (1, .int b9)] := hl
  refine lv_aload_n hx hb dX3_rain_0 rfl (lv_at hl 0 rfl) ?_
  refine lv_iconst (v := 0) hx hb dX3_rain_1 (by decide) ?_
  refine va_put (D := (dC, dI)) (ci := 3) (v := .int 0) (ty := .int) (C := RX3) (T := TX3) (N := 16) hx hb hts hi3 tyX3 tyX3_ok nmX3 hown hK hP hD hS 0 rfl rfl 0 (by decide) lk38 (fun _ h9 => h9) rfl (by decide +kernel) rfl rfl (Nat.le_of_ble_eq_true rfl) dX3_rain_2 (fun H locs hP hD hS => ?_)
  have hP : va_P (dC, dI) vwCl (rW cI cZ h a 0 n p F) H := hP
  have hD : va_D A (rW cI cZ h a 0 n p F) := hD
  refine lv_aload_n hx hb dX3_rain_5 rfl (lv_at hl 0 rfl) ?_
  refine va_get (D := (dC, dI)) (ci := 3) (v := .int (F 9 2)) (C := RX3) (T := TX3) (N := 16) hx hb hts hi3 hown hK hP 0 rfl rfl 14 (by decide) lk107 (fun _ h9 => h9) rfl dX3_rain_6 ?_
  refine lv_istore_n (lv' := [(2, .int (F 9 2)), (0, .ref h), (1, .int b9)]) hx hb dX3_rain_9 rfl hl (by decide) rfl (fun ls hl => ?_)
  refine lv_aload_n hx hb dX3_rain_10 rfl (lv_at hl 1 rfl) ?_
  refine lv_iload_n hx hb dX3_rain_11 rfl (lv_at hl 2 rfl) ?_
  refine va_put (D := (dC, dI)) (ci := 3) (v := .int b9) (ty := .boolean) (C := RX3) (T := TX3) (N := 16) hx hb hts hi3 tyX3 tyX3_ok nmX3 hown hK hP hD hS 0 rfl rfl 14 (by decide) lk107 (fun _ h9 => h9) rfl (by decide +kernel) (nar_01 hb9) (fit_01 hb9) (Nat.le_of_ble_eq_true rfl) dX3_rain_12 (fun H locs hP hD hS => ?_)
  have hP : va_P (dC, dI) vwCl (rW cI cZ h a 0 n p (up F 9 2 b9)) H := hP
  have hD : va_D A (rW cI cZ h a 0 n p (up F 9 2 b9)) := hD
  refine lv_iload_n hx hb dX3_rain_15 rfl (lv_at hl 0 rfl) ?_
  exact W.zret (v := F 9 2) hx hb hr (nar_01 hI.2.2.2.2.1.2) (fun t ht hW => ⟨⟨_, (), rfl, (rfl), by show va_P _ _ _ t.heap; rw [ht]; exact hP⟩, hS.F ht⟩) hS.2.2 dX3_rain_16

set_option maxHeartbeats 4000000 in
set_option maxRecDepth 100000 in
theorem c_X3_called (l9 : Launch) (dC : Nat → ClassId) (dI : Nat → Nat → Nat) (sz : Nat) {cI cZ : ClassId} (h : Nat) (a : Nat → Nat) (th : Int32) (n p : Nat) (F : Rows)   : Met l9 yX3_called wsX3_called ({ frames := 0, cells := 0, slots := 0, locals := 0 }) (va_Pc [.ref h] (PWr dC dI [(cI, .int), (cZ, .boolean)] (rW cI cZ h a th n p F) sz)) (va_Qi (fun r9 (_ : Unit) => r9 = F 9 3) (fun _ t => va_P (dC, dI) vwCl (rW cI cZ h a 0 n p F) t.heap) (va_A (rW cI cZ h a th n p F) sz)) 0 0 (va_A (rW cI cZ h a th n p F) sz) := by
  refine Met.ofW (cc := cX3_called) (maxL := 1) (ret := (some .int)) (by decide) rfl ?_
  intro p9 e9 s m args below meth c s₁ B hml hv
  obtain ⟨rfl, hsz, hP, hK, hD0, hE, hH⟩ := hv
  have hx := B.exec
  have hb := B.bytes
  have hr := B.returns
  have hts := atoms_spec (ws := wsX3_called) B.pre
  have hown : s.vm.findClass RX3 = some m.cls := findClass_of_methodNamed B.named
  have hlocks := B.notSynchronized
  have hi3 : ∀ w ∈ u_ws RX3 TX3 16, w ∈ wsX3_called := by decide +kernel
  have lk38 := hts (.fieldLink RX3 38 "WindlaneModel" "thrown" "I") (by decide +kernel)
  have lk96 := hts (.fieldLink RX3 96 "WindlaneModel" "called" "I") (by decide +kernel)
  subst hsz
  have hD := hD0.self (sz := s.heap.size)
  generalize hAe : va_A (rW cI cZ h a th n p F) s.heap.size = A at hD hH ⊢
  have hA : ∀ q : Nat, s.heap.size ≤ q → A q := fun q h => by rw [← hAe]; exact Or.inr h
  have hS : va_S A s.heap s.heap [] := va_S.rf
  have hP : va_P (dC, dI) vwCl (rW cI cZ h a th n p F) s.heap := hP
  have hl := lv_entry ([.ref h]) (n := 1) (Nat.le_of_ble_eq_true rfl)
  rw [lg_entry_eq]
  generalize (lg_sl ([.ref h]) ++ List.replicate (1 - (lg_sl ([.ref h])).length) Slot.unset).toArray = ls at hl ⊢
  have hl : lv_has ls 1 [(0, .ref h)] := hl
  refine lv_aload_n hx hb dX3_called_0 rfl (lv_at hl 0 rfl) ?_
  refine lv_iconst (v := 0) hx hb dX3_called_1 (by decide) ?_
  refine va_put (D := (dC, dI)) (ci := 3) (v := .int 0) (ty := .int) (C := RX3) (T := TX3) (N := 16) hx hb hts hi3 tyX3 tyX3_ok nmX3 hown hK hP hD hS 0 rfl rfl 0 (by decide) lk38 (fun _ h9 => h9) rfl (by decide +kernel) rfl rfl (Nat.le_of_ble_eq_true rfl) dX3_called_2 (fun H locs hP hD hS => ?_)
  have hP : va_P (dC, dI) vwCl (rW cI cZ h a 0 n p F) H := hP
  have hD : va_D A (rW cI cZ h a 0 n p F) := hD
  refine lv_aload_n hx hb dX3_called_5 rfl (lv_at hl 0 rfl) ?_
  refine va_get (D := (dC, dI)) (ci := 3) (v := .int (F 9 3)) (C := RX3) (T := TX3) (N := 16) hx hb hts hi3 hown hK hP 0 rfl rfl 15 (by decide) lk96 (fun _ h9 => h9) rfl dX3_called_6 ?_
  exact W.iret (v := F 9 3) hx hb hr (fun t ht hW => ⟨⟨_, (), rfl, (rfl), by show va_P _ _ _ t.heap; rw [ht]; exact hP⟩, hS.F ht⟩) hS.2.2 dX3_called_9

set_option maxHeartbeats 4000000 in
set_option maxRecDepth 100000 in
theorem c_X3_thrown (l9 : Launch) (dC : Nat → ClassId) (dI : Nat → Nat → Nat) {cI cZ : ClassId} (h : Nat) (a : Nat → Nat) (th : Int32) (n p : Nat) (F : Rows)   : Met l9 yX3_thrown wsX3_thrown ({ frames := 0, cells := 0, slots := 0, locals := 0 }) (va_Pc [.ref h] (PRo dC dI [(cI, .int), (cZ, .boolean)] (rW cI cZ h a th n p F))) (vp_Si (fun r9 => r9 = th)) 0 0 (fun _ => False) := by
  refine Met.ofW (cc := cX3_thrown) (maxL := 1) (ret := (some .int)) (by decide) rfl ?_
  intro p9 e9 s m args below meth c s₁ B hml hv
  obtain ⟨rfl, hP, hK, hE⟩ := hv
  have hx := B.exec
  have hb := B.bytes
  have hr := B.returns
  have hts := atoms_spec (ws := wsX3_thrown) B.pre
  have hown : s.vm.findClass RX3 = some m.cls := findClass_of_methodNamed B.named
  have hlocks := B.notSynchronized
  have hi3 : ∀ w ∈ u_ws RX3 TX3 16, w ∈ wsX3_thrown := by decide +kernel
  have lk38 := hts (.fieldLink RX3 38 "WindlaneModel" "thrown" "I") (by decide +kernel)
  have hP : va_P (dC, dI) vwCl (rW cI cZ h a th n p F) s.heap := hP
  have hl := lv_entry ([.ref h]) (n := 1) (Nat.le_of_ble_eq_true rfl)
  rw [lg_entry_eq]
  generalize (lg_sl ([.ref h]) ++ List.replicate (1 - (lg_sl ([.ref h])).length) Slot.unset).toArray = ls at hl ⊢
  have hl : lv_has ls 1 [(0, .ref h)] := hl
  refine lv_aload_n hx hb dX3_thrown_0 rfl (lv_at hl 0 rfl) ?_
  refine va_get (D := (dC, dI)) (ci := 3) (v := .int th) (C := RX3) (T := TX3) (N := 16) hx hb hts hi3 hown hK hP 0 rfl rfl 0 (by decide) lk38 (fun _ h9 => h9) rfl dX3_thrown_1 ?_
  exact W.iret (v := th) hx hb hr (fun t ht _ => ⟨_, rfl, rfl, ht⟩) (fun q hq => absurd hq List.not_mem_nil) dX3_thrown_4
