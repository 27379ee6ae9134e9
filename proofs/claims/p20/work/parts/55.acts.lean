/-! ===== the law's methods that change the object ===== -/
def dQ (dC : Nat → ClassId) (dI : Nat → Nat → Nat) (tK tB cI : ClassId) (h ak ab af ad : Nat) (A : Nat → Prop) (n p : Nat) (F : Rows) (df : Nat → Int32) : Array Value → State → Outcome → State → Prop := va_Qi (S := (Nat → Nat) × (Nat → Nat)) (fun r9 _ => r9 = 1) (fun u t => va_P (dC, dI) vwCl (cW tK tB h ak ab af u.1 u.2 n p F ++ [(ad, .inl (cI, 4, .inl df))]) t.heap ∧ va_D A (cW tK tB h ak ab af u.1 u.2 n p F ++ [(ad, .inl (cI, 4, .inl df))])) A
theorem dQ_mk {dC : Nat → ClassId} {dI : Nat → Nat → Nat} {tK tB cI : ClassId} {h ak ab af ad : Nat} {A : Nat → Prop} {n p : Nat} {F : Rows} {df : Nat → Int32} {as : Array Value} {st t : State} (ka kb : Nat → Nat) (h3 : va_P (dC, dI) vwCl (cW tK tB h ak ab af ka kb n p F ++ [(ad, .inl (cI, 4, .inl df))]) t.heap) (h4 : va_D A (cW tK tB h ak ab af ka kb n p F ++ [(ad, .inl (cI, 4, .inl df))])) (h5 : va_F A st t) : dQ dC dI tK tB cI h ak ab af ad A n p F df as st (.returned (some (.int 1))) t := ⟨⟨1, (ka, kb), rfl, rfl, h3, h4⟩, h5⟩
abbrev may (F : Rows) (n k l : Nat) : Prop := F 3 k = 0 ∧ ¬ F 5 k = -1 ∧ F 6 k = -1 ∧ held F k (F 9 0) ∧ lk (F 6) n (nI l) = none
abbrev flF9 (F : Rows) (k l : Nat) (len : Int32) : Rows := up (up F 6 k (nI l)) 7 k len
theorem fly_S {n : Nat} {F : Rows} {k l : Nat} {len : Int32} (hn8 : n ≤ 8) (hk : k < n) (hl : l < 10) (hlen : 10 ≤ len ∧ len ≤ 100) : S_fly n F (nI k) (nI l) len = if may F n k l ∧ clr F n k (nI l) len then (0, en F k (nI l) len, flF9 F k l len) else (3, 0, F) := by
  simp only [S_fly, ix_t hk (show n < 2147483648 by omega), ix_t hl (show (10 : Nat) < 2147483648 by omega)]
  rw [if_pos hlen]
  by_cases h : may F n k l ∧ clr F n k (nI l) len
  · obtain ⟨⟨h1, h2, h3, h4, h5⟩, h6⟩ := id h
    rw [if_pos h, if_pos ⟨h2, h1, h3, h4, h5, h6⟩]
  · rw [if_neg h, if_neg (fun q => h ⟨⟨q.2.1, q.1, q.2.2.1, q.2.2.2.1, q.2.2.2.2.1⟩, q.2.2.2.2.2⟩)]
theorem fly_ok {n : Nat} {F : Rows} {k l : Nat} {len : Int32} (hn8 : n ≤ 8) (hk : k < n) (hl : l < 10) (hlen : 10 ≤ len ∧ len ≤ 100) : (S_fly n F (nI k) (nI l) len).1 ≠ 1 ∧ (S_fly n F (nI k) (nI l) len).1 ≠ 2 := by
  rw [fly_S hn8 hk hl hlen]
  split
  · exact ⟨(by decide : (0 : Int32) ≠ 1), (by decide : (0 : Int32) ≠ 2)⟩
  · exact ⟨(by decide : (3 : Int32) ≠ 1), (by decide : (3 : Int32) ≠ 2)⟩
theorem fly_lk {n : Nat} {F : Rows} {k l : Nat} {len : Int32} (hk : k < n) (h : lk (F 6) n (nI l) = none) : lk (flF9 F k l len 6) n (nI l) = some k := by
  show lk (up F 6 k (nI l) 6) n (nI l) = _
  rw [up_r]
  exact lk_take hk h
theorem fly_6 (F : Rows) (k l : Nat) (len : Int32) : flF9 F k l len 6 k = nI l := up_ss F 6 k (nI l)
theorem fly_5 {F : Rows} {k l : Nat} {len : Int32} (hl : l < 10) : (if flF9 F k l len 6 k = -1 then (-1 : Int32) else ed (flF9 F k l len) k) = en F k (nI l) len := by
  rw [fly_6, if_neg (nI_m1 (by omega))]
  exact ed_new
theorem en_ne {F : Rows} {k l : Nat} {len : Int32} (hl : l < 10) (hs : -5 ≤ F 9 1 ∧ F 9 1 ≤ 5) (hlen : 10 ≤ len ∧ len ≤ 100) (hh : held F k (F 9 0)) : ¬ en F k (nI l) len = -99999 := by
  intro q
  have := (en_rng hl hs hlen hh).1
  rw [q, show (-99999 : Int32).toInt = -99999 from by decide] at this
  omega
/-! hours -/
theorem pass_S {n : Nat} {F : Rows} {m : Nat} (h1 : 1 ≤ m) (h2 : m ≤ 24) : S_pass n F (nI m) = (0, nI (cnt (fun j => decide (0 < wetv F (nI m) j)) n), wetF F n (nI m)) := if_pos ⟨(nI_leI (a := 1) (b := m) (by omega) (by omega)).mpr h1, (nI_leI (a := m) (b := 24) (by omega) (by omega)).mpr h2⟩
theorem wetF_4 {F : Rows} {n : Nat} {x : Int32} {i : Nat} (h : i < n) : wetF F n x 4 i = wetv F x i := by
  show (if i < n then wetv F x i else F 4 i) = _
  rw [if_pos h]
theorem wv_6 {F : Rows} {x : Int32} {k : Nat} (h2 : F 9 2 = 1) (h6 : ¬ F 6 k = -1) : wetv F x k = 6 := if_pos ⟨by rw [h2]; decide, h6⟩
theorem wv_m {F : Rows} {x : Int32} {k : Nat} (h : ¬ (¬ F 9 2 = 0 ∧ ¬ F 6 k = -1)) (h2 : ¬ F 4 k ≤ x) : wetv F x k = F 4 k - x := by
  unfold wetv; rw [if_neg h, if_pos (i32_nge h2)]
theorem wv_0 {F : Rows} {x : Int32} {k : Nat} (h : ¬ (¬ F 9 2 = 0 ∧ ¬ F 6 k = -1)) (h2 : F 4 k ≤ x) : wetv F x k = 0 := by
  unfold wetv; rw [if_neg h, if_neg (by rw [i32_lt]; rw [i32_le] at h2; omega)]
theorem we_t {F : Rows} {x : Int32} {i : Nat} (h : ¬ wetv F x i ≤ 0) : nI (cnt (fun j => decide (0 < wetv F x j)) i) + 1 = nI (cnt (fun j => decide (0 < wetv F x j)) (i + 1)) := by
  rw [nI_1, cnt_t (decide_eq_true (i32_nge h))]
theorem we_f {F : Rows} {x : Int32} {i : Nat} (h : wetv F x i ≤ 0) : nI (cnt (fun j => decide (0 < wetv F x j)) i) + 0 = nI (cnt (fun j => decide (0 < wetv F x j)) (i + 1)) := by
  rw [Int32.add_zero, cnt_f (by rw [decide_eq_true_eq]; rw [i32_lt]; rw [i32_le] at h; omega)]
/-! winds -/
theorem alg_2 {a b x : Int32} (h : a - b = x) : a = b + x := by
  rw [← h, Int32.add_comm, Int32.sub_add_cancel]
theorem wn_d (n : Nat) (F : Rows) (sp sd : Int32) : wnE n F sp sd 9 3 - F 9 3 = nI (fc F n - fc (wnE n F sp sd) n) := by
  obtain ⟨h1, h2⟩ := wn_fc n F sp sd
  rw [h1, pk_sub h2]
theorem wn_gt {n p : Nat} {F : Rows} (hI : Inv n p F) (sp sd : Int32) : ¬ nI (fc F n - fc (wnE n F sp sd) n) < nI (tn (wnE n F sp sd) n) - nI (tn F n) := by
  obtain ⟨h1, h2⟩ := wn_tn hI sp sd
  have h3 : fc F n ≤ n := cnt_le _ n
  have h4 : tn (wnE n F sp sd) n ≤ n := cnt_le _ n
  have hn := hI.1.1
  rw [pk_sub h1, nI_ltI (by omega) (by omega)]
  omega
theorem wn_lt {n p : Nat} {F : Rows} (hI : Inv n p F) (sp sd : Int32) : ¬ nI (tn (wnE n F sp sd) n) < nI (tn F n) := by
  obtain ⟨h1, h2⟩ := wn_tn hI sp sd
  have h4 : tn (wnE n F sp sd) n ≤ n := cnt_le _ n
  have hn := hI.1.1
  rw [nI_ltI (by omega) (by omega)]
  omega

set_option maxHeartbeats 4000000 in
set_option maxRecDepth 100000 in
theorem c_L_isFlown (l9 : Launch) (hlt : l9.stackTraces = false) (dC : Nat → ClassId) (dI : Nat → Nat → Nat) (sz : Nat) {tK tB cI : ClassId} (h ak ab af : Nat) (ka kb : Nat → Nat) (n p : Nat) (F : Rows) (ad : Nat) (df : Nat → Int32) (k l : Nat) (len : Int32) (hI : Inv n p F) (hI2 : In2 n F) (hd3 : df 3 = F 9 0) (hkn : k < n) (hl10 : l < 10) (hlen : 10 ≤ len ∧ len ≤ 100) : Met l9 yL_isFlown wsL_isFlown ({ frames := 9, cells := 2, slots := 12, locals := 164 }) (va_Pc [.ref h, .ref ad, .int (nI k), .int (nI l), .int len] (PWr dC dI [(tK, .object "Windlane$Kite"), (tB, .object "Windlane$Borrower"), (cI, .int)] (cW tK tB h ak ab af ka kb n p F ++ [(ad, .inl (cI, 4, .inl df))]) sz)) (dQ dC dI tK tB cI h ak ab af ad (va_A (cW tK tB h ak ab af ka kb n p F ++ [(ad, .inl (cI, 4, .inl df))]) sz) n p ((S_fly n F (nI k) (nI l) len).2.2) df) 2 12 (va_A (cW tK tB h ak ab af ka kb n p F ++ [(ad, .inl (cI, 4, .inl df))]) sz) := by
  refine Met.ofW (cc := cL_isFlown) (maxL := 8) (ret := (some .boolean)) (by decide) rfl ?_
  intro p9 e9 s m args below meth c s₁ B hml hv
  obtain ⟨rfl, hsz, hP, hK, hD0, hE, hH⟩ := hv
  have hx := B.exec
  have hb := B.bytes
  have hr := B.returns
  have hts := atoms_spec (ws := wsL_isFlown) B.pre
  have hown : s.vm.findClass RL = some m.cls := findClass_of_methodNamed B.named
  have hlocks := B.notSynchronized
  subst hsz
  have hD := hD0.self (sz := s.heap.size)
  generalize hAe : va_A (cW tK tB h ak ab af ka kb n p F ++ [(ad, .inl (cI, 4, .inl df))]) s.heap.size = A at hD hH ⊢
  have hA : ∀ q : Nat, s.heap.size ≤ q → A q := fun q h => by rw [← hAe]; exact Or.inr h
  have hS : va_S A s.heap s.heap [] := va_S.rf
  have hP : va_P (dC, dI) vwCl (cW tK tB h ak ab af ka kb n p F ++ [(ad, .inl (cI, 4, .inl df))]) s.heap := hP
  have hK2 := hK.sub (tys' := [(tK, .object "Windlane$Kite"), (tB, .object "Windlane$Borrower")]) [0, 1] rfl
  have hn8 : n ≤ 8 := hI.1.1
  have hp8 : p ≤ 8 := hI.1.2
  have hl := lv_entry ([.ref h, .ref ad, .int (nI k), .int (nI l), .int len]) (n := 8) (Nat.le_of_ble_eq_true rfl)
  rw [lg_entry_eq]
  generalize (lg_sl ([.ref h, .ref ad, .int (nI k), .int (nI l), .int len]) ++ List.replicate (8 - (lg_sl ([.ref h, .ref ad, .int (nI k), .int (nI l), .int len])).length) Slot.unset).toArray = ls at hl ⊢
  have hl : lv_has ls 8 [(0, .ref h), (1, .ref ad), (2, .int (nI k)), (3, .int (nI l)), (4, .int len)] := hl
  have hsp : 0 ≤ F 9 0 ∧ F 9 0 ≤ 30 := hI.2.2.2.2.1.1
  refine W_join (pc := 32) (rest := []) (fun v => v = bi (held F k (F 9 0))) (fun v hv => ?_) (fun K32 => ?_)
  · subst hv
    refine lv_istore (lv' := [(5, .int (bi (held F k (F 9 0)))), (0, .ref h), (1, .ref ad), (2, .int (nI k)), (3, .int (nI l)), (4, .int len)]) hx hb dL_isFlown_32 hl (by decide) rfl (fun ls hl => ?_)
    refine W_join (pc := 82) (rest := []) (fun v => v = bi (may F n k l)) (fun v hv => ?_) (fun K82 => ?_)
    · subst hv
      refine lv_istore (lv' := [(6, .int (bi (may F n k l))), (5, .int (bi (held F k (F 9 0)))), (0, .ref h), (1, .ref ad), (2, .int (nI k)), (3, .int (nI l)), (4, .int len)]) hx hb dL_isFlown_82 hl (by decide) rfl (fun ls hl => ?_)
      refine lv_aload_n hx hb dL_isFlown_84 rfl (lv_at hl 2 rfl) ?_
      refine lv_iload_n hx hb dL_isFlown_85 rfl (lv_at hl 4 rfl) ?_
      refine lv_iload_n hx hb dL_isFlown_86 rfl (lv_at hl 5 rfl) ?_
      refine lv_iload hx hb dL_isFlown_87 (lv_at hl 6 rfl) ?_
      have hF1 := A_in (D_left hD) hS hA
      refine va_calli (vx_runSW (As := [.ref h, .int (nI k), .int (nI l), .int len]) (rest := []) ⟨hx, hb, hml, hown, hts⟩ (c_L_flies l9 hlt dC dI s.heap.size h ak ab af ka kb n p F (nI k) (nI l) len hI (fly_ok hn8 hkn hl10 hlen)) (vx_cwSW 4 hts gL_isFlown_L_flies rfl rfl rfl (by decide +kernel) ⟨Nat.le_of_ble_eq_true rfl, Nat.le_of_ble_eq_true rfl⟩) ⟨PWr.blind, PWr.pre (P_left hP) hK2 (D_left hD) hE ((hH.kept hS.2.1).narrow hF1)⟩ rfl rfl hl.1 rfl (lv_room (Nat.le_of_ble_eq_true rfl)) dL_isFlown_89 ⟨Nat.le_of_ble_eq_true rfl, Nat.le_of_ble_eq_true rfl⟩) hS (fun q _ hq => hF1 q hq) hF1 (fun r9 u9 t9 H locs ht9 hvm hw9 hB hz1 hk1 hS => ?_)
      obtain ⟨hP1, hD1⟩ := hB
      rw [ht9] at hP1
      obtain ⟨hP, hD⟩ := join_L hP hD hk1 hF1 hP1 hD1
      have hS9 := fly_S (F := F) hn8 hkn hl10 hlen
      have hI9 := I_fly hI (nI k) (nI l) len
      by_cases hc9 : may F n k l ∧ clr F n k (nI l) len
      · skip
        rw [if_pos hc9] at hS9
        rw [hS9] at hw9 hP hD hI9
        have hI9 : Inv n p (flF9 F k l len) := hI9
        have hP : va_P (dC, dI) vwCl (cW tK tB h ak ab af u9.1 u9.2 n p (flF9 F k l len) ++ [(ad, .inl (cI, 4, .inl df))]) H := hP
        have hD : va_D A (cW tK tB h ak ab af u9.1 u9.2 n p (flF9 F k l len) ++ [(ad, .inl (cI, 4, .inl df))]) := hD
        have hw9 : r9 = en F k (nI l) len := hw9.trans (if_pos rfl)
        have hne9 := en_ne hl10 hI2.1 hlen hc9.1.2.2.2.1
        subst hw9
        refine lv_istore (lv' := [(7, .int (en F k (nI l) len)), (6, .int (bi (may F n k l))), (5, .int (bi (held F k (F 9 0)))), (0, .ref h), (1, .ref ad), (2, .int (nI k)), (3, .int (nI l)), (4, .int len)]) hx hb dL_isFlown_92 hl (by decide) rfl (fun ls hl => ?_)
        refine lv_iload hx hb dL_isFlown_94 (lv_at hl 0 rfl) ?_
        refine lv_ldc (v := (-99999)) hx hb hown (hts (.constant RL 35 (-99999)) (by decide +kernel)) dL_isFlown_96 ?_
        refine lv_icmp_ne (tgt := 123) hx hb dL_isFlown_98 (by decide) (fun _ => ?_) (fun c_98 => absurd c_98 (hne9))
        refine lv_iload hx hb dL_isFlown_123 (lv_at hl 1 rfl) ?_
        refine lv_if_eq (tgt := 162) hx hb dL_isFlown_125 (by decide) (fun c_125 => absurd c_125 (bi_nz.mpr hc9.1)) (fun _ => ?_)
        refine lv_aload_n hx hb dL_isFlown_128 rfl (lv_at hl 3 rfl) ?_
        refine lv_iload_n hx hb dL_isFlown_129 rfl (lv_at hl 6 rfl) ?_
        refine vp_callSi (va_Run.run (va_runV (As := [.int (nI l)]) (rest := []) ⟨hx, hb, hml, hown, hts⟩ (r_X2_lane l9 dC dI h ak ab af u9.1 u9.2 n p (flF9 F k l len) l hI9 hl10) (cwV 1 hts gL_isFlown_X2_lane rfl rfl rfl (by decide +kernel) ⟨Nat.le_of_ble_eq_true rfl, Nat.le_of_ble_eq_true rfl⟩) ⟨PRo.blind, va_recv hK2 (P_left hP) (ci := 2) (q0 := 0) rfl rfl, PRo.pre (P_left hP) hK2 hE⟩ rfl rfl hl.1 rfl (lv_room (Nat.le_of_ble_eq_true rfl)) dL_isFlown_130 ⟨Nat.le_of_ble_eq_true rfl, Nat.le_of_ble_eq_true rfl⟩)) (fun r hr => ?_)
        subst hr
        refine W_top (y := .int (nI k)) (congrArg (fun z => Value.int (oI z)) (fly_lk hkn hc9.1.2.2.2.2)) ?_
        refine lv_iload_n hx hb dL_isFlown_133 rfl (lv_at hl 5 rfl) ?_
        refine lv_icmp_ne (tgt := 162) hx hb dL_isFlown_134 (by decide) (fun c_134 => absurd (rfl) c_134) (fun _ => ?_)
        refine lv_aload_n hx hb dL_isFlown_137 rfl (lv_at hl 3 rfl) ?_
        refine lv_iload_n hx hb dL_isFlown_138 rfl (lv_at hl 5 rfl) ?_
        refine lv_iconst (v := 4) hx hb dL_isFlown_139 (by decide) ?_
        refine W_top (y := .int (nI 4)) (rfl) ?_
        refine vp_callSi (va_Run.run (va_runV (As := [.int (nI k), .int (nI 4)]) (rest := []) ⟨hx, hb, hml, hown, hts⟩ (r_X2_about l9 dC dI h ak ab af u9.1 u9.2 n p (flF9 F k l len) k 4 hI9 hkn (by decide)) (cwV 2 hts gL_isFlown_X2_about rfl rfl rfl (by decide +kernel) ⟨Nat.le_of_ble_eq_true rfl, Nat.le_of_ble_eq_true rfl⟩) ⟨PRo.blind, va_recv hK2 (P_left hP) (ci := 2) (q0 := 0) rfl rfl, PRo.pre (P_left hP) hK2 hE⟩ rfl rfl hl.1 rfl (lv_room (Nat.le_of_ble_eq_true rfl)) dL_isFlown_140 ⟨Nat.le_of_ble_eq_true rfl, Nat.le_of_ble_eq_true rfl⟩)) (fun r hr => ?_)
        subst hr
        refine W_top (y := .int (nI l)) (congrArg Value.int (fly_6 F k l len)) ?_
        refine lv_iload_n hx hb dL_isFlown_143 rfl (lv_at hl 6 rfl) ?_
        refine lv_icmp_ne (tgt := 162) hx hb dL_isFlown_144 (by decide) (fun c_144 => absurd (rfl) c_144) (fun _ => ?_)
        refine lv_aload_n hx hb dL_isFlown_147 rfl (lv_at hl 3 rfl) ?_
        refine lv_iload_n hx hb dL_isFlown_148 rfl (lv_at hl 5 rfl) ?_
        refine lv_iconst (v := 5) hx hb dL_isFlown_149 (by decide) ?_
        refine W_top (y := .int (nI 5)) (rfl) ?_
        refine vp_callSi (va_Run.run (va_runV (As := [.int (nI k), .int (nI 5)]) (rest := []) ⟨hx, hb, hml, hown, hts⟩ (r_X2_about l9 dC dI h ak ab af u9.1 u9.2 n p (flF9 F k l len) k 5 hI9 hkn (by decide)) (cwV 2 hts gL_isFlown_X2_about rfl rfl rfl (by decide +kernel) ⟨Nat.le_of_ble_eq_true rfl, Nat.le_of_ble_eq_true rfl⟩) ⟨PRo.blind, va_recv hK2 (P_left hP) (ci := 2) (q0 := 0) rfl rfl, PRo.pre (P_left hP) hK2 hE⟩ rfl rfl hl.1 rfl (lv_room (Nat.le_of_ble_eq_true rfl)) dL_isFlown_150 ⟨Nat.le_of_ble_eq_true rfl, Nat.le_of_ble_eq_true rfl⟩)) (fun r hr => ?_)
        subst hr
        refine W_top (y := .int (en F k (nI l) len)) (congrArg Value.int (fly_5 hl10)) ?_
        refine lv_iload hx hb dL_isFlown_153 (lv_at hl 0 rfl) ?_
        refine lv_icmp_ne (tgt := 162) hx hb dL_isFlown_155 (by decide) (fun c_155 => absurd (rfl) c_155) (fun _ => ?_)
        refine lv_iconst (v := 1) hx hb dL_isFlown_158 (by decide) ?_
        refine lv_goto (tgt := 163) hx hb dL_isFlown_159 (by decide) ?_
        rw [hS9]
        refine W.widen (k := 2) (n := 12) (Nat.le_of_ble_eq_true rfl) (Nat.le_of_ble_eq_true rfl) ?_
        exact W.zret (v := 1) hx hb hr rfl (fun t ht hW => dQ_mk u9.1 u9.2 (by rw [ht]; exact hP) hD (hS.F ht)) hS.2.2 dL_isFlown_163
      · skip
        rw [if_neg hc9] at hS9
        rw [hS9] at hw9 hP hD hI9
        have hI9 : Inv n p F := hI9
        have hP : va_P (dC, dI) vwCl (cW tK tB h ak ab af u9.1 u9.2 n p F ++ [(ad, .inl (cI, 4, .inl df))]) H := hP
        have hD : va_D A (cW tK tB h ak ab af u9.1 u9.2 n p F ++ [(ad, .inl (cI, 4, .inl df))]) := hD
        have hw9 : r9 = -99999 := hw9.trans (if_neg (by decide : ¬ (3 : Int32) = 0))
        subst hw9
        refine lv_istore (lv' := [(7, .int (-99999)), (6, .int (bi (may F n k l))), (5, .int (bi (held F k (F 9 0)))), (0, .ref h), (1, .ref ad), (2, .int (nI k)), (3, .int (nI l)), (4, .int len)]) hx hb dL_isFlown_92 hl (by decide) rfl (fun ls hl => ?_)
        refine lv_iload hx hb dL_isFlown_94 (lv_at hl 0 rfl) ?_
        refine lv_ldc (v := (-99999)) hx hb hown (hts (.constant RL 35 (-99999)) (by decide +kernel)) dL_isFlown_96 ?_
        refine lv_icmp_ne (tgt := 123) hx hb dL_isFlown_98 (by decide) (fun c_98 => absurd (rfl) c_98) (fun _ => ?_)
        refine lv_aload_n hx hb dL_isFlown_101 rfl (lv_at hl 3 rfl) ?_
        refine lv_iload_n hx hb dL_isFlown_102 rfl (lv_at hl 6 rfl) ?_
        refine vp_callSi (va_Run.run (va_runV (As := [.int (nI l)]) (rest := []) ⟨hx, hb, hml, hown, hts⟩ (r_X2_lane l9 dC dI h ak ab af u9.1 u9.2 n p F l hI9 hl10) (cwV 1 hts gL_isFlown_X2_lane rfl rfl rfl (by decide +kernel) ⟨Nat.le_of_ble_eq_true rfl, Nat.le_of_ble_eq_true rfl⟩) ⟨PRo.blind, va_recv hK2 (P_left hP) (ci := 2) (q0 := 0) rfl rfl, PRo.pre (P_left hP) hK2 hE⟩ rfl rfl hl.1 rfl (lv_room (Nat.le_of_ble_eq_true rfl)) dL_isFlown_103 ⟨Nat.le_of_ble_eq_true rfl, Nat.le_of_ble_eq_true rfl⟩)) (fun r hr => ?_)
        subst hr
        refine lv_iload_n hx hb dL_isFlown_106 rfl (lv_at hl 5 rfl) ?_
        refine lv_icmp_ne (tgt := 115) hx hb dL_isFlown_107 (by decide) (fun c_107 => ?_) (fun c_107 => ?_)
        · skip
          refine lv_iconst (v := 1) hx hb dL_isFlown_115 (by decide) ?_
          refine lv_goto (tgt := 163) hx hb dL_isFlown_116 (by decide) ?_
          rw [hS9]
          refine W.widen (k := 2) (n := 12) (Nat.le_of_ble_eq_true rfl) (Nat.le_of_ble_eq_true rfl) ?_
          exact W.zret (v := 1) hx hb hr rfl (fun t ht hW => dQ_mk u9.1 u9.2 (by rw [ht]; exact hP) hD (hS.F ht)) hS.2.2 dL_isFlown_163
        · skip
          refine lv_iload hx hb dL_isFlown_110 (lv_at hl 1 rfl) ?_
          refine lv_if_ne (tgt := 119) hx hb dL_isFlown_112 (by decide) (fun c_112 => absurd (bi_f (fun q => by rw [q.2.2.2.2] at c_107; exact nI_m1 (by omega) c_107.symm)) c_112) (fun _ => ?_)
          refine lv_iconst (v := 1) hx hb dL_isFlown_115 (by decide) ?_
          refine lv_goto (tgt := 163) hx hb dL_isFlown_116 (by decide) ?_
          rw [hS9]
          refine W.widen (k := 2) (n := 12) (Nat.le_of_ble_eq_true rfl) (Nat.le_of_ble_eq_true rfl) ?_
          exact W.zret (v := 1) hx hb hr rfl (fun t ht hW => dQ_mk u9.1 u9.2 (by rw [ht]; exact hP) hD (hS.F ht)) hS.2.2 dL_isFlown_163
    · skip
      refine lv_aload_n hx hb dL_isFlown_34 rfl (lv_at hl 1 rfl) ?_
      refine lv_iload_n hx hb dL_isFlown_35 rfl (lv_at hl 3 rfl) ?_
      refine lv_iconst (v := 1) hx hb dL_isFlown_36 (by decide) ?_
      refine W_top (y := .int (nI 1)) (rfl) ?_
      refine vp_callSi (va_Run.run (va_runV (As := [.int (nI k), .int (nI 1)]) (rest := []) ⟨hx, hb, hml, hown, hts⟩ (r_X2_about l9 dC dI h ak ab af ka kb n p F k 1 hI hkn (by decide)) (cwV 2 hts gL_isFlown_X2_about rfl rfl rfl (by decide +kernel) ⟨Nat.le_of_ble_eq_true rfl, Nat.le_of_ble_eq_true rfl⟩) ⟨PRo.blind, va_recv hK2 (P_left hP) (ci := 2) (q0 := 0) rfl rfl, PRo.pre (P_left hP) hK2 hE⟩ rfl rfl hl.1 rfl (lv_room (Nat.le_of_ble_eq_true rfl)) dL_isFlown_37 ⟨Nat.le_of_ble_eq_true rfl, Nat.le_of_ble_eq_true rfl⟩)) (fun r hr => ?_)
      subst hr
      refine W_top (y := .int (F 3 k)) (rfl) ?_
      refine lv_if_ne (tgt := 81) hx hb dL_isFlown_40 (by decide) (fun c_40 => ?_) (fun c_40 => ?_)
      · skip
        refine lv_iconst (v := 0) hx hb dL_isFlown_81 (by decide) ?_
        exact K82 _ ((bi_f (fun q => c_40 q.1)).symm)
      · skip
        refine lv_aload_n hx hb dL_isFlown_43 rfl (lv_at hl 1 rfl) ?_
        refine lv_iload_n hx hb dL_isFlown_44 rfl (lv_at hl 3 rfl) ?_
        refine lv_iconst (v := 3) hx hb dL_isFlown_45 (by decide) ?_
        refine W_top (y := .int (nI 3)) (rfl) ?_
        refine vp_callSi (va_Run.run (va_runV (As := [.int (nI k), .int (nI 3)]) (rest := []) ⟨hx, hb, hml, hown, hts⟩ (r_X2_about l9 dC dI h ak ab af ka kb n p F k 3 hI hkn (by decide)) (cwV 2 hts gL_isFlown_X2_about rfl rfl rfl (by decide +kernel) ⟨Nat.le_of_ble_eq_true rfl, Nat.le_of_ble_eq_true rfl⟩) ⟨PRo.blind, va_recv hK2 (P_left hP) (ci := 2) (q0 := 0) rfl rfl, PRo.pre (P_left hP) hK2 hE⟩ rfl rfl hl.1 rfl (lv_room (Nat.le_of_ble_eq_true rfl)) dL_isFlown_46 ⟨Nat.le_of_ble_eq_true rfl, Nat.le_of_ble_eq_true rfl⟩)) (fun r hr => ?_)
        subst hr
        refine W_top (y := .int (F 5 k)) (rfl) ?_
        refine lv_iconst (v := (-1)) hx hb dL_isFlown_49 (by decide) ?_
        refine lv_icmp_eq (tgt := 81) hx hb dL_isFlown_50 (by decide) (fun c_50 => ?_) (fun c_50 => ?_)
        · skip
          refine lv_iconst (v := 0) hx hb dL_isFlown_81 (by decide) ?_
          exact K82 _ ((bi_f (fun q => q.2.1 c_50)).symm)
        · skip
          refine lv_aload_n hx hb dL_isFlown_53 rfl (lv_at hl 1 rfl) ?_
          refine lv_iload_n hx hb dL_isFlown_54 rfl (lv_at hl 3 rfl) ?_
          refine lv_iconst (v := 4) hx hb dL_isFlown_55 (by decide) ?_
          refine W_top (y := .int (nI 4)) (rfl) ?_
          refine vp_callSi (va_Run.run (va_runV (As := [.int (nI k), .int (nI 4)]) (rest := []) ⟨hx, hb, hml, hown, hts⟩ (r_X2_about l9 dC dI h ak ab af ka kb n p F k 4 hI hkn (by decide)) (cwV 2 hts gL_isFlown_X2_about rfl rfl rfl (by decide +kernel) ⟨Nat.le_of_ble_eq_true rfl, Nat.le_of_ble_eq_true rfl⟩) ⟨PRo.blind, va_recv hK2 (P_left hP) (ci := 2) (q0 := 0) rfl rfl, PRo.pre (P_left hP) hK2 hE⟩ rfl rfl hl.1 rfl (lv_room (Nat.le_of_ble_eq_true rfl)) dL_isFlown_56 ⟨Nat.le_of_ble_eq_true rfl, Nat.le_of_ble_eq_true rfl⟩)) (fun r hr => ?_)
          subst hr
          refine W_top (y := .int (F 6 k)) (rfl) ?_
          refine lv_iconst (v := (-1)) hx hb dL_isFlown_59 (by decide) ?_
          refine lv_icmp_ne (tgt := 81) hx hb dL_isFlown_60 (by decide) (fun c_60 => ?_) (fun c_60 => ?_)
          · skip
            refine lv_iconst (v := 0) hx hb dL_isFlown_81 (by decide) ?_
            exact K82 _ ((bi_f (fun q => c_60 q.2.2.1)).symm)
          · skip
            refine lv_iload hx hb dL_isFlown_63 (lv_at hl 0 rfl) ?_
            refine lv_if_eq (tgt := 81) hx hb dL_isFlown_65 (by decide) (fun c_65 => ?_) (fun c_65 => ?_)
            · skip
              have c_65 := bi_z.mp c_65
              refine lv_iconst (v := 0) hx hb dL_isFlown_81 (by decide) ?_
              exact K82 _ ((bi_f (fun q => c_65 q.2.2.2.1)).symm)
            · skip
              have c_65 := bi_nz.mp c_65
              refine lv_aload_n hx hb dL_isFlown_68 rfl (lv_at hl 1 rfl) ?_
              refine lv_iload_n hx hb dL_isFlown_69 rfl (lv_at hl 4 rfl) ?_
              refine vp_callSi (va_Run.run (va_runV (As := [.int (nI l)]) (rest := []) ⟨hx, hb, hml, hown, hts⟩ (r_X2_lane l9 dC dI h ak ab af ka kb n p F l hI hl10) (cwV 1 hts gL_isFlown_X2_lane rfl rfl rfl (by decide +kernel) ⟨Nat.le_of_ble_eq_true rfl, Nat.le_of_ble_eq_true rfl⟩) ⟨PRo.blind, va_recv hK2 (P_left hP) (ci := 2) (q0 := 0) rfl rfl, PRo.pre (P_left hP) hK2 hE⟩ rfl rfl hl.1 rfl (lv_room (Nat.le_of_ble_eq_true rfl)) dL_isFlown_70 ⟨Nat.le_of_ble_eq_true rfl, Nat.le_of_ble_eq_true rfl⟩)) (fun r hr => ?_)
              subst hr
              refine lv_iconst (v := (-1)) hx hb dL_isFlown_73 (by decide) ?_
              refine lv_icmp_ne (tgt := 81) hx hb dL_isFlown_74 (by decide) (fun c_74 => ?_) (fun c_74 => ?_)
              · skip
                refine lv_iconst (v := 0) hx hb dL_isFlown_81 (by decide) ?_
                exact K82 _ ((bi_f (fun q => c_74 ((lk_oI hn8).mpr q.2.2.2.2))).symm)
              · skip
                refine lv_iconst (v := 1) hx hb dL_isFlown_77 (by decide) ?_
                refine lv_goto (tgt := 82) hx hb dL_isFlown_78 (by decide) ?_
                exact K82 _ ((bi_t ⟨c_40, c_50, c_60, c_65, (lk_oI hn8).mp c_74⟩).symm)
  · skip
    refine lv_aload_n hx hb dL_isFlown_0 rfl (lv_at hl 0 rfl) ?_
    refine lv_iload_n hx hb dL_isFlown_1 rfl (lv_at hl 2 rfl) ?_
    refine lv_aload_n hx hb dL_isFlown_2 rfl (lv_at hl 1 rfl) ?_
    refine lv_iconst (v := 3) hx hb dL_isFlown_3 (by decide) ?_
    refine W_top (y := .int (nI 3)) (rfl) ?_
    refine my_iald hx hb hK hP _ 2 (ap_at (w1 := cW tK tB h ak ab af ka kb n p F) (i := 0) rfl) rfl (k := 3) (by decide) (by decide) dL_isFlown_4 ?_
    refine W_top (y := .int (F 9 0)) (congrArg Value.int (hd3)) ?_
    refine vp_callSi (va_Run.run (va_runV (As := [.int (nI k), .int (F 9 0)]) (rest := []) ⟨hx, hb, hml, hown, hts⟩ (r_X2_pull l9 dC dI h ak ab af ka kb n p F k (F 9 0) hI hkn hsp) (cwV 2 hts gL_isFlown_X2_pull rfl rfl rfl (by decide +kernel) ⟨Nat.le_of_ble_eq_true rfl, Nat.le_of_ble_eq_true rfl⟩) ⟨PRo.blind, va_recv hK2 (P_left hP) (ci := 2) (q0 := 0) rfl rfl, PRo.pre (P_left hP) hK2 hE⟩ rfl rfl hl.1 rfl (lv_room (Nat.le_of_ble_eq_true rfl)) dL_isFlown_5 ⟨Nat.le_of_ble_eq_true rfl, Nat.le_of_ble_eq_true rfl⟩)) (fun r hr => ?_)
    subst hr
    refine lv_bipush (v := 100) hx hb dL_isFlown_8 (by decide) ?_
    refine lv_icmp_lt (tgt := 31) hx hb dL_isFlown_10 (by decide) (fun c_10 => ?_) (fun c_10 => ?_)
    · skip
      refine lv_iconst (v := 0) hx hb dL_isFlown_31 (by decide) ?_
      exact K32 _ ((bi_f (fun q => by have q1 := q.1; rw [i32_le] at q1; rw [i32_lt] at c_10; omega)).symm)
    · skip
      refine lv_aload_n hx hb dL_isFlown_13 rfl (lv_at hl 0 rfl) ?_
      refine lv_iload_n hx hb dL_isFlown_14 rfl (lv_at hl 2 rfl) ?_
      refine lv_aload_n hx hb dL_isFlown_15 rfl (lv_at hl 1 rfl) ?_
      refine lv_iconst (v := 3) hx hb dL_isFlown_16 (by decide) ?_
      refine W_top (y := .int (nI 3)) (rfl) ?_
      refine my_iald hx hb hK hP _ 2 (ap_at (w1 := cW tK tB h ak ab af ka kb n p F) (i := 0) rfl) rfl (k := 3) (by decide) (by decide) dL_isFlown_17 ?_
      refine W_top (y := .int (F 9 0)) (congrArg Value.int (hd3)) ?_
      refine vp_callSi (va_Run.run (va_runV (As := [.int (nI k), .int (F 9 0)]) (rest := []) ⟨hx, hb, hml, hown, hts⟩ (r_X2_pull l9 dC dI h ak ab af ka kb n p F k (F 9 0) hI hkn hsp) (cwV 2 hts gL_isFlown_X2_pull rfl rfl rfl (by decide +kernel) ⟨Nat.le_of_ble_eq_true rfl, Nat.le_of_ble_eq_true rfl⟩) ⟨PRo.blind, va_recv hK2 (P_left hP) (ci := 2) (q0 := 0) rfl rfl, PRo.pre (P_left hP) hK2 hE⟩ rfl rfl hl.1 rfl (lv_room (Nat.le_of_ble_eq_true rfl)) dL_isFlown_18 ⟨Nat.le_of_ble_eq_true rfl, Nat.le_of_ble_eq_true rfl⟩)) (fun r hr => ?_)
      subst hr
      refine lv_sipush (v := 6000) hx hb dL_isFlown_21 (by decide) ?_
      refine lv_icmp_gt (tgt := 31) hx hb dL_isFlown_24 (by decide) (fun c_24 => ?_) (fun c_24 => ?_)
      · skip
        refine lv_iconst (v := 0) hx hb dL_isFlown_31 (by decide) ?_
        exact K32 _ ((bi_f (fun q => by have q2 := q.2; rw [i32_le] at q2; rw [i32_lt] at c_24; omega)).symm)
      · skip
        refine lv_iconst (v := 1) hx hb dL_isFlown_27 (by decide) ?_
        refine lv_goto (tgt := 32) hx hb dL_isFlown_28 (by decide) ?_
        exact K32 _ ((bi_t ⟨by rw [i32_le]; rw [i32_lt] at c_10; omega, by rw [i32_le]; rw [i32_lt] at c_24; omega⟩).symm)

set_option maxHeartbeats 4000000 in
set_option maxRecDepth 100000 in
theorem c_L_isPassed (l9 : Launch) (hlt : l9.stackTraces = false) (dC : Nat → ClassId) (dI : Nat → Nat → Nat) (sz : Nat) {tK tB cI : ClassId} (h ak ab af : Nat) (ka kb : Nat → Nat) (n p : Nat) (F : Rows) (ad : Nat) (df : Nat → Int32) (k hs : Nat) (hI : Inv n p F) (hd0 : df 0 = nI n) (hd2 : df 2 = F 9 2) (hkn : k < n) (hh1 : 1 ≤ hs) (hh2 : hs ≤ 24) : Met l9 yL_isPassed wsL_isPassed ({ frames := 7, cells := 1, slots := 6, locals := 113 }) (va_Pc [.ref h, .ref ad, .int (nI k), .int (nI hs)] (PWr dC dI [(tK, .object "Windlane$Kite"), (tB, .object "Windlane$Borrower"), (cI, .int)] (cW tK tB h ak ab af ka kb n p F ++ [(ad, .inl (cI, 4, .inl df))]) sz)) (dQ dC dI tK tB cI h ak ab af ad (va_A (cW tK tB h ak ab af ka kb n p F ++ [(ad, .inl (cI, 4, .inl df))]) sz) n p ((S_pass n F (nI hs)).2.2) df) 1 6 (va_A (cW tK tB h ak ab af ka kb n p F ++ [(ad, .inl (cI, 4, .inl df))]) sz) := by
  refine Met.ofW (cc := cL_isPassed) (maxL := 9) (ret := (some .boolean)) (by decide) rfl ?_
  intro p9 e9 s m args below meth c s₁ B hml hv
  obtain ⟨rfl, hsz, hP, hK, hD0, hE, hH⟩ := hv
  have hx := B.exec
  have hb := B.bytes
  have hr := B.returns
  have hts := atoms_spec (ws := wsL_isPassed) B.pre
  have hown : s.vm.findClass RL = some m.cls := findClass_of_methodNamed B.named
  have hlocks := B.notSynchronized
  subst hsz
  have hD := hD0.self (sz := s.heap.size)
  generalize hAe : va_A (cW tK tB h ak ab af ka kb n p F ++ [(ad, .inl (cI, 4, .inl df))]) s.heap.size = A at hD hH ⊢
  have hA : ∀ q : Nat, s.heap.size ≤ q → A q := fun q h => by rw [← hAe]; exact Or.inr h
  have hS : va_S A s.heap s.heap [] := va_S.rf
  have hP : va_P (dC, dI) vwCl (cW tK tB h ak ab af ka kb n p F ++ [(ad, .inl (cI, 4, .inl df))]) s.heap := hP
  have hK2 := hK.sub (tys' := [(tK, .object "Windlane$Kite"), (tB, .object "Windlane$Borrower")]) [0, 1] rfl
  have hn8 : n ≤ 8 := hI.1.1
  have hp8 : p ≤ 8 := hI.1.2
  have hl := lv_entry ([.ref h, .ref ad, .int (nI k), .int (nI hs)]) (n := 9) (Nat.le_of_ble_eq_true rfl)
  rw [lg_entry_eq]
  generalize (lg_sl ([.ref h, .ref ad, .int (nI k), .int (nI hs)]) ++ List.replicate (9 - (lg_sl ([.ref h, .ref ad, .int (nI k), .int (nI hs)])).length) Slot.unset).toArray = ls at hl ⊢
  have hl : lv_has ls 9 [(0, .ref h), (1, .ref ad), (2, .int (nI k)), (3, .int (nI hs))] := hl
  refine lv_aload_n hx hb dL_isPassed_0 rfl (lv_at hl 0 rfl) ?_
  refine lv_iload_n hx hb dL_isPassed_1 rfl (lv_at hl 2 rfl) ?_
  refine lv_iconst (v := 2) hx hb dL_isPassed_2 (by decide) ?_
  refine W_top (y := .int (nI 2)) (rfl) ?_
  refine vp_callSi (va_Run.run (va_runV (As := [.int (nI k), .int (nI 2)]) (rest := []) ⟨hx, hb, hml, hown, hts⟩ (r_X2_about l9 dC dI h ak ab af ka kb n p F k 2 hI hkn (by decide)) (cwV 2 hts gL_isPassed_X2_about rfl rfl rfl (by decide +kernel) ⟨Nat.le_of_ble_eq_true rfl, Nat.le_of_ble_eq_true rfl⟩) ⟨PRo.blind, va_recv hK2 (P_left hP) (ci := 2) (q0 := 0) rfl rfl, PRo.pre (P_left hP) hK2 hE⟩ rfl rfl hl.1 rfl (lv_room (Nat.le_of_ble_eq_true rfl)) dL_isPassed_3 ⟨Nat.le_of_ble_eq_true rfl, Nat.le_of_ble_eq_true rfl⟩)) (fun r hr => ?_)
  subst hr
  refine W_top (y := .int (F 4 k)) (rfl) ?_
  refine lv_istore (lv' := [(4, .int (F 4 k)), (0, .ref h), (1, .ref ad), (2, .int (nI k)), (3, .int (nI hs))]) hx hb dL_isPassed_6 hl (by decide) rfl (fun ls hl => ?_)
  refine W_join (pc := 23) (rest := []) (fun v => v = bi (¬ F 6 k = -1)) (fun v hv => ?_) (fun K23 => ?_)
  · subst hv
    refine lv_istore (lv' := [(5, .int (bi (¬ F 6 k = -1))), (4, .int (F 4 k)), (0, .ref h), (1, .ref ad), (2, .int (nI k)), (3, .int (nI hs))]) hx hb dL_isPassed_23 hl (by decide) rfl (fun ls hl => ?_)
    refine lv_aload_n hx hb dL_isPassed_25 rfl (lv_at hl 2 rfl) ?_
    refine lv_iload_n hx hb dL_isPassed_26 rfl (lv_at hl 5 rfl) ?_
    have hS9 := pass_S (n := n) (F := F) hh1 hh2
    have hF1 := A_in (D_left hD) hS hA
    refine vx_calli (vx_runV (As := [.int (nI hs)]) (rest := []) ⟨hx, hb, hml, hown, hts⟩ (c_X2_pass l9 hlt dC dI s.heap.size h ak ab af ka kb n p F (nI hs) hI) (cwV 1 hts gL_isPassed_X2_pass rfl rfl rfl (by decide +kernel) ⟨Nat.le_of_ble_eq_true rfl, Nat.le_of_ble_eq_true rfl⟩) ⟨PWr.blind, va_recv hK2 (P_left hP) (ci := 2) (q0 := 0) rfl rfl, PWr.pre (P_left hP) hK2 (D_left hD) hE ((hH.kept hS.2.1).narrow hF1)⟩ rfl rfl hl.1 rfl (lv_room (Nat.le_of_ble_eq_true rfl)) dL_isPassed_27 ⟨Nat.le_of_ble_eq_true rfl, Nat.le_of_ble_eq_true rfl⟩) hS (fun q _ hq => hF1 q hq) hF1 (fun _ _ z => z.elim) (fun E ce q9 u9 t9 H locs ht9 hvm hpx hBE hz1 hk1 hS hce hcv hcl => absurd hBE.2 (by rw [hS9]; exact (by decide : ¬ (0 : Int32) = 1))) (fun r9 u9 t9 H locs ht9 hvm hw9 hB hz1 hk1 hS => ?_)
    obtain ⟨hth9, hw9⟩ := hw9
    obtain ⟨hP1, hD1⟩ := hB
    rw [ht9] at hP1
    obtain ⟨hP, hD⟩ := join_L hP hD hk1 hF1 hP1 hD1
    have hI9 := I_pass hI (nI hs)
    rw [hS9] at hw9 hP hD hI9
    have hI9 : Inv n p (wetF F n (nI hs)) := hI9
    have hP : va_P (dC, dI) vwCl (cW tK tB h ak ab af u9.1 u9.2 n p (wetF F n (nI hs)) ++ [(ad, .inl (cI, 4, .inl df))]) H := hP
    have hD : va_D A (cW tK tB h ak ab af u9.1 u9.2 n p (wetF F n (nI hs)) ++ [(ad, .inl (cI, 4, .inl df))]) := hD
    have hw9 : r9 = nI (cnt (fun j => decide (0 < wetv F (nI hs) j)) n) := hw9
    subst hw9
    refine lv_istore (lv' := [(6, .int (nI (cnt (fun j => decide (0 < wetv F (nI hs) j)) n))), (5, .int (bi (¬ F 6 k = -1))), (4, .int (F 4 k)), (0, .ref h), (1, .ref ad), (2, .int (nI k)), (3, .int (nI hs))]) hx hb dL_isPassed_30 hl (by decide) rfl (fun ls hl => ?_)
    refine lv_iconst (v := 0) hx hb dL_isPassed_32 (by decide) ?_
    refine lv_istore (lv' := [(7, .int 0), (6, .int (nI (cnt (fun j => decide (0 < wetv F (nI hs) j)) n))), (5, .int (bi (¬ F 6 k = -1))), (4, .int (F 4 k)), (0, .ref h), (1, .ref ad), (2, .int (nI k)), (3, .int (nI hs))]) hx hb dL_isPassed_33 hl (by decide) rfl (fun ls hl => ?_)
    refine lv_iconst (v := 0) hx hb dL_isPassed_35 (by decide) ?_
    refine lv_istore (lv' := [(8, .int 0), (7, .int 0), (6, .int (nI (cnt (fun j => decide (0 < wetv F (nI hs) j)) n))), (5, .int (bi (¬ F 6 k = -1))), (4, .int (F 4 k)), (0, .ref h), (1, .ref ad), (2, .int (nI k)), (3, .int (nI hs))]) hx hb dL_isPassed_36 hl (by decide) rfl (fun ls hl => ?_)
    refine W_loopR (nL := 9) (fun i : Nat => [(8, .int (nI i)), (7, .int (nI (cnt (fun j => decide (0 < wetv F (nI hs) j)) i))), (6, .int (nI (cnt (fun j => decide (0 < wetv F (nI hs) j)) n))), (4, .int (F 4 k)), (5, .int (bi (¬ F 6 k = -1))), (0, .ref h), (1, .ref ad), (2, .int (nI k)), (3, .int (nI hs))]) (fun i => i ≤ n) (fun i => n - i) ?_ 0 (Nat.zero_le _) (lv_sub hl [0, 1, 2, 4, 3, 5, 6, 7, 8] rfl)
    intro i ls hJ hl ih
    have hl : lv_has ls 9 [(8, .int (nI i)), (7, .int (nI (cnt (fun j => decide (0 < wetv F (nI hs) j)) i))), (6, .int (nI (cnt (fun j => decide (0 < wetv F (nI hs) j)) n))), (4, .int (F 4 k)), (5, .int (bi (¬ F 6 k = -1))), (0, .ref h), (1, .ref ad), (2, .int (nI k)), (3, .int (nI hs))] := hl
    refine lv_iload hx hb dL_isPassed_38 (lv_at hl 0 rfl) ?_
    refine lv_aload_n hx hb dL_isPassed_40 rfl (lv_at hl 6 rfl) ?_
    refine lv_iconst (v := 0) hx hb dL_isPassed_41 (by decide) ?_
    refine W_top (y := .int (nI 0)) (rfl) ?_
    refine my_iald hx hb hK hP _ 2 (ap_at (w1 := cW tK tB h ak ab af u9.1 u9.2 n p (wetF F n (nI hs))) (i := 0) rfl) rfl (k := 0) (by decide) (by decide) dL_isPassed_42 ?_
    refine W_top (y := .int (nI n)) (congrArg Value.int (hd0)) ?_
    refine lv_icmp_ge (tgt := 72) hx hb dL_isPassed_43 (by decide) (fun c_43 => ?_) (fun c_43 => ?_)
    · skip
      have he : n = i := by have q := (nI_leI (a := n) (b := i) (by omega) (by omega)).mp c_43; omega
      subst he
      have hl : lv_has ls 9 [(8, .int (nI n)), (7, .int (nI (cnt (fun j => decide (0 < wetv F (nI hs) j)) n))), (6, .int (nI (cnt (fun j => decide (0 < wetv F (nI hs) j)) n))), (4, .int (F 4 k)), (5, .int (bi (¬ F 6 k = -1))), (0, .ref h), (1, .ref ad), (2, .int (nI k)), (3, .int (nI hs))] := hl
      refine lv_iload hx hb dL_isPassed_72 (lv_at hl 2 rfl) ?_
      refine lv_iload hx hb dL_isPassed_74 (lv_at hl 1 rfl) ?_
      refine lv_icmp_ne (tgt := 123) hx hb dL_isPassed_76 (by decide) (fun c_76 => absurd (rfl) c_76) (fun _ => ?_)
      refine lv_aload_n hx hb dL_isPassed_79 rfl (lv_at hl 5 rfl) ?_
      refine lv_iload_n hx hb dL_isPassed_80 rfl (lv_at hl 7 rfl) ?_
      refine lv_iconst (v := 2) hx hb dL_isPassed_81 (by decide) ?_
      refine W_top (y := .int (nI 2)) (rfl) ?_
      refine vp_callSi (va_Run.run (va_runV (As := [.int (nI k), .int (nI 2)]) (rest := []) ⟨hx, hb, hml, hown, hts⟩ (r_X2_about l9 dC dI h ak ab af u9.1 u9.2 n p (wetF F n (nI hs)) k 2 hI9 hkn (by decide)) (cwV 2 hts gL_isPassed_X2_about rfl rfl rfl (by decide +kernel) ⟨Nat.le_of_ble_eq_true rfl, Nat.le_of_ble_eq_true rfl⟩) ⟨PRo.blind, va_recv hK2 (P_left hP) (ci := 2) (q0 := 0) rfl rfl, PRo.pre (P_left hP) hK2 hE⟩ rfl rfl hl.1 rfl (lv_room (Nat.le_of_ble_eq_true rfl)) dL_isPassed_82 ⟨Nat.le_of_ble_eq_true rfl, Nat.le_of_ble_eq_true rfl⟩)) (fun r hr => ?_)
      subst hr
      refine W_top (y := .int (wetv F (nI hs) k)) (congrArg Value.int (wetF_4 hkn)) ?_
      refine lv_iload hx hb dL_isPassed_85 (lv_at hl 4 rfl) ?_
      refine lv_if_eq (tgt := 102) hx hb dL_isPassed_87 (by decide) (fun c_87 => ?_) (fun c_87 => ?_)
      · skip
        have c_87 := bi_z.mp c_87
        refine lv_iload hx hb dL_isPassed_102 (lv_at hl 3 rfl) ?_
        refine lv_iload_n hx hb dL_isPassed_104 rfl (lv_at hl 8 rfl) ?_
        refine lv_icmp_le (tgt := 115) hx hb dL_isPassed_105 (by decide) (fun c_105 => ?_) (fun c_105 => ?_)
        · skip
          refine lv_iconst (v := 0) hx hb dL_isPassed_115 (by decide) ?_
          refine lv_icmp_ne (tgt := 123) hx hb dL_isPassed_116 (by decide) (fun c_116 => absurd (wv_0 (fun q => c_87 q.2) c_105) c_116) (fun _ => ?_)
          refine lv_iconst (v := 1) hx hb dL_isPassed_119 (by decide) ?_
          refine lv_goto (tgt := 124) hx hb dL_isPassed_120 (by decide) ?_
          rw [hS9]
          refine W.widen (k := 1) (n := 6) (Nat.le_of_ble_eq_true rfl) (Nat.le_of_ble_eq_true rfl) ?_
          exact W.zret (v := 1) hx hb hr rfl (fun t ht hW => dQ_mk u9.1 u9.2 (by rw [ht]; exact hP) hD (hS.F ht)) hS.2.2 dL_isPassed_124
        · skip
          refine lv_iload hx hb dL_isPassed_108 (lv_at hl 3 rfl) ?_
          refine lv_iload_n hx hb dL_isPassed_110 rfl (lv_at hl 8 rfl) ?_
          refine lv_isub hx hb dL_isPassed_111 ?_
          refine lv_goto (tgt := 116) hx hb dL_isPassed_112 (by decide) ?_
          refine lv_icmp_ne (tgt := 123) hx hb dL_isPassed_116 (by decide) (fun c_116 => absurd (wv_m (fun q => c_87 q.2) c_105) c_116) (fun _ => ?_)
          refine lv_iconst (v := 1) hx hb dL_isPassed_119 (by decide) ?_
          refine lv_goto (tgt := 124) hx hb dL_isPassed_120 (by decide) ?_
          rw [hS9]
          refine W.widen (k := 1) (n := 6) (Nat.le_of_ble_eq_true rfl) (Nat.le_of_ble_eq_true rfl) ?_
          exact W.zret (v := 1) hx hb hr rfl (fun t ht hW => dQ_mk u9.1 u9.2 (by rw [ht]; exact hP) hD (hS.F ht)) hS.2.2 dL_isPassed_124
      · skip
        have c_87 := bi_nz.mp c_87
        refine lv_aload_n hx hb dL_isPassed_90 rfl (lv_at hl 6 rfl) ?_
        refine lv_iconst (v := 2) hx hb dL_isPassed_91 (by decide) ?_
        refine W_top (y := .int (nI 2)) (rfl) ?_
        refine my_iald hx hb hK hP _ 2 (ap_at (w1 := cW tK tB h ak ab af u9.1 u9.2 n p (wetF F n (nI hs))) (i := 0) rfl) rfl (k := 2) (by decide) (by decide) dL_isPassed_92 ?_
        refine W_top (y := .int (F 9 2)) (congrArg Value.int (hd2)) ?_
        refine lv_iconst (v := 1) hx hb dL_isPassed_93 (by decide) ?_
        refine lv_icmp_ne (tgt := 102) hx hb dL_isPassed_94 (by decide) (fun c_94 => ?_) (fun c_94 => ?_)
        · skip
          refine lv_iload hx hb dL_isPassed_102 (lv_at hl 3 rfl) ?_
          refine lv_iload_n hx hb dL_isPassed_104 rfl (lv_at hl 8 rfl) ?_
          refine lv_icmp_le (tgt := 115) hx hb dL_isPassed_105 (by decide) (fun c_105 => ?_) (fun c_105 => ?_)
          · skip
            refine lv_iconst (v := 0) hx hb dL_isPassed_115 (by decide) ?_
            refine lv_icmp_ne (tgt := 123) hx hb dL_isPassed_116 (by decide) (fun c_116 => absurd (wv_0 (fun q => c_94 (hI.2.2.2.2.1.2.resolve_left q.1)) c_105) c_116) (fun _ => ?_)
            refine lv_iconst (v := 1) hx hb dL_isPassed_119 (by decide) ?_
            refine lv_goto (tgt := 124) hx hb dL_isPassed_120 (by decide) ?_
            rw [hS9]
            refine W.widen (k := 1) (n := 6) (Nat.le_of_ble_eq_true rfl) (Nat.le_of_ble_eq_true rfl) ?_
            exact W.zret (v := 1) hx hb hr rfl (fun t ht hW => dQ_mk u9.1 u9.2 (by rw [ht]; exact hP) hD (hS.F ht)) hS.2.2 dL_isPassed_124
          · skip
            refine lv_iload hx hb dL_isPassed_108 (lv_at hl 3 rfl) ?_
            refine lv_iload_n hx hb dL_isPassed_110 rfl (lv_at hl 8 rfl) ?_
            refine lv_isub hx hb dL_isPassed_111 ?_
            refine lv_goto (tgt := 116) hx hb dL_isPassed_112 (by decide) ?_
            refine lv_icmp_ne (tgt := 123) hx hb dL_isPassed_116 (by decide) (fun c_116 => absurd (wv_m (fun q => c_94 (hI.2.2.2.2.1.2.resolve_left q.1)) c_105) c_116) (fun _ => ?_)
            refine lv_iconst (v := 1) hx hb dL_isPassed_119 (by decide) ?_
            refine lv_goto (tgt := 124) hx hb dL_isPassed_120 (by decide) ?_
            rw [hS9]
            refine W.widen (k := 1) (n := 6) (Nat.le_of_ble_eq_true rfl) (Nat.le_of_ble_eq_true rfl) ?_
            exact W.zret (v := 1) hx hb hr rfl (fun t ht hW => dQ_mk u9.1 u9.2 (by rw [ht]; exact hP) hD (hS.F ht)) hS.2.2 dL_isPassed_124
        · skip
          refine lv_bipush (v := 6) hx hb dL_isPassed_97 (by decide) ?_
          refine lv_goto (tgt := 116) hx hb dL_isPassed_99 (by decide) ?_
          refine lv_icmp_ne (tgt := 123) hx hb dL_isPassed_116 (by decide) (fun c_116 => absurd (wv_6 c_94 c_87) c_116) (fun _ => ?_)
          refine lv_iconst (v := 1) hx hb dL_isPassed_119 (by decide) ?_
          refine lv_goto (tgt := 124) hx hb dL_isPassed_120 (by decide) ?_
          rw [hS9]
          refine W.widen (k := 1) (n := 6) (Nat.le_of_ble_eq_true rfl) (Nat.le_of_ble_eq_true rfl) ?_
          exact W.zret (v := 1) hx hb hr rfl (fun t ht hW => dQ_mk u9.1 u9.2 (by rw [ht]; exact hP) hD (hS.F ht)) hS.2.2 dL_isPassed_124
    · skip
      have hin : i < n := Nat.not_le.mp (fun q => c_43 ((nI_leI (a := n) (b := i) (by omega) (by omega)).mpr q))
      refine lv_iload hx hb dL_isPassed_46 (lv_at hl 1 rfl) ?_
      refine lv_aload_n hx hb dL_isPassed_48 rfl (lv_at hl 5 rfl) ?_
      refine lv_iload hx hb dL_isPassed_49 (lv_at hl 0 rfl) ?_
      refine lv_iconst (v := 2) hx hb dL_isPassed_51 (by decide) ?_
      refine W_top (y := .int (nI 2)) (rfl) ?_
      refine vp_callSi (va_Run.run (va_runV (As := [.int (nI i), .int (nI 2)]) (rest := [.int (nI (cnt (fun j => decide (0 < wetv F (nI hs) j)) i))]) ⟨hx, hb, hml, hown, hts⟩ (r_X2_about l9 dC dI h ak ab af u9.1 u9.2 n p (wetF F n (nI hs)) i 2 hI9 hin (by decide)) (cwV 2 hts gL_isPassed_X2_about rfl rfl rfl (by decide +kernel) ⟨Nat.le_of_ble_eq_true rfl, Nat.le_of_ble_eq_true rfl⟩) ⟨PRo.blind, va_recv hK2 (P_left hP) (ci := 2) (q0 := 0) rfl rfl, PRo.pre (P_left hP) hK2 hE⟩ rfl rfl hl.1 rfl (lv_room (Nat.le_of_ble_eq_true rfl)) dL_isPassed_52 ⟨Nat.le_of_ble_eq_true rfl, Nat.le_of_ble_eq_true rfl⟩)) (fun r hr => ?_)
      subst hr
      refine W_top (y := .int (wetv F (nI hs) i)) (congrArg Value.int (wetF_4 hin)) ?_
      refine lv_if_le (tgt := 62) hx hb dL_isPassed_55 (by decide) (fun c_55 => ?_) (fun c_55 => ?_)
      · skip
        refine lv_iconst (v := 0) hx hb dL_isPassed_62 (by decide) ?_
        refine lv_iadd hx hb dL_isPassed_63 ?_
        refine W_top (y := .int (nI (cnt (fun j => decide (0 < wetv F (nI hs) j)) (i + 1)))) (congrArg Value.int (we_f c_55)) ?_
        refine lv_istore (lv' := [(7, .int (nI (cnt (fun j => decide (0 < wetv F (nI hs) j)) (i + 1)))), (8, .int (nI i)), (6, .int (nI (cnt (fun j => decide (0 < wetv F (nI hs) j)) n))), (4, .int (F 4 k)), (5, .int (bi (¬ F 6 k = -1))), (0, .ref h), (1, .ref ad), (2, .int (nI k)), (3, .int (nI hs))]) hx hb dL_isPassed_64 hl (by decide) rfl (fun ls hl => ?_)
        refine lv_iinc (v := nI (i + 1)) (lv' := [(8, .int (nI (i + 1))), (7, .int (nI (cnt (fun j => decide (0 < wetv F (nI hs) j)) (i + 1)))), (6, .int (nI (cnt (fun j => decide (0 < wetv F (nI hs) j)) n))), (4, .int (F 4 k)), (5, .int (bi (¬ F 6 k = -1))), (0, .ref h), (1, .ref ad), (2, .int (nI k)), (3, .int (nI hs))]) hx hb dL_isPassed_66 hl (k := 1) rfl (nI_1 _) (by decide) rfl (fun ls hl => ?_)
        refine lv_goto (tgt := 38) hx hb dL_isPassed_69 (by decide) ?_
        exact ih (i + 1) ls (by omega) (by omega) (lv_sub hl [0, 1, 2, 3, 4, 5, 6, 7, 8] rfl)
      · skip
        refine lv_iconst (v := 1) hx hb dL_isPassed_58 (by decide) ?_
        refine lv_goto (tgt := 63) hx hb dL_isPassed_59 (by decide) ?_
        refine lv_iadd hx hb dL_isPassed_63 ?_
        refine W_top (y := .int (nI (cnt (fun j => decide (0 < wetv F (nI hs) j)) (i + 1)))) (congrArg Value.int (we_t c_55)) ?_
        refine lv_istore (lv' := [(7, .int (nI (cnt (fun j => decide (0 < wetv F (nI hs) j)) (i + 1)))), (8, .int (nI i)), (6, .int (nI (cnt (fun j => decide (0 < wetv F (nI hs) j)) n))), (4, .int (F 4 k)), (5, .int (bi (¬ F 6 k = -1))), (0, .ref h), (1, .ref ad), (2, .int (nI k)), (3, .int (nI hs))]) hx hb dL_isPassed_64 hl (by decide) rfl (fun ls hl => ?_)
        refine lv_iinc (v := nI (i + 1)) (lv' := [(8, .int (nI (i + 1))), (7, .int (nI (cnt (fun j => decide (0 < wetv F (nI hs) j)) (i + 1)))), (6, .int (nI (cnt (fun j => decide (0 < wetv F (nI hs) j)) n))), (4, .int (F 4 k)), (5, .int (bi (¬ F 6 k = -1))), (0, .ref h), (1, .ref ad), (2, .int (nI k)), (3, .int (nI hs))]) hx hb dL_isPassed_66 hl (k := 1) rfl (nI_1 _) (by decide) rfl (fun ls hl => ?_)
        refine lv_goto (tgt := 38) hx hb dL_isPassed_69 (by decide) ?_
        exact ih (i + 1) ls (by omega) (by omega) (lv_sub hl [0, 1, 2, 3, 4, 5, 6, 7, 8] rfl)
  · skip
    refine lv_aload_n hx hb dL_isPassed_8 rfl (lv_at hl 1 rfl) ?_
    refine lv_iload_n hx hb dL_isPassed_9 rfl (lv_at hl 3 rfl) ?_
    refine lv_iconst (v := 4) hx hb dL_isPassed_10 (by decide) ?_
    refine W_top (y := .int (nI 4)) (rfl) ?_
    refine vp_callSi (va_Run.run (va_runV (As := [.int (nI k), .int (nI 4)]) (rest := []) ⟨hx, hb, hml, hown, hts⟩ (r_X2_about l9 dC dI h ak ab af ka kb n p F k 4 hI hkn (by decide)) (cwV 2 hts gL_isPassed_X2_about rfl rfl rfl (by decide +kernel) ⟨Nat.le_of_ble_eq_true rfl, Nat.le_of_ble_eq_true rfl⟩) ⟨PRo.blind, va_recv hK2 (P_left hP) (ci := 2) (q0 := 0) rfl rfl, PRo.pre (P_left hP) hK2 hE⟩ rfl rfl hl.1 rfl (lv_room (Nat.le_of_ble_eq_true rfl)) dL_isPassed_11 ⟨Nat.le_of_ble_eq_true rfl, Nat.le_of_ble_eq_true rfl⟩)) (fun r hr => ?_)
    subst hr
    refine W_top (y := .int (F 6 k)) (rfl) ?_
    refine lv_iconst (v := (-1)) hx hb dL_isPassed_14 (by decide) ?_
    refine lv_icmp_eq (tgt := 22) hx hb dL_isPassed_15 (by decide) (fun c_15 => ?_) (fun c_15 => ?_)
    · skip
      refine lv_iconst (v := 0) hx hb dL_isPassed_22 (by decide) ?_
      exact K23 _ ((bi_f (fun q => q c_15)).symm)
    · skip
      refine lv_iconst (v := 1) hx hb dL_isPassed_18 (by decide) ?_
      refine lv_goto (tgt := 23) hx hb dL_isPassed_19 (by decide) ?_
      exact K23 _ ((bi_t c_15).symm)

set_option maxHeartbeats 4000000 in
set_option maxRecDepth 100000 in
theorem c_L_isBlown (l9 : Launch) (hlt : l9.stackTraces = false) (dC : Nat → ClassId) (dI : Nat → Nat → Nat) (sz : Nat) {tK tB cI : ClassId} (h ak ab af : Nat) (ka kb : Nat → Nat) (n p : Nat) (F : Rows) (ad : Nat) (df : Nat → Int32) (sp sd : Int32) (hI : Inv n p F) (hd0 : df 0 = nI n) (hw : (0 ≤ sp ∧ sp ≤ 30) ∧ (-5 ≤ sd ∧ sd ≤ 5)) : Met l9 yL_isBlown wsL_isBlown ({ frames := 7, cells := 1, slots := 6, locals := 159 }) (va_Pc [.ref h, .ref ad, .int sp, .int sd] (PWr dC dI [(tK, .object "Windlane$Kite"), (tB, .object "Windlane$Borrower"), (cI, .int)] (cW tK tB h ak ab af ka kb n p F ++ [(ad, .inl (cI, 4, .inl df))]) sz)) (dQ dC dI tK tB cI h ak ab af ad (va_A (cW tK tB h ak ab af ka kb n p F ++ [(ad, .inl (cI, 4, .inl df))]) sz) n p ((S_wind n F sp sd).2.2) (upd df 3 sp)) 1 6 (va_A (cW tK tB h ak ab af ka kb n p F ++ [(ad, .inl (cI, 4, .inl df))]) sz) := by
  refine Met.ofW (cc := cL_isBlown) (maxL := 8) (ret := (some .boolean)) (by decide) rfl ?_
  intro p9 e9 s m args below meth c s₁ B hml hv
  obtain ⟨rfl, hsz, hP, hK, hD0, hE, hH⟩ := hv
  have hx := B.exec
  have hb := B.bytes
  have hr := B.returns
  have hts := atoms_spec (ws := wsL_isBlown) B.pre
  have hown : s.vm.findClass RL = some m.cls := findClass_of_methodNamed B.named
  have hlocks := B.notSynchronized
  subst hsz
  have hD := hD0.self (sz := s.heap.size)
  generalize hAe : va_A (cW tK tB h ak ab af ka kb n p F ++ [(ad, .inl (cI, 4, .inl df))]) s.heap.size = A at hD hH ⊢
  have hA : ∀ q : Nat, s.heap.size ≤ q → A q := fun q h => by rw [← hAe]; exact Or.inr h
  have hS : va_S A s.heap s.heap [] := va_S.rf
  have hP : va_P (dC, dI) vwCl (cW tK tB h ak ab af ka kb n p F ++ [(ad, .inl (cI, 4, .inl df))]) s.heap := hP
  have hK2 := hK.sub (tys' := [(tK, .object "Windlane$Kite"), (tB, .object "Windlane$Borrower")]) [0, 1] rfl
  have hn8 : n ≤ 8 := hI.1.1
  have hp8 : p ≤ 8 := hI.1.2
  have hl := lv_entry ([.ref h, .ref ad, .int sp, .int sd]) (n := 8) (Nat.le_of_ble_eq_true rfl)
  rw [lg_entry_eq]
  generalize (lg_sl ([.ref h, .ref ad, .int sp, .int sd]) ++ List.replicate (8 - (lg_sl ([.ref h, .ref ad, .int sp, .int sd])).length) Slot.unset).toArray = ls at hl ⊢
  have hl : lv_has ls 8 [(0, .ref h), (1, .ref ad), (2, .int sp), (3, .int sd)] := hl
  refine lv_aload_n hx hb dL_isBlown_0 rfl (lv_at hl 0 rfl) ?_
  refine lv_aload_n hx hb dL_isBlown_1 rfl (lv_at hl 1 rfl) ?_
  refine vp_callSi (va_Run.run (va_runS (As := [.ref h, .ref ad]) (rest := []) ⟨hx, hb, hml, hown, hts⟩ (c_L_flying l9 dC dI h ak ab af ka kb n p F ad df hI hd0) (va_cwS 2 hts gL_isBlown_L_flying rfl rfl rfl (by decide +kernel) ⟨Nat.le_of_ble_eq_true rfl, Nat.le_of_ble_eq_true rfl⟩) ⟨PRo.blind, PRo.pre hP hK hE⟩ rfl rfl hl.1 rfl (lv_room (Nat.le_of_ble_eq_true rfl)) dL_isBlown_2 ⟨Nat.le_of_ble_eq_true rfl, Nat.le_of_ble_eq_true rfl⟩)) (fun r hr => ?_)
  subst hr
  refine lv_istore (lv' := [(4, .int (nI (fc F n))), (0, .ref h), (1, .ref ad), (2, .int sp), (3, .int sd)]) hx hb dL_isBlown_5 hl (by decide) rfl (fun ls hl => ?_)
  refine lv_aload_n hx hb dL_isBlown_7 rfl (lv_at hl 1 rfl) ?_
  refine lv_aload_n hx hb dL_isBlown_8 rfl (lv_at hl 2 rfl) ?_
  refine vp_callSi (va_Run.run (va_runS (As := [.ref h, .ref ad]) (rest := []) ⟨hx, hb, hml, hown, hts⟩ (c_L_torn l9 dC dI h ak ab af ka kb n p F ad df hI hd0) (va_cwS 2 hts gL_isBlown_L_torn rfl rfl rfl (by decide +kernel) ⟨Nat.le_of_ble_eq_true rfl, Nat.le_of_ble_eq_true rfl⟩) ⟨PRo.blind, PRo.pre hP hK hE⟩ rfl rfl hl.1 rfl (lv_room (Nat.le_of_ble_eq_true rfl)) dL_isBlown_9 ⟨Nat.le_of_ble_eq_true rfl, Nat.le_of_ble_eq_true rfl⟩)) (fun r hr => ?_)
  subst hr
  refine lv_istore (lv' := [(5, .int (nI (tn F n))), (4, .int (nI (fc F n))), (0, .ref h), (1, .ref ad), (2, .int sp), (3, .int sd)]) hx hb dL_isBlown_12 hl (by decide) rfl (fun ls hl => ?_)
  refine lv_aload_n hx hb dL_isBlown_14 rfl (lv_at hl 2 rfl) ?_
  refine vp_callSi (va_Run.run (va_runV (As := []) (rest := []) ⟨hx, hb, hml, hown, hts⟩ (c_X2_called l9 dC dI h ak ab af ka kb n p F) (cwV 0 hts gL_isBlown_X2_called rfl rfl rfl (by decide +kernel) ⟨Nat.le_of_ble_eq_true rfl, Nat.le_of_ble_eq_true rfl⟩) ⟨PRo.blind, va_recv hK2 (P_left hP) (ci := 2) (q0 := 0) rfl rfl, PRo.pre (P_left hP) hK2 hE⟩ rfl rfl hl.1 rfl (lv_room (Nat.le_of_ble_eq_true rfl)) dL_isBlown_15 ⟨Nat.le_of_ble_eq_true rfl, Nat.le_of_ble_eq_true rfl⟩)) (fun r hr => ?_)
  subst hr
  refine lv_istore (lv' := [(6, .int (F 9 3)), (5, .int (nI (tn F n))), (4, .int (nI (fc F n))), (0, .ref h), (1, .ref ad), (2, .int sp), (3, .int sd)]) hx hb dL_isBlown_18 hl (by decide) rfl (fun ls hl => ?_)
  refine lv_aload_n hx hb dL_isBlown_20 rfl (lv_at hl 3 rfl) ?_
  refine lv_iload_n hx hb dL_isBlown_21 rfl (lv_at hl 5 rfl) ?_
  refine lv_iload_n hx hb dL_isBlown_22 rfl (lv_at hl 6 rfl) ?_
  have hS9 := wn_S (n := n) (F := F) hw
  have hF1 := A_in (D_left hD) hS hA
  refine vx_calli (vx_runV (As := [.int sp, .int sd]) (rest := []) ⟨hx, hb, hml, hown, hts⟩ (c_X2_wind l9 hlt dC dI s.heap.size h ak ab af ka kb n p F sp sd hI) (cwV 2 hts gL_isBlown_X2_wind rfl rfl rfl (by decide +kernel) ⟨Nat.le_of_ble_eq_true rfl, Nat.le_of_ble_eq_true rfl⟩) ⟨PWr.blind, va_recv hK2 (P_left hP) (ci := 2) (q0 := 0) rfl rfl, PWr.pre (P_left hP) hK2 (D_left hD) hE ((hH.kept hS.2.1).narrow hF1)⟩ rfl rfl hl.1 rfl (lv_room (Nat.le_of_ble_eq_true rfl)) dL_isBlown_23 ⟨Nat.le_of_ble_eq_true rfl, Nat.le_of_ble_eq_true rfl⟩) hS (fun q _ hq => hF1 q hq) hF1 (fun _ _ z => z.elim) (fun E ce q9 u9 t9 H locs ht9 hvm hpx hBE hz1 hk1 hS hce hcv hcl => absurd hBE.2 (by rw [hS9]; exact (by decide : ¬ (0 : Int32) = 1))) (fun r9 u9 t9 H locs ht9 hvm hw9 hB hz1 hk1 hS => ?_)
  obtain ⟨hth9, hw9⟩ := hw9
  obtain ⟨hP1, hD1⟩ := hB
  rw [ht9] at hP1
  obtain ⟨hP, hD⟩ := join_L hP hD hk1 hF1 hP1 hD1
  have hI9 := I_wind hI sp sd
  rw [hS9] at hw9 hP hD hI9
  have hI9 : Inv n p (wnE n F sp sd) := hI9
  have hP : va_P (dC, dI) vwCl (cW tK tB h ak ab af u9.1 u9.2 n p (wnE n F sp sd) ++ [(ad, .inl (cI, 4, .inl df))]) H := hP
  have hD : va_D A (cW tK tB h ak ab af u9.1 u9.2 n p (wnE n F sp sd) ++ [(ad, .inl (cI, 4, .inl df))]) := hD
  have hw9 : r9 = nI (fc F n - fc (wnE n F sp sd) n) := hw9.trans (wn_d n F sp sd)
  subst hw9
  refine lv_istore (lv' := [(7, .int (nI (fc F n - fc (wnE n F sp sd) n))), (6, .int (F 9 3)), (5, .int (nI (tn F n))), (4, .int (nI (fc F n))), (0, .ref h), (1, .ref ad), (2, .int sp), (3, .int sd)]) hx hb dL_isBlown_26 hl (by decide) rfl (fun ls hl => ?_)
  refine lv_aload_n hx hb dL_isBlown_28 rfl (lv_at hl 5 rfl) ?_
  refine lv_iconst (v := 3) hx hb dL_isBlown_29 (by decide) ?_
  refine lv_iload_n hx hb dL_isBlown_30 rfl (lv_at hl 6 rfl) ?_
  refine my_iast hx hb hK hP hD hS _ 2 (ap_at (w1 := cW tK tB h ak ab af u9.1 u9.2 n p (wnE n F sp sd)) (i := 0) rfl) rfl (k := 3) (by decide) (by decide) dL_isBlown_31 (fun H locs hP hD hS => ?_)
  rw [ap_set] at hP hD
  have hP : va_P (dC, dI) vwCl (cW tK tB h ak ab af u9.1 u9.2 n p (wnE n F sp sd) ++ [(ad, .inl (cI, 4, .inl (upd df 3 sp)))]) H := hP
  have hD : va_D A (cW tK tB h ak ab af u9.1 u9.2 n p (wnE n F sp sd) ++ [(ad, .inl (cI, 4, .inl (upd df 3 sp)))]) := hD
  refine lv_iload hx hb dL_isBlown_32 (lv_at hl 0 rfl) ?_
  refine lv_iload hx hb dL_isBlown_34 (lv_at hl 3 rfl) ?_
  refine lv_aload_n hx hb dL_isBlown_36 rfl (lv_at hl 4 rfl) ?_
  refine lv_aload_n hx hb dL_isBlown_37 rfl (lv_at hl 5 rfl) ?_
  refine vp_callSi (va_Run.run (va_runS (As := [.ref h, .ref ad]) (rest := [.int (nI (fc F n)), .int (nI (fc F n - fc (wnE n F sp sd) n))]) ⟨hx, hb, hml, hown, hts⟩ (c_L_flying l9 dC dI h ak ab af u9.1 u9.2 n p (wnE n F sp sd) ad (upd df 3 sp) hI9 (show upd df 3 sp 0 = nI n from hd0)) (va_cwS 2 hts gL_isBlown_L_flying rfl rfl rfl (by decide +kernel) ⟨Nat.le_of_ble_eq_true rfl, Nat.le_of_ble_eq_true rfl⟩) ⟨PRo.blind, PRo.pre hP hK hE⟩ rfl rfl hl.1 rfl (lv_room (Nat.le_of_ble_eq_true rfl)) dL_isBlown_38 ⟨Nat.le_of_ble_eq_true rfl, Nat.le_of_ble_eq_true rfl⟩)) (fun r hr => ?_)
  subst hr
  refine lv_isub hx hb dL_isBlown_41 ?_
  refine W_top (y := .int (nI (fc F n - fc (wnE n F sp sd) n))) (congrArg Value.int (pk_sub (wn_fc n F sp sd).2)) ?_
  refine lv_icmp_ne (tgt := 84) hx hb dL_isBlown_42 (by decide) (fun c_42 => absurd (rfl) c_42) (fun _ => ?_)
  refine lv_aload_n hx hb dL_isBlown_45 rfl (lv_at hl 4 rfl) ?_
  refine vp_callSi (va_Run.run (va_runV (As := []) (rest := []) ⟨hx, hb, hml, hown, hts⟩ (c_X2_called l9 dC dI h ak ab af u9.1 u9.2 n p (wnE n F sp sd)) (cwV 0 hts gL_isBlown_X2_called rfl rfl rfl (by decide +kernel) ⟨Nat.le_of_ble_eq_true rfl, Nat.le_of_ble_eq_true rfl⟩) ⟨PRo.blind, va_recv hK2 (P_left hP) (ci := 2) (q0 := 0) rfl rfl, PRo.pre (P_left hP) hK2 hE⟩ rfl rfl hl.1 rfl (lv_room (Nat.le_of_ble_eq_true rfl)) dL_isBlown_46 ⟨Nat.le_of_ble_eq_true rfl, Nat.le_of_ble_eq_true rfl⟩)) (fun r hr => ?_)
  subst hr
  refine lv_iload hx hb dL_isBlown_49 (lv_at hl 1 rfl) ?_
  refine lv_iload hx hb dL_isBlown_51 (lv_at hl 0 rfl) ?_
  refine lv_iadd hx hb dL_isBlown_53 ?_
  refine lv_icmp_ne (tgt := 84) hx hb dL_isBlown_54 (by decide) (fun c_54 => absurd (alg_2 (wn_d n F sp sd)) c_54) (fun _ => ?_)
  refine lv_aload_n hx hb dL_isBlown_57 rfl (lv_at hl 4 rfl) ?_
  refine lv_aload_n hx hb dL_isBlown_58 rfl (lv_at hl 5 rfl) ?_
  refine vp_callSi (va_Run.run (va_runS (As := [.ref h, .ref ad]) (rest := []) ⟨hx, hb, hml, hown, hts⟩ (c_L_torn l9 dC dI h ak ab af u9.1 u9.2 n p (wnE n F sp sd) ad (upd df 3 sp) hI9 (show upd df 3 sp 0 = nI n from hd0)) (va_cwS 2 hts gL_isBlown_L_torn rfl rfl rfl (by decide +kernel) ⟨Nat.le_of_ble_eq_true rfl, Nat.le_of_ble_eq_true rfl⟩) ⟨PRo.blind, PRo.pre hP hK hE⟩ rfl rfl hl.1 rfl (lv_room (Nat.le_of_ble_eq_true rfl)) dL_isBlown_59 ⟨Nat.le_of_ble_eq_true rfl, Nat.le_of_ble_eq_true rfl⟩)) (fun r hr => ?_)
  subst hr
  refine lv_iload hx hb dL_isBlown_62 (lv_at hl 2 rfl) ?_
  refine lv_isub hx hb dL_isBlown_64 ?_
  refine lv_iload hx hb dL_isBlown_65 (lv_at hl 0 rfl) ?_
  refine lv_icmp_gt (tgt := 84) hx hb dL_isBlown_67 (by decide) (fun c_67 => absurd c_67 (wn_gt hI sp sd)) (fun _ => ?_)
  refine lv_aload_n hx hb dL_isBlown_70 rfl (lv_at hl 4 rfl) ?_
  refine lv_aload_n hx hb dL_isBlown_71 rfl (lv_at hl 5 rfl) ?_
  refine vp_callSi (va_Run.run (va_runS (As := [.ref h, .ref ad]) (rest := []) ⟨hx, hb, hml, hown, hts⟩ (c_L_torn l9 dC dI h ak ab af u9.1 u9.2 n p (wnE n F sp sd) ad (upd df 3 sp) hI9 (show upd df 3 sp 0 = nI n from hd0)) (va_cwS 2 hts gL_isBlown_L_torn rfl rfl rfl (by decide +kernel) ⟨Nat.le_of_ble_eq_true rfl, Nat.le_of_ble_eq_true rfl⟩) ⟨PRo.blind, PRo.pre hP hK hE⟩ rfl rfl hl.1 rfl (lv_room (Nat.le_of_ble_eq_true rfl)) dL_isBlown_72 ⟨Nat.le_of_ble_eq_true rfl, Nat.le_of_ble_eq_true rfl⟩)) (fun r hr => ?_)
  subst hr
  refine lv_iload hx hb dL_isBlown_75 (lv_at hl 2 rfl) ?_
  refine lv_icmp_lt (tgt := 84) hx hb dL_isBlown_77 (by decide) (fun c_77 => absurd c_77 (wn_lt hI sp sd)) (fun _ => ?_)
  refine lv_iconst (v := 1) hx hb dL_isBlown_80 (by decide) ?_
  refine lv_goto (tgt := 85) hx hb dL_isBlown_81 (by decide) ?_
  rw [hS9]
  refine W.widen (k := 1) (n := 6) (Nat.le_of_ble_eq_true rfl) (Nat.le_of_ble_eq_true rfl) ?_
  exact W.zret (v := 1) hx hb hr rfl (fun t ht hW => dQ_mk u9.1 u9.2 (by rw [ht]; exact hP) hD (hS.F ht)) hS.2.2 dL_isBlown_85
