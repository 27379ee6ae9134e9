/-! ===== what holds between the law's steps ===== -/
def LI (n p : Nat) (F : Rows) (df gf hf : Nat → Int32) : Prop := Inv n p F ∧ In2 n F ∧ (df 0 = nI n ∧ df 1 = nI p ∧ df 2 = F 9 2 ∧ df 3 = F 9 0) ∧ (∀ k, k < n → gf k = F 0 k) ∧ ∀ j, j < p → hf j = F 8 j
theorem nI_m2 {k : Nat} (h : k < 2147483648) : ¬ nI k = -2 := by
  intro q
  have h1 := congrArg Int32.toInt q
  rw [nI_toInt h] at h1
  have h2 : (-2 : Int32).toInt = -2 := by decide
  omega
theorem nI_z {k : Nat} (h : nI k = 0) (hk : k < 2147483648) : k = 0 := nI_inj hk (by omega) h
theorem nI_nz {k : Nat} (h : ¬ nI k = 0) : 1 ≤ k := Nat.pos_of_ne_zero (fun q => h (by rw [q]; rfl))
theorem nI_bt {a m b : Nat} (h1 : a ≤ m) (h2 : m ≤ b) (hb : b < 2147483648) : nI a ≤ nI m ∧ nI m ≤ nI b := ⟨(nI_leI (by omega) (by omega)).mpr h1, (nI_leI (by omega) (by omega)).mpr h2⟩
theorem LI_start : LI 0 0 F00 (fun _ => 0) (fun _ => 0) (fun _ => 0) := ⟨I_start, In2_start, ⟨rfl, rfl, rfl, rfl⟩, fun k hk => absurd hk (Nat.not_lt_zero k), fun k hk => absurd hk (Nat.not_lt_zero k)⟩
/-! a kite -/
theorem kite_S {n : Nat} {F : Rows} {a b c : Nat} (ha : a ≤ 2) (hb : 1 ≤ b ∧ b ≤ 20) (hc : 1 ≤ c ∧ c ≤ 20) : S_kite n F (nI a) (nI b) (nI c) = if n = 8 then (2, 0, n, F) else (0, nI n, n + 1, nwF n F (nI a) (nI b) (nI c)) := if_pos ⟨nI_bt (a := 0) (b := 2) (by omega) ha (by omega), nI_bt (a := 1) (b := 20) hb.1 hb.2 (by omega), nI_bt (a := 1) (b := 20) hc.1 hc.2 (by omega)⟩
theorem kite_pl {n : Nat} {F : Rows} {kd ar wt : Int32} : pl (nwF n F kd ar wt) n 0 = -100 * wt := by
  unfold pl
  have e2 : nwF n F kd ar wt 2 n = wt := upd_s _ _ _
  rw [lift_0, e2, show (-100 : Int32) = -(100 : Int32) from rfl, Int32.neg_mul, Int32.zero_sub]
theorem LI_kite {n p : Nat} {F : Rows} {df gf hf : Nat → Int32} (h : LI n p F df gf hf) (hn : ¬ n = 8) {a b c : Nat} (ha : a ≤ 2) (hb : 1 ≤ b ∧ b ≤ 20) (hc : 1 ≤ c ∧ c ≤ 20) : LI (n + 1) p (nwF n F (nI a) (nI b) (nI c)) (upd df 0 (nI (n + 1))) (upd gf n (nI a)) hf := by
  obtain ⟨h1, h2, ⟨d0, d1, d2, d3⟩, h4, h5⟩ := h
  have q := I_kite h1 (nI a) (nI b) (nI c)
  rw [kite_S ha hb hc, if_neg hn] at q
  refine ⟨q, In2_of h2 rfl (fun k hk z => ?_), ⟨upd_s _ _ _, d1, d2, d3⟩, fun k hk => ?_, h5⟩
  · by_cases e : k = n
    · subst e
      exact absurd (upd_s _ _ _) z
    · have e6 : nwF n F (nI a) (nI b) (nI c) 6 k = F 6 k := upd_n _ e
      rw [e6] at z
      exact ⟨by omega, z, rfl⟩
  · by_cases e : k = n
    · subst e
      rw [upd_s]
      exact (upd_s _ _ _).symm
    · rw [upd_n _ e, h4 k (by omega)]
      exact (upd_n _ e).symm
/-! a borrower -/
theorem bor_S {p : Nat} {F : Rows} {a : Nat} (ha : 1 ≤ a ∧ a ≤ 3) : S_borrower p F (nI a) = if p = 8 then (2, 0, p, F) else (0, nI p, p + 1, up F 8 p (nI a)) := if_pos (nI_bt (a := 1) (b := 3) ha.1 ha.2 (by omega))
theorem LI_bor {n p : Nat} {F : Rows} {df gf hf : Nat → Int32} (h : LI n p F df gf hf) (hp : ¬ p = 8) {a : Nat} (ha : 1 ≤ a ∧ a ≤ 3) : LI n (p + 1) (up F 8 p (nI a)) (upd df 1 (nI (p + 1))) gf (upd hf p (nI a)) := by
  obtain ⟨h1, h2, ⟨d0, d1, d2, d3⟩, h4, h5⟩ := h
  have q := I_borrower h1 (nI a)
  rw [bor_S ha, if_neg hp] at q
  refine ⟨q, In2_of h2 rfl (fun k hk z => ⟨hk, z, rfl⟩), ⟨d0, upd_s _ _ _, d2, d3⟩, h4, fun k hk => ?_⟩
  by_cases e : k = p
  · subst e
    rw [upd_s]
    exact (upd_s _ _ _).symm
  · rw [upd_n _ e, h5 k (by omega)]
    exact (upd_n _ e).symm
/-! lending -/
abbrev can (F : Rows) (n k j : Nat) : Prop := F 3 k = 0 ∧ F 4 k = 0 ∧ F 5 k = -1 ∧ F 0 k < F 8 j ∧ lk (F 5) n (nI j) = none
theorem lend_S {n p : Nat} {F : Rows} {k j : Nat} (hn8 : n ≤ 8) (hp8 : p ≤ 8) (hk : k < n) (hj : j < p) : S_lend n p F (nI k) (nI j) = if can F n k j then (0, up F 5 k (nI j)) else (2, F) := by
  simp only [S_lend, ix_t hk (show n < 2147483648 by omega), ix_t hj (show p < 2147483648 by omega)]
  by_cases h : can F n k j
  · obtain ⟨h1, h2, h3, h4, h5⟩ := id h
    rw [if_pos h, if_pos ⟨h3, h1, h2, h5, h4⟩]
  · rw [if_neg h, if_neg (fun q => h ⟨q.2.1, q.2.2.1, q.1, q.2.2.2.2, q.2.2.2.1⟩)]
theorem LI_lend {n p : Nat} {F : Rows} {df gf hf : Nat → Int32} (h : LI n p F df gf hf) {k j : Nat} (hk : k < n) (hj : j < p) (hc : can F n k j) : LI n p (up F 5 k (nI j)) df gf hf := by
  obtain ⟨h1, h2, h3, h4, h5⟩ := h
  have q := I_lend h1 (nI k) (nI j)
  rw [lend_S h1.1.1 h1.1.2 hk hj, if_pos hc] at q
  exact ⟨q, In2_of h2 rfl (fun k hk z => ⟨hk, z, rfl⟩), h3, h4, h5⟩
/-! giving back -/
theorem back_S0 {n p : Nat} {F : Rows} {j : Nat} (hp8 : p ≤ 8) (hj : j < p) (h : lk (F 5) n (nI j) = none) : S_giveBack n p F (nI j) = (2, 0, F) := by
  simp only [S_giveBack, ix_t hj (show p < 2147483648 by omega), h]
theorem back_S1 {n p : Nat} {F : Rows} {j k : Nat} (hp8 : p ≤ 8) (hj : j < p) (h : lk (F 5) n (nI j) = some k) : S_giveBack n p F (nI j) = if F 6 k = -1 then (0, nI k, up F 5 k (-1)) else (2, 0, F) := by
  simp only [S_giveBack, ix_t hj (show p < 2147483648 by omega), h]
theorem back_ok {n p : Nat} {F : Rows} {j : Nat} (hp8 : p ≤ 8) (hj : j < p) : (S_giveBack n p F (nI j)).1 ≠ 1 := by
  cases h : lk (F 5) n (nI j) with
  | none => rw [back_S0 hp8 hj h]; exact (by decide : (2 : Int32) ≠ 1)
  | some k =>
    rw [back_S1 hp8 hj h]
    split
    · exact (by decide : (0 : Int32) ≠ 1)
    · exact (by decide : (2 : Int32) ≠ 1)
theorem LI_back {n p : Nat} {F : Rows} {df gf hf : Nat → Int32} (h : LI n p F df gf hf) {k j : Nat} (hj : j < p) (hl : lk (F 5) n (nI j) = some k) (h6 : F 6 k = -1) : LI n p (up F 5 k (-1)) df gf hf := by
  obtain ⟨h1, h2, h3, h4, h5⟩ := h
  have q := I_giveBack h1 (nI j)
  rw [back_S1 h1.1.2 hj hl, if_pos h6] at q
  exact ⟨q, In2_of h2 rfl (fun k hk z => ⟨hk, z, rfl⟩), h3, h4, h5⟩
/-! flying -/
theorem LI_fly {n p : Nat} {F : Rows} {df gf hf : Nat → Int32} (h : LI n p F df gf hf) {k l : Nat} {len : Int32} (hk : k < n) (hl : l < 10) (hlen : 10 ≤ len ∧ len ≤ 100) : LI n p (S_fly n F (nI k) (nI l) len).2.2 df gf hf := by
  obtain ⟨h1, h2, h3, h4, h5⟩ := id h
  have q := I_fly h1 (nI k) (nI l) len
  rw [fly_S h1.1.1 hk hl hlen] at q ⊢
  split
  · rename_i hc
    rw [if_pos hc] at q
    refine ⟨q, ⟨h2.1, fun i hi z => ?_⟩, h3, h4, h5⟩
    by_cases e : i = k
    · subst e
      have e7 : flF9 F i l len 7 i = len := up_ss _ _ _ _
      show 10 ≤ flF9 F i l len 7 i ∧ flF9 F i l len 7 i ≤ 100
      rw [e7]; exact hlen
    · have e6 : flF9 F k l len 6 i = F 6 i := up_sn (F := F) (i := 6) _ e
      have e7 : flF9 F k l len 7 i = F 7 i := up_sn (F := up F 6 k (nI l)) _ e
      show 10 ≤ flF9 F k l len 7 i ∧ flF9 F k l len 7 i ≤ 100
      rw [e7]
      exact h2.2 i hi (by rw [← e6]; exact z)
  · exact h
/-! landing -/
theorem land_S {n : Nat} {F : Rows} {k : Nat} (hn8 : n ≤ 8) (hk : k < n) : S_land n F (nI k) = if F 6 k = -1 then (2, 0, F) else (0, F 6 k, up F 6 k (-1)) := by
  simp only [S_land, ix_t hk (show n < 2147483648 by omega)]
theorem LI_land {n p : Nat} {F : Rows} {df gf hf : Nat → Int32} (h : LI n p F df gf hf) {k : Nat} (hk : k < n) (h6 : ¬ F 6 k = -1) : LI n p (up F 6 k (-1)) df gf hf := by
  obtain ⟨h1, h2, h3, h4, h5⟩ := h
  have q := I_land h1 (nI k)
  rw [land_S h1.1.1 hk, if_neg h6] at q
  refine ⟨q, In2_of h2 rfl (fun i hi z => ⟨hi, fun y => z ?_, rfl⟩), h3, h4, h5⟩
  by_cases e : i = k
  · subst e; exact up_ss _ _ _ _
  · rw [up_sn _ e]; exact y
/-! patching -/
abbrev ptc (F : Rows) (k : Nat) : Prop := F 3 k = 1 ∧ F 2 k < 39
abbrev ptF (F : Rows) (k : Nat) : Rows := up (up F 3 k 0) 2 k (F 2 k + 2)
theorem patch_S {n p : Nat} {F : Rows} (hI : Inv n p F) {k : Nat} (hk : k < n) : S_patch n F (nI k) = if ptc F k then (0, F 2 k + 2, ptF F k) else (2, 0, F) := by
  have hn8 := hI.1.1
  obtain ⟨-, -, hw, h3, -⟩ := hI.2.1 k hk
  simp only [S_patch, ix_t hk (show n < 2147483648 by omega)]
  obtain ⟨w, w1, w2, ew⟩ := nI_btw (m := 1) (n := 40) hw (by decide) (by decide)
  have e1 : (F 2 k + 2 ≤ 40) ↔ w ≤ 38 := by
    rw [ew, show nI w + 2 = nI (w + 2) from nI_add w 2, show (40 : Int32) = nI 40 from rfl, nI_leI (by omega) (by omega)]
    omega
  have e2 : (F 2 k < 39) ↔ w ≤ 38 := by
    rw [ew, show (39 : Int32) = nI 39 from rfl, nI_ltI (by omega) (by omega)]
    omega
  by_cases h : ptc F k
  · rw [if_pos h, if_pos ⟨by rw [h.1]; decide, e1.mpr (e2.mp h.2)⟩]
  · rw [if_neg h, if_neg (fun q => h ⟨h3.resolve_left q.1, e2.mpr (e1.mp q.2)⟩)]
theorem ptF_0 (F : Rows) (k : Nat) : ptF F k 2 k = F 2 k + 2 := up_ss _ _ _ _
theorem ptF_1 (F : Rows) (k : Nat) : ptF F k 3 k = 0 := up_ss F 3 k 0
theorem LI_patch {n p : Nat} {F : Rows} {df gf hf : Nat → Int32} (h : LI n p F df gf hf) {k : Nat} (hk : k < n) (hc : ptc F k) : LI n p (ptF F k) df gf hf := by
  obtain ⟨h1, h2, h3, h4, h5⟩ := h
  have q := I_patch h1 (nI k)
  rw [patch_S h1 hk, if_pos hc] at q
  exact ⟨q, In2_of h2 rfl (fun i hi z => ⟨hi, z, rfl⟩), h3, h4, h5⟩
/-! rain, hours, wind -/
theorem LI_rain {n p : Nat} {F : Rows} {df gf hf : Nat → Int32} (h : LI n p F df gf hf) {b : Int32} (hb : b = 0 ∨ b = 1) : LI n p (up F 9 2 b) (upd df 2 b) gf hf := by
  obtain ⟨h1, h2, ⟨d0, d1, d2, d3⟩, h4, h5⟩ := h
  exact ⟨I_rain h1 hb, In2_of h2 rfl (fun i hi z => ⟨hi, z, rfl⟩), ⟨d0, d1, by rw [upd_s]; exact (up_ss _ _ _ _).symm, d3⟩, h4, h5⟩
theorem LI_pass {n p : Nat} {F : Rows} {df gf hf : Nat → Int32} (h : LI n p F df gf hf) {m : Nat} (m1 : 1 ≤ m) (m2 : m ≤ 24) : LI n p (S_pass n F (nI m)).2.2 df gf hf := by
  obtain ⟨h1, h2, h3, h4, h5⟩ := h
  have q := I_pass h1 (nI m)
  rw [pass_S m1 m2] at q ⊢
  exact ⟨q, In2_of h2 rfl (fun i hi z => ⟨hi, z, rfl⟩), h3, h4, h5⟩
theorem LI_wind {n p : Nat} {F : Rows} {df gf hf : Nat → Int32} (h : LI n p F df gf hf) {sp sd : Int32} (hw : (0 ≤ sp ∧ sp ≤ 30) ∧ (-5 ≤ sd ∧ sd ≤ 5)) : LI n p (S_wind n F sp sd).2.2 (upd df 3 sp) gf hf := by
  obtain ⟨h1, h2, ⟨d0, d1, d2, d3⟩, h4, h5⟩ := h
  have q := I_wind h1 sp sd
  rw [wn_S hw] at q ⊢
  obtain ⟨e0, e2⟩ := wn_9 n F sp sd
  obtain ⟨e8, e9⟩ := wn_08 n F sp sd
  refine ⟨q, In2_wind h2 hw.2, ⟨d0, d1, ?_, ?_⟩, fun k hk => ?_, fun j hj => ?_⟩
  · exact d2.trans e2.symm
  · rw [upd_s]; exact e0.symm
  · rw [h4 k hk]; exact (congrFun e8 k).symm
  · rw [h5 j hj]; exact (congrFun e9 j).symm
theorem sd_rng {m : Nat} (h : m ≤ 10) : -5 ≤ nI m - 5 ∧ nI m - 5 ≤ 5 := by
  have e : (nI m - 5).toInt = (m : Int) - 5 := pk_sub_toInt (a := m) (b := 5) (by omega) (by omega)
  rw [i32_le, i32_le, e, show (-5 : Int32).toInt = -5 from by decide, show (5 : Int32).toInt = 5 from by decide]
  omega
