/-! ===== what the property needs of the numbers ===== -/
theorem i32_mul {x y : Int32} (h1 : -2147483648 ≤ x.toInt * y.toInt) (h2 : x.toInt * y.toInt < 2147483648) : (x * y).toInt = x.toInt * y.toInt := by
  rw [Int32.toInt_mul]
  exact Int.bmod_eq_of_le (by omega) (by omega)
theorem i32_nge {x y : Int32} (h : ¬ x ≤ y) : y < x := by rw [i32_le] at h; rw [i32_lt]; omega
theorem i32_ngt {x y : Int32} (h : ¬ x < y) : y ≤ x := by rw [i32_lt] at h; rw [i32_le]; omega
theorem nI_btw {x a b : Int32} {m n : Nat} (h : a ≤ x ∧ x ≤ b) (ha : a.toInt = m) (hb : b.toInt = n) : ∃ k, m ≤ k ∧ k ≤ n ∧ x = nI k := by
  obtain ⟨h1, h2⟩ := h
  rw [i32_le] at h1 h2
  have hlt := Int32.toInt_lt x
  refine ⟨x.toInt.toNat, by omega, by omega, ?_⟩
  apply Int32.toInt_inj.mp
  rw [nI_toInt (by omega)]
  omega
/-! lifts as numbers -/
def LN (kd : Int32) (a m : Nat) : Nat := if kd = 0 then 5 * a * m * m else if kd = 1 then 60 * a * m else 80 * a * (if m ≤ 10 then m else 10)
theorem lift_nI (kd : Int32) (a : Nat) {m : Nat} (hm : m ≤ 30) : lift kd (nI a) (nI m) = nI (LN kd a m) := by
  unfold lift LN
  split
  · rw [show (5 : Int32) = nI 5 from rfl, pk_mul, pk_mul, pk_mul]
  · split
    · rw [show (60 : Int32) = nI 60 from rfl, pk_mul, pk_mul]
    · by_cases h : m ≤ 10
      · rw [if_pos h, if_pos (show nI m ≤ 10 from (nI_leI (a := m) (b := 10) (by omega) (by omega)).mpr h), show (80 : Int32) = nI 80 from rfl, pk_mul, pk_mul]
      · rw [if_neg h, if_neg (show ¬ nI m ≤ 10 from fun q => h ((nI_leI (a := m) (b := 10) (by omega) (by omega)).mp q)), show (80 : Int32) = nI 80 from rfl, show (10 : Int32) = nI 10 from rfl, pk_mul, pk_mul]
theorem LN_mono (kd : Int32) (a : Nat) {m m' : Nat} (h : m ≤ m') : LN kd a m ≤ LN kd a m' := by
  unfold LN
  split
  · exact Nat.mul_le_mul (Nat.mul_le_mul (Nat.le_refl _) h) h
  · split
    · exact Nat.mul_le_mul (Nat.le_refl _) h
    · refine Nat.mul_le_mul (Nat.le_refl _) ?_
      split <;> split <;> omega
theorem LN_top (kd : Int32) {a m : Nat} (ha : a ≤ 20) (hm : m ≤ 30) : LN kd a m ≤ 90000 := by
  unfold LN
  split
  · have h1 : 5 * a * m ≤ 100 * 30 := Nat.mul_le_mul (by omega) hm
    have h2 : 5 * a * m * m ≤ 3000 * 30 := Nat.mul_le_mul (by omega) hm
    omega
  · split
    · have h1 : 60 * a * m ≤ 1200 * 30 := Nat.mul_le_mul (by omega) hm
      omega
    · have h1 : 80 * a * (if m ≤ 10 then m else 10) ≤ 1600 * 10 := Nat.mul_le_mul (by omega) (by split <;> omega)
      omega
theorem pl_nI {n p : Nat} {F : Rows} {k : Nat} (h : kOK n p F k) : ∃ a w, a ≤ 20 ∧ w ≤ 40 ∧ ∀ m, m ≤ 30 → (pl F k (nI m)).toInt = (LN (F 0 k) a m : Int) - (100 * w : Nat) := by
  obtain ⟨a, ha1, ha2, ea⟩ := nI_btw (m := 1) (n := 20) h.2.1 (by decide) (by decide)
  obtain ⟨w, hw1, hw2, ew⟩ := nI_btw (m := 1) (n := 40) h.2.2.1 (by decide) (by decide)
  refine ⟨a, w, ha2, hw2, fun m hm => ?_⟩
  unfold pl
  rw [ea, ew, lift_nI _ _ hm, show (100 : Int32) = nI 100 from rfl, pk_mul]
  have := LN_top (F 0 k) ha2 hm
  exact pk_sub_toInt (by omega) (by omega)
theorem pl_mono {n p : Nat} {F : Rows} {k : Nat} (h : kOK n p F k) {m m' : Nat} (hm : m ≤ m') (hm' : m' ≤ 30) : pl F k (nI m) ≤ pl F k (nI m') := by
  obtain ⟨a, w, -, -, hp⟩ := pl_nI h
  rw [i32_le, hp m (by omega), hp m' hm']
  have := LN_mono (F 0 k) a hm
  omega
theorem lift_0 (kd ar : Int32) : lift kd ar 0 = 0 := by
  unfold lift
  split
  · simp
  · split
    · simp
    · rw [if_pos (by decide)]; simp
/-! windows -/
theorem wd_least {F : Rows} {k : Nat} : ∀ r, r ≤ 31 → (wd F k 0 r = -1 ∧ ∀ m, m < r → ¬ held F k (nI m)) ∨ ∃ m, m < r ∧ wd F k 0 r = nI m ∧ held F k (nI m) ∧ ∀ m', m' < m → ¬ held F k (nI m')
  | 0, _ => Or.inl ⟨rfl, fun m h => absurd h (Nat.not_lt_zero m)⟩
  | r + 1, hr => by
    rcases wd_least (F := F) (k := k) r (by omega) with ⟨h1, h2⟩ | ⟨m, h1, h2, h3, h4⟩
    · by_cases h : held F k (nI r)
      · exact Or.inr ⟨r, by omega, by rw [wd, if_pos ⟨h, Or.inr h1⟩], h, h2⟩
      · refine Or.inl ⟨by rw [wd, if_neg (fun q => h q.1), h1], fun m hm => ?_⟩
        rcases Nat.lt_or_ge m r with q | q
        · exact h2 m q
        · have : m = r := by omega
          subst this; exact h
    · refine Or.inr ⟨m, by omega, ?_, h3, h4⟩
      rw [wd, if_neg (fun q => q.2.elim (fun z => z rfl) (fun z => by rw [h2] at z; exact nI_m1 (by omega) z)), h2]
theorem wd_most {F : Rows} {k : Nat} {g : Int32} (hg : ¬ g = 0) : ∀ r, r ≤ 31 → (wd F k g r = -1 ∧ ∀ m, m < r → ¬ held F k (nI m)) ∨ ∃ m, m < r ∧ wd F k g r = nI m ∧ held F k (nI m) ∧ ∀ m', m < m' → m' < r → ¬ held F k (nI m')
  | 0, _ => Or.inl ⟨rfl, fun m h => absurd h (Nat.not_lt_zero m)⟩
  | r + 1, hr => by
    by_cases h : held F k (nI r)
    · exact Or.inr ⟨r, by omega, by rw [wd, if_pos ⟨h, Or.inl hg⟩], h, fun m' h1 h2 => by omega⟩
    · have e : wd F k g (r + 1) = wd F k g r := by rw [wd, if_neg (fun q => h q.1)]
      rcases wd_most (F := F) (k := k) hg r (by omega) with ⟨h1, h2⟩ | ⟨m, h1, h2, h3, h4⟩
      · refine Or.inl ⟨by rw [e, h1], fun m hm => ?_⟩
        rcases Nat.lt_or_ge m r with q | q
        · exact h2 m q
        · have : m = r := by omega
          subst this; exact h
      · refine Or.inr ⟨m, by omega, by rw [e, h2], h3, fun m' q1 q2 => ?_⟩
        rcases Nat.lt_or_ge m' r with q | q
        · exact h4 m' q1 q
        · have : m' = r := by omega
          subst this; exact h
/-- none at all, or from the least to the most -/
theorem wd_both {n p : Nat} {F : Rows} {k : Nat} (h : kOK n p F k) : (wd F k 0 31 = -1 ∧ wd F k 1 31 = -1) ∨ ∃ a b, a ≤ b ∧ b ≤ 30 ∧ wd F k 0 31 = nI a ∧ wd F k 1 31 = nI b ∧ 100 ≤ pl F k (nI a) ∧ pl F k (nI b) ≤ 6000 ∧ (a = 0 ∨ pl F k (nI (a - 1)) < 100) ∧ (b = 30 ∨ 6000 < pl F k (nI (b + 1))) := by
  rcases wd_least (F := F) (k := k) 31 (Nat.le_refl _) with ⟨h1, h2⟩ | ⟨a, ha, h2, h3, h4⟩
  · rcases wd_most (F := F) (k := k) (g := 1) (by decide) 31 (Nat.le_refl _) with ⟨g1, -⟩ | ⟨b, hb, -, g3, -⟩
    · exact Or.inl ⟨h1, g1⟩
    · exact absurd g3 (h2 b hb)
  · rcases wd_most (F := F) (k := k) (g := 1) (by decide) 31 (Nat.le_refl _) with ⟨-, g2⟩ | ⟨b, hb, g2, g3, g4⟩
    · exact absurd h3 (g2 a ha)
    · have hab : a ≤ b := by
        rcases Nat.lt_or_ge b a with q | q
        · exact absurd g3 (h4 b q)
        · exact q
      refine Or.inr ⟨a, b, hab, by omega, h2, g2, h3.1, g3.2, ?_, ?_⟩
      · by_cases q : a = 0
        · exact Or.inl q
        · refine Or.inr ?_
          have q1 := h4 (a - 1) (by omega)
          have q2 := pl_mono h (show a - 1 ≤ a by omega) (by omega)
          have q3 := h3.2
          rw [i32_le] at q2 q3
          rw [i32_lt]
          have c1 : (100 : Int32).toInt = 100 := by decide
          have c2 : (6000 : Int32).toInt = 6000 := by decide
          refine Decidable.byContradiction (fun z => q1 ⟨?_, ?_⟩)
          · rw [i32_le]; omega
          · rw [i32_le]; omega
      · by_cases q : b = 30
        · exact Or.inl q
        · refine Or.inr ?_
          have q1 := g4 (b + 1) (by omega) (by omega)
          have q2 := pl_mono h (show b ≤ b + 1 by omega) (by omega)
          have q3 := g3.1
          rw [i32_le] at q2 q3
          rw [i32_lt]
          have c1 : (100 : Int32).toInt = 100 := by decide
          have c2 : (6000 : Int32).toInt = 6000 := by decide
          refine Decidable.byContradiction (fun z => q1 ⟨?_, ?_⟩)
          · rw [i32_le]; omega
          · rw [i32_le]; omega
/-! the ends of lines stay small -/
theorem en_rng {F : Rows} {k l : Nat} {len : Int32} (hl : l < 10) (hs : -5 ≤ F 9 1 ∧ F 9 1 ≤ 5) (hlen : 10 ≤ len ∧ len ≤ 100) (hh : held F k (F 9 0)) : -1000 < (en F k (nI l) len).toInt ∧ (en F k (nI l) len).toInt < 2000 := by
  obtain ⟨s1, s2⟩ := hs
  obtain ⟨l1, l2⟩ := hlen
  obtain ⟨p1, p2⟩ := hh
  rw [i32_le] at s1 s2 l1 l2 p1 p2
  have c1 : (-5 : Int32).toInt = -5 := by decide
  have c2 : (5 : Int32).toInt = 5 := by decide
  have c3 : (10 : Int32).toInt = 10 := by decide
  have c4 : (100 : Int32).toInt = 100 := by decide
  have c5 : (6000 : Int32).toInt = 6000 := by decide
  have c6 : (1000 : Int32).toInt = 1000 := by decide
  rw [c1] at s1; rw [c2] at s2; rw [c3] at l1; rw [c4] at l2 p1; rw [c5] at p2
  have m1 : -500 ≤ (F 9 1).toInt * len.toInt ∧ (F 9 1).toInt * len.toInt ≤ 500 := by
    have : (F 9 1).toInt = -5 ∨ (F 9 1).toInt = -4 ∨ (F 9 1).toInt = -3 ∨ (F 9 1).toInt = -2 ∨ (F 9 1).toInt = -1 ∨ (F 9 1).toInt = 0 ∨ (F 9 1).toInt = 1 ∨ (F 9 1).toInt = 2 ∨ (F 9 1).toInt = 3 ∨ (F 9 1).toInt = 4 ∨ (F 9 1).toInt = 5 := by omega
    rcases this with e | e | e | e | e | e | e | e | e | e | e <;> rw [e] <;> omega
  have e1 : (F 9 1 * len).toInt = (F 9 1).toInt * len.toInt := i32_mul (by omega) (by omega)
  have e2 : (F 9 1 * len * 1000).toInt = (F 9 1).toInt * len.toInt * 1000 := by rw [i32_mul (by rw [e1, c6]; omega) (by rw [e1, c6]; omega), e1, c6]
  have e3 : (1000 + pl F k (F 9 0)).toInt = 1000 + (pl F k (F 9 0)).toInt := by rw [i32_add (by rw [c6]; omega) (by rw [c6]; omega), c6]
  have hq : ((F 9 1 * len * 1000).toInt.tdiv (1000 + pl F k (F 9 0)).toInt).natAbs ≤ 454 := by
    rw [Int.natAbs_tdiv, e2, e3]
    exact Nat.le_of_lt_succ (Nat.div_lt_of_lt_mul (by omega))
  have e4 : (F 9 1 * len * 1000 / (1000 + pl F k (F 9 0))).toInt = (F 9 1 * len * 1000).toInt.tdiv (1000 + pl F k (F 9 0)).toInt := by
    rw [Int32.toInt_div]
    exact Int.bmod_eq_of_le (by omega) (by omega)
  have e5 : (100 * nI l : Int32) = nI (100 * l) := pk_mul 100 l
  unfold en
  rw [e5]
  have e6 : (nI (100 * l)).toInt = (100 * l : Nat) := nI_toInt (by omega)
  rw [i32_add (by rw [e6, e4]; omega) (by rw [e6, e4]; omega), e6, e4]
  omega
/-- side and lengths -/
def In2 (n : Nat) (F : Rows) : Prop := (-5 ≤ F 9 1 ∧ F 9 1 ≤ 5) ∧ ∀ k, k < n → ¬ F 6 k = -1 → 10 ≤ F 7 k ∧ F 7 k ≤ 100
theorem ed_rng {n p : Nat} {F : Rows} (hI : Inv n p F) (h2 : In2 n F) {l k : Nat} (hl : l < 10) (h : lk (F 6) n (nI l) = some k) : -1000 < (ed F k).toInt ∧ (ed F k).toInt < 2000 := by
  obtain ⟨hk, h6⟩ := lk_some h
  have hne : ¬ F 6 k = -1 := by rw [h6]; exact nI_m1 (by omega)
  unfold ed
  rw [h6]
  exact en_rng hl h2.1 (h2.2 k hk hne) (hI.fl k hk hne)
theorem ed_lt {n p : Nat} {F : Rows} (hI : Inv n p F) {l l' a b : Nat} (h : l < l') (h' : l' < 10) (ha : lk (F 6) n (nI l) = some a) (hb : lk (F 6) n (nI l') = some b) : (ed F a).toInt < (ed F b).toInt := by
  have := hI.2.2.2.2.2 l l' h h'
  rw [← i32_lt]
  exact i32_nge (fun q => this ⟨a, b, ha, hb, q⟩)
/-! counts -/
theorem cnt_imp {b c : Nat → Bool} : ∀ {n : Nat}, (∀ j, j < n → b j = true → c j = true) → cnt b n ≤ cnt c n
  | 0, _ => Nat.le_refl _
  | n + 1, h => by
    have ih := cnt_imp (b := b) (c := c) (n := n) (fun j hj => h j (Nat.lt_succ_of_lt hj))
    have hn := h n (Nat.lt_succ_self n)
    by_cases hb : b n = true
    · rw [cnt_t hb, cnt_t (hn hb)]; omega
    · rw [cnt_f hb]
      by_cases hc : c n = true
      · rw [cnt_t hc]; omega
      · rw [cnt_f hc]; exact ih
theorem cnt_or {a b c : Nat → Bool} : ∀ {n : Nat}, (∀ j, j < n → c j = true → a j = true ∨ b j = true) → cnt c n ≤ cnt a n + cnt b n
  | 0, _ => Nat.le_refl _
  | n + 1, h => by
    have ih := cnt_or (a := a) (b := b) (c := c) (n := n) (fun j hj => h j (Nat.lt_succ_of_lt hj))
    have hn := h n (Nat.lt_succ_self n)
    have ha : cnt a n ≤ cnt a (n + 1) := by rw [cnt]; omega
    have hb : cnt b n ≤ cnt b (n + 1) := by rw [cnt]; omega
    by_cases hc : c n = true
    · rw [cnt_t hc]
      rcases hn hc with q | q
      · rw [cnt_t q]; omega
      · rw [cnt_t q]; omega
    · rw [cnt_f hc]; omega
theorem cnt_split {b c d : Nat → Bool} : ∀ {n : Nat}, (∀ j, j < n → d j = (c j && !b j) ∧ (b j = true → c j = true)) → cnt d n + cnt b n = cnt c n
  | 0, _ => rfl
  | n + 1, h => by
    have ih := cnt_split (b := b) (c := c) (d := d) (n := n) (fun j hj => h j (Nat.lt_succ_of_lt hj))
    obtain ⟨h1, h2⟩ := h n (Nat.lt_succ_self n)
    rw [cnt, cnt, cnt, h1]
    cases hb : b n <;> cases hc : c n
    · simp; omega
    · simp; omega
    · rw [h2 hb] at hc; cases hc
    · simp; omega
/-- how many are torn -/
def tn (F : Rows) (n : Nat) : Nat := cnt (fun j => decide (¬ F 3 j = 0)) n
/-! the wind: what stays, what comes down -/
theorem stl_keep {n : Nat} : ∀ (m : Nat) (F : Rows), (∀ i, i ≠ 6 → i ≠ 9 → stl n m F i = F i) ∧ (∀ j, stl n m F 6 j = -1 ∨ stl n m F 6 j = F 6 j) ∧ ∀ c, c ≠ 3 → stl n m F 9 c = F 9 c
  | 0, F => ⟨fun _ _ _ => rfl, fun _ => Or.inr rfl, fun _ _ => rfl⟩
  | m + 1, F => by
    cases hc : cK F n with
    | none => rw [stl_none hc]; exact ⟨fun _ _ _ => rfl, fun _ => Or.inr rfl, fun _ _ => rfl⟩
    | some k =>
      rw [stl_some hc]
      obtain ⟨h1, h2, h3⟩ := stl_keep (n := n) m (dn F k)
      refine ⟨fun i h6 h9 => ?_, fun j => ?_, fun c hc3 => ?_⟩
      · rw [h1 i h6 h9]
        unfold dn
        rw [up_n _ _ h9, up_n _ _ h6]
      · rcases h2 j with q | q
        · exact Or.inl q
        · rw [q, dn_6]
          split
          · exact Or.inl rfl
          · exact Or.inr rfl
      · rw [h3 c hc3]
        exact up_sn (F := up F 6 k (-1)) _ hc3
theorem stl_fc {n : Nat} : ∀ (m : Nat) (F : Rows), stl n m F 9 3 + nI (fc (stl n m F) n) = F 9 3 + nI (fc F n) ∧ fc (stl n m F) n ≤ fc F n
  | 0, F => ⟨rfl, Nat.le_refl _⟩
  | m + 1, F => by
    cases hc : cK F n with
    | none => rw [stl_none hc]; exact ⟨rfl, Nat.le_refl _⟩
    | some k =>
      rw [stl_some hc]
      obtain ⟨h1, h2⟩ := stl_fc (n := n) m (dn F k)
      obtain ⟨l, hl, hk⟩ := cK_fl hc
      obtain ⟨hkn, hk6⟩ := lk_some hk
      have e := fc_dn (F := F) hkn (by rw [hk6]; exact nI_m1 (by omega))
      refine ⟨?_, by omega⟩
      rw [h1, show dn F k 9 3 = F 9 3 + 1 from up_ss _ _ _ _, ← e, Int32.add_assoc, Int32.add_comm 1, nI_1]
theorem uh_fc (F : Rows) (n : Nat) : fc (uh F n) n + cnt (fun j => decide (j < n) && unh F j) n = fc F n := by
  unfold fc
  refine cnt_split (fun j hj => ?_)
  have e6 : uh F n 6 j = if (decide (j < n) && unh F j) then -1 else F 6 j := rfl
  rw [e6, decide_eq_true hj]
  unfold unh
  by_cases h : F 6 j = -1
  · rw [decide_eq_false (p := ¬ F 6 j = -1 ∧ ¬ held F j (F 9 0)) (fun q => q.1 h)]
    simp [h]
  · by_cases hh : held F j (F 9 0)
    · rw [decide_eq_false (p := ¬ F 6 j = -1 ∧ ¬ held F j (F 9 0)) (fun q => q.2 hh)]
      simp [h]
    · rw [decide_eq_true (p := ¬ F 6 j = -1 ∧ ¬ held F j (F 9 0)) ⟨h, hh⟩]
      simp [h]
abbrev wnF (F : Rows) (sp sd : Int32) : Rows := up (up F 9 0 sp) 9 1 sd
noncomputable abbrev wnE (n : Nat) (F : Rows) (sp sd : Int32) : Rows := stl n 10 (uh (wnF F sp sd) n)
theorem wn_S {n : Nat} {F : Rows} {sp sd : Int32} (h : (0 ≤ sp ∧ sp ≤ 30) ∧ (-5 ≤ sd ∧ sd ≤ 5)) : S_wind n F sp sd = (0, wnE n F sp sd 9 3 - F 9 3, wnE n F sp sd) := if_pos h
theorem alg_1 {a x y : Int32} : (a + x - y) - a = x - y := by
  apply Int32.toBitVec_inj.mp
  simp only [Int32.toBitVec_sub, Int32.toBitVec_add]
  bv_omega
theorem wn_fc (n : Nat) (F : Rows) (sp sd : Int32) : wnE n F sp sd 9 3 - F 9 3 = nI (fc F n) - nI (fc (wnE n F sp sd) n) ∧ fc (wnE n F sp sd) n ≤ fc F n := by
  obtain ⟨h1, h2⟩ := stl_fc (n := n) 10 (uh (wnF F sp sd) n)
  have h3 := uh_fc (wnF F sp sd) n
  have h4 : fc (wnF F sp sd) n = fc F n := rfl
  rw [h4] at h3
  have h5 : uh (wnF F sp sd) n 9 3 = F 9 3 + nI (cnt (fun j => decide (j < n) && unh (wnF F sp sd) j) n) := rfl
  have h6 : fc (wnE n F sp sd) n ≤ fc (uh (wnF F sp sd) n) n := h2
  refine ⟨?_, by omega⟩
  rw [h5, Int32.add_assoc, nI_add, Nat.add_comm, h3] at h1
  have h7 : wnE n F sp sd 9 3 = F 9 3 + nI (fc F n) - nI (fc (wnE n F sp sd) n) := by
    rw [← h1, Int32.add_sub_cancel]
  rw [h7]
  exact alg_1
theorem wn_tn {n p : Nat} {F : Rows} (hI : Inv n p F) (sp sd : Int32) : tn F n ≤ tn (wnE n F sp sd) n ∧ tn (wnE n F sp sd) n ≤ tn F n + (fc F n - fc (wnE n F sp sd) n) := by
  have h1 := (stl_fc (n := n) 10 (uh (wnF F sp sd) n)).2
  have h3 := uh_fc (wnF F sp sd) n
  have h4 : fc (wnF F sp sd) n = fc F n := rfl
  rw [h4] at h3
  have e3 : wnE n F sp sd 3 = uh (wnF F sp sd) n 3 := (stl_keep (n := n) 10 (uh (wnF F sp sd) n)).1 3 (by decide) (by decide)
  have e33 : ∀ j, uh (wnF F sp sd) n 3 j = if (decide (j < n) && unh (wnF F sp sd) j) then bi (6000 < pl (wnF F sp sd) j (wnF F sp sd 9 0)) else F 3 j := fun j => rfl
  unfold tn
  rw [e3]
  have hb : ∀ j, j < n → (decide (j < n) && unh (wnF F sp sd) j) = true → F 3 j = 0 := by
    intro j hj q
    have q2 : unh (wnF F sp sd) j = true := by
      cases h : unh (wnF F sp sd) j with
      | true => rfl
      | false => rw [h, Bool.and_false] at q; cases q
    unfold unh at q2
    have q3 := of_decide_eq_true q2
    exact ((hI.2.1 j hj).2.2.2.2.2.2.2 q3.1).1
  constructor
  · refine cnt_imp (fun j hj q => ?_)
    have q1 := of_decide_eq_true q
    refine decide_eq_true ?_
    rw [e33]
    split
    · rename_i z; exact absurd (hb j hj z) q1
    · exact q1
  · have : cnt (fun j => decide (¬ uh (wnF F sp sd) n 3 j = 0)) n ≤ cnt (fun j => decide (¬ F 3 j = 0)) n + cnt (fun j => decide (j < n) && unh (wnF F sp sd) j) n := by
      refine cnt_or (fun j hj q => ?_)
      have q1 := of_decide_eq_true q
      rw [e33] at q1
      split at q1
      · rename_i z; exact Or.inr z
      · exact Or.inl (decide_eq_true q1)
    have h1' : fc (wnE n F sp sd) n ≤ fc (uh (wnF F sp sd) n) n := h1
    omega
/-! side and lengths stay in their bounds -/
theorem In2_start : In2 0 F00 := ⟨by decide, fun k hk => absurd hk (Nat.not_lt_zero k)⟩
theorem In2_of {n n' : Nat} {F F' : Rows} (h : In2 n F) (h9 : F' 9 1 = F 9 1) (hk : ∀ k, k < n' → ¬ F' 6 k = -1 → k < n ∧ ¬ F 6 k = -1 ∧ F' 7 k = F 7 k) : In2 n' F' := by
  refine ⟨by rw [h9]; exact h.1, fun k hkn q => ?_⟩
  obtain ⟨a, b, c⟩ := hk k hkn q
  rw [c]; exact h.2 k a b
theorem In2_wind {n : Nat} {F : Rows} (h : In2 n F) {sp sd : Int32} (hd : -5 ≤ sd ∧ sd ≤ 5) : In2 n (wnE n F sp sd) := by
  obtain ⟨k1, k2, k3⟩ := stl_keep (n := n) 10 (uh (wnF F sp sd) n)
  refine ⟨?_, fun k hk q => ?_⟩
  · have e : wnE n F sp sd 9 1 = sd := (k3 1 (by decide)).trans rfl
    rw [e]; exact hd
  · have e7 : wnE n F sp sd 7 = F 7 := (k1 7 (by decide) (by decide)).trans rfl
    rw [e7]
    refine h.2 k hk (fun z => q ?_)
    rcases k2 k with y | y
    · exact y
    · show wnE n F sp sd 6 k = -1
      rw [show wnE n F sp sd 6 k = uh (wnF F sp sd) n 6 k from y]
      show (if (decide (k < n) && unh (wnF F sp sd) k) then (-1 : Int32) else F 6 k) = -1
      split
      · rfl
      · exact z
theorem wn_9 (n : Nat) (F : Rows) (sp sd : Int32) : wnE n F sp sd 9 0 = sp ∧ wnE n F sp sd 9 2 = F 9 2 := by
  obtain ⟨-, -, k3⟩ := stl_keep (n := n) 10 (uh (wnF F sp sd) n)
  exact ⟨(k3 0 (by decide)).trans rfl, (k3 2 (by decide)).trans rfl⟩
theorem wn_08 (n : Nat) (F : Rows) (sp sd : Int32) : wnE n F sp sd 0 = F 0 ∧ wnE n F sp sd 8 = F 8 := by
  obtain ⟨k1, -, -⟩ := stl_keep (n := n) 10 (uh (wnF F sp sd) n)
  exact ⟨(k1 0 (by decide) (by decide)).trans rfl, (k1 8 (by decide) (by decide)).trans rfl⟩
/-! who has a kite already: bits -/
def pm (F : Rows) : Nat → Nat
  | 0 => 0
  | i + 1 => if F 5 i = -1 then pm F i else pm F i ||| 2 ^ (F 5 i).toNatClampNeg
theorem pm_lt {n p : Nat} {F : Rows} (hI : Inv n p F) : ∀ {i : Nat}, i ≤ n → pm F i < 2 ^ 8
  | 0, _ => by show 0 < 2 ^ 8; decide
  | i + 1, hi => by
    have ih := pm_lt hI (i := i) (by omega)
    rw [pm]
    split
    · exact ih
    · rename_i h
      rcases (hI.2.1 i (by omega)).2.2.2.2.2.1 with q | ⟨j, hj, q⟩
      · exact absurd q h
      · have hp := hI.1.2
        rw [q, nI_clamp (by omega)]
        exact Nat.or_lt_two_pow ih (Nat.pow_lt_pow_right (by decide) (by omega))
theorem pm_bit {n p : Nat} {F : Rows} (hI : Inv n p F) {j : Nat} : ∀ {i : Nat}, i ≤ n → (pm F i).testBit j = true → ∃ i', i' < i ∧ F 5 i' = nI j
  | 0, _, h => by simp [pm] at h
  | i + 1, hi, h => by
    rw [pm] at h
    split at h
    · obtain ⟨i', h1, h2⟩ := pm_bit hI (i := i) (by omega) h
      exact ⟨i', by omega, h2⟩
    · rename_i hn
      rcases (hI.2.1 i (by omega)).2.2.2.2.2.1 with q | ⟨j2, hj, q⟩
      · exact absurd q hn
      · have hp := hI.1.2
        rw [q, nI_clamp (by omega), Nat.testBit_or, Bool.or_eq_true] at h
        rcases h with h | h
        · obtain ⟨i', h1, h2⟩ := pm_bit hI (i := i) (by omega) h
          exact ⟨i', by omega, h2⟩
        · rw [Nat.testBit_two_pow] at h
          have e := of_decide_eq_true h
          exact ⟨i, by omega, by rw [q, e]⟩
theorem pm_free {n p : Nat} {F : Rows} (hI : Inv n p F) {i j : Nat} (hi : i < n) (h : F 5 i = nI j) (hj : j < 8) : pm F i / 2 ^ j % 2 = 0 := by
  cases hb : (pm F i).testBit j with
  | true =>
    obtain ⟨i', h1, h2⟩ := pm_bit hI (by omega) hb
    have := hI.2.2.2.1.1 i' i (by omega) hi (h2.trans h.symm) (by rw [h2]; exact nI_m1 (by omega))
    omega
  | false =>
    rw [Nat.testBit_eq_decide_div_mod_eq] at hb
    have := of_decide_eq_false hb
    omega
theorem nI_or {a b : Nat} (ha : a < 2 ^ 31) (hb : b < 2 ^ 31) : nI a ||| nI b = nI (a ||| b) := by
  apply Int32.toBitVec_inj.mp
  apply BitVec.eq_of_toNat_eq
  rw [Int32.toBitVec_or, BitVec.toNat_or, pk_tn (by omega), pk_tn (by omega), pk_tn (Nat.lt_of_lt_of_le (Nat.or_lt_two_pow ha hb) (by decide))]
