/-! ===== the line's tension ===== -/
theorem cmp_self {s : Bool} {E T : Nat} (h1 : 1 ≤ E) (h2 : E ≤ 254) (hT : T < 8388608) : FP.fcmp (fb s E T) (fb s E T) = some .eq := by
  show FP.Core.order (FP.Core.decode FP.Core.b32 (fb s E T).toNat) (FP.Core.decode FP.Core.b32 (fb s E T).toNat) = _
  rw [fb_dec h1 h2 hT]
  show some (compare _ _) = _
  rw [Int.compare_eq_eq.mpr rfl]
def tns (F : Rows) (k : Nat) : UInt32 := FP.fdiv (FP.fdiv (FP.i2f (pl F k (F 9 0))) 1120403456) (FP.i2f (F 1 k))
def S_tension (n : Nat) (F : Rows) (its : Int32) : Int32 × Int32 := match ix n its with
  | none => (1, 0)
  | some k => (0, (tns F k).toInt32)
theorem mul_bd {x y : Int} {A B : Int} (hx : 0 ≤ x ∧ x ≤ A) (hy : 0 ≤ y ∧ y ≤ B) : 0 ≤ x * y ∧ x * y ≤ A * B := ⟨Int.mul_nonneg hx.1 hy.1, Int.mul_le_mul hx.2 hy.2 hy.1 (Int.le_trans hx.1 hx.2)⟩
theorem i32_mul {x y : Int32} {A B : Int} (hx : 0 ≤ x.toInt ∧ x.toInt ≤ A) (hy : 0 ≤ y.toInt ∧ y.toInt ≤ B) (h : A * B < 2147483648) : (x * y).toInt = x.toInt * y.toInt ∧ 0 ≤ (x * y).toInt ∧ (x * y).toInt ≤ A * B := by
  have e := mul_bd hx hy
  have e2 : (x * y).toInt = x.toInt * y.toInt := by
    rw [Int32.toInt_mul]
    exact Int.bmod_eq_of_le (by omega) (by omega)
  exact ⟨e2, by rw [e2]; exact e.1, by rw [e2]; exact e.2⟩
theorem i32_lo {a x : Int32} (h : a ≤ x) : a.toInt ≤ x.toInt := (i32_le a x).mp h
/-- how large a pull is -/
theorem pl_bd {F : Rows} {k : Nat} {sp : Int32} (hkd : F 0 k = 0 ∨ F 0 k = 1 ∨ F 0 k = 2) (ha : 1 ≤ F 1 k ∧ F 1 k ≤ 20) (hw : 1 ≤ F 2 k ∧ F 2 k ≤ 40) (hs : 0 ≤ sp ∧ sp ≤ 30) : -4000 ≤ (pl F k sp).toInt ∧ (pl F k sp).toInt ≤ 90000 := by
  have c0 : (0 : Int32).toInt = 0 := by decide
  have c1 : (1 : Int32).toInt = 1 := by decide
  have c5 : (5 : Int32).toInt = 5 := by decide
  have c10 : (10 : Int32).toInt = 10 := by decide
  have c20 : (20 : Int32).toInt = 20 := by decide
  have c30 : (30 : Int32).toInt = 30 := by decide
  have c40 : (40 : Int32).toInt = 40 := by decide
  have c60 : (60 : Int32).toInt = 60 := by decide
  have c80 : (80 : Int32).toInt = 80 := by decide
  have c100 : (100 : Int32).toInt = 100 := by decide
  have a1 := i32_lo ha.1
  have a2 := i32_lo ha.2
  have w1 := i32_lo hw.1
  have w2 := i32_lo hw.2
  have s1 := i32_lo hs.1
  have s2 := i32_lo hs.2
  rw [c1] at a1 w1; rw [c20] at a2; rw [c40] at w2; rw [c0] at s1; rw [c30] at s2
  obtain ⟨-, q1, q2⟩ := i32_mul (x := 100) (y := F 2 k) (A := 100) (B := 40) ⟨by omega, by omega⟩ ⟨by omega, w2⟩ (by omega)
  have hl : 0 ≤ (lift (F 0 k) (F 1 k) sp).toInt ∧ (lift (F 0 k) (F 1 k) sp).toInt ≤ 90000 := by
    unfold lift
    rcases hkd with h | h | h
    · rw [if_pos h]
      obtain ⟨-, p1, p2⟩ := i32_mul (x := 5) (y := F 1 k) (A := 5) (B := 20) ⟨by omega, by omega⟩ ⟨by omega, a2⟩ (by omega)
      obtain ⟨-, p3, p4⟩ := i32_mul (x := 5 * F 1 k) (y := sp) (A := 100) (B := 30) ⟨p1, by omega⟩ ⟨s1, s2⟩ (by omega)
      obtain ⟨-, p5, p6⟩ := i32_mul (x := 5 * F 1 k * sp) (y := sp) (A := 3000) (B := 30) ⟨p3, by omega⟩ ⟨s1, s2⟩ (by omega)
      exact ⟨p5, by omega⟩
    · rw [h, if_neg (by decide), if_pos rfl]
      obtain ⟨-, p1, p2⟩ := i32_mul (x := 60) (y := F 1 k) (A := 60) (B := 20) ⟨by omega, by omega⟩ ⟨by omega, a2⟩ (by omega)
      obtain ⟨-, p3, p4⟩ := i32_mul (x := 60 * F 1 k) (y := sp) (A := 1200) (B := 30) ⟨p1, by omega⟩ ⟨s1, s2⟩ (by omega)
      exact ⟨p3, by omega⟩
    · rw [h, if_neg (by decide), if_neg (by decide)]
      obtain ⟨-, p1, p2⟩ := i32_mul (x := 80) (y := F 1 k) (A := 80) (B := 20) ⟨by omega, by omega⟩ ⟨by omega, a2⟩ (by omega)
      have hm : 0 ≤ (if sp ≤ 10 then sp else 10 : Int32).toInt ∧ (if sp ≤ 10 then sp else 10 : Int32).toInt ≤ 30 := by split <;> omega
      obtain ⟨-, p3, p4⟩ := i32_mul (x := 80 * F 1 k) (y := if sp ≤ 10 then sp else 10) (A := 1600) (B := 30) ⟨p1, by omega⟩ hm (by omega)
      exact ⟨p3, by omega⟩
  unfold pl
  rw [i32_sub (by omega) (by omega)]
  omega
/-- a tension is 0 or a normal float of middle size, and so is what it comes from -/
theorem tns_ok {F : Rows} {k : Nat} (hkd : F 0 k = 0 ∨ F 0 k = 1 ∨ F 0 k = 2) (ha : 1 ≤ F 1 k ∧ F 1 k ≤ 20) (hw : 1 ≤ F 2 k ∧ F 2 k ≤ 40) (hs : 0 ≤ F 9 0 ∧ F 9 0 ≤ 30) : vf_n32 (FP.fdiv (FP.i2f (pl F k (F 9 0))) 1120403456) ∧ (tns F k = 0 ∨ ∃ s E T, 100 ≤ E ∧ E ≤ 160 ∧ T < 8388608 ∧ tns F k = fb s E T) := by
  have hb := pl_bd hkd ha hw hs
  have a1 := i32_lo ha.1
  have a2 := i32_lo ha.2
  rw [show (1 : Int32).toInt = 1 by decide] at a1
  rw [show (20 : Int32).toInt = 20 by decide] at a2
  have pw : ∀ {x j n : Nat}, 2 ^ (x - 127) ≤ n → n < 2 ^ j → x < 127 + j := fun {x j n} h1 h2 => by
    rcases Nat.lt_or_ge x (127 + j) with q | q
    · exact q
    · have : 2 ^ j ≤ 2 ^ (x - 127) := Nat.pow_le_pow_right (by omega) (by omega)
      omega
  obtain ⟨E2, T2, g1, g2, g3, g4⟩ := i2f_fb (v := F 1 k) (fun q => by rw [q, show (0 : Int32).toInt = 0 by decide] at a1; omega) (by omega) (by omega)
  have hE2 : E2 < 127 + 5 := pw g3 (by omega)
  have hs2 : decide ((F 1 k).toInt < 0) = false := decide_eq_false (by omega)
  rw [hs2] at g4
  unfold tns
  rw [g4]
  by_cases h0 : pl F k (F 9 0) = 0
  · rw [h0, i2f_0, c100_fb, zero_div (by omega) (by omega) (by omega), fb_00, zero_div (by omega) (by omega) g1, fb_00]
    exact ⟨by unfold vf_n32; decide, Or.inl rfl⟩
  · obtain ⟨E1, T1, f1, f2, f3, f4⟩ := i2f_fb h0 (by omega) (by omega)
    have hE1 : E1 < 127 + 17 := pw f3 (by omega)
    rw [f4, c100_fb]
    obtain ⟨E3, T3, d1, d2, d3⟩ := fb_div (s := decide ((pl F k (F 9 0)).toInt < 0)) (s' := false) (E := E1) (E' := 133) (T := T1) (T' := 4718592) (by omega) (by omega) (by omega) (by omega) (by omega) f1 (by omega)
    rw [d3]
    refine ⟨fb_n32 (by omega) d1, Or.inr ?_⟩
    obtain ⟨E4, T4, e1, e2, e3⟩ := fb_div (s := decide ((pl F k (F 9 0)).toInt < 0) != false) (s' := false) (E := E3) (E' := E2) (T := T3) (T' := T2) (by omega) (by omega) (by omega) (by omega) (by omega) d1 g1
    exact ⟨_, E4, T4, by omega, by omega, e1, e3⟩
/-! its bits -/
def sg (s : Bool) : Int32 := if s then -2147483648 else 0
theorem bits_1 : ∀ E : Nat, E < 256 → nI E <<< ((23 : Int32) &&& 31) = Int32.ofNat (E * 8388608) := by decide +kernel
theorem bits_2 (s : Bool) : ∀ E : Nat, E < 256 → sg s ||| Int32.ofNat (E * 8388608) = Int32.ofNat ((s.toNat * 256 + E) * 8388608) := by
  cases s
  · decide +kernel
  · decide +kernel
theorem bits_3 {M T : Nat} (hM : M < 512) (hT : T < 8388608) : Int32.ofNat (M * 8388608) ||| Int32.ofNat T = Int32.ofNat (M * 8388608 + T) := by
  apply Int32.toBitVec_inj.1
  rw [Int32.toBitVec_or]
  apply BitVec.eq_of_toNat_eq
  rw [BitVec.toNat_or]
  show (BitVec.ofNat 32 (M * 8388608)).toNat ||| (BitVec.ofNat 32 T).toNat = (BitVec.ofNat 32 (M * 8388608 + T)).toNat
  rw [BitVec.toNat_ofNat, BitVec.toNat_ofNat, BitVec.toNat_ofNat, Nat.mod_eq_of_lt (by omega), Nat.mod_eq_of_lt (by omega), Nat.mod_eq_of_lt (by omega)]
  have := Nat.two_pow_add_eq_or_of_lt (i := 23) (b := T) hT M
  rw [show M * 8388608 = 2 ^ 23 * M by omega]
  exact this.symm
theorem fb_bits {s : Bool} {E T : Nat} (hE : E < 256) (hT : T < 8388608) : sg s ||| nI E <<< ((23 : Int32) &&& 31) ||| nI T = (fb s E T).toInt32 := by
  rw [bits_1 E hE, bits_2 s E hE]
  have h1 : s.toNat ≤ 1 := by cases s <;> decide
  exact bits_3 (by omega) hT
