/-! ===== floats: the normal ones by their fields ===== -/
def fb (s : Bool) (E T : Nat) : UInt32 := UInt32.ofNat ((s.toNat * 256 + E) * 8388608 + T)
theorem fb_nat {s : Bool} {E T : Nat} (hE : E < 256) (hT : T < 8388608) : (fb s E T).toNat = (s.toNat * 256 + E) * 8388608 + T := by
  unfold fb
  rw [UInt32.toNat_ofNat']
  have h1 : s.toNat ≤ 1 := by cases s <;> decide
  exact Nat.mod_eq_of_lt (by omega)
set_option maxRecDepth 100000 in
theorem fb_dec {s : Bool} {E T : Nat} (h1 : 1 ≤ E) (h2 : E ≤ 254) (hT : T < 8388608) : FP.Core.decode FP.Core.b32 (fb s E T).toNat = .fin s (8388608 + T) ((E : Int) - 150) := by
  rw [fb_nat (by omega) hT]
  have ht : FP.Core.b32.tails = 8388608 := by decide
  have he : FP.Core.b32.exps = 256 := by decide
  have hq : FP.Core.b32.qmin = -149 := by decide
  have a1 : FP.Core.fieldT FP.Core.b32 ((s.toNat * 256 + E) * 8388608 + T) = T := by unfold FP.Core.fieldT; rw [ht]; omega
  have a3 : ((s.toNat * 256 + E) * 8388608 + T) / 8388608 = s.toNat * 256 + E := by omega
  have a2 : FP.Core.fieldE FP.Core.b32 ((s.toNat * 256 + E) * 8388608 + T) = E := by unfold FP.Core.fieldE; rw [ht, he, a3]; omega
  have a4 : FP.Core.fieldS FP.Core.b32 ((s.toNat * 256 + E) * 8388608 + T) = s := by
    have a5 : (s.toNat * 256 + E) / 256 = s.toNat := by omega
    unfold FP.Core.fieldS
    rw [ht, he, a3, a5]
    cases s
    · rfl
    · rfl
  unfold FP.Core.decode
  rw [a1, a2, a4, ht, he, hq, if_neg (by omega), if_neg (by omega)]
  congr 1
  omega
theorem fb_enc {s : Bool} {c E : Nat} {q : Int} (h1 : 1 ≤ E) (hq : q = (E : Int) - 150) (hc1 : 8388608 ≤ c) : UInt32.ofNat (FP.Core.encode FP.Core.b32 (.fin s c q)) = fb s E (c - 8388608) := by
  have ht : FP.Core.b32.tails = 8388608 := by decide
  have he : FP.Core.b32.exps = 256 := by decide
  have hm : FP.Core.b32.qmin = -149 := by decide
  show UInt32.ofNat (if c < FP.Core.b32.tails then FP.Core.assemble FP.Core.b32 s 0 c else FP.Core.assemble FP.Core.b32 s ((q - FP.Core.b32.qmin).toNat + 1) (c - FP.Core.b32.tails)) = _
  rw [ht, if_neg (by omega), hm]
  unfold FP.Core.assemble fb
  rw [ht, he, show (q - -149).toNat + 1 = E by omega]
/-- nearest, between two bounds -/
theorem near_ge {A B M : Nat} (hB : 0 < B) (h : M * B ≤ A) : M ≤ FP.Core.nearest A B := by
  have : M ≤ A / B := (Nat.le_div_iff_mul_le hB).mpr h
  unfold FP.Core.nearest
  split
  · exact this
  · split <;> omega
theorem near_le {A B M : Nat} (hB : 0 < B) (h : A ≤ M * B) : FP.Core.nearest A B ≤ M := by
  by_cases heq : A = M * B
  · subst heq
    unfold FP.Core.nearest
    rw [Nat.mul_mod_left, Nat.mul_div_cancel _ hB, if_pos (by omega)]
    exact Nat.le_refl _
  · have h2 : A / B < M := (Nat.div_lt_iff_lt_mul hB).mpr (by omega)
    unfold FP.Core.nearest
    split
    · omega
    · split <;> omega
theorem near_eq {B M : Nat} (hB : 0 < B) : FP.Core.nearest (M * B) B = M := Nat.le_antisymm (near_le hB (Nat.le_refl _)) (near_ge hB (Nat.le_refl _))
theorem log_23 {c : Nat} (h1 : 8388608 ≤ c) (h2 : c < 16777216) : c.log2 = 23 := (Nat.log2_eq_iff (by omega)).mpr ⟨by omega, by omega⟩
theorem settle_n {s : Bool} {c : Nat} {q : Int} (hc : c < 16777216) (hq : q ≤ 104) : FP.Core.settle FP.Core.b32 s c q = .fin s c q := by
  unfold FP.Core.settle FP.Core.bound
  rw [if_pos (show c < 2 ^ FP.Core.b32.p from hc), if_pos (show q ≤ FP.Core.b32.qmax from hq)]
theorem max_q {x : Int} (h : -149 ≤ x) : max FP.Core.b32.qmin x = x := by
  rw [show FP.Core.b32.qmin = -149 by decide]; omega
/-- a ratio of two significands -/
theorem ratio_n {s : Bool} {c d : Nat} {e : Int} (hc1 : 8388608 ≤ c) (hc2 : c < 16777216) (hd1 : 8388608 ≤ d) (hd2 : d < 16777216) (he1 : -120 ≤ e) (he2 : e ≤ 120) : ∃ c' : Nat, ∃ q : Int, 8388608 ≤ c' ∧ c' < 16777216 ∧ (q = e - 23 ∨ q = e - 24) ∧ FP.Core.roundRatio FP.Core.b32 s c d e = .fin s c' q := by
  have l1 := log_23 hc1 hc2
  have l2 := log_23 hd1 hd2
  unfold FP.Core.roundRatio
  rw [if_neg (by omega)]
  by_cases h : d ≤ c
  · have hl : FP.Core.leading c d = 0 := by
      unfold FP.Core.leading
      rw [l1, l2]
      exact if_pos (by simpa using h)
    have hq : FP.Core.quantum FP.Core.b32 c d e = e - 23 := by
      unfold FP.Core.quantum
      rw [hl, max_q (by show -149 ≤ 0 + e - ((24 : Nat) - 1 : Int); omega)]
      show 0 + e - ((24 : Nat) - 1 : Int) = e - 23
      omega
    have hn : FP.Core.unitsNum c e (e - 23) = c * 8388608 := by
      unfold FP.Core.unitsNum; rw [show (e - (e - 23)).toNat = 23 by omega]
    have hm : FP.Core.unitsDen d e (e - 23) = d := by
      unfold FP.Core.unitsDen; rw [show ((e - 23) - e).toNat = 0 by omega]; omega
    refine ⟨FP.Core.nearest (c * 8388608) d, e - 23, near_ge (by omega) (by rw [Nat.mul_comm]; exact Nat.mul_le_mul_right _ h), ?_, Or.inl rfl, ?_⟩
    · have : FP.Core.nearest (c * 8388608) d ≤ 16777215 := near_le (by omega) (by omega)
      omega
    · unfold FP.Core.roundAt
      rw [hq, hn, hm]
      refine settle_n ?_ (by omega)
      have : FP.Core.nearest (c * 8388608) d ≤ 16777215 := near_le (by omega) (by omega)
      omega
  · have hl : FP.Core.leading c d = -1 := by
      unfold FP.Core.leading
      rw [l1, l2]
      exact if_neg (by simpa using h)
    have hq : FP.Core.quantum FP.Core.b32 c d e = e - 24 := by
      unfold FP.Core.quantum
      rw [hl, max_q (by show -149 ≤ -1 + e - ((24 : Nat) - 1 : Int); omega)]
      show -1 + e - ((24 : Nat) - 1 : Int) = e - 24
      omega
    have hn : FP.Core.unitsNum c e (e - 24) = c * 16777216 := by
      unfold FP.Core.unitsNum; rw [show (e - (e - 24)).toNat = 24 by omega]
    have hm : FP.Core.unitsDen d e (e - 24) = d := by
      unfold FP.Core.unitsDen; rw [show ((e - 24) - e).toNat = 0 by omega]; omega
    refine ⟨FP.Core.nearest (c * 16777216) d, e - 24, near_ge (by omega) (by omega), ?_, Or.inr rfl, ?_⟩
    · have : FP.Core.nearest (c * 16777216) d ≤ 16777215 := near_le (by omega) (by omega)
      omega
    · unfold FP.Core.roundAt
      rw [hq, hn, hm]
      refine settle_n ?_ (by omega)
      have : FP.Core.nearest (c * 16777216) d ≤ 16777215 := near_le (by omega) (by omega)
      omega
theorem fb_div {s s' : Bool} {E E' T T' : Nat} (hE1 : 60 ≤ E) (hE2 : E ≤ 200) (hE3 : 100 ≤ E') (hE4 : E' ≤ 160) (h1 : E' + 2 ≤ E + 127) (hT : T < 8388608) (hT' : T' < 8388608) : ∃ E2 T2 : Nat, T2 < 8388608 ∧ (E2 + E' = E + 127 ∨ E2 + E' = E + 126) ∧ FP.fdiv (fb s E T) (fb s' E' T') = fb (s != s') E2 T2 := by
  obtain ⟨c', q, g1, g2, g3, g4⟩ := ratio_n (s := s != s') (c := 8388608 + T) (d := 8388608 + T') (e := ((E : Int) - 150) - ((E' : Int) - 150)) (by omega) (by omega) (by omega) (by omega) (by omega) (by omega)
  have hd : FP.fdiv (fb s E T) (fb s' E' T') = UInt32.ofNat (FP.Core.encode FP.Core.b32 (.fin (s != s') c' q)) := by
    show UInt32.ofNat (FP.Core.encode FP.Core.b32 (FP.Core.quotient FP.Core.b32 (FP.Core.decode FP.Core.b32 (fb s E T).toNat) (FP.Core.decode FP.Core.b32 (fb s' E' T').toNat))) = _
    rw [fb_dec (by omega) (by omega) hT, fb_dec (by omega) (by omega) hT']
    show UInt32.ofNat (FP.Core.encode FP.Core.b32 (if 8388608 + T' = 0 then _ else FP.Core.roundRatio FP.Core.b32 (s != s') (8388608 + T) (8388608 + T') (((E : Int) - 150) - ((E' : Int) - 150)))) = _
    rw [if_neg (by omega), g4]
  rcases g3 with g3 | g3
  · exact ⟨E + 127 - E', c' - 8388608, by omega, Or.inl (by omega), by rw [hd, fb_enc (E := E + 127 - E') (by omega) (by omega) g1]⟩
  · exact ⟨E + 126 - E', c' - 8388608, by omega, Or.inr (by omega), by rw [hd, fb_enc (E := E + 126 - E') (by omega) (by omega) g1]⟩
theorem c2_fb : FP.Core.fconst2 = fb false 128 0 := by decide
theorem c1_fb : FP.Core.fconst1 = fb false 127 0 := by decide
theorem c23_fb : (1258291200 : UInt32) = fb false 150 0 := by decide
theorem c100_fb : (1120403456 : UInt32) = fb false 133 4718592 := by decide
/-- halves and doubles lose nothing -/
theorem fb_half {s : Bool} {E T : Nat} (h1 : 100 ≤ E) (h2 : E ≤ 200) (hT : T < 8388608) : FP.fdiv (fb s E T) FP.Core.fconst2 = fb s (E - 1) T := by
  rw [c2_fb]
  show UInt32.ofNat (FP.Core.encode FP.Core.b32 (FP.Core.quotient FP.Core.b32 (FP.Core.decode FP.Core.b32 (fb s E T).toNat) (FP.Core.decode FP.Core.b32 (fb false 128 0).toNat))) = _
  rw [fb_dec (by omega) (by omega) hT, fb_dec (by omega) (by omega) (by omega)]
  show UInt32.ofNat (FP.Core.encode FP.Core.b32 (FP.Core.roundRatio FP.Core.b32 (s != false) (8388608 + T) (8388608 + 0) (((E : Int) - 150) - (((128 : Nat) : Int) - 150)))) = _
  rw [show (s != false) = s by cases s <;> rfl, show (((E : Int) - 150) - (((128 : Nat) : Int) - 150)) = (E : Int) - 128 by omega]
  have l1 := log_23 (c := 8388608 + T) (by omega) (by omega)
  have l2 := log_23 (c := 8388608 + 0) (by omega) (by omega)
  have hl : FP.Core.leading (8388608 + T) (8388608 + 0) = 0 := by
    unfold FP.Core.leading
    rw [l1, l2]
    exact if_pos (by simp)
  have hr : FP.Core.roundRatio FP.Core.b32 s (8388608 + T) (8388608 + 0) ((E : Int) - 128) = .fin s (8388608 + T) ((E : Int) - 151) := by
    unfold FP.Core.roundRatio
    rw [if_neg (by omega)]
    have hq : FP.Core.quantum FP.Core.b32 (8388608 + T) (8388608 + 0) ((E : Int) - 128) = (E : Int) - 151 := by
      unfold FP.Core.quantum
      rw [hl, max_q (by show -149 ≤ 0 + ((E : Int) - 128) - ((24 : Nat) - 1 : Int); omega)]
      show 0 + ((E : Int) - 128) - ((24 : Nat) - 1 : Int) = _
      omega
    unfold FP.Core.roundAt
    rw [hq]
    have hn : FP.Core.unitsNum (8388608 + T) ((E : Int) - 128) ((E : Int) - 151) = (8388608 + T) * 8388608 := by
      unfold FP.Core.unitsNum; rw [show (((E : Int) - 128) - ((E : Int) - 151)).toNat = 23 by omega]
    have hm : FP.Core.unitsDen (8388608 + 0) ((E : Int) - 128) ((E : Int) - 151) = 8388608 := by
      unfold FP.Core.unitsDen; rw [show (((E : Int) - 151) - ((E : Int) - 128)).toNat = 0 by omega]
    rw [hn, hm, near_eq (by omega)]
    exact settle_n (by omega) (by omega)
  rw [hr, fb_enc (E := E - 1) (by omega) (by omega) (by omega), Nat.add_sub_cancel_left]
/-- a product with a power of two -/
theorem fb_mul2 {s : Bool} {E E' T : Nat} (h1 : 50 ≤ E) (h2 : E ≤ 180) (h3 : 120 ≤ E') (h4 : E' ≤ 160) (h5 : 128 ≤ E + E') (hT : T < 8388608) : FP.fmul (fb s E T) (fb false E' 0) = fb s (E + E' - 127) T := by
  show UInt32.ofNat (FP.Core.encode FP.Core.b32 (FP.Core.round FP.Core.b32 (FP.Core.exactProduct (FP.Core.decode FP.Core.b32 (fb s E T).toNat) (FP.Core.decode FP.Core.b32 (fb false E' 0).toNat)))) = _
  rw [fb_dec (by omega) (by omega) hT, fb_dec (by omega) (by omega) (by omega)]
  show UInt32.ofNat (FP.Core.encode FP.Core.b32 (FP.Core.roundRatio FP.Core.b32 (s != false) ((8388608 + T) * (8388608 + 0)) 1 (((E : Int) - 150) + ((E' : Int) - 150)))) = _
  rw [show (s != false) = s by cases s <;> rfl]
  have l1 : ((8388608 + T) * (8388608 + 0)).log2 = 46 := (Nat.log2_eq_iff (by omega)).mpr ⟨by omega, by omega⟩
  have hl : FP.Core.leading ((8388608 + T) * (8388608 + 0)) 1 = 46 := by
    unfold FP.Core.leading
    rw [l1, show Nat.log2 1 = 0 by decide]
    refine if_pos ?_
    show 1 * 2 ^ 46 ≤ (8388608 + T) * (8388608 + 0) * 2 ^ 0
    omega
  have hr : FP.Core.roundRatio FP.Core.b32 s ((8388608 + T) * (8388608 + 0)) 1 (((E : Int) - 150) + ((E' : Int) - 150)) = .fin s (8388608 + T) ((E : Int) + E' - 277) := by
    unfold FP.Core.roundRatio
    rw [if_neg (by omega)]
    have hq : FP.Core.quantum FP.Core.b32 ((8388608 + T) * (8388608 + 0)) 1 (((E : Int) - 150) + ((E' : Int) - 150)) = (E : Int) + E' - 277 := by
      unfold FP.Core.quantum
      rw [hl, max_q (by show -149 ≤ 46 + (((E : Int) - 150) + ((E' : Int) - 150)) - ((24 : Nat) - 1 : Int); omega)]
      show 46 + (((E : Int) - 150) + ((E' : Int) - 150)) - ((24 : Nat) - 1 : Int) = _
      omega
    unfold FP.Core.roundAt
    rw [hq]
    have hn : FP.Core.unitsNum ((8388608 + T) * (8388608 + 0)) (((E : Int) - 150) + ((E' : Int) - 150)) ((E : Int) + E' - 277) = (8388608 + T) * 8388608 := by
      unfold FP.Core.unitsNum; rw [show ((((E : Int) - 150) + ((E' : Int) - 150)) - ((E : Int) + E' - 277)).toNat = 0 by omega]; omega
    have hm : FP.Core.unitsDen 1 (((E : Int) - 150) + ((E' : Int) - 150)) ((E : Int) + E' - 277) = 8388608 := by
      unfold FP.Core.unitsDen; rw [show (((E : Int) + E' - 277) - (((E : Int) - 150) + ((E' : Int) - 150))).toNat = 23 by omega]
    rw [hn, hm, near_eq (by omega)]
    exact settle_n (by omega) (by omega)
  rw [hr, fb_enc (E := E + E' - 127) (by omega) (by omega) (by omega), Nat.add_sub_cancel_left]
theorem fb_dbl {s : Bool} {E T : Nat} (h1 : 50 ≤ E) (h2 : E ≤ 180) (hT : T < 8388608) : FP.fmul (fb s E T) FP.Core.fconst2 = fb s (E + 1) T := by
  rw [c2_fb, fb_mul2 h1 h2 (by omega) (by omega) (by omega) hT, show E + 128 - 127 = E + 1 by omega]
theorem fb_f2i {T : Nat} (hT : T < 8388608) : FP.f2i (fb false 150 T) = nI (8388608 + T) := by
  show FP.Core.toI (FP.Core.decode FP.Core.b32 (fb false 150 T).toNat) = _
  rw [fb_dec (by omega) (by omega) hT]
  show Int32.ofInt (max (-2 ^ 31) (min (2 ^ 31 - 1) (FP.Core.truncate false (8388608 + T) (((150 : Nat) : Int) - 150)))) = _
  have e : FP.Core.truncate false (8388608 + T) (((150 : Nat) : Int) - 150) = ((8388608 + T : Nat) : Int) := by
    unfold FP.Core.truncate FP.Core.signed
    show (((8388608 + T) * 2 ^ 0 / 2 ^ 0 : Nat) : Int) = _
    rw [Nat.pow_zero, Nat.mul_one, Nat.div_one]
  rw [e, show max (-2 ^ 31 : Int) (min (2 ^ 31 - 1) ((8388608 + T : Nat) : Int)) = ((8388608 + T : Nat) : Int) by omega]
  apply Int32.toInt_inj.mp
  rw [nI_toInt (by omega), Int32.toInt_ofInt]
  change Int.bmod _ 4294967296 = _
  exact Int.bmod_eq_of_le (by omega) (by omega)
theorem fb_n32 {s : Bool} {E T : Nat} (h2 : E ≤ 254) (hT : T < 8388608) : vf_n32 (fb s E T) := by
  unfold vf_n32
  rw [UInt32.le_iff_toNat_le, UInt32.toNat_and, fb_nat (by omega) hT]
  show ((s.toNat * 256 + E) * 8388608 + T) &&& (2 ^ 31 - 1) ≤ 2139095040
  rw [Nat.and_two_pow_sub_one_eq_mod]
  have h1 : s.toNat ≤ 1 := by cases s <;> decide
  omega

theorem xor_top {x : Nat} (h : x < 2 ^ 31) : x ^^^ 2147483648 = 2 ^ 31 + x := by
  apply Nat.eq_of_testBit_eq
  intro i
  rw [Nat.testBit_xor, show (2147483648 : Nat) = 2 ^ 31 by decide, Nat.testBit_two_pow]
  by_cases e : i = 31
  · subst e
    rw [Nat.testBit_two_pow_add_eq, Nat.testBit_lt_two_pow h]
    rfl
  · rcases Nat.lt_or_ge i 31 with q | q
    · rw [Nat.testBit_two_pow_add_gt q, decide_eq_false (fun z => e z.symm), Bool.xor_false]
    · have h2 : 31 < i := by omega
      have h3 : 2 ^ 32 ≤ 2 ^ i := Nat.pow_le_pow_right (by omega) (by omega)
      rw [Nat.testBit_lt_two_pow (show x < 2 ^ i by omega), Nat.testBit_lt_two_pow (show 2 ^ 31 + x < 2 ^ i by omega), decide_eq_false (fun z => e z.symm)]
      rfl
theorem fb_neg {s : Bool} {E T : Nat} (hE : E < 256) (hT : T < 8388608) : FP.fneg (fb s E T) = fb (!s) E T := by
  apply UInt32.toNat_inj.mp
  show (fb s E T ^^^ 0x80000000).toNat = _
  rw [UInt32.toNat_xor, fb_nat hE hT, fb_nat hE hT]
  have e : (E * 8388608 + T) < 2 ^ 31 := by omega
  cases s
  · show (0 * 256 + E) * 8388608 + T ^^^ 2147483648 = (1 * 256 + E) * 8388608 + T
    rw [show (0 * 256 + E) * 8388608 + T = E * 8388608 + T by omega, show (1 * 256 + E) * 8388608 + T = 2 ^ 31 + (E * 8388608 + T) by omega]
    exact xor_top e
  · show (1 * 256 + E) * 8388608 + T ^^^ 2147483648 = (0 * 256 + E) * 8388608 + T
    rw [show (0 * 256 + E) * 8388608 + T = E * 8388608 + T by omega, show (1 * 256 + E) * 8388608 + T = 2 ^ 31 + (E * 8388608 + T) by omega, ← xor_top e, Nat.xor_assoc, Nat.xor_self, Nat.xor_zero]
/-- a whole number that is not zero -/
theorem i2f_fb {v : Int32} (h0 : ¬ v = 0) (h1 : -16777216 < v.toInt) (h2 : v.toInt < 16777216) : ∃ E T : Nat, T < 8388608 ∧ 127 ≤ E ∧ 2 ^ (E - 127) ≤ v.toInt.natAbs ∧ FP.i2f v = fb (decide (v.toInt < 0)) E T := by
  have hn : v.toInt ≠ 0 := fun q => h0 (Int32.toInt_inj.mp q)
  obtain ⟨m, hm⟩ : ∃ m, m = v.toInt.natAbs := ⟨_, rfl⟩
  obtain ⟨k, hk⟩ : ∃ k, k = m.log2 := ⟨_, rfl⟩
  have hk2 := (Nat.log2_eq_iff (n := m) (k := k) (by omega)).mp hk.symm
  have hk3 : k ≤ 23 := by
    rcases Nat.lt_or_ge k 24 with q | q
    · omega
    · have : 2 ^ 24 ≤ 2 ^ k := Nat.pow_le_pow_right (by omega) q
      omega
  have hl : FP.Core.leading m 1 = (k : Int) := by
    unfold FP.Core.leading
    rw [← hk, show Nat.log2 1 = 0 by decide]
    show (if 1 * 2 ^ ((k : Int) - ((0 : Nat) : Int)).toNat ≤ m * 2 ^ (-((k : Int) - ((0 : Nat) : Int))).toNat then _ else _) = _
    rw [show ((k : Int) - ((0 : Nat) : Int)).toNat = k by omega, show (-((k : Int) - ((0 : Nat) : Int))).toNat = 0 by omega, if_pos (by omega)]
    omega
  have hp : 2 ^ k * 2 ^ (23 - k) = 8388608 := by rw [← Nat.pow_add, show k + (23 - k) = 23 by omega]
  have hr : FP.Core.round FP.Core.b32 (FP.Core.ofInt v.toInt) = .fin (decide (v.toInt < 0)) (m * 2 ^ (23 - k)) ((k : Int) - 23) := by
    show FP.Core.roundRatio FP.Core.b32 (decide (v.toInt < 0)) v.toInt.natAbs 1 0 = _
    rw [← hm]
    unfold FP.Core.roundRatio
    rw [if_neg (by omega)]
    have hq : FP.Core.quantum FP.Core.b32 m 1 0 = (k : Int) - 23 := by
      unfold FP.Core.quantum
      rw [hl, max_q (by show -149 ≤ (k : Int) + 0 - ((24 : Nat) - 1 : Int); omega)]
      show (k : Int) + 0 - ((24 : Nat) - 1 : Int) = _
      omega
    unfold FP.Core.roundAt
    rw [hq]
    have hn : FP.Core.unitsNum m 0 ((k : Int) - 23) = m * 2 ^ (23 - k) := by
      unfold FP.Core.unitsNum; rw [show (0 - ((k : Int) - 23)).toNat = 23 - k by omega]
    have hd : FP.Core.unitsDen 1 0 ((k : Int) - 23) = 1 := by
      unfold FP.Core.unitsDen; rw [show (((k : Int) - 23) - 0).toNat = 0 by omega]
    rw [hn, hd]
    have e := near_eq (B := 1) (M := m * 2 ^ (23 - k)) (by omega)
    rw [Nat.mul_one] at e
    rw [e]
    refine settle_n ?_ (by omega)
    have : m * 2 ^ (23 - k) < 2 ^ (k + 1) * 2 ^ (23 - k) := Nat.mul_lt_mul_of_pos_right hk2.2 (Nat.two_pow_pos _)
    rw [Nat.pow_succ, Nat.mul_assoc, Nat.mul_comm 2, ← Nat.mul_assoc, hp] at this
    omega
  have b1 : 8388608 ≤ m * 2 ^ (23 - k) := by
    rw [← hp]; exact Nat.mul_le_mul_right _ hk2.1
  have b2 : m * 2 ^ (23 - k) < 16777216 := by
    have : m * 2 ^ (23 - k) < 2 ^ (k + 1) * 2 ^ (23 - k) := Nat.mul_lt_mul_of_pos_right hk2.2 (Nat.two_pow_pos _)
    rw [Nat.pow_succ, Nat.mul_assoc, Nat.mul_comm 2, ← Nat.mul_assoc, hp] at this
    omega
  refine ⟨k + 127, m * 2 ^ (23 - k) - 8388608, by omega, by omega, by rw [Nat.add_sub_cancel, ← hm]; exact hk2.1, ?_⟩
  show UInt32.ofNat (FP.Core.encode FP.Core.b32 (FP.Core.round FP.Core.b32 (FP.Core.ofInt v.toInt))) = _
  rw [hr, fb_enc (E := k + 127) (by omega) (by omega) b1]
theorem i2f_0 : FP.i2f 0 = 0 := by decide
theorem zero_div {s : Bool} {E T : Nat} (h1 : 1 ≤ E) (h2 : E ≤ 254) (hT : T < 8388608) : FP.fdiv 0 (fb s E T) = fb s 0 0 := by
  show UInt32.ofNat (FP.Core.encode FP.Core.b32 (FP.Core.quotient FP.Core.b32 (FP.Core.decode FP.Core.b32 (0 : UInt32).toNat) (FP.Core.decode FP.Core.b32 (fb s E T).toNat))) = _
  rw [fb_dec h1 h2 hT, show FP.Core.decode FP.Core.b32 (0 : UInt32).toNat = .fin false 0 (-149) by decide]
  show UInt32.ofNat (FP.Core.encode FP.Core.b32 (if 8388608 + T = 0 then _ else FP.Core.roundRatio FP.Core.b32 (false != s) 0 (8388608 + T) (-149 - ((E : Int) - 150)))) = _
  rw [if_neg (by omega)]
  cases s <;> rfl
theorem fb_00 : fb false 0 0 = 0 := by decide
/-! comparisons -/
theorem cmp_pos {E T : Nat} (h1 : 1 ≤ E) (h2 : E ≤ 254) (hT : T < 8388608) : FP.fcmp (fb false E T) FP.Core.fconst0 = some .gt := by
  show FP.Core.order (FP.Core.decode FP.Core.b32 (fb false E T).toNat) (FP.Core.decode FP.Core.b32 FP.Core.fconst0.toNat) = _
  rw [fb_dec h1 h2 hT, show FP.Core.decode FP.Core.b32 FP.Core.fconst0.toNat = .fin false 0 (-149) by decide]
  show some (compare (FP.Core.signed false ((8388608 + T) * 2 ^ (((E : Int) - 150) - min ((E : Int) - 150) (-149)).toNat)) (FP.Core.signed false (0 * 2 ^ (-149 - min ((E : Int) - 150) (-149)).toNat))) = _
  unfold FP.Core.signed
  rw [Nat.zero_mul]
  have hp : 0 < (8388608 + T) * 2 ^ (((E : Int) - 150) - min ((E : Int) - 150) (-149)).toNat := Nat.mul_pos (by omega) (Nat.two_pow_pos _)
  generalize (8388608 + T) * 2 ^ (((E : Int) - 150) - min ((E : Int) - 150) (-149)).toNat = z at hp
  congr 1
  exact Int.compare_eq_gt.mpr (by show ((0 : Nat) : Int) < (z : Int); omega)
theorem cmp_neg {E T : Nat} (h1 : 1 ≤ E) (h2 : E ≤ 254) (hT : T < 8388608) : FP.fcmp (fb true E T) FP.Core.fconst0 = some .lt := by
  show FP.Core.order (FP.Core.decode FP.Core.b32 (fb true E T).toNat) (FP.Core.decode FP.Core.b32 FP.Core.fconst0.toNat) = _
  rw [fb_dec h1 h2 hT, show FP.Core.decode FP.Core.b32 FP.Core.fconst0.toNat = .fin false 0 (-149) by decide]
  show some (compare (FP.Core.signed true ((8388608 + T) * 2 ^ (((E : Int) - 150) - min ((E : Int) - 150) (-149)).toNat)) (FP.Core.signed false (0 * 2 ^ (-149 - min ((E : Int) - 150) (-149)).toNat))) = _
  unfold FP.Core.signed
  rw [Nat.zero_mul]
  have hp : 0 < (8388608 + T) * 2 ^ (((E : Int) - 150) - min ((E : Int) - 150) (-149)).toNat := Nat.mul_pos (by omega) (Nat.two_pow_pos _)
  generalize (8388608 + T) * 2 ^ (((E : Int) - 150) - min ((E : Int) - 150) (-149)).toNat = z at hp
  congr 1
  exact Int.compare_eq_lt.mpr (by show -(z : Int) < ((0 : Nat) : Int); omega)
/-- against a power of two -/
theorem cmp_2 {E T K : Nat} (h1 : 1 ≤ E) (h2 : E ≤ 254) (hK1 : 100 ≤ K) (hK2 : K ≤ 160) (hT : T < 8388608) : (E < K → FP.fcmp (fb false E T) (fb false K 0) = some .lt) ∧ (K ≤ E → FP.fcmp (fb false E T) (fb false K 0) ≠ some .lt ∧ FP.fcmp (fb false E T) (fb false K 0) ≠ none) := by
  have e : FP.fcmp (fb false E T) (fb false K 0) = some (compare (FP.Core.signed false ((8388608 + T) * 2 ^ (((E : Int) - 150) - min ((E : Int) - 150) ((K : Int) - 150)).toNat)) (FP.Core.signed false ((8388608 + 0) * 2 ^ (((K : Int) - 150) - min ((E : Int) - 150) ((K : Int) - 150)).toNat))) := by
    show FP.Core.order (FP.Core.decode FP.Core.b32 (fb false E T).toNat) (FP.Core.decode FP.Core.b32 (fb false K 0).toNat) = _
    rw [fb_dec h1 h2 hT, fb_dec (by omega) (by omega) (by omega)]
    rfl
  rw [e]
  unfold FP.Core.signed
  constructor
  · intro h
    rw [show (((E : Int) - 150) - min ((E : Int) - 150) ((K : Int) - 150)).toNat = 0 by omega, show (((K : Int) - 150) - min ((E : Int) - 150) ((K : Int) - 150)).toNat = (K - E - 1) + 1 by omega]
    congr 1
    refine Int.compare_eq_lt.mpr ?_
    show (((8388608 + T) * 2 ^ 0 : Nat) : Int) < (((8388608 + 0) * 2 ^ ((K - E - 1) + 1) : Nat) : Int)
    have := Nat.two_pow_pos (K - E - 1)
    rw [Nat.pow_succ]
    have h3 : (8388608 + T) * 2 ^ 0 < (8388608 + 0) * (2 ^ (K - E - 1) * 2) := by omega
    omega
  · intro h
    rw [show (((K : Int) - 150) - min ((E : Int) - 150) ((K : Int) - 150)).toNat = 0 by omega]
    have h3 : (8388608 + 0) * 2 ^ 0 ≤ (8388608 + T) * 2 ^ (((E : Int) - 150) - min ((E : Int) - 150) ((K : Int) - 150)).toNat := by
      have := Nat.two_pow_pos (((E : Int) - 150) - min ((E : Int) - 150) ((K : Int) - 150)).toNat
      exact Nat.mul_le_mul (by omega) this
    refine ⟨fun q => ?_, fun q => by cases q⟩
    have q2 := Int.compare_eq_lt.mp (Option.some.inj q)
    change (((8388608 + T) * 2 ^ (((E : Int) - 150) - min ((E : Int) - 150) ((K : Int) - 150)).toNat : Nat) : Int) < (((8388608 + 0) * 2 ^ 0 : Nat) : Int) at q2
    omega
