/-! ===== the state as numbers: n kites, p borrowers, rows of ints: 0 kind, 1 area, 2 weight, 3 torn, 4 wet, 5 who has it, 6 its lane, 7 its length, 8 a borrower's skill, 9: speed, side, rain, called ===== -/
abbrev Rows : Type := Nat → Nat → Int32
def ro (F : Rows) (i : Nat) (r : Nat → Int32) : Rows := fun j => cond (Nat.beq j i) r (F j)
theorem ro_s (F : Rows) (i : Nat) (r : Nat → Int32) : ro F i r i = r := by simp [ro]
theorem ro_n {F : Rows} {i j : Nat} (r : Nat → Int32) (h : j ≠ i) : ro F i r j = F j := by
  have : Nat.beq j i = false := by
    cases hb : Nat.beq j i with
    | false => rfl
    | true => exact absurd (Nat.eq_of_beq_eq_true hb) h
  simp only [ro, this, cond_false]
def up (F : Rows) (i k : Nat) (v : Int32) : Rows := ro F i (upd (F i) k v)
theorem up_r (F : Rows) (i k : Nat) (v : Int32) : up F i k v i = upd (F i) k v := ro_s F i _
theorem up_ss (F : Rows) (i k : Nat) (v : Int32) : up F i k v i k = v := by rw [up_r]; simp [upd]
theorem up_sn {F : Rows} {i k j : Nat} (v : Int32) (h : j ≠ k) : up F i k v i j = F i j := by rw [up_r]; simp [upd, h]
theorem up_n {F : Rows} {i j : Nat} (k : Nat) (v : Int32) (h : j ≠ i) : up F i k v j = F j := ro_n _ h
theorem upd_s (f : Nat → Int32) (k : Nat) (v : Int32) : upd f k v k = v := by simp [upd]
theorem upd_n {f : Nat → Int32} {k j : Nat} (v : Int32) (h : j ≠ k) : upd f k v j = f j := by simp [upd, h]
theorem upd_at (f : Nat → Int32) (k : Nat) (v : Int32) (j : Nat) : upd f k v j = if j = k then v else f j := rfl
theorem upd_id (f : Nat → Int32) (k : Nat) : upd f k (f k) = f := by
  funext j; rw [upd_at]; split
  · rename_i h; rw [h]
  · rfl
/-! lifts, pulls, ends -/
def lift (kd ar sp : Int32) : Int32 := if kd = 0 then 5 * ar * sp * sp else if kd = 1 then 60 * ar * sp else 80 * ar * (if sp ≤ 10 then sp else 10)
def pl (F : Rows) (k : Nat) (sp : Int32) : Int32 := lift (F 0 k) (F 1 k) sp - 100 * F 2 k
abbrev held (F : Rows) (k : Nat) (sp : Int32) : Prop := 100 ≤ pl F k sp ∧ pl F k sp ≤ 6000
def en (F : Rows) (k : Nat) (ln len : Int32) : Int32 := 100 * ln + F 9 1 * len * 1000 / (1000 + pl F k (F 9 0))
def ed (F : Rows) (k : Nat) : Int32 := en F k (F 6 k) (F 7 k)
/-! the last place that holds a number -/
def lk (g : Nat → Int32) : Nat → Int32 → Option Nat
  | 0, _ => none
  | n + 1, v => if g n = v then some n else lk g n v
def oI : Option Nat → Int32
  | none => -1
  | some k => nI k
theorem lk_some {g : Nat → Int32} {n k : Nat} {v : Int32} (h : lk g n v = some k) : k < n ∧ g k = v := by
  induction n with
  | zero => cases h
  | succ n ih =>
    rw [lk] at h
    split at h
    · cases h; exact ⟨Nat.lt_succ_self _, by assumption⟩
    · exact ⟨Nat.lt_succ_of_lt (ih h).1, (ih h).2⟩
theorem lk_none {g : Nat → Int32} {n : Nat} {v : Int32} : lk g n v = none ↔ ∀ k, k < n → g k ≠ v := by
  induction n with
  | zero => exact ⟨fun _ k hk => absurd hk (Nat.not_lt_zero k), fun _ => rfl⟩
  | succ n ih =>
    rw [lk]
    split
    · rename_i h
      exact ⟨fun q => absurd q (by simp), fun q => absurd h (q n (Nat.lt_succ_self n))⟩
    · rename_i h
      rw [ih]
      refine ⟨fun q k hk => ?_, fun q k hk => q k (Nat.lt_succ_of_lt hk)⟩
      rcases Nat.lt_or_ge k n with h1 | h1
      · exact q k h1
      · rw [show k = n by omega]; exact h
theorem lk_uniq {g : Nat → Int32} {n k : Nat} {v : Int32} (hk : k < n) (hv : g k = v) (hu : ∀ j, j < n → g j = v → j = k) : lk g n v = some k := by
  cases h : lk g n v with
  | none => exact absurd hv (lk_none.mp h k hk)
  | some j =>
    obtain ⟨h1, h2⟩ := lk_some h
    rw [hu j h1 h2]
theorem lk_congr {f g : Nat → Int32} {n : Nat} {v : Int32} (h : ∀ k, k < n → (f k = v ↔ g k = v)) : lk f n v = lk g n v := by
  induction n with
  | zero => rfl
  | succ n ih =>
    rw [lk, lk, ih (fun k hk => h k (Nat.lt_succ_of_lt hk))]
    by_cases q : f n = v
    · rw [if_pos q, if_pos ((h n (Nat.lt_succ_self n)).mp q)]
    · rw [if_neg q, if_neg (fun z => q ((h n (Nat.lt_succ_self n)).mpr z))]
/-- a place is given up -/
theorem lk_drop {g : Nat → Int32} {n k : Nat} {v : Int32} (hv : v ≠ -1) (hk : g k = v) (hu : ∀ j, j < n → g j = v → j = k) : lk (upd g k (-1)) n v = none := by
  rw [lk_none]
  intro j hj
  rw [upd_at]
  split
  · exact fun h => hv h.symm
  · rename_i h
    exact fun q => h (hu j hj q)
theorem lk_drop_ne {g : Nat → Int32} {n k : Nat} {v w : Int32} (hk : g k = v) (hw : w ≠ -1) (hvw : w ≠ v) : lk (upd g k (-1)) n w = lk g n w := by
  refine lk_congr fun j _ => ?_
  rw [upd_at]
  split
  · rename_i h
    subst h
    exact ⟨fun q => absurd q.symm hw, fun q => absurd (q.symm.trans hk) hvw⟩
  · exact Iff.rfl
/-- a place is taken -/
theorem lk_take {g : Nat → Int32} {n k : Nat} {v : Int32} (hk : k < n) (h : lk g n v = none) : lk (upd g k v) n v = some k := by
  refine lk_uniq hk (upd_s g k v) (fun j hj hq => ?_)
  rw [upd_at] at hq
  split at hq
  · assumption
  · exact absurd hq (lk_none.mp h j hj)
theorem lk_take_ne {g : Nat → Int32} {n k : Nat} {v w : Int32} (hk : g k = -1) (hw : w ≠ -1) (hvw : w ≠ v) : lk (upd g k v) n w = lk g n w := by
  refine lk_congr fun j _ => ?_
  rw [upd_at]
  split
  · rename_i h
    subst h
    exact ⟨fun q => absurd q.symm hvw, fun q => absurd (q.symm.trans hk) hw⟩
  · exact Iff.rfl
theorem lk_new {g : Nat → Int32} {n : Nat} {w : Int32} (hw : w ≠ -1) : lk (upd g n (-1)) (n + 1) w = lk g n w := by
  rw [lk, if_neg (by rw [upd_s]; exact fun q => hw q.symm)]
  exact lk_congr fun j hj => by rw [upd_n _ (Nat.ne_of_lt hj)]
theorem nI_m1 {k : Nat} (h : k < 2147483648) : nI k ≠ -1 := by
  intro q
  have h1 := congrArg Int32.toInt q
  rw [nI_toInt h] at h1
  have h2 : (-1 : Int32).toInt = -1 := by decide
  omega
theorem nI_inj {a b : Nat} (ha : a < 2147483648) (hb : b < 2147483648) (h : nI a = nI b) : a = b := (nI_eq ha hb).mp h
theorem oI_m1 {o : Option Nat} (h : ∀ k, o = some k → k < 2147483648) : oI o = -1 ↔ o = none := by
  cases o with
  | none => exact ⟨fun _ => rfl, fun _ => rfl⟩
  | some k => exact ⟨fun q => absurd q (nI_m1 (h k rfl)), fun q => by cases q⟩
/-! numbers of things -/
abbrev inR (n : Nat) (x : Int32) : Prop := 0 ≤ x.toInt ∧ x.toInt < n
theorem inR_nI {n k : Nat} (hk : k < n) (hn : n < 2147483648) : inR n (nI k) := by
  unfold inR
  rw [nI_toInt (Nat.lt_trans hk hn)]
  omega
theorem inR_of {n : Nat} {x : Int32} (h : inR n x) : ∃ k, k < n ∧ x = nI k := by
  obtain ⟨h1, h2⟩ := h
  refine ⟨x.toInt.toNat, by omega, ?_⟩
  apply Int32.toInt_inj.mp
  have h3 : x.toInt < 2147483648 := by have := Int32.toInt_lt x; omega
  rw [nI_toInt (by omega)]
  omega
theorem inR_cases (n : Nat) (x : Int32) : (∃ k, k < n ∧ x = nI k) ∨ ¬ inR n x := by
  by_cases h : inR n x
  · exact Or.inl (inR_of h)
  · exact Or.inr h
def ix (n : Nat) (x : Int32) : Option Nat := if inR n x then some x.toNatClampNeg else none
theorem ix_t {n k : Nat} (hk : k < n) (hn : n < 2147483648) : ix n (nI k) = some k := by
  rw [ix, if_pos (inR_nI hk hn), nI_clamp (Nat.lt_trans hk hn)]
theorem ix_f {n : Nat} {x : Int32} (h : ¬ inR n x) : ix n x = none := by rw [ix, if_neg h]
theorem i32_lt (a b : Int32) : a < b ↔ a.toInt < b.toInt := Int32.lt_iff_toInt_lt
theorem i32_le (a b : Int32) : a ≤ b ↔ a.toInt ≤ b.toInt := Int32.le_iff_toInt_le
/-- 'isIn(its, 0, n - 1)' -/
theorem inR_iff {n : Nat} (hn : n < 1000) (x : Int32) : (0 ≤ x ∧ x ≤ nI n - 1) ↔ inR n x := by
  have h1 : (nI n - 1).toInt = (n : Int) - 1 := by
    have := pk_sub_toInt (a := n) (b := 1) (by omega) (by omega)
    exact this
  rw [i32_le, i32_le, h1]
  unfold inR
  have h0 : (0 : Int32).toInt = 0 := by decide
  omega
theorem inR_lit {n : Nat} {m : Int32} (hm : m.toInt = (n : Int) - 1) (x : Int32) : (0 ≤ x ∧ x ≤ m) ↔ inR n x := by
  rw [i32_le, i32_le, hm]
  unfold inR
  have h0 : (0 : Int32).toInt = 0 := by decide
  omega
/-! ===== what each call answers: the place of its exception (0: none), its answer, the state behind it ===== -/
def S_kite (n : Nat) (F : Rows) (kd ar wt : Int32) : Int32 × Int32 × Nat × Rows := if (0 ≤ kd ∧ kd ≤ 2) ∧ (1 ≤ ar ∧ ar ≤ 20) ∧ (1 ≤ wt ∧ wt ≤ 20) then (if n = 8 then (2, 0, n, F) else (0, nI n, n + 1, up (up (up (up (up F 0 n kd) 1 n ar) 2 n wt) 5 n (-1)) 6 n (-1))) else (1, 0, n, F)
def S_patch (n : Nat) (F : Rows) (its : Int32) : Int32 × Int32 × Rows := match ix n its with
  | none => (1, 0, F)
  | some k => if ¬ F 3 k = 0 ∧ F 2 k + 2 ≤ 40 then (0, F 2 k + 2, up (up F 3 k 0) 2 k (F 2 k + 2)) else (2, 0, F)
def S_borrower (p : Nat) (F : Rows) (sk : Int32) : Int32 × Int32 × Nat × Rows := if 1 ≤ sk ∧ sk ≤ 3 then (if p = 8 then (2, 0, p, F) else (0, nI p, p + 1, up F 8 p sk)) else (1, 0, p, F)
def S_lend (n p : Nat) (F : Rows) (its b : Int32) : Int32 × Rows := match ix n its with
  | none => (1, F)
  | some k => match ix p b with
    | none => (1, F)
    | some j => if F 5 k = -1 ∧ F 3 k = 0 ∧ F 4 k = 0 ∧ lk (F 5) n (nI j) = none ∧ F 0 k < F 8 j then (0, up F 5 k (nI j)) else (2, F)
def S_giveBack (n p : Nat) (F : Rows) (b : Int32) : Int32 × Int32 × Rows := match ix p b with
  | none => (1, 0, F)
  | some j => match lk (F 5) n (nI j) with
    | none => (2, 0, F)
    | some k => if F 6 k = -1 then (0, nI k, up F 5 k (-1)) else (2, 0, F)
/-- the lines that fly leave a new one its room -/
abbrev clr (F : Rows) (n k : Nat) (ln len : Int32) : Prop := ∀ j, j < n → ¬ (¬ F 6 j = -1 ∧ F 6 j < ln ∧ en F k ln len ≤ ed F j) ∧ ¬ (¬ F 6 j = -1 ∧ ln < F 6 j ∧ ed F j ≤ en F k ln len)
def S_fly (n : Nat) (F : Rows) (its ln len : Int32) : Int32 × Int32 × Rows := match ix n its with
  | none => (1, 0, F)
  | some k => match ix 10 ln with
    | none => (1, 0, F)
    | some l => if 10 ≤ len ∧ len ≤ 100 then (if ¬ F 5 k = -1 ∧ F 3 k = 0 ∧ F 6 k = -1 ∧ held F k (F 9 0) ∧ lk (F 6) n (nI l) = none ∧ clr F n k (nI l) len then (0, en F k (nI l) len, up (up F 6 k (nI l)) 7 k len) else (3, 0, F)) else (2, 0, F)
def S_land (n : Nat) (F : Rows) (its : Int32) : Int32 × Int32 × Rows := match ix n its with
  | none => (1, 0, F)
  | some k => if F 6 k = -1 then (2, 0, F) else (0, F 6 k, up F 6 k (-1))
def cnt (b : Nat → Bool) : Nat → Nat
  | 0 => 0
  | n + 1 => cnt b n + (if b n then 1 else 0)
/-- those of b come down, as they don't hold -/
def mvd (F : Rows) (n : Nat) (b : Nat → Bool) : Rows := ro (ro (ro F 3 (fun j => if b j then bi (6000 < pl F j (F 9 0)) else F 3 j)) 6 (fun j => if b j then -1 else F 6 j)) 9 (upd (F 9) 3 (F 9 3 + nI (cnt b n)))
def unh (F : Rows) (j : Nat) : Bool := decide (¬ F 6 j = -1 ∧ ¬ held F j (F 9 0))
def uh (F : Rows) (n : Nat) : Rows := mvd F n (fun j => decide (j < n) && unh F j)
/-- the lines in lanes l and h cross -/
def crs (F : Rows) (n l h : Nat) : Prop := ∃ a b, lk (F 6) n (nI l) = some a ∧ lk (F 6) n (nI h) = some b ∧ ed F b ≤ ed F a
/-- the kite that comes down of the first two lines that cross; none -/
def FC (F : Rows) (n : Nat) : Option Nat → Prop
  | none => ∀ l h, l < h → h < 10 → ¬ crs F n l h
  | some k => ∃ l h a b, l < h ∧ h < 10 ∧ lk (F 6) n (nI l) = some a ∧ lk (F 6) n (nI h) = some b ∧ ed F b ≤ ed F a ∧ (∀ l' h', l' < h' → h' < 10 → (l' < l ∨ (l' = l ∧ h' < h)) → ¬ crs F n l' h') ∧ k = (if pl F a (F 9 0) < pl F b (F 9 0) then a else b)
theorem FC_one {F : Rows} {n : Nat} {o o' : Option Nat} (h : FC F n o) (h' : FC F n o') : o = o' := by
  cases o with
  | none =>
    cases o' with
    | none => rfl
    | some k =>
      obtain ⟨l, hh, a, b, h1, h2, h3, h4, h5, -⟩ := h'
      exact absurd ⟨a, b, h3, h4, h5⟩ (h l hh h1 h2)
  | some k =>
    obtain ⟨l, hh, a, b, h1, h2, h3, h4, h5, h6, h7⟩ := h
    cases o' with
    | none => exact absurd ⟨a, b, h3, h4, h5⟩ (h' l hh h1 h2)
    | some k' =>
      obtain ⟨l', hh', a', b', g1, g2, g3, g4, g5, g6, g7⟩ := h'
      have e1 : l = l' := by
        rcases Nat.lt_trichotomy l l' with q | q | q
        · exact absurd ⟨a, b, h3, h4, h5⟩ (g6 l hh h1 h2 (Or.inl q))
        · exact q
        · exact absurd ⟨a', b', g3, g4, g5⟩ (h6 l' hh' g1 g2 (Or.inl q))
      subst e1
      have e2 : hh = hh' := by
        rcases Nat.lt_trichotomy hh hh' with q | q | q
        · exact absurd ⟨a, b, h3, h4, h5⟩ (g6 l hh h1 h2 (Or.inr ⟨rfl, q⟩))
        · exact q
        · exact absurd ⟨a', b', g3, g4, g5⟩ (h6 l hh' g1 g2 (Or.inr ⟨rfl, q⟩))
      subst e2
      cases h3.symm.trans g3
      cases h4.symm.trans g4
      rw [h7, g7]
theorem FC_ex (F : Rows) (n : Nat) : ∃ o, FC F n o := by
  by_cases h : ∃ l, ∃ hh, l < hh ∧ hh < 10 ∧ crs F n l hh
  · obtain ⟨l, hl, hmin⟩ := pk_least _ h
    obtain ⟨hh, ⟨h1, h2, hc⟩, hmin2⟩ := pk_least _ hl
    obtain ⟨a, b, h3, h4, h5⟩ := id hc
    refine ⟨some (if pl F a (F 9 0) < pl F b (F 9 0) then a else b), l, hh, a, b, h1, h2, h3, h4, h5, fun l' h' g1 g2 g => ?_, rfl⟩
    rcases g with g | ⟨rfl, g⟩
    · exact fun q => hmin l' g ⟨h', g1, g2, q⟩
    · exact fun q => hmin2 h' g ⟨g1, g2, q⟩
  · exact ⟨none, fun l hh h1 h2 hc => h ⟨l, hh, h1, h2, hc⟩⟩
noncomputable def cK (F : Rows) (n : Nat) : Option Nat := Classical.choose (FC_ex F n)
theorem cK_spec (F : Rows) (n : Nat) : FC F n (cK F n) := Classical.choose_spec (FC_ex F n)
theorem cK_of {F : Rows} {n : Nat} {o : Option Nat} (h : FC F n o) : cK F n = o := FC_one (cK_spec F n) h
def dn (F : Rows) (k : Nat) : Rows := up (up F 6 k (-1)) 9 3 (F 9 3 + 1)
noncomputable def stl (n : Nat) : Nat → Rows → Rows
  | 0, F => F
  | m + 1, F => match cK F n with
    | none => F
    | some k => stl n m (dn F k)
noncomputable def S_wind (n : Nat) (F : Rows) (sp sd : Int32) : Int32 × Int32 × Rows := if (0 ≤ sp ∧ sp ≤ 30) ∧ (-5 ≤ sd ∧ sd ≤ 5) then (0, stl n 10 (uh (up (up F 9 0 sp) 9 1 sd) n) 9 3 - F 9 3, stl n 10 (uh (up (up F 9 0 sp) 9 1 sd) n)) else (1, 0, F)
def wetv (F : Rows) (h : Int32) (j : Nat) : Int32 := if ¬ F 9 2 = 0 ∧ ¬ F 6 j = -1 then 6 else if h < F 4 j then F 4 j - h else 0
def wetF (F : Rows) (n : Nat) (h : Int32) : Rows := ro F 4 (fun j => if j < n then wetv F h j else F 4 j)
def S_pass (n : Nat) (F : Rows) (h : Int32) : Int32 × Int32 × Rows := if 1 ≤ h ∧ h ≤ 24 then (0, nI (cnt (fun j => decide (0 < wetv F h j)) n), wetF F n h) else (1, 0, F)
def S_pull (n : Nat) (F : Rows) (its sp : Int32) : Int32 × Int32 := match ix n its with
  | none => (1, 0)
  | some k => if 0 ≤ sp ∧ sp ≤ 30 then (0, pl F k sp) else (2, 0)
def wd (F : Rows) (k : Nat) (g : Int32) : Nat → Int32
  | 0 => -1
  | m + 1 => if held F k (nI m) ∧ (¬ g = 0 ∨ wd F k g m = -1) then nI m else wd F k g m
def S_window (n : Nat) (F : Rows) (its g : Int32) : Int32 × Int32 := match ix n its with
  | none => (1, 0)
  | some k => (0, wd F k g 31)
def S_about (n : Nat) (F : Rows) (its w : Int32) : Int32 × Int32 := match ix n its with
  | none => (1, 0)
  | some k => if w = 0 then (0, F 2 k) else if w = 1 then (0, F 3 k) else if w = 2 then (0, F 4 k) else if w = 3 then (0, F 5 k) else if w = 4 then (0, F 6 k) else if w = 5 then (0, if F 6 k = -1 then -1 else ed F k) else (2, 0)
def S_lane (n : Nat) (F : Rows) (ln : Int32) : Int32 × Int32 := match ix 10 ln with
  | none => (1, 0)
  | some l => (0, oI (lk (F 6) n (nI l)))
/-! ===== what holds between calls ===== -/
def kOK (n p : Nat) (F : Rows) (k : Nat) : Prop := (F 0 k = 0 ∨ F 0 k = 1 ∨ F 0 k = 2) ∧ (1 ≤ F 1 k ∧ F 1 k ≤ 20) ∧ (1 ≤ F 2 k ∧ F 2 k ≤ 40) ∧ (F 3 k = 0 ∨ F 3 k = 1) ∧ (∃ w, w ≤ 6 ∧ F 4 k = nI w) ∧ (F 5 k = -1 ∨ ∃ j, j < p ∧ F 5 k = nI j) ∧ (F 6 k = -1 ∨ ∃ l, l < 10 ∧ F 6 k = nI l) ∧ (¬ F 6 k = -1 → F 3 k = 0 ∧ ¬ F 5 k = -1 ∧ held F k (F 9 0))
def uq (n : Nat) (g : Nat → Int32) : Prop := ∀ a b, a < n → b < n → g a = g b → ¬ g a = -1 → a = b
def Inv (n p : Nat) (F : Rows) : Prop := (n ≤ 8 ∧ p ≤ 8) ∧ (∀ k, k < n → kOK n p F k) ∧ (∀ k, n ≤ k → F 3 k = 0 ∧ F 4 k = 0 ∧ F 7 k = 0) ∧ (uq n (F 5) ∧ uq n (F 6)) ∧ ((0 ≤ F 9 0 ∧ F 9 0 ≤ 30) ∧ (F 9 2 = 0 ∨ F 9 2 = 1)) ∧ ∀ l h, l < h → h < 10 → ¬ crs F n l h
