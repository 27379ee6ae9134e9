/-! ===== lanes that are seen to, hours ===== -/
def bU (F : Rows) (n l : Nat) : Nat → Bool := fun j => decide (j < n ∧ (F 6 j).toInt < (l : Int)) && unh F j
theorem unh_f {F : Rows} {j : Nat} (h : F 6 j = -1) : unh F j = false := by
  unfold unh; exact decide_eq_false (fun q => q.1 h)
theorem lane_toInt {x : Int32} {l : Nat} (hl : l < 10) (h : x = nI l) : x.toInt = l := by rw [h, nI_toInt (by omega)]
theorem bU_0 {F : Rows} {n : Nat} (hlr : ∀ k, k < n → F 6 k = -1 ∨ ∃ l, l < 10 ∧ F 6 k = nI l) : mvd F n (bU F n 0) = F := by
  refine mvd_none (fun j => ?_)
  unfold bU
  by_cases hj : j < n
  · rcases hlr j hj with h | ⟨l, hl, h⟩
    · rw [unh_f h, Bool.and_false]
    · have e := lane_toInt hl h
      have : decide (j < n ∧ (F 6 j).toInt < ((0 : Nat) : Int)) = false := decide_eq_false (fun q => by omega)
      rw [this, Bool.false_and]
  · have : decide (j < n ∧ (F 6 j).toInt < ((0 : Nat) : Int)) = false := decide_eq_false (fun q => hj q.1)
    rw [this, Bool.false_and]
theorem bU_10 {F : Rows} {n : Nat} (hlr : ∀ k, k < n → F 6 k = -1 ∨ ∃ l, l < 10 ∧ F 6 k = nI l) : mvd F n (bU F n 10) = uh F n := by
  have e : bU F n 10 = fun j => decide (j < n) && unh F j := by
    funext j
    unfold bU
    by_cases hj : j < n
    · rcases hlr j hj with h | ⟨l, hl, h⟩
      · rw [unh_f h, Bool.and_false, Bool.and_false]
      · have e := lane_toInt hl h
        have h1 : decide (j < n ∧ (F 6 j).toInt < ((10 : Nat) : Int)) = true := decide_eq_true ⟨hj, by omega⟩
        rw [h1, decide_eq_true hj]
    · have h1 : decide (j < n ∧ (F 6 j).toInt < ((10 : Nat) : Int)) = false := decide_eq_false (fun q => hj q.1)
      rw [h1, decide_eq_false hj]
  rw [e]
  rfl
theorem bU_lk {F : Rows} {n l : Nat} (hl : l < 10) : lk (mvd F n (bU F n l) 6) n (nI l) = lk (F 6) n (nI l) := by
  refine lk_congr (fun j hj => ?_)
  rw [mvd_6]
  by_cases hb : bU F n l j = true
  · rw [if_pos hb]
    refine ⟨fun q => absurd q.symm (nI_m1 (by omega)), fun q => ?_⟩
    unfold bU at hb
    have e := lane_toInt hl q
    simp only [Bool.and_eq_true, decide_eq_true_eq] at hb
    omega
  · rw [if_neg hb]
theorem bU_k {F : Rows} {n l k : Nat} (hl : l < 10) (h : lk (F 6) n (nI l) = some k) : bU F n l k = false := by
  unfold bU
  have e := lane_toInt hl (lk_some h).2
  have : decide (k < n ∧ (F 6 k).toInt < (l : Int)) = false := decide_eq_false (fun q => by omega)
  rw [this, Bool.false_and]
theorem bU_keep {F : Rows} {n l : Nat} (hl : l < 10) (hlr : ∀ k, k < n → F 6 k = -1 ∨ ∃ l, l < 10 ∧ F 6 k = nI l) (hu : uq n (F 6)) (h : ∀ k, lk (F 6) n (nI l) = some k → held F k (F 9 0)) : bU F n (l + 1) = bU F n l := by
  funext j
  unfold bU
  by_cases hj : j < n
  · rcases hlr j hj with q | ⟨l2, hl2, q⟩
    · rw [unh_f q, Bool.and_false, Bool.and_false]
    · have e := lane_toInt hl2 q
      by_cases e2 : l2 = l
      · subst e2
        have hk : lk (F 6) n (nI l2) = some j := lk_uniq hj q (fun i hi hq => hu i j hi hj (hq.trans q.symm) (by rw [hq]; exact nI_m1 (by omega)))
        have h1 : unh F j = false := by unfold unh; exact decide_eq_false (fun z => z.2 (h j hk))
        rw [h1, Bool.and_false, Bool.and_false]
      · congr 1
        exact decide_eq_decide.mpr ⟨fun z => ⟨z.1, by omega⟩, fun z => ⟨z.1, by omega⟩⟩
  · rw [decide_eq_false (fun q => hj q.1), decide_eq_false (fun q => hj q.1)]
theorem bU_add {F : Rows} {n l k : Nat} (hl : l < 10) (hlr : ∀ k, k < n → F 6 k = -1 ∨ ∃ l, l < 10 ∧ F 6 k = nI l) (hu : uq n (F 6)) (hk : lk (F 6) n (nI l) = some k) (h : ¬ held F k (F 9 0)) : bset (bU F n l) k = bU F n (l + 1) := by
  obtain ⟨hkn, hk6⟩ := lk_some hk
  have ek := lane_toInt hl hk6
  funext j
  unfold bset
  by_cases e : j = k
  · subst e
    rw [if_pos rfl]
    unfold bU
    have h1 : unh F j = true := by unfold unh; exact decide_eq_true ⟨by rw [hk6]; exact nI_m1 (by omega), h⟩
    rw [h1, decide_eq_true ⟨hkn, by omega⟩]; rfl
  · rw [if_neg e]
    unfold bU
    by_cases hj : j < n
    · rcases hlr j hj with q | ⟨l2, hl2, q⟩
      · rw [unh_f q, Bool.and_false, Bool.and_false]
      · have e1 := lane_toInt hl2 q
        have e2 : l2 ≠ l := fun z => e (uq_lk hu (nI_m1 (by omega)) hk j hj (by rw [q, z]))
        congr 1
        exact decide_eq_decide.mpr ⟨fun z => ⟨z.1, by omega⟩, fun z => ⟨z.1, by omega⟩⟩
    · rw [decide_eq_false (fun q => hj q.1), decide_eq_false (fun q => hj q.1)]
theorem mvd_uq {F : Rows} {n : Nat} {b : Nat → Bool} (hu : uq n (F 6)) : uq n (mvd F n b 6) := by
  intro i j hi hj e q
  rw [mvd_6] at e q
  rw [mvd_6] at e
  split at e
  · rename_i h; rw [if_pos h] at q; exact absurd rfl q
  · rename_i h
    rw [if_neg h] at q
    split at e
    · exact absurd e q
    · exact hu i j hi hj e q
/-- behind the first look all that fly hold -/
theorem uh_HF {F : Rows} {n : Nat} (hn8 : n ≤ 8) (hkd : ∀ k, k < n → F 0 k = 0 ∨ F 0 k = 1 ∨ F 0 k = 2) (hu : uq n (F 6)) (hlr : ∀ k, k < n → F 6 k = -1 ∨ ∃ l, l < 10 ∧ F 6 k = nI l) : HF n (uh F n) := by
  refine ⟨hn8, hkd, fun k hk q => ?_, mvd_uq hu, fun k hk => ?_⟩
  · change ¬ (if (decide (k < n) && unh F k) then (-1 : Int32) else F 6 k) = -1 at q
    show held F k (F 9 0)
    split at q
    · exact absurd rfl q
    · rename_i h
      refine Decidable.byContradiction (fun z => h ?_)
      rw [decide_eq_true hk]
      unfold unh
      rw [decide_eq_true ⟨q, z⟩]; rfl
  · show (if (decide (k < n) && unh F k) then (-1 : Int32) else F 6 k) = -1 ∨ _
    split
    · exact Or.inl rfl
    · rename_i h
      rcases hlr k hk with q | ⟨l, hl, q⟩
      · exact Or.inl q
      · refine Or.inr ⟨l, hl, ?_⟩
        show (if (decide (k < n) && unh F k) then (-1 : Int32) else F 6 k) = nI l
        rw [if_neg h]; exact q
/-- an hour -/
def w1 (F : Rows) (j : Nat) : Int32 := if ¬ F 9 2 = 0 ∧ ¬ F 6 j = -1 then 6 else if 0 < F 4 j then F 4 j - 1 else F 4 j
def sh (F : Rows) (n i : Nat) : Rows := ro F 4 (fun j => if j < i ∧ j < n then w1 F j else F 4 j)
def hr1 (F : Rows) (n : Nat) : Rows := ro F 4 (fun j => if j < n then w1 F j else F 4 j)
theorem ro_id (F : Rows) (i : Nat) : ro F i (F i) = F := by
  funext j
  by_cases h : j = i
  · subst h; rw [ro_s]
  · rw [ro_n _ h]
theorem sh_0 (F : Rows) (n : Nat) : sh F n 0 = F := by
  unfold sh
  have e : (fun j => if j < 0 ∧ j < n then w1 F j else F 4 j) = F 4 := by
    funext j; rw [if_neg (fun q => absurd q.1 (Nat.not_lt_zero j))]
  rw [e, ro_id]
theorem sh_8 {F : Rows} {n : Nat} (hn8 : n ≤ 8) : sh F n 8 = hr1 F n := by
  unfold sh hr1
  congr 1
  funext j
  by_cases h : j < n
  · rw [if_pos h, if_pos ⟨by omega, h⟩]
  · rw [if_neg h, if_neg (fun q => h q.2)]
theorem sh_past {F : Rows} {n i : Nat} (h : n ≤ i) : sh F n (i + 1) = sh F n i := by
  unfold sh
  congr 1
  funext j
  by_cases q : j < n
  · rw [if_pos ⟨by omega, q⟩, if_pos ⟨by omega, q⟩]
  · rw [if_neg (fun z => q z.2), if_neg (fun z => q z.2)]
theorem sh_step {F : Rows} {n i : Nat} (h : i < n) : up (sh F n i) 4 i (if ¬ F 9 2 = 0 ∧ ¬ (sh F n i) 6 i = -1 then 6 else if 0 < (sh F n i) 4 i then (sh F n i) 4 i - 1 else (sh F n i) 4 i) = sh F n (i + 1) := by
  have e4 : (sh F n i) 4 i = F 4 i := by
    show (if i < i ∧ i < n then w1 F i else F 4 i) = F 4 i
    rw [if_neg (fun q => absurd q.1 (Nat.lt_irrefl i))]
  rw [e4]
  show up (sh F n i) 4 i (w1 F i) = _
  funext a
  by_cases ha : a = 4
  · subst ha
    rw [up_r]
    show upd (fun j => if j < i ∧ j < n then w1 F j else F 4 j) i (w1 F i) = fun j => if j < i + 1 ∧ j < n then w1 F j else F 4 j
    funext j
    rw [upd_at]
    by_cases e : j = i
    · subst e; rw [if_pos rfl, if_pos ⟨by omega, h⟩]
    · rw [if_neg e]
      by_cases q : j < i ∧ j < n
      · rw [if_pos q, if_pos ⟨by omega, q.2⟩]
      · rw [if_neg q, if_neg (fun z => q ⟨by omega, z.2⟩)]
  · rw [up_n _ _ ha]
    unfold sh
    rw [ro_n _ ha, ro_n _ ha]
