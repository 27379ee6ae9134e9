/-! ===== coming down, counting ===== -/
theorem P_eq {D : va_G} {cl : List vw_C} {ws ws' : va_W} {H : Heap} (e : ws = ws') (h : va_P D cl ws H) : va_P D cl ws' H := e ▸ h
theorem D_eq {A : Nat → Prop} {ws ws' : va_W} (e : ws = ws') (h : va_D A ws) : va_D A ws' := e ▸ h
def bset (b : Nat → Bool) (k : Nat) : Nat → Bool := fun j => if j = k then true else b j
theorem cnt_congr {b c : Nat → Bool} : ∀ {n : Nat}, (∀ j, j < n → b j = c j) → cnt b n = cnt c n
  | 0, _ => rfl
  | n + 1, h => by rw [cnt, cnt, cnt_congr (fun j hj => h j (Nat.lt_succ_of_lt hj)), h n (Nat.lt_succ_self n)]
theorem cnt_t {b : Nat → Bool} {n : Nat} (h : b n = true) : cnt b (n + 1) = cnt b n + 1 := by rw [cnt, if_pos h]
theorem cnt_f {b : Nat → Bool} {n : Nat} (h : ¬ b n = true) : cnt b (n + 1) = cnt b n := by rw [cnt, if_neg h]; rfl
theorem cnt_le (b : Nat → Bool) : ∀ n, cnt b n ≤ n
  | 0 => Nat.le_refl _
  | n + 1 => by have := cnt_le b n; rw [cnt]; split <;> omega
theorem cnt_set {b : Nat → Bool} {k : Nat} (hb : b k = false) : ∀ {n : Nat}, k < n → cnt (bset b k) n = cnt b n + 1
  | 0, h => absurd h (Nat.not_lt_zero k)
  | n + 1, h => by
    rcases Nat.lt_or_ge k n with q | q
    · rw [cnt, cnt, cnt_set hb q]
      have e : bset b k n = b n := if_neg (by omega)
      rw [e]
      omega
    · have e : k = n := by omega
      subst e
      have e1 : cnt (bset b k) k = cnt b k := cnt_congr (fun j hj => if_neg (by omega))
      have e2 : bset b k k = true := if_pos rfl
      rw [cnt, cnt, e1, e2, hb]
      rfl
/-- those below m that count are those below n -/
theorem cnt_cut {b : Nat → Bool} {n m : Nat} (h : n ≤ m) : cnt (fun j => decide (j < n) && b j) m = cnt b n := by
  induction m with
  | zero => have e : n = 0 := by omega
            subst e; rfl
  | succ m ih =>
    by_cases q : n ≤ m
    · rw [cnt_f (by simp; intro h2; omega), ih q]
    · have e : n = m + 1 := by omega
      subst e
      exact cnt_congr (fun j hj => by simp [hj])
theorem mvd_n {F : Rows} {n : Nat} {b : Nat → Bool} {i : Nat} (h3 : i ≠ 3) (h6 : i ≠ 6) (h9 : i ≠ 9) : mvd F n b i = F i := by
  unfold mvd; rw [ro_n _ h9, ro_n _ h6, ro_n _ h3]
theorem mvd_pl (F : Rows) (n : Nat) (b : Nat → Bool) (k : Nat) (sp : Int32) : pl (mvd F n b) k sp = pl F k sp := rfl
theorem mvd_sp (F : Rows) (n : Nat) (b : Nat → Bool) : mvd F n b 9 0 = F 9 0 := rfl
theorem mvd_6 (F : Rows) (n : Nat) (b : Nat → Bool) (j : Nat) : mvd F n b 6 j = if b j then -1 else F 6 j := rfl
theorem mvd_3 (F : Rows) (n : Nat) (b : Nat → Bool) (j : Nat) : mvd F n b 3 j = if b j then bi (6000 < pl F j (F 9 0)) else F 3 j := rfl
theorem mvd_none {F : Rows} {n : Nat} {b : Nat → Bool} (h : ∀ j, b j = false) : mvd F n b = F := by
  have hb : b = fun _ => false := funext h
  subst hb
  have hc : cnt (fun _ => false) n = 0 := by
    induction n with
    | zero => rfl
    | succ n ih => rw [cnt_f (by decide), ih]
  funext i
  by_cases h9 : i = 9
  · subst h9
    show upd (F 9) 3 (F 9 3 + nI (cnt _ n)) = F 9
    rw [hc, nI_0, Int32.add_zero, upd_id]
  · by_cases h6 : i = 6
    · subst h6; rfl
    · by_cases h3 : i = 3
      · subst h3; rfl
      · exact mvd_n h3 h6 h9
theorem mvd_step {F : Rows} {n k : Nat} {b : Nat → Bool} (hk : k < n) (hb : b k = false) : dn (up (mvd F n b) 3 k (bi (6000 < pl F k (F 9 0)))) k = mvd F n (bset b k) := by
  funext i
  by_cases h9 : i = 9
  · subst h9
    show upd (upd (F 9) 3 (F 9 3 + nI (cnt b n))) 3 (upd (F 9) 3 (F 9 3 + nI (cnt b n)) 3 + 1) = upd (F 9) 3 (F 9 3 + nI (cnt (bset b k) n))
    rw [cnt_set hb hk, upd_s, ← nI_1, Int32.add_assoc]
    funext j
    simp only [upd_at]
    split <;> rfl
  · by_cases h6 : i = 6
    · subst h6
      show upd (fun j => if b j then (-1 : Int32) else F 6 j) k (-1) = fun j => if bset b k j then (-1 : Int32) else F 6 j
      funext j
      rw [upd_at]
      by_cases e : j = k
      · rw [if_pos e, bset, if_pos e]; rfl
      · rw [if_neg e, bset, if_neg e]
    · by_cases h3 : i = 3
      · subst h3
        show upd (fun j => if b j then bi (6000 < pl F j (F 9 0)) else F 3 j) k (bi (6000 < pl F k (F 9 0))) = fun j => if bset b k j then bi (6000 < pl F j (F 9 0)) else F 3 j
        funext j
        rw [upd_at]
        by_cases e : j = k
        · subst e; rw [if_pos rfl, bset, if_pos rfl, if_pos rfl]
        · rw [if_neg e, bset, if_neg e]
      · rw [mvd_n h3 h6 h9, dn, up_n _ _ h9, up_n _ _ h6, up_n _ _ h3, mvd_n h3 h6 h9]
/-- what the lines' reading needs -/
def HF (n : Nat) (F : Rows) : Prop := n ≤ 8 ∧ (∀ k, k < n → F 0 k = 0 ∨ F 0 k = 1 ∨ F 0 k = 2) ∧ (∀ k, k < n → ¬ F 6 k = -1 → held F k (F 9 0)) ∧ uq n (F 6) ∧ ∀ k, k < n → F 6 k = -1 ∨ ∃ l, l < 10 ∧ F 6 k = nI l
theorem Inv.HF {n p : Nat} {F : Rows} (h : Inv n p F) : HF n F := ⟨h.1.1, fun k hk => (h.2.1 k hk).1, fun k hk q => ((h.2.1 k hk).2.2.2.2.2.2.2 q).2.2, h.2.2.2.1.2, fun k hk => (h.2.1 k hk).2.2.2.2.2.2.1⟩
theorem dn_6 (F : Rows) (k j : Nat) : dn F k 6 j = if j = k then -1 else F 6 j := rfl
theorem HF.dn {n : Nat} {F : Rows} (h : HF n F) (k : Nat) : HF n (dn F k) := by
  obtain ⟨h1, h2, h3, h4, h5⟩ := h
  refine ⟨h1, h2, fun j hj q => ?_, fun a b ha hb e q => ?_, fun j hj => ?_⟩
  · rw [dn_6] at q
    split at q
    · exact absurd rfl q
    · exact h3 j hj q
  · rw [dn_6] at e q
    rw [dn_6] at e
    split at e
    · rename_i h6; rw [if_pos h6] at q; exact absurd rfl q
    · rename_i h6
      rw [if_neg h6] at q
      split at e
      · exact absurd e q
      · exact h4 a b ha hb e q
  · rw [dn_6]
    split
    · exact Or.inl rfl
    · exact h5 j hj
/-- the kite that comes down flies -/
theorem cK_fl {n : Nat} {F : Rows} {k : Nat} (h : cK F n = some k) : ∃ l, l < 10 ∧ lk (F 6) n (nI l) = some k := by
  have q := cK_spec F n
  rw [h] at q
  obtain ⟨l, hh, a, b, h1, h2, h3, h4, -, -, h7⟩ := q
  split at h7
  · exact ⟨l, by omega, by rw [h7]; exact h3⟩
  · exact ⟨hh, h2, by rw [h7]; exact h4⟩
/-- how many fly -/
def fc (F : Rows) (n : Nat) : Nat := cnt (fun j => decide (¬ F 6 j = -1)) n
theorem cnt_un {b : Nat → Bool} {k n : Nat} (hk : k < n) (hb : b k = true) : cnt (fun j => if j = k then false else b j) n + 1 = cnt b n := by
  have h1 := cnt_set (b := fun j => if j = k then false else b j) (k := k) (if_pos rfl) hk
  rw [← h1]
  refine cnt_congr (fun j _ => ?_)
  unfold bset
  by_cases e : j = k
  · rw [if_pos e, e, hb]
  · rw [if_neg e]; exact if_neg e
theorem fc_dn {F : Rows} {n k : Nat} (hk : k < n) (h : ¬ F 6 k = -1) : fc (dn F k) n + 1 = fc F n := by
  unfold fc
  rw [← cnt_un (b := fun j => decide (¬ F 6 j = -1)) hk (by simpa using h)]
  congr 1
  refine cnt_congr (fun j _ => ?_)
  rw [dn_6]
  by_cases e : j = k
  · rw [if_pos e, if_pos e]; decide
  · rw [if_neg e, if_neg e]
theorem stl_none {n m : Nat} {F : Rows} (h : cK F n = none) : stl n m F = F := by
  cases m with
  | zero => rfl
  | succ m => rw [stl, h]
theorem stl_some {n m k : Nat} {F : Rows} (h : cK F n = some k) : stl n (m + 1) F = stl n m (dn F k) := by rw [stl, h]
/-- with as many rounds as kites fly, no lines cross any more -/
theorem stl_end {n : Nat} : ∀ {m : Nat} {F : Rows}, HF n F → fc F n ≤ m → cK (stl n m F) n = none
  | 0, F, hF, hm => by
    cases h : cK F n with
    | none => rw [stl]; exact h
    | some k =>
      obtain ⟨l, hl, hk⟩ := cK_fl h
      obtain ⟨h1, h2⟩ := lk_some hk
      have := fc_dn (F := F) h1 (by rw [h2]; exact nI_m1 (by omega))
      omega
  | m + 1, F, hF, hm => by
    cases h : cK F n with
    | none => rw [stl_none h]; exact h
    | some k =>
      obtain ⟨l, hl, hk⟩ := cK_fl h
      obtain ⟨h1, h2⟩ := lk_some hk
      have := fc_dn (F := F) h1 (by rw [h2]; exact nI_m1 (by omega))
      rw [stl_some h]
      exact stl_end (hF.dn k) (by omega)
theorem stl_HF {n : Nat} : ∀ {m : Nat} {F : Rows}, HF n F → HF n (stl n m F)
  | 0, F, hF => hF
  | m + 1, F, hF => by
    cases h : cK F n with
    | none => rw [stl_none h]; exact hF
    | some k => rw [stl_some h]; exact stl_HF (hF.dn k)
theorem uq_lk {g : Nat → Int32} {n k : Nat} {v : Int32} (hu : uq n g) (hv : ¬ v = -1) (h : lk g n v = some k) : ∀ j, j < n → g j = v → j = k := fun j hj e => hu j k hj (lk_some h).1 (e.trans (lk_some h).2.symm) (by rw [e]; exact hv)
