/-! ===== the cells of both sides ===== -/
abbrev kE (F : Rows) (k : Nat) : va_E := .inr (1, [.int (nI k), .int (F 0 k), .int (F 1 k), .int (F 2 k), .int (F 3 k), .int (F 4 k), .int (F 5 k), .int (F 6 k), .int (F 7 k)])
abbrev bE (ka : Nat → Nat) (F : Rows) (hb : Nat → Option Nat) (j : Nat) : va_E := .inr (0, [.int (F 8 j), va_rf ((hb j).map ka)])
def kL (ka : Nat → Nat) (F : Rows) (n : Nat) : va_W := (List.range n).map (fun k => (ka k, kE F k))
def bL (ka kb : Nat → Nat) (F : Rows) (hb : Nat → Option Nat) (p : Nat) : va_W := (List.range p).map (fun j => (kb j, bE ka F hb j))
abbrev qA (n : Nat) (f : Nat → Option Nat) : vp_A := (n, .inr (.inr (.inr (.inr f))))
abbrev kF (ka : Nat → Nat) (n : Nat) : Nat → Option Nat := fun k => if k < n then some (ka k) else none
abbrev lF (ka : Nat → Nat) (fl : Nat → Option Nat) : Nat → Option Nat := fun l => (fl l).map ka
abbrev oC (h ak ab af n p : Nat) (F : Rows) : Nat × va_E := (h, .inr (2, [.ref ak, .int (nI n), .ref ab, .int (nI p), .ref af, .int (F 9 0), .int (F 9 1), .int (F 9 2), .int (F 9 3)]))
abbrev cG (cK cB : ClassId) (h ak ab af : Nat) (ka kb : Nat → Nat) (n p : Nat) (F : Rows) (fl hb : Nat → Option Nat) : va_W := oC h ak ab af n p F :: (ak, .inl (cK, qA 8 (kF ka n))) :: (ab, .inl (cB, qA 8 (kF kb p))) :: (af, .inl (cK, qA 10 (lF ka fl))) :: (kL ka F n ++ bL ka kb F hb p)
def flF (F : Rows) (n : Nat) : Nat → Option Nat := fun l => if l < 10 then lk (F 6) n (nI l) else none
def hbF (F : Rows) (n : Nat) : Nat → Option Nat := fun j => if j < 8 then lk (F 5) n (nI j) else none
abbrev cW (cK cB : ClassId) (h ak ab af : Nat) (ka kb : Nat → Nat) (n p : Nat) (F : Rows) : va_W := cG cK cB h ak ab af ka kb n p F (flF F n) (hbF F n)
abbrev rW (cI cZ : ClassId) (h : Nat) (a : Nat → Nat) (th : Int32) (n p : Nat) (F : Rows) : va_W := [(h, .inr (3, [.int th, .int (nI n), .ref (a 0), .ref (a 1), .ref (a 2), .ref (a 3), .ref (a 4), .ref (a 5), .ref (a 6), .ref (a 7), .int (nI p), .ref (a 8), .int (F 9 0), .int (F 9 1), .int (F 9 2), .int (F 9 3)])), (a 0, .inl (cI, 8, .inl (F 0))), (a 1, .inl (cI, 8, .inl (F 1))), (a 2, .inl (cI, 8, .inl (F 2))), (a 3, .inl (cZ, 8, .inl (F 3))), (a 4, .inl (cI, 8, .inl (F 4))), (a 5, .inl (cI, 8, .inl (F 5))), (a 6, .inl (cI, 8, .inl (F 6))), (a 7, .inl (cI, 8, .inl (F 7))), (a 8, .inl (cI, 8, .inl (F 8)))]
theorem map_set {α : Type} {f g : Nat → α} {n k : Nat} (h : ∀ j, j < n → j ≠ k → f j = g j) : ((List.range n).map f).set k (g k) = (List.range n).map g := by
  apply List.ext_getElem?
  intro j
  rw [List.getElem?_set]
  by_cases hj : k = j
  · subst hj
    rw [if_pos rfl]
    by_cases hn : k < n
    · simp [hn]
    · simp [hn]
  · rw [if_neg hj]
    by_cases hn : j < n
    · simp [hn, h j hn (fun q => hj q.symm)]
    · simp [hn]
theorem kL_len (ka : Nat → Nat) (F : Rows) (n : Nat) : (kL ka F n).length = n := by simp [kL]
theorem cG_k {cK cB : ClassId} {h ak ab af : Nat} {ka kb : Nat → Nat} {n p : Nat} {F : Rows} {fl hb : Nat → Option Nat} {k : Nat} (hk : k < n) : (cG cK cB h ak ab af ka kb n p F fl hb)[k + 4]? = some (ka k, kE F k) := by
  show (kL ka F n ++ bL ka kb F hb p)[k]? = _
  rw [List.getElem?_append_left (by rw [kL_len]; exact hk)]
  simp [kL, hk]
theorem cG_b {cK cB : ClassId} {h ak ab af : Nat} {ka kb : Nat → Nat} {n p : Nat} {F : Rows} {fl hb : Nat → Option Nat} {j : Nat} (hj : j < p) : (cG cK cB h ak ab af ka kb n p F fl hb)[n + j + 4]? = some (kb j, bE ka F hb j) := by
  show (kL ka F n ++ bL ka kb F hb p)[n + j]? = _
  rw [List.getElem?_append_right (by rw [kL_len]; omega), kL_len, Nat.add_sub_cancel_left]
  simp [bL, hj]
theorem cG_setk {cK cB : ClassId} {h ak ab af : Nat} {ka kb : Nat → Nat} {n p : Nat} {F F' : Rows} {fl hb : Nat → Option Nat} {k : Nat} (hk : k < n) (hF : ∀ i j, i < 8 → j ≠ k → F' i j = F i j) (h8 : F' 8 = F 8) (h9 : F' 9 = F 9) : (cG cK cB h ak ab af ka kb n p F fl hb).set (k + 4) (ka k, kE F' k) = cG cK cB h ak ab af ka kb n p F' fl hb := by
  show oC h ak ab af n p F :: (ak, _) :: (ab, _) :: (af, _) :: (kL ka F n ++ bL ka kb F hb p).set k (ka k, kE F' k) = _
  rw [List.set_append_left _ _ (by rw [kL_len]; exact hk)]
  have e1 : (kL ka F n).set k (ka k, kE F' k) = kL ka F' n := map_set (f := fun k => (ka k, kE F k)) (g := fun k => (ka k, kE F' k)) (fun j _ hj => by
    show (ka j, kE F j) = (ka j, kE F' j)
    unfold kE
    rw [hF 0 j (by decide) hj, hF 1 j (by decide) hj, hF 2 j (by decide) hj, hF 3 j (by decide) hj, hF 4 j (by decide) hj, hF 5 j (by decide) hj, hF 6 j (by decide) hj, hF 7 j (by decide) hj])
  have e2 : bL ka kb F hb p = bL ka kb F' hb p := by unfold bL bE; rw [h8]
  have e3 : oC h ak ab af n p F = oC h ak ab af n p F' := by unfold oC; rw [h9]
  rw [e1, e2, e3]
theorem cG_up {cK cB : ClassId} {h ak ab af : Nat} {ka kb : Nat → Nat} {n p : Nat} {F : Rows} {fl hb : Nat → Option Nat} {k i : Nat} {v : Int32} (hk : k < n) (hi : i < 8) : (cG cK cB h ak ab af ka kb n p F fl hb).set (k + 4) (ka k, kE (up F i k v) k) = cG cK cB h ak ab af ka kb n p (up F i k v) fl hb := by
  refine cG_setk hk (fun i' j hi' hj => ?_) (up_n k v (by omega)) (up_n k v (by omega))
  by_cases e : i' = i
  · subst e; exact up_sn v hj
  · rw [up_n k v e]
theorem cG_setb {cK cB : ClassId} {h ak ab af : Nat} {ka kb : Nat → Nat} {n p : Nat} {F : Rows} {fl hb : Nat → Option Nat} {j : Nat} {o : Option Nat} (hj : j < p) : (cG cK cB h ak ab af ka kb n p F fl hb).set (n + j + 4) (kb j, .inr (0, [.int (F 8 j), va_rf (o.map ka)])) = cG cK cB h ak ab af ka kb n p F fl (va_up hb j o) := by
  show oC h ak ab af n p F :: (ak, _) :: (ab, _) :: (af, _) :: (kL ka F n ++ bL ka kb F hb p).set (n + j) (kb j, .inr (0, [.int (F 8 j), va_rf (o.map ka)])) = _
  rw [List.set_append_right _ _ (by rw [kL_len]; omega), kL_len, Nat.add_sub_cancel_left]
  have e1 : (bL ka kb F hb p).set j (kb j, .inr (0, [.int (F 8 j), va_rf (o.map ka)])) = bL ka kb F (va_up hb j o) p := by
    have e0 : ((kb j, .inr (0, [.int (F 8 j), va_rf (o.map ka)])) : Nat × va_E) = (kb j, bE ka F (va_up hb j o) j) := by unfold bE; rw [va_up_self]
    rw [e0]
    exact map_set (f := fun j => (kb j, bE ka F hb j)) (g := fun j' => (kb j', bE ka F (va_up hb j o) j')) (fun j' _ hj' => by
      show (kb j', bE ka F hb j') = (kb j', bE ka F (va_up hb j o) j')
      unfold bE; rw [va_up_ne _ _ hj'])
  rw [e1]
theorem cG_setf {cK cB : ClassId} {h ak ab af : Nat} {ka kb : Nat → Nat} {n p : Nat} {F : Rows} {fl hb : Nat → Option Nat} {l : Nat} {o : Option Nat} : (cG cK cB h ak ab af ka kb n p F fl hb).set 3 (af, .inl (cK, qA 10 (va_up (lF ka fl) l (o.map ka)))) = cG cK cB h ak ab af ka kb n p F (va_up fl l o) hb := by
  have e : va_up (lF ka fl) l (o.map ka) = lF ka (va_up fl l o) := by
    funext j
    by_cases hj : j = l
    · subst hj; rw [va_up_self]; show _ = (va_up fl j o j).map ka; rw [va_up_self]
    · rw [va_up_ne _ _ hj]; show (fl j).map ka = (va_up fl l o j).map ka; rw [va_up_ne _ _ hj]
  rw [e]
  rfl
theorem cG_sc {cK cB : ClassId} {h ak ab af : Nat} {ka kb : Nat → Nat} {n p : Nat} {F : Rows} {fl hb : Nat → Option Nat} {i : Nat} {v : Int32} : (cG cK cB h ak ab af ka kb n p F fl hb).set 0 (oC h ak ab af n p (up F 9 i v)) = cG cK cB h ak ab af ka kb n p (up F 9 i v) fl hb := rfl
theorem cG_flhb {cK cB : ClassId} {h ak ab af : Nat} {ka kb : Nat → Nat} {n p : Nat} {F : Rows} {fl hb fl' hb' : Nat → Option Nat} (h1 : fl = fl') (h2 : ∀ j, j < p → hb j = hb' j) : cG cK cB h ak ab af ka kb n p F fl hb = cG cK cB h ak ab af ka kb n p F fl' hb' := by
  subst h1
  have e : bL ka kb F hb p = bL ka kb F hb' p := by
    unfold bL
    refine List.map_congr_left (fun j hj => ?_)
    unfold bE
    rw [h2 j (List.mem_range.mp hj)]
  show _ :: _ :: _ :: _ :: (kL ka F n ++ bL ka kb F hb p) = _
  rw [e]
theorem flF_at {F : Rows} {n l : Nat} (h : l < 10) : flF F n l = lk (F 6) n (nI l) := if_pos h
theorem hbF_at {F : Rows} {n j : Nat} (h : j < 8) : hbF F n j = lk (F 5) n (nI j) := if_pos h
/-- a lane is left -/
theorem flF_drop {F : Rows} {n k l : Nat} (hl : l < 10) (hk : F 6 k = nI l) (hu : ∀ j, j < n → F 6 j = nI l → j = k) : va_up (flF F n) l none = flF (up F 6 k (-1)) n := by
  funext j
  by_cases hj : j < 10
  · rw [flF_at hj, up_r]
    by_cases e : j = l
    · subst e
      rw [va_up_self, lk_drop (nI_m1 (by omega)) hk hu]
    · rw [va_up_ne _ _ e, flF_at hj, lk_drop_ne hk (nI_m1 (by omega)) (fun q => e (nI_inj (by omega) (by omega) q))]
  · rw [va_up_ne _ _ (by omega)]
    unfold flF
    rw [if_neg hj, if_neg hj]
/-- a lane is taken -/
theorem flF_take {F : Rows} {n k l : Nat} (hl : l < 10) (hkn : k < n) (hk : F 6 k = -1) (hf : lk (F 6) n (nI l) = none) : va_up (flF F n) l (some k) = flF (up F 6 k (nI l)) n := by
  funext j
  by_cases hj : j < 10
  · rw [flF_at hj, up_r]
    by_cases e : j = l
    · subst e
      rw [va_up_self, lk_take hkn hf]
    · rw [va_up_ne _ _ e, flF_at hj, lk_take_ne hk (nI_m1 (by omega)) (fun q => e (nI_inj (by omega) (by omega) q))]
  · rw [va_up_ne _ _ (by omega)]
    unfold flF
    rw [if_neg hj, if_neg hj]
theorem hbF_drop {F : Rows} {n k l : Nat} (hl : l < 8) (hk : F 5 k = nI l) (hu : ∀ j, j < n → F 5 j = nI l → j = k) (j : Nat) : va_up (hbF F n) l none j = hbF (up F 5 k (-1)) n j := by
  by_cases hj : j < 8
  · rw [hbF_at hj, up_r]
    by_cases e : j = l
    · subst e
      rw [va_up_self, lk_drop (nI_m1 (by omega)) hk hu]
    · rw [va_up_ne _ _ e, hbF_at hj, lk_drop_ne hk (nI_m1 (by omega)) (fun q => e (nI_inj (by omega) (by omega) q))]
  · rw [va_up_ne _ _ (by omega)]
    unfold hbF
    rw [if_neg hj, if_neg hj]
theorem hbF_take {F : Rows} {n k l : Nat} (hl : l < 8) (hkn : k < n) (hk : F 5 k = -1) (hf : lk (F 5) n (nI l) = none) (j : Nat) : va_up (hbF F n) l (some k) j = hbF (up F 5 k (nI l)) n j := by
  by_cases hj : j < 8
  · rw [hbF_at hj, up_r]
    by_cases e : j = l
    · subst e
      rw [va_up_self, lk_take hkn hf]
    · rw [va_up_ne _ _ e, hbF_at hj, lk_take_ne hk (nI_m1 (by omega)) (fun q => e (nI_inj (by omega) (by omega) q))]
  · rw [va_up_ne _ _ (by omega)]
    unfold hbF
    rw [if_neg hj, if_neg hj]
theorem flF_up {F : Rows} {n i k : Nat} {v : Int32} (hi : i ≠ 6) : flF (up F i k v) n = flF F n := by unfold flF; rw [up_n k v (Ne.symm hi)]
theorem hbF_up {F : Rows} {n i k : Nat} {v : Int32} (hi : i ≠ 5) : hbF (up F i k v) n = hbF F n := by unfold hbF; rw [up_n k v (Ne.symm hi)]
