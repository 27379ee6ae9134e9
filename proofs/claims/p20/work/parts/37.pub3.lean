/-! ===== new things ===== -/
theorem va_up_s {α : Type} (f : Nat → α) (k : Nat) (v : α) : va_up f k v k = v := va_up_self f k v
theorem range_snoc {α : Type} (f g : Nat → α) (n : Nat) (h : ∀ j, j < n → f j = g j) : (List.range n).map f ++ [g n] = (List.range (n + 1)).map g := by
  rw [List.range_succ, List.map_append, List.map_singleton]
  congr 1
  exact List.map_congr_left (fun j hj => h j (List.mem_range.mp hj))
abbrev nwF (n : Nat) (F : Rows) (kd ar wt : Int32) : Rows := up (up (up (up (up F 0 n kd) 1 n ar) 2 n wt) 5 n (-1)) 6 n (-1)
theorem map_ka {ka : Nat → Nat} {n q : Nat} {o : Option Nat} (h : ∀ k, o = some k → k < n) : o.map (va_up ka n q) = o.map ka := by
  cases o with
  | none => rfl
  | some k => 
    have := h k rfl
    show some (va_up ka n q k) = some (ka k)
    rw [va_up_ne _ _ (by omega)]
theorem flF_new {F : Rows} {n l : Nat} {kd ar wt : Int32} : flF (nwF n F kd ar wt) (n + 1) l = flF F n l := by
  unfold flF
  by_cases hl : l < 10
  · rw [if_pos hl, if_pos hl]
    exact lk_new (nI_m1 (by omega))
  · rw [if_neg hl, if_neg hl]
theorem hbF_new {F : Rows} {n j : Nat} {kd ar wt : Int32} : hbF (nwF n F kd ar wt) (n + 1) j = hbF F n j := by
  unfold hbF
  by_cases hl : j < 8
  · rw [if_pos hl, if_pos hl]
    exact lk_new (nI_m1 (by omega))
  · rw [if_neg hl, if_neg hl]
theorem flF_lt {F : Rows} {n l k : Nat} (h : flF F n l = some k) : k < n := by
  unfold flF at h
  split at h
  · exact (lk_some h).1
  · cases h
theorem hbF_lt {F : Rows} {n l k : Nat} (h : hbF F n l = some k) : k < n := by
  unfold hbF at h
  split at h
  · exact (lk_some h).1
  · cases h
theorem kF_up {ka : Nat → Nat} {n q : Nat} : va_up (kF ka n) n (some q) = kF (va_up ka n q) (n + 1) := by
  funext j
  show va_up (kF ka n) n (some q) j = if j < n + 1 then some (va_up ka n q j) else none
  by_cases e : j = n
  · subst e; rw [va_up_self, va_up_self, if_pos (by omega)]
  · rw [va_up_ne _ _ e, va_up_ne _ _ e]
    show (if j < n then some (ka j) else none) = _
    by_cases h : j < n
    · rw [if_pos h, if_pos (by omega)]
    · rw [if_neg h, if_neg (by omega)]
theorem cW_newk {tK tB : ClassId} {h ak ab af : Nat} {ka kb : Nat → Nat} {n p q : Nat} {F : Rows} {kd ar wt : Int32} (h3 : F 3 n = 0) (h4 : F 4 n = 0) (h7 : F 7 n = 0) :
    ((h, .inr (2, [.ref ak, .int (nI (n + 1)), .ref ab, .int (nI p), .ref af, .int (F 9 0), .int (F 9 1), .int (F 9 2), .int (F 9 3)])) :: (ak, .inl (tK, qA 8 (va_up (kF ka n) n (some q)))) :: (ab, .inl (tB, qA 8 (kF kb p))) :: (af, .inl (tK, qA 10 (lF ka (flF F n)))) :: ((kL ka F n ++ [(q, .inr (1, [.int (nI n), .int kd, .int ar, .int wt, .int 0, .int 0, .int (-1), .int (-1), .int 0]))]) ++ bL ka kb F (hbF F n) p) : va_W) = cW tK tB h ak ab af (va_up ka n q) kb (n + 1) p (nwF n F kd ar wt) := by
  have e1 : lF ka (flF F n) = lF (va_up ka n q) (flF (nwF n F kd ar wt) (n + 1)) := by
    funext l
    show (flF F n l).map ka = (flF (nwF n F kd ar wt) (n + 1) l).map (va_up ka n q)
    rw [flF_new, map_ka (fun k hk => flF_lt hk)]
  have e2 : bL ka kb F (hbF F n) p = bL (va_up ka n q) kb (nwF n F kd ar wt) (hbF (nwF n F kd ar wt) (n + 1)) p := by
    unfold bL
    refine List.map_congr_left (fun j _ => ?_)
    show (kb j, bE ka F (hbF F n) j) = (kb j, bE (va_up ka n q) (nwF n F kd ar wt) (hbF (nwF n F kd ar wt) (n + 1)) j)
    unfold bE
    rw [hbF_new, map_ka (fun k hk => hbF_lt hk)]
    rfl
  have e3 : kL ka F n ++ [(q, .inr (1, [.int (nI n), .int kd, .int ar, .int wt, .int 0, .int 0, .int (-1), .int (-1), .int 0]))] = kL (va_up ka n q) (nwF n F kd ar wt) (n + 1) := by
    have e4 : ((q, .inr (1, [.int (nI n), .int kd, .int ar, .int wt, .int 0, .int 0, .int (-1), .int (-1), .int 0])) : Nat × va_E) = (fun k => (va_up ka n q k, kE (nwF n F kd ar wt) k)) n := by
      show _ = (va_up ka n q n, kE (nwF n F kd ar wt) n)
      rw [va_up_self]
      unfold kE
      have a0 : nwF n F kd ar wt 0 n = kd := upd_s _ _ _
      have a1 : nwF n F kd ar wt 1 n = ar := upd_s _ _ _
      have a2 : nwF n F kd ar wt 2 n = wt := upd_s _ _ _
      have a3 : nwF n F kd ar wt 3 n = 0 := h3
      have a4 : nwF n F kd ar wt 4 n = 0 := h4
      have a5 : nwF n F kd ar wt 5 n = -1 := upd_s _ _ _
      have a6 : nwF n F kd ar wt 6 n = -1 := upd_s _ _ _
      have a7 : nwF n F kd ar wt 7 n = 0 := h7
      rw [a0, a1, a2, a3, a4, a5, a6, a7]
    rw [e4]
    refine range_snoc (fun k => (ka k, kE F k)) (fun k => (va_up ka n q k, kE (nwF n F kd ar wt) k)) n (fun j hj => ?_)
    have hne : j ≠ n := by omega
    show (ka j, kE F j) = (va_up ka n q j, kE (nwF n F kd ar wt) j)
    rw [va_up_ne _ _ hne]
    unfold kE
    have a0 : nwF n F kd ar wt 0 j = F 0 j := upd_n _ hne
    have a1 : nwF n F kd ar wt 1 j = F 1 j := upd_n _ hne
    have a2 : nwF n F kd ar wt 2 j = F 2 j := upd_n _ hne
    have a5 : nwF n F kd ar wt 5 j = F 5 j := upd_n _ hne
    have a6 : nwF n F kd ar wt 6 j = F 6 j := upd_n _ hne
    have a3 : nwF n F kd ar wt 3 j = F 3 j := rfl
    have a4 : nwF n F kd ar wt 4 j = F 4 j := rfl
    have a7 : nwF n F kd ar wt 7 j = F 7 j := rfl
    rw [a0, a1, a2, a3, a4, a5, a6, a7]
  rw [e1, e2, e3, kF_up]
  rfl
theorem cW_newb {tK tB : ClassId} {h ak ab af : Nat} {ka kb : Nat → Nat} {n p q : Nat} {F : Rows} {sk : Int32} (hp : p < 8) (h5 : ∀ k, k < n → ¬ F 5 k = nI p) :
    ((h, .inr (2, [.ref ak, .int (nI n), .ref ab, .int (nI (p + 1)), .ref af, .int (F 9 0), .int (F 9 1), .int (F 9 2), .int (F 9 3)])) :: (ak, .inl (tK, qA 8 (kF ka n))) :: (ab, .inl (tB, qA 8 (va_up (kF kb p) p (some q)))) :: (af, .inl (tK, qA 10 (lF ka (flF F n)))) :: ((kL ka F n ++ bL ka kb F (hbF F n) p) ++ [(q, .inr (0, [.int sk, .null]))]) : va_W) = cW tK tB h ak ab af ka (va_up kb p q) n (p + 1) (up F 8 p sk) := by
  have e3 : bL ka kb F (hbF F n) p ++ [(q, .inr (0, [.int sk, .null]))] = bL ka (va_up kb p q) (up F 8 p sk) (hbF (up F 8 p sk) n) (p + 1) := by
    have e4 : ((q, .inr (0, [.int sk, .null])) : Nat × va_E) = (fun j => (va_up kb p q j, bE ka (up F 8 p sk) (hbF (up F 8 p sk) n) j)) p := by
      show _ = (va_up kb p q p, bE ka (up F 8 p sk) (hbF (up F 8 p sk) n) p)
      rw [va_up_self]
      unfold bE
      rw [up_ss, hbF_up (by decide), hbF_at hp, lk_none.mpr h5]
      rfl
    rw [e4]
    refine range_snoc (fun j => (kb j, bE ka F (hbF F n) j)) (fun j => (va_up kb p q j, bE ka (up F 8 p sk) (hbF (up F 8 p sk) n) j)) p (fun j hj => ?_)
    have hne : j ≠ p := by omega
    show (kb j, bE ka F (hbF F n) j) = (va_up kb p q j, bE ka (up F 8 p sk) (hbF (up F 8 p sk) n) j)
    rw [va_up_ne _ _ hne]
    unfold bE
    rw [up_sn _ hne, hbF_up (by decide)]
  rw [List.append_assoc, e3, kF_up]
  rfl
theorem snoc_at {α : Type} (ws : List α) (x : α) : (ws ++ [x])[ws.length]? = some x := by simp
theorem snoc_set {α : Type} (ws : List α) (x y : α) : (ws ++ [x]).set ws.length y = ws ++ [y] := by
  rw [List.set_append_right _ _ (Nat.le_refl _), Nat.sub_self]; rfl
theorem snoc_P {D : va_G} {cl : List vw_C} {ws : va_W} {x : Nat × va_E} {H : Heap} (h : va_P D cl (ws ++ [x]) H) : va_P D cl [x] H := P_right h
theorem snoc_D {A : Nat → Prop} {ws : va_W} {x : Nat × va_E} (h : va_D A (ws ++ [x])) : va_D A [x] := D_right h

set_option maxHeartbeats 4000000 in
set_option maxRecDepth 100000 in
theorem c_X2_kite (l9 : Launch) (hlt : l9.stackTraces = false) (dC : Nat → ClassId) (dI : Nat → Nat → Nat) (sz : Nat) {tK tB : ClassId} (h ak ab af : Nat) (ka kb : Nat → Nat) (n p : Nat) (F : Rows) (kd ar wt : Int32) (hI : Inv n p F) : vx_Met l9 yX2_kite wsX2_kite ({ frames := 6, cells := 1, slots := 9, locals := 82 }) (va_Pc [.ref h, .int kd, .int ar, .int wt] (PWr dC dI [(tK, .object "Windlane$Kite"), (tB, .object "Windlane$Borrower")] (cW tK tB h ak ab af ka kb n p F) sz)) (cQ dC dI tK tB h ak ab af (va_A (cW tK tB h ak ab af ka kb n p F) sz) ((S_kite n F kd ar wt).2.2.1) p ((S_kite n F kd ar wt).2.2.2) ((S_kite n F kd ar wt).1) ((S_kite n F kd ar wt).2.1)) (vx_X (fun _ : Unit => True) (fun E _ _ => (E = "java/lang/IllegalArgumentException" ∧ (S_kite n F kd ar wt).1 = 1) ∨ (E = "java/lang/IllegalStateException" ∧ (S_kite n F kd ar wt).1 = 2)) (fun _ => False)) 1 9 (va_A (cW tK tB h ak ab af ka kb n p F) sz) := by
  refine vx_ofW (cc := cX2_kite) (maxL := 5) (ret := (some .int)) (by decide) rfl ?_
  intro p9 e9 s m args below meth c s₁ B hml hout hv
  obtain ⟨rfl, hsz, hP, hK, hD0, hE, hH⟩ := hv
  have hx := B.exec
  have hb := B.bytes
  have hr := B.returns
  have hts := atoms_spec (ws := wsX2_kite) B.pre
  have hown : s.vm.findClass RX2 = some m.cls := findClass_of_methodNamed B.named
  have hlocks := B.notSynchronized
  have hi1 : ∀ w ∈ u_ws RX1 TX1 9, w ∈ wsX2_kite := by decide +kernel
  have hi2 : ∀ w ∈ u_ws RX2 TX2 9, w ∈ wsX2_kite := by decide +kernel
  have lk11 := hts (.fieldLink RX2 11 "Windlane" "kites" "[LWindlane$Kite;") (by decide +kernel)
  have lk35 := hts (.fieldLink RX2 35 "Windlane" "kiteCount" "I") (by decide +kernel)
  subst hsz
  have hD := hD0.self (sz := s.heap.size)
  generalize hAe : va_A (cW tK tB h ak ab af ka kb n p F) s.heap.size = A at hD hH ⊢
  have hA : ∀ q : Nat, s.heap.size ≤ q → A q := fun q h => by rw [← hAe]; exact Or.inr h
  have hS : va_S A s.heap s.heap [] := va_S.rf
  have hP : va_P (dC, dI) vwCl (cW tK tB h ak ab af ka kb n p F) s.heap := hP
  have hn8 : n ≤ 8 := hI.1.1
  have hp8 : p ≤ 8 := hI.1.2
  have hl := lv_entry ([.ref h, .int kd, .int ar, .int wt]) (n := 5) (Nat.le_of_ble_eq_true rfl)
  rw [lg_entry_eq]
  generalize (lg_sl ([.ref h, .int kd, .int ar, .int wt]) ++ List.replicate (5 - (lg_sl ([.ref h, .int kd, .int ar, .int wt])).length) Slot.unset).toArray = ls at hl ⊢
  have hl : lv_has ls 5 [(0, .ref h), (1, .int kd), (2, .int ar), (3, .int wt)] := hl
  refine lv_iload_n hx hb dX2_kite_0 rfl (lv_at hl 1 rfl) ?_
  refine lv_iconst (v := 0) hx hb dX2_kite_1 (by decide) ?_
  refine lv_iconst (v := 2) hx hb dX2_kite_2 (by decide) ?_
  refine vp_callSi (va_Run.run (va_runS (As := [.int kd, .int 0, .int 2]) (rest := []) ⟨hx, hb, hml, hown, hts⟩ (c_X2_isWithin l9 kd 0 2) (va_cwS 3 hts gX2_kite_X2_isWithin rfl rfl rfl (by decide +kernel) ⟨Nat.le_of_ble_eq_true rfl, Nat.le_of_ble_eq_true rfl⟩) ⟨fun a U g mk q => q, fun U hU hW => ⟨rfl, trivial⟩⟩ rfl rfl hl.1 rfl (lv_room (Nat.le_of_ble_eq_true rfl)) dX2_kite_3 ⟨Nat.le_of_ble_eq_true rfl, Nat.le_of_ble_eq_true rfl⟩)) (fun r hr => ?_)
  subst hr
  refine lv_if_eq (tgt := 29) hx hb dX2_kite_6 (by decide) (fun c_6 => ?_) (fun c_6 => ?_)
  · skip
    have c_6 := bi_z.mp c_6
    have hS9 : S_kite n F kd ar wt = (1, 0, n, F) := by rw [S_kite]; exact if_neg (fun q => c_6 q.1)
    obtain ⟨sa, hsa⟩ := hE.2.2.2 (30, "kind, area or weight is out of range") (by decide +kernel)
    exact vx_throwS (own := RX2) (cls := "java/lang/IllegalArgumentException") (text := "kind, area or weight is out of range") (names := ["java/lang/RuntimeException", "java/lang/Exception"]) (ik := 28) (is := 30) (ic := 32) (sa := sa) (A := A) hx hb hlt hown (by decide +kernel) (by decide +kernel) (hts (.classLink RX2 28 "java/lang/IllegalArgumentException") (by decide +kernel)) (hts (.initialized "java/lang/IllegalArgumentException") (by decide +kernel)) hsa (vx_hat (B := [.castable "java/lang/IllegalArgumentException" "java/lang/IllegalArgumentException", .declares dR, .declares dE, .declares dT]) (fun w hw => hts w (List.mem_cons_of_mem _ (List.mem_append_left _ (List.mem_append_right _ hw)))) (by decide +kernel) (vx_c (yc.use hE.2.1.1) (vx_c (va_Nw.use rfl hE.1.2.1) (vx_c (va_Nw.use rfl hE.1.2.2.1) (vx_c (va_Nw.use rfl hE.1.2.2.2) vx_n))))) (by decide +kernel) hH.1 hH.2 hS (hl.1.trans hml.symm) dX2_kite_29 dX2_kite_32 dX2_kite_33 dX2_kite_35 dX2_kite_38 (fun x hx => (hout x hx).elim) (Nat.le_of_ble_eq_true rfl) (Nat.le_of_ble_eq_true rfl) (Nat.le_of_ble_eq_true rfl) (Nat.le_of_ble_eq_true rfl) hlocks (fun t _ h1 h2 => ⟨(), trivial, Or.inl (⟨rfl, (by rw [hS9])⟩), h1, fun q hq _ => h2 q hq⟩) (fun z hz => absurd hz List.not_mem_nil) (Nat.le_of_ble_eq_true rfl) (Nat.le_of_ble_eq_true rfl)
  · skip
    have c_6 := bi_nz.mp c_6
    refine lv_iload_n hx hb dX2_kite_9 rfl (lv_at hl 2 rfl) ?_
    refine lv_iconst (v := 1) hx hb dX2_kite_10 (by decide) ?_
    refine lv_bipush (v := 20) hx hb dX2_kite_11 (by decide) ?_
    refine vp_callSi (va_Run.run (va_runS (As := [.int ar, .int 1, .int 20]) (rest := []) ⟨hx, hb, hml, hown, hts⟩ (c_X2_isWithin l9 ar 1 20) (va_cwS 3 hts gX2_kite_X2_isWithin rfl rfl rfl (by decide +kernel) ⟨Nat.le_of_ble_eq_true rfl, Nat.le_of_ble_eq_true rfl⟩) ⟨fun a U g mk q => q, fun U hU hW => ⟨rfl, trivial⟩⟩ rfl rfl hl.1 rfl (lv_room (Nat.le_of_ble_eq_true rfl)) dX2_kite_13 ⟨Nat.le_of_ble_eq_true rfl, Nat.le_of_ble_eq_true rfl⟩)) (fun r hr => ?_)
    subst hr
    refine lv_if_eq (tgt := 29) hx hb dX2_kite_16 (by decide) (fun c_16 => ?_) (fun c_16 => ?_)
    · skip
      have c_16 := bi_z.mp c_16
      have hS9 : S_kite n F kd ar wt = (1, 0, n, F) := by rw [S_kite]; exact if_neg (fun q => c_16 q.2.1)
      obtain ⟨sa, hsa⟩ := hE.2.2.2 (30, "kind, area or weight is out of range") (by decide +kernel)
      exact vx_throwS (own := RX2) (cls := "java/lang/IllegalArgumentException") (text := "kind, area or weight is out of range") (names := ["java/lang/RuntimeException", "java/lang/Exception"]) (ik := 28) (is := 30) (ic := 32) (sa := sa) (A := A) hx hb hlt hown (by decide +kernel) (by decide +kernel) (hts (.classLink RX2 28 "java/lang/IllegalArgumentException") (by decide +kernel)) (hts (.initialized "java/lang/IllegalArgumentException") (by decide +kernel)) hsa (vx_hat (B := [.castable "java/lang/IllegalArgumentException" "java/lang/IllegalArgumentException", .declares dR, .declares dE, .declares dT]) (fun w hw => hts w (List.mem_cons_of_mem _ (List.mem_append_left _ (List.mem_append_right _ hw)))) (by decide +kernel) (vx_c (yc.use hE.2.1.1) (vx_c (va_Nw.use rfl hE.1.2.1) (vx_c (va_Nw.use rfl hE.1.2.2.1) (vx_c (va_Nw.use rfl hE.1.2.2.2) vx_n))))) (by decide +kernel) hH.1 hH.2 hS (hl.1.trans hml.symm) dX2_kite_29 dX2_kite_32 dX2_kite_33 dX2_kite_35 dX2_kite_38 (fun x hx => (hout x hx).elim) (Nat.le_of_ble_eq_true rfl) (Nat.le_of_ble_eq_true rfl) (Nat.le_of_ble_eq_true rfl) (Nat.le_of_ble_eq_true rfl) hlocks (fun t _ h1 h2 => ⟨(), trivial, Or.inl (⟨rfl, (by rw [hS9])⟩), h1, fun q hq _ => h2 q hq⟩) (fun z hz => absurd hz List.not_mem_nil) (Nat.le_of_ble_eq_true rfl) (Nat.le_of_ble_eq_true rfl)
    · skip
      have c_16 := bi_nz.mp c_16
      refine lv_iload_n hx hb dX2_kite_19 rfl (lv_at hl 3 rfl) ?_
      refine lv_iconst (v := 1) hx hb dX2_kite_20 (by decide) ?_
      refine lv_bipush (v := 20) hx hb dX2_kite_21 (by decide) ?_
      refine vp_callSi (va_Run.run (va_runS (As := [.int wt, .int 1, .int 20]) (rest := []) ⟨hx, hb, hml, hown, hts⟩ (c_X2_isWithin l9 wt 1 20) (va_cwS 3 hts gX2_kite_X2_isWithin rfl rfl rfl (by decide +kernel) ⟨Nat.le_of_ble_eq_true rfl, Nat.le_of_ble_eq_true rfl⟩) ⟨fun a U g mk q => q, fun U hU hW => ⟨rfl, trivial⟩⟩ rfl rfl hl.1 rfl (lv_room (Nat.le_of_ble_eq_true rfl)) dX2_kite_23 ⟨Nat.le_of_ble_eq_true rfl, Nat.le_of_ble_eq_true rfl⟩)) (fun r hr => ?_)
      subst hr
      refine lv_if_ne (tgt := 39) hx hb dX2_kite_26 (by decide) (fun c_26 => ?_) (fun c_26 => ?_)
      · skip
        have c_26 := bi_nz.mp c_26
        refine lv_aload_n hx hb dX2_kite_39 rfl (lv_at hl 0 rfl) ?_
        refine va_get (D := (dC, dI)) (ci := 2) (v := .int (nI n)) (C := RX2) (T := TX2) (N := 9) hx hb hts hi2 hown hK hP 0 rfl rfl 1 (by decide) lk35 (fun _ h9 => h9) rfl dX2_kite_40 ?_
        refine lv_bipush (v := 8) hx hb dX2_kite_43 (by decide) ?_
        refine lv_icmp_lt (tgt := 58) hx hb dX2_kite_45 (by decide) (fun c_45 => ?_) (fun c_45 => ?_)
        · skip
          refine lv_aload_n hx hb dX2_kite_58 rfl (lv_at hl 0 rfl) ?_
          refine va_get (D := (dC, dI)) (ci := 2) (v := .int (nI n)) (C := RX2) (T := TX2) (N := 9) hx hb hts hi2 hown hK hP 0 rfl rfl 1 (by decide) lk35 (fun _ h9 => h9) rfl dX2_kite_59 ?_
          refine lv_istore (lv' := [(4, .int (nI n)), (0, .ref h), (1, .int kd), (2, .int ar), (3, .int wt)]) hx hb dX2_kite_62 hl (by decide) rfl (fun ls hl => ?_)
          refine lv_aload_n hx hb dX2_kite_64 rfl (lv_at hl 1 rfl) ?_
          refine va_get (D := (dC, dI)) (ci := 2) (v := .ref ak) (C := RX2) (T := TX2) (N := 9) hx hb hts hi2 hown hK hP 0 rfl rfl 0 (by decide) lk11 (fun _ h9 => h9) rfl dX2_kite_65 ?_
          refine lv_iload hx hb dX2_kite_68 (lv_at hl 0 rfl) ?_
          have hc8 : n < 8 := by rw [i32_lt, nI_toInt (by omega)] at c_45; have e8 : (8 : Int32).toInt = 8 := (by decide); omega
          refine va_new (D := (dC, dI)) (ci := 1) (fs := [.int 0, .int 0, .int 0, .int 0, .int 0, .int 0, .int 0, .int 0, .int 0]) (C := RX1) (T := TX1) (N := 9) hx hb hts hi1 tyX1 tyX1_ok hown (hts (.classLink RX2 9 RX1) (by decide +kernel)) (hts (.instantiable RX1 9) (by decide +kernel)) (hts (.initialized RX1) (by decide +kernel)) hK hP hD hS hA rfl (fun j hj => by rcases (show j = 0 ∨ j = 1 ∨ j = 2 ∨ j = 3 ∨ j = 4 ∨ j = 5 ∨ j = 6 ∨ j = 7 ∨ j = 8 by omega) with rfl | rfl | rfl | rfl | rfl | rfl | rfl | rfl | rfl <;> rfl) (Nat.le_of_ble_eq_true rfl) (Nat.le_of_ble_eq_true rfl) dX2_kite_70 (fun q H hP hD hS => ?_)
          refine lv_dup hx hb dX2_kite_73 rfl ?_
          refine lv_iload hx hb dX2_kite_74 (lv_at hl 0 rfl) ?_
          refine lv_iload_n hx hb dX2_kite_76 rfl (lv_at hl 2 rfl) ?_
          refine lv_iload_n hx hb dX2_kite_77 rfl (lv_at hl 3 rfl) ?_
          refine lv_iload_n hx hb dX2_kite_78 rfl (lv_at hl 4 rfl) ?_
          have hq1 := snoc_P hP
          have hqD := snoc_D hD
          have hq0 := snoc_at (cW tK tB h ak ab af ka kb n p F) ((q, .inr (1, [.int 0, .int 0, .int 0, .int 0, .int 0, .int 0, .int 0, .int 0, .int 0])) : Nat × va_E)
          refine va_callv (va_runI (As := [.int (nI n), .int kd, .int ar, .int wt]) (rest := [.ref q, .int (nI n), .ref ak]) ⟨hx, hb, hml, hown, hts⟩ (c_X1_init l9 dC dI H.size q (nI n) kd ar wt) (cwI 4 hts gX2_kite_X1_init rfl rfl rfl (hts (.initialized RX1) (by decide +kernel)) (hts (.methodLink RX2 44 yX1_init) (by decide +kernel)) (hts (.instanceMethod yX1_init) (by decide +kernel)) rfl (by decide +kernel) ⟨Nat.le_of_ble_eq_true rfl, Nat.le_of_ble_eq_true rfl⟩) ⟨PWr.blind, PWr.pre hq1 (hK.sub (tys' := []) [] rfl) hqD hE ((hH.kept hS.2.1).narrow (A_in hqD hS hA))⟩ rfl rfl hl.1 rfl (lv_room (Nat.le_of_ble_eq_true rfl)) dX2_kite_79 ⟨Nat.le_of_ble_eq_true rfl, Nat.le_of_ble_eq_true rfl⟩) hS (fun q _ hq => A_in hqD hS hA q hq) (A_in hqD hS hA) (fun u9 t9 H1 locs ht9 hvm hw9 hB hz1 hk1 hS => ?_)
          have hP1 : va_P (dC, dI) vwCl [(q, .inr (1, [.int (nI n), .int kd, .int ar, .int wt, .int 0, .int 0, .int (-1), .int (-1), .int 0]))] H1 := by rw [← ht9]; exact hB
          obtain ⟨hP, hD⟩ := join_1 hP hD hq0 hk1 hP1
          rw [snoc_set] at hP hD
          generalize H1 = H at hP hS ⊢
          have hq0 := snoc_at (cW tK tB h ak ab af ka kb n p F) ((q, .inr (1, [.int (nI n), .int kd, .int ar, .int wt, .int 0, .int 0, .int (-1), .int (-1), .int 0])) : Nat × va_E)
          refine my_astq hx hb hK hP hD hS 1 0 _ 1 rfl rfl hq0 rfl hc8 (Nat.le_of_ble_eq_true rfl) dX2_kite_82 (fun H locs hP hD hS => ?_)
          refine lv_aload_n hx hb dX2_kite_83 rfl (lv_at hl 1 rfl) ?_
          refine lv_dup hx hb dX2_kite_84 rfl ?_
          refine va_get (D := (dC, dI)) (ci := 2) (v := .int (nI n)) (C := RX2) (T := TX2) (N := 9) hx hb hts hi2 hown hK hP 0 rfl rfl 1 (by decide) lk35 (fun _ h9 => h9) rfl dX2_kite_85 ?_
          refine lv_iconst (v := 1) hx hb dX2_kite_88 (by decide) ?_
          refine lv_iadd hx hb dX2_kite_89 ?_
          refine W_top (y := .int (nI (n + 1))) (congrArg Value.int (nI_1 n)) ?_
          refine va_put (D := (dC, dI)) (ci := 2) (v := .int (nI (n + 1))) (ty := .int) (C := RX2) (T := TX2) (N := 9) hx hb hts hi2 tyX2 tyX2_ok nmX2 hown hK hP hD hS 0 rfl rfl 1 (by decide) lk35 (fun _ h9 => h9) rfl (by decide +kernel) rfl rfl (Nat.le_of_ble_eq_true rfl) dX2_kite_90 (fun H locs hP hD hS => ?_)
          have hz := hI.2.2.1 n (Nat.le_refl _)
          have hP : va_P (dC, dI) vwCl (cW tK tB h ak ab af (va_up ka n q) kb (n + 1) p (nwF n F kd ar wt)) H := P_eq (cW_newk hz.1 hz.2.1 hz.2.2) (va_P.swap (a := _ :: _ :: _ :: _ :: kL ka F n) (b := bL ka kb F (hbF F n) p) (c := [(q, .inr (1, [.int (nI n), .int kd, .int ar, .int wt, .int 0, .int 0, .int (-1), .int (-1), .int 0]))]) hP)
          have hD : va_D A (cW tK tB h ak ab af (va_up ka n q) kb (n + 1) p (nwF n F kd ar wt)) := D_eq (cW_newk hz.1 hz.2.1 hz.2.2) (va_D.swap (a := _ :: _ :: _ :: _ :: kL ka F n) (b := bL ka kb F (hbF F n) p) (c := [(q, .inr (1, [.int (nI n), .int kd, .int ar, .int wt, .int 0, .int 0, .int (-1), .int (-1), .int 0]))]) hD)
          refine lv_iload hx hb dX2_kite_93 (lv_at hl 0 rfl) ?_
          have hS9 : S_kite n F kd ar wt = (0, nI n, n + 1, nwF n F kd ar wt) := by rw [S_kite, if_pos ⟨c_6, c_16, c_26⟩]; exact if_neg (by omega)
          refine vx_ret ?_
          refine W.widen (k := 1) (n := 9) (Nat.le_of_ble_eq_true rfl) (Nat.le_of_ble_eq_true rfl) ?_
          exact W.iret (v := nI n) hx hb hr (fun t ht hW => cQ_mk (va_up ka n q) kb (by rw [hS9]) (by rw [hS9]) (by rw [hS9, ht]; exact hP) (by rw [hS9]; exact hD) (hS.F ht)) hS.2.2 dX2_kite_95
        · skip
          have hS9 : S_kite n F kd ar wt = (2, 0, n, F) := by rw [S_kite, if_pos ⟨c_6, c_16, c_26⟩]; exact if_pos (by rw [i32_lt, nI_toInt (by omega)] at c_45; have e8 : (8 : Int32).toInt = 8 := (by decide); omega)
          obtain ⟨sa, hsa⟩ := hE.2.2.2 (41, "there are 8 kites") (by decide +kernel)
          exact vx_throwS (own := RX2) (cls := "java/lang/IllegalStateException") (text := "there are 8 kites") (names := ["java/lang/RuntimeException", "java/lang/Exception"]) (ik := 39) (is := 41) (ic := 43) (sa := sa) (A := A) hx hb hlt hown (by decide +kernel) (by decide +kernel) (hts (.classLink RX2 39 "java/lang/IllegalStateException") (by decide +kernel)) (hts (.initialized "java/lang/IllegalStateException") (by decide +kernel)) hsa (vx_hat (B := [.castable "java/lang/IllegalStateException" "java/lang/IllegalStateException", .declares dR, .declares dE, .declares dT]) (fun w hw => hts w (List.mem_cons_of_mem _ (List.mem_append_right _ hw))) (by decide +kernel) (vx_c (yc.use hE.2.1.2.1) (vx_c (va_Nw.use rfl hE.1.2.1) (vx_c (va_Nw.use rfl hE.1.2.2.1) (vx_c (va_Nw.use rfl hE.1.2.2.2) vx_n))))) (by decide +kernel) hH.1 hH.2 hS (hl.1.trans hml.symm) dX2_kite_48 dX2_kite_51 dX2_kite_52 dX2_kite_54 dX2_kite_57 (fun x hx => (hout x hx).elim) (Nat.le_of_ble_eq_true rfl) (Nat.le_of_ble_eq_true rfl) (Nat.le_of_ble_eq_true rfl) (Nat.le_of_ble_eq_true rfl) hlocks (fun t _ h1 h2 => ⟨(), trivial, Or.inr (⟨rfl, (by rw [hS9])⟩), h1, fun q hq _ => h2 q hq⟩) (fun z hz => absurd hz List.not_mem_nil) (Nat.le_of_ble_eq_true rfl) (Nat.le_of_ble_eq_true rfl)
      · skip
        have c_26 := bi_z.mp c_26
        have hS9 : S_kite n F kd ar wt = (1, 0, n, F) := by rw [S_kite]; exact if_neg (fun q => c_26 q.2.2)
        obtain ⟨sa, hsa⟩ := hE.2.2.2 (30, "kind, area or weight is out of range") (by decide +kernel)
        exact vx_throwS (own := RX2) (cls := "java/lang/IllegalArgumentException") (text := "kind, area or weight is out of range") (names := ["java/lang/RuntimeException", "java/lang/Exception"]) (ik := 28) (is := 30) (ic := 32) (sa := sa) (A := A) hx hb hlt hown (by decide +kernel) (by decide +kernel) (hts (.classLink RX2 28 "java/lang/IllegalArgumentException") (by decide +kernel)) (hts (.initialized "java/lang/IllegalArgumentException") (by decide +kernel)) hsa (vx_hat (B := [.castable "java/lang/IllegalArgumentException" "java/lang/IllegalArgumentException", .declares dR, .declares dE, .declares dT]) (fun w hw => hts w (List.mem_cons_of_mem _ (List.mem_append_left _ (List.mem_append_right _ hw)))) (by decide +kernel) (vx_c (yc.use hE.2.1.1) (vx_c (va_Nw.use rfl hE.1.2.1) (vx_c (va_Nw.use rfl hE.1.2.2.1) (vx_c (va_Nw.use rfl hE.1.2.2.2) vx_n))))) (by decide +kernel) hH.1 hH.2 hS (hl.1.trans hml.symm) dX2_kite_29 dX2_kite_32 dX2_kite_33 dX2_kite_35 dX2_kite_38 (fun x hx => (hout x hx).elim) (Nat.le_of_ble_eq_true rfl) (Nat.le_of_ble_eq_true rfl) (Nat.le_of_ble_eq_true rfl) (Nat.le_of_ble_eq_true rfl) hlocks (fun t _ h1 h2 => ⟨(), trivial, Or.inl (⟨rfl, (by rw [hS9])⟩), h1, fun q hq _ => h2 q hq⟩) (fun z hz => absurd hz List.not_mem_nil) (Nat.le_of_ble_eq_true rfl) (Nat.le_of_ble_eq_true rfl)

set_option maxHeartbeats 4000000 in
set_option maxRecDepth 100000 in
theorem c_X2_borrower (l9 : Launch) (hlt : l9.stackTraces = false) (dC : Nat → ClassId) (dI : Nat → Nat → Nat) (sz : Nat) {tK tB : ClassId} (h ak ab af : Nat) (ka kb : Nat → Nat) (n p : Nat) (F : Rows) (sk : Int32) (hI : Inv n p F) : vx_Met l9 yX2_borrower wsX2_borrower ({ frames := 6, cells := 1, slots := 6, locals := 82 }) (va_Pc [.ref h, .int sk] (PWr dC dI [(tK, .object "Windlane$Kite"), (tB, .object "Windlane$Borrower")] (cW tK tB h ak ab af ka kb n p F) sz)) (cQ dC dI tK tB h ak ab af (va_A (cW tK tB h ak ab af ka kb n p F) sz) n ((S_borrower p F sk).2.2.1) ((S_borrower p F sk).2.2.2) ((S_borrower p F sk).1) ((S_borrower p F sk).2.1)) (vx_X (fun _ : Unit => True) (fun E _ _ => (E = "java/lang/IllegalArgumentException" ∧ (S_borrower p F sk).1 = 1) ∨ (E = "java/lang/IllegalStateException" ∧ (S_borrower p F sk).1 = 2)) (fun _ => False)) 1 6 (va_A (cW tK tB h ak ab af ka kb n p F) sz) := by
  refine vx_ofW (cc := cX2_borrower) (maxL := 3) (ret := (some .int)) (by decide) rfl ?_
  intro p9 e9 s m args below meth c s₁ B hml hout hv
  obtain ⟨rfl, hsz, hP, hK, hD0, hE, hH⟩ := hv
  have hx := B.exec
  have hb := B.bytes
  have hr := B.returns
  have hts := atoms_spec (ws := wsX2_borrower) B.pre
  have hown : s.vm.findClass RX2 = some m.cls := findClass_of_methodNamed B.named
  have hlocks := B.notSynchronized
  have hi0 : ∀ w ∈ u_ws RX0 TX0 2, w ∈ wsX2_borrower := by decide +kernel
  have hi2 : ∀ w ∈ u_ws RX2 TX2 9, w ∈ wsX2_borrower := by decide +kernel
  have lk17 := hts (.fieldLink RX2 17 "Windlane" "borrowers" "[LWindlane$Borrower;") (by decide +kernel)
  have lk64 := hts (.fieldLink RX2 64 "Windlane" "borrowerCount" "I") (by decide +kernel)
  subst hsz
  have hD := hD0.self (sz := s.heap.size)
  generalize hAe : va_A (cW tK tB h ak ab af ka kb n p F) s.heap.size = A at hD hH ⊢
  have hA : ∀ q : Nat, s.heap.size ≤ q → A q := fun q h => by rw [← hAe]; exact Or.inr h
  have hS : va_S A s.heap s.heap [] := va_S.rf
  have hP : va_P (dC, dI) vwCl (cW tK tB h ak ab af ka kb n p F) s.heap := hP
  have hn8 : n ≤ 8 := hI.1.1
  have hp8 : p ≤ 8 := hI.1.2
  have hl := lv_entry ([.ref h, .int sk]) (n := 3) (Nat.le_of_ble_eq_true rfl)
  rw [lg_entry_eq]
  generalize (lg_sl ([.ref h, .int sk]) ++ List.replicate (3 - (lg_sl ([.ref h, .int sk])).length) Slot.unset).toArray = ls at hl ⊢
  have hl : lv_has ls 3 [(0, .ref h), (1, .int sk)] := hl
  refine lv_iload_n hx hb dX2_borrower_0 rfl (lv_at hl 1 rfl) ?_
  refine lv_iconst (v := 1) hx hb dX2_borrower_1 (by decide) ?_
  refine lv_iconst (v := 3) hx hb dX2_borrower_2 (by decide) ?_
  refine vp_callSi (va_Run.run (va_runS (As := [.int sk, .int 1, .int 3]) (rest := []) ⟨hx, hb, hml, hown, hts⟩ (c_X2_isWithin l9 sk 1 3) (va_cwS 3 hts gX2_borrower_X2_isWithin rfl rfl rfl (by decide +kernel) ⟨Nat.le_of_ble_eq_true rfl, Nat.le_of_ble_eq_true rfl⟩) ⟨fun a U g mk q => q, fun U hU hW => ⟨rfl, trivial⟩⟩ rfl rfl hl.1 rfl (lv_room (Nat.le_of_ble_eq_true rfl)) dX2_borrower_3 ⟨Nat.le_of_ble_eq_true rfl, Nat.le_of_ble_eq_true rfl⟩)) (fun r hr => ?_)
  subst hr
  refine lv_if_ne (tgt := 19) hx hb dX2_borrower_6 (by decide) (fun c_6 => ?_) (fun c_6 => ?_)
  · skip
    have c_6 := bi_nz.mp c_6
    refine lv_aload_n hx hb dX2_borrower_19 rfl (lv_at hl 0 rfl) ?_
    refine va_get (D := (dC, dI)) (ci := 2) (v := .int (nI p)) (C := RX2) (T := TX2) (N := 9) hx hb hts hi2 hown hK hP 0 rfl rfl 3 (by decide) lk64 (fun _ h9 => h9) rfl dX2_borrower_20 ?_
    refine lv_bipush (v := 8) hx hb dX2_borrower_23 (by decide) ?_
    refine lv_icmp_lt (tgt := 38) hx hb dX2_borrower_25 (by decide) (fun c_25 => ?_) (fun c_25 => ?_)
    · skip
      refine lv_aload_n hx hb dX2_borrower_38 rfl (lv_at hl 0 rfl) ?_
      refine va_get (D := (dC, dI)) (ci := 2) (v := .int (nI p)) (C := RX2) (T := TX2) (N := 9) hx hb hts hi2 hown hK hP 0 rfl rfl 3 (by decide) lk64 (fun _ h9 => h9) rfl dX2_borrower_39 ?_
      refine lv_istore_n (lv' := [(2, .int (nI p)), (0, .ref h), (1, .int sk)]) hx hb dX2_borrower_42 rfl hl (by decide) rfl (fun ls hl => ?_)
      refine lv_aload_n hx hb dX2_borrower_43 rfl (lv_at hl 1 rfl) ?_
      refine va_get (D := (dC, dI)) (ci := 2) (v := .ref ab) (C := RX2) (T := TX2) (N := 9) hx hb hts hi2 hown hK hP 0 rfl rfl 2 (by decide) lk17 (fun _ h9 => h9) rfl dX2_borrower_44 ?_
      refine lv_iload_n hx hb dX2_borrower_47 rfl (lv_at hl 0 rfl) ?_
      have hc8 : p < 8 := by rw [i32_lt, nI_toInt (by omega)] at c_25; have e8 : (8 : Int32).toInt = 8 := (by decide); omega
      refine va_new (D := (dC, dI)) (ci := 0) (fs := [.int 0, .null]) (C := RX0) (T := TX0) (N := 2) hx hb hts hi0 tyX0 tyX0_ok hown (hts (.classLink RX2 15 RX0) (by decide +kernel)) (hts (.instantiable RX0 2) (by decide +kernel)) (hts (.initialized RX0) (by decide +kernel)) hK hP hD hS hA rfl (fun j hj => by rcases (show j = 0 ∨ j = 1 by omega) with rfl | rfl <;> rfl) (Nat.le_of_ble_eq_true rfl) (Nat.le_of_ble_eq_true rfl) dX2_borrower_48 (fun q H hP hD hS => ?_)
      refine lv_dup hx hb dX2_borrower_51 rfl ?_
      refine lv_iload_n hx hb dX2_borrower_52 rfl (lv_at hl 2 rfl) ?_
      have hq1 := snoc_P hP
      have hqD := snoc_D hD
      have hq0 := snoc_at (cW tK tB h ak ab af ka kb n p F) ((q, .inr (0, [.int 0, .null])) : Nat × va_E)
      refine va_callv (va_runI (As := [.int sk]) (rest := [.ref q, .int (nI p), .ref ab]) ⟨hx, hb, hml, hown, hts⟩ (c_X0_init l9 dC dI H.size q sk) (cwI 1 hts gX2_borrower_X0_init rfl rfl rfl (hts (.initialized RX0) (by decide +kernel)) (hts (.methodLink RX2 69 yX0_init) (by decide +kernel)) (hts (.instanceMethod yX0_init) (by decide +kernel)) rfl (by decide +kernel) ⟨Nat.le_of_ble_eq_true rfl, Nat.le_of_ble_eq_true rfl⟩) ⟨PWr.blind, PWr.pre hq1 (hK.sub (tys' := []) [] rfl) hqD hE ((hH.kept hS.2.1).narrow (A_in hqD hS hA))⟩ rfl rfl hl.1 rfl (lv_room (Nat.le_of_ble_eq_true rfl)) dX2_borrower_53 ⟨Nat.le_of_ble_eq_true rfl, Nat.le_of_ble_eq_true rfl⟩) hS (fun q _ hq => A_in hqD hS hA q hq) (A_in hqD hS hA) (fun u9 t9 H1 locs ht9 hvm hw9 hB hz1 hk1 hS => ?_)
      have hP1 : va_P (dC, dI) vwCl [(q, .inr (0, [.int sk, .null]))] H1 := by rw [← ht9]; exact hB
      obtain ⟨hP, hD⟩ := join_1 hP hD hq0 hk1 hP1
      rw [snoc_set] at hP hD
      generalize H1 = H at hP hS ⊢
      have hq0 := snoc_at (cW tK tB h ak ab af ka kb n p F) ((q, .inr (0, [.int sk, .null])) : Nat × va_E)
      refine my_astq hx hb hK hP hD hS 2 1 _ 0 rfl rfl hq0 rfl hc8 (Nat.le_of_ble_eq_true rfl) dX2_borrower_56 (fun H locs hP hD hS => ?_)
      refine lv_aload_n hx hb dX2_borrower_57 rfl (lv_at hl 1 rfl) ?_
      refine lv_dup hx hb dX2_borrower_58 rfl ?_
      refine va_get (D := (dC, dI)) (ci := 2) (v := .int (nI p)) (C := RX2) (T := TX2) (N := 9) hx hb hts hi2 hown hK hP 0 rfl rfl 3 (by decide) lk64 (fun _ h9 => h9) rfl dX2_borrower_59 ?_
      refine lv_iconst (v := 1) hx hb dX2_borrower_62 (by decide) ?_
      refine lv_iadd hx hb dX2_borrower_63 ?_
      refine W_top (y := .int (nI (p + 1))) (congrArg Value.int (nI_1 p)) ?_
      refine va_put (D := (dC, dI)) (ci := 2) (v := .int (nI (p + 1))) (ty := .int) (C := RX2) (T := TX2) (N := 9) hx hb hts hi2 tyX2 tyX2_ok nmX2 hown hK hP hD hS 0 rfl rfl 3 (by decide) lk64 (fun _ h9 => h9) rfl (by decide +kernel) rfl rfl (Nat.le_of_ble_eq_true rfl) dX2_borrower_64 (fun H locs hP hD hS => ?_)
      have h5 : ∀ k, k < n → ¬ F 5 k = nI p := fun k hk q => by
        rcases (hI.2.1 k hk).2.2.2.2.2.1 with z | ⟨j, hj, z⟩
        · exact nI_m1 (by omega) (q.symm.trans z)
        · have := nI_inj (by omega) (by omega) (q.symm.trans z); omega
      have hP : va_P (dC, dI) vwCl (cW tK tB h ak ab af ka (va_up kb p q) n (p + 1) (up F 8 p sk)) H := P_eq (cW_newb hc8 h5) hP
      have hD : va_D A (cW tK tB h ak ab af ka (va_up kb p q) n (p + 1) (up F 8 p sk)) := D_eq (cW_newb hc8 h5) hD
      refine lv_iload_n hx hb dX2_borrower_67 rfl (lv_at hl 0 rfl) ?_
      have hS9 : S_borrower p F sk = (0, nI p, p + 1, up F 8 p sk) := by rw [S_borrower, if_pos c_6]; exact if_neg (by omega)
      refine vx_ret ?_
      refine W.widen (k := 1) (n := 6) (Nat.le_of_ble_eq_true rfl) (Nat.le_of_ble_eq_true rfl) ?_
      exact W.iret (v := nI p) hx hb hr (fun t ht hW => cQ_mk ka (va_up kb p q) (by rw [hS9]) (by rw [hS9]) (by rw [hS9, ht]; exact hP) (by rw [hS9]; exact hD) (hS.F ht)) hS.2.2 dX2_borrower_68
    · skip
      have hS9 : S_borrower p F sk = (2, 0, p, F) := by rw [S_borrower, if_pos c_6]; exact if_pos (by rw [i32_lt, nI_toInt (by omega)] at c_25; have e8 : (8 : Int32).toInt = 8 := (by decide); omega)
      obtain ⟨sa, hsa⟩ := hE.2.2.2 (67, "there are 8 borrowers") (by decide +kernel)
      exact vx_throwS (own := RX2) (cls := "java/lang/IllegalStateException") (text := "there are 8 borrowers") (names := ["java/lang/RuntimeException", "java/lang/Exception"]) (ik := 39) (is := 67) (ic := 43) (sa := sa) (A := A) hx hb hlt hown (by decide +kernel) (by decide +kernel) (hts (.classLink RX2 39 "java/lang/IllegalStateException") (by decide +kernel)) (hts (.initialized "java/lang/IllegalStateException") (by decide +kernel)) hsa (vx_hat (B := [.castable "java/lang/IllegalStateException" "java/lang/IllegalStateException", .declares dR, .declares dE, .declares dT]) (fun w hw => hts w (List.mem_cons_of_mem _ (List.mem_append_right _ hw))) (by decide +kernel) (vx_c (yc.use hE.2.1.2.1) (vx_c (va_Nw.use rfl hE.1.2.1) (vx_c (va_Nw.use rfl hE.1.2.2.1) (vx_c (va_Nw.use rfl hE.1.2.2.2) vx_n))))) (by decide +kernel) hH.1 hH.2 hS (hl.1.trans hml.symm) dX2_borrower_28 dX2_borrower_31 dX2_borrower_32 dX2_borrower_34 dX2_borrower_37 (fun x hx => (hout x hx).elim) (Nat.le_of_ble_eq_true rfl) (Nat.le_of_ble_eq_true rfl) (Nat.le_of_ble_eq_true rfl) (Nat.le_of_ble_eq_true rfl) hlocks (fun t _ h1 h2 => ⟨(), trivial, Or.inr (⟨rfl, (by rw [hS9])⟩), h1, fun q hq _ => h2 q hq⟩) (fun z hz => absurd hz List.not_mem_nil) (Nat.le_of_ble_eq_true rfl) (Nat.le_of_ble_eq_true rfl)
  · skip
    have c_6 := bi_z.mp c_6
    have hS9 : S_borrower p F sk = (1, 0, p, F) := by rw [S_borrower]; exact if_neg c_6
    obtain ⟨sa, hsa⟩ := hE.2.2.2 (62, "skill is out of range") (by decide +kernel)
    exact vx_throwS (own := RX2) (cls := "java/lang/IllegalArgumentException") (text := "skill is out of range") (names := ["java/lang/RuntimeException", "java/lang/Exception"]) (ik := 28) (is := 62) (ic := 32) (sa := sa) (A := A) hx hb hlt hown (by decide +kernel) (by decide +kernel) (hts (.classLink RX2 28 "java/lang/IllegalArgumentException") (by decide +kernel)) (hts (.initialized "java/lang/IllegalArgumentException") (by decide +kernel)) hsa (vx_hat (B := [.castable "java/lang/IllegalArgumentException" "java/lang/IllegalArgumentException", .declares dR, .declares dE, .declares dT]) (fun w hw => hts w (List.mem_cons_of_mem _ (List.mem_append_left _ (List.mem_append_right _ hw)))) (by decide +kernel) (vx_c (yc.use hE.2.1.1) (vx_c (va_Nw.use rfl hE.1.2.1) (vx_c (va_Nw.use rfl hE.1.2.2.1) (vx_c (va_Nw.use rfl hE.1.2.2.2) vx_n))))) (by decide +kernel) hH.1 hH.2 hS (hl.1.trans hml.symm) dX2_borrower_9 dX2_borrower_12 dX2_borrower_13 dX2_borrower_15 dX2_borrower_18 (fun x hx => (hout x hx).elim) (Nat.le_of_ble_eq_true rfl) (Nat.le_of_ble_eq_true rfl) (Nat.le_of_ble_eq_true rfl) (Nat.le_of_ble_eq_true rfl) hlocks (fun t _ h1 h2 => ⟨(), trivial, Or.inl (⟨rfl, (by rw [hS9])⟩), h1, fun q hq _ => h2 q hq⟩) (fun z hz => absurd hz List.not_mem_nil) (Nat.le_of_ble_eq_true rfl) (Nat.le_of_ble_eq_true rfl)

abbrev F00 : Rows := fun _ _ => 0
theorem kF_0 (ka : Nat → Nat) : (fun _ => none) = kF ka 0 := by funext j; exact (if_neg (Nat.not_lt_zero j)).symm
theorem lF_0 (ka : Nat → Nat) : (fun _ => none) = lF ka (flF F00 0) := by
  funext l
  show none = (flF F00 0 l).map ka
  unfold flF
  split <;> rfl
theorem RA_one {U : State} {c1 c2 : ClassId} {C : String} (h1 : va_RA U c1 (.object C)) (h2 : va_RA U c2 (.object C)) : c1 = c2 := by
  obtain ⟨_, _, _, _, _, e1⟩ := h1
  obtain ⟨_, _, _, _, _, e2⟩ := h2
  exact Option.some.inj (e1.symm.trans e2)
abbrev cZero : List Value := [.null, .int 0, .null, .int 0, .null, .int 0, .int 0, .int 0, .int 0]
abbrev cTys (tK tB : ClassId) : List (ClassId × FieldType) := [(tK, .object "Windlane$Kite"), (tB, .object "Windlane$Borrower")]
def PNew (dC : Nat → ClassId) (dI : Nat → Nat → Nat) (h sz : Nat) (U : State) : Prop := PWr dC dI [] [(h, .inr (2, cZero))] sz U ∧ va_AO RX1 U ∧ va_AO RX0 U
theorem PNew.blind {dC : Nat → ClassId} {dI : Nat → Nat → Nat} {h sz : Nat} {av : List Value} : FrameBlind (va_Pc av (PNew dC dI h sz)) := fun a U g mk q => by
  obtain ⟨q0, q1, q2, q3⟩ := q
  exact ⟨q0, (PWr.blind (av := av) a U g mk ⟨q0, q1⟩).2, va_AO.moved (u := U) (U := U.calling g mk a) (Vm.Alike.refl U.vm) q2, va_AO.moved (u := U) (U := U.calling g mk a) (Vm.Alike.refl U.vm) q3⟩

set_option maxHeartbeats 4000000 in
set_option maxRecDepth 100000 in
theorem c_X2_init (l : Launch) (dC : Nat → ClassId) (dI : Nat → Nat → Nat) (sz : Nat) (h : Nat) : Met l yX2_init wsX2_init ({ frames := 1, cells := 3, slots := 26, locals := 12 }) (va_Pc [.ref h] (PNew dC dI h sz)) (va_Qv (S := ClassId × ClassId × Nat × Nat × Nat) (fun _ => True) (fun u t => va_K (dC, dI) vwCl (cTys u.1 u.2.1) t ∧ va_P (dC, dI) vwCl (cW u.1 u.2.1 h u.2.2.1 u.2.2.2.1 u.2.2.2.2 (fun _ => 0) (fun _ => 0) 0 0 F00) t.heap ∧ va_D ((va_A ([(h, .inr (2, cZero))]) sz)) (cW u.1 u.2.1 h u.2.2.1 u.2.2.2.1 u.2.2.2.2 (fun _ => 0) (fun _ => 0) 0 0 F00)) (va_A ([(h, .inr (2, cZero))]) sz)) 3 26 (va_A ([(h, .inr (2, cZero))]) sz) := by
  refine Met.ofW (cc := cX2_init) (maxL := 1) (ret := none) (by decide) rfl ?_
  intro p e s m args below meth c s₁ B hml hv
  obtain ⟨rfl, ⟨hsz, hP, hK, hD0, hE, hH⟩, hO1, hO0⟩ := hv
  have hx := B.exec
  have hb := B.bytes
  have hr := B.returns
  have hts := atoms_spec (ws := wsX2_init) B.pre
  have hown : s.vm.findClass RX2 = some m.cls := findClass_of_methodNamed B.named
  have hlocks := B.notSynchronized
  have hin : meth.name = "<init>" := (name_of_methodNamed B.named B.method).1
  have hi2 : ∀ w ∈ u_ws RX2 TX2 9, w ∈ wsX2_init := by decide +kernel
  have lk11 := hts (.fieldLink RX2 11 "Windlane" "kites" "[LWindlane$Kite;") (by decide +kernel)
  have lk17 := hts (.fieldLink RX2 17 "Windlane" "borrowers" "[LWindlane$Borrower;") (by decide +kernel)
  have lk21 := hts (.fieldLink RX2 21 "Windlane" "flyers" "[LWindlane$Kite;") (by decide +kernel)
  subst hsz
  have hD := hD0.self (sz := s.heap.size)
  generalize hAe : va_A ([(h, .inr (2, cZero))]) s.heap.size = A at hD hH ⊢
  have hA : ∀ q : Nat, s.heap.size ≤ q → A q := fun q h => by rw [← hAe]; exact Or.inr h
  have hS : va_S A s.heap s.heap [] := va_S.rf
  have hP : va_P (dC, dI) vwCl ([(h, .inr (2, cZero))]) s.heap := hP
  have hl := lv_entry ([.ref h]) (n := 1) (Nat.le_of_ble_eq_true rfl)
  rw [lg_entry_eq]
  generalize (lg_sl ([.ref h]) ++ List.replicate (1 - (lg_sl ([.ref h])).length) Slot.unset).toArray = ls at hl ⊢
  have hl : lv_has ls 1 [(0, .ref h)] := hl
  refine lv_aload_n hx hb dX2_init_0 rfl (lv_at hl 0 rfl) ?_
  refine W.objInit hx hb hown (hts (.methodLink RX2 3 objectInit) (by decide +kernel)) (hts (.instanceMethod objectInit) (by decide +kernel)) (hts _ (List.mem_cons_of_mem _ (List.mem_append_left _ (List.mem_of_getElem? (i := 2) rfl)))) rfl (by rw [hml]; exact hl.1) rfl dX2_init_1 (Nat.le_of_ble_eq_true rfl) (Nat.le_of_ble_eq_true rfl) ?_
  refine W.eq (g2 := F0 m 4 ls []) rfl ?_
  refine lv_aload_n hx hb dX2_init_4 rfl (lv_at hl 0 rfl) ?_
  refine lv_bipush (v := 8) hx hb dX2_init_5 (by decide) ?_
  refine va_newq hx hb hown (hts (.classLink RX2 9 RX1) (by decide +kernel)) hO1 hK hP hD hS hA (N' := 8) (by decide) rfl (by decide) (Nat.le_of_ble_eq_true rfl) (Nat.le_of_ble_eq_true rfl) dX2_init_7 (fun q1 t1 H hK hP hD hS => ?_)
  refine va_putF (D := (dC, dI)) (ci := 2) (v := .ref q1) (ty := .array (.object "Windlane$Kite")) (C := RX2) (T := TX2) (N := 9) hx hb hts hi2 tyX2 tyX2_ok nmX2 hown hK hP hD hS 0 rfl rfl 0 (by decide) lk11 (fun _ h9 => h9) rfl hin rfl (by decide +kernel) rfl rfl (Nat.le_of_ble_eq_true rfl) dX2_init_10 (fun H locs hP hD hS => ?_)
  refine lv_aload_n hx hb dX2_init_13 rfl (lv_at hl 0 rfl) ?_
  refine lv_bipush (v := 8) hx hb dX2_init_14 (by decide) ?_
  refine va_newq hx hb hown (hts (.classLink RX2 15 RX0) (by decide +kernel)) hO0 hK hP hD hS hA (N' := 8) (by decide) rfl (by decide) (Nat.le_of_ble_eq_true rfl) (Nat.le_of_ble_eq_true rfl) dX2_init_16 (fun q2 t2 H hK hP hD hS => ?_)
  refine va_putF (D := (dC, dI)) (ci := 2) (v := .ref q2) (ty := .array (.object "Windlane$Borrower")) (C := RX2) (T := TX2) (N := 9) hx hb hts hi2 tyX2 tyX2_ok nmX2 hown hK hP hD hS 0 rfl rfl 2 (by decide) lk17 (fun _ h9 => h9) rfl hin rfl (by decide +kernel) rfl rfl (Nat.le_of_ble_eq_true rfl) dX2_init_19 (fun H locs hP hD hS => ?_)
  refine lv_aload_n hx hb dX2_init_22 rfl (lv_at hl 0 rfl) ?_
  refine lv_bipush (v := 10) hx hb dX2_init_23 (by decide) ?_
  refine va_newq hx hb hown (hts (.classLink RX2 9 RX1) (by decide +kernel)) hO1 hK hP hD hS hA (N' := 10) (by decide) rfl (by decide) (Nat.le_of_ble_eq_true rfl) (Nat.le_of_ble_eq_true rfl) dX2_init_25 (fun q3 t3 H hK hP hD hS => ?_)
  refine va_putF (D := (dC, dI)) (ci := 2) (v := .ref q3) (ty := .array (.object "Windlane$Kite")) (C := RX2) (T := TX2) (N := 9) hx hb hts hi2 tyX2 tyX2_ok nmX2 hown hK hP hD hS 0 rfl rfl 4 (by decide) lk21 (fun _ h9 => h9) rfl hin rfl (by decide +kernel) rfl rfl (Nat.le_of_ble_eq_true rfl) dX2_init_28 (fun H locs hP hD hS => ?_)
  have e13 : t1 = t3 := RA_one (hK.2 0 _ rfl).2 (hK.2 2 _ rfl).2
  subst e13
  have hP : va_P (dC, dI) vwCl (cW t1 t2 h q1 q2 q3 (fun _ => 0) (fun _ => 0) 0 0 F00) H := by show va_P _ _ (_ :: (q1, .inl (t1, 8, .inr (.inr (.inr (.inr (kF _ 0)))))) :: (q2, .inl (t2, 8, .inr (.inr (.inr (.inr (kF _ 0)))))) :: (q3, .inl (t1, 10, .inr (.inr (.inr (.inr (lF _ (flF F00 0))))))) :: []) _; rw [← kF_0, ← lF_0]; exact hP
  have hD : va_D A (cW t1 t2 h q1 q2 q3 (fun _ => 0) (fun _ => 0) 0 0 F00) := by show va_D _ (_ :: (q1, .inl (t1, 8, .inr (.inr (.inr (.inr (kF _ 0)))))) :: (q2, .inl (t2, 8, .inr (.inr (.inr (.inr (kF _ 0)))))) :: (q3, .inl (t1, 10, .inr (.inr (.inr (.inr (lF _ (flF F00 0))))))) :: []) ; rw [← kF_0, ← lF_0]; exact hD
  have hK2 := hK.sub (tys' := cTys t1 t2) [0, 1] rfl
  exact W.vret hx hb hr (fun t ht hW => ⟨⟨(t1, t2, q1, q2, q3), rfl, trivial, va_K.moved hW.alike hK2, by show va_P _ _ _ t.heap; rw [ht]; exact hP, hD⟩, hS.F ht⟩) hS.2.2 dX2_init_31
