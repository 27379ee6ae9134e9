/-! ===== the law's world, its loop ===== -/
abbrev lWd (tK tB cI cZ cJ : ClassId) (h ak ab af o r : Nat) (a : Nat → Nat) (ka kb : Nat → Nat) (n p : Nat) (F : Rows) (th : Int32) (f : Nat → Int64) : va_W := (cW tK tB h ak ab af ka kb n p F ++ oC1 cJ o f) ++ rW cI cZ r a th n p F
abbrev lTy (tK tB cI cZ cJ : ClassId) : List (ClassId × FieldType) := [(tK, .object "Windlane$Kite"), (tB, .object "Windlane$Borrower"), (cJ, .long), (cI, .int), (cZ, .boolean)]
def lA (s : State) : Nat → Prop := fun q => s.heap.size ≤ q
theorem mid_at {α : Type} (ws : List α) (x : α) (w2 : List α) : ((ws ++ [x]) ++ w2)[ws.length]? = some x := by
  rw [List.getElem?_append_left (by simp)]; simp
theorem lg_same (x : Int64) : lg_cmp x x = 0 := by simp [lg_cmp]
section LU
variable {p9 : Program} {l : Launch} {e : Env} {R : Room} {s : State} {m : MethodId} {args : Array Value} {below : List Frame} {meth : Method} {c : Code} {H : Heap} {locs : List Loc} {cells slots : Nat} {Q : State → Prop}
variable {cc : ByteArray} {pc : Nat} {ls : Array Slot} {rest : List Value}
theorem my_sld {A : Nat → Prop} {H0 : Heap} (hexec : p9.tables.exec = Jvm.exec) (hb : c.code = cc) {b L : Nat} {xs : Nat → Int32} (hX : va_X b L xs s H0) (hbl : b < H0.size) (hbA : ¬ A b) (hS : va_S A H0 H locs) {k : Nat} (hk : k < L) (hL : L < 2147483648) (hdg : decode cc pc = .ok (.iaload, 1))
    (kk : W p9 l e R s m args below meth c H locs cells slots Q (F0 m (pc + 1) ls (.int (xs k) :: rest))) : W p9 l e R s m args below meth c H locs cells slots Q (F0 m pc ls (.int (nI k) :: .ref b :: rest)) := by
  refine va_sld hexec hb hX hbl hbA hS (vp_in_nI hk hL) hdg ?_
  rw [nI_clamp (Nat.lt_trans hk hL)]
  exact kk
/-- a loop that makes things: what it has made by the j-th turn is counted -/
theorem W_loopC {nL : Nat} (L : Nat → List (Nat × Value)) (I : Nat → Heap → List Loc → Prop) (cs ss : Nat → Nat) (N : Nat)
    (step : ∀ (j : Nat) (H : Heap) (locs : List Loc) (ls : Array Slot), j ≤ N → I j H locs → lv_has ls nL (L j) → (∀ (H' : Heap) (locs' : List Loc) (ls' : Array Slot), j < N → I (j + 1) H' locs' → lv_has ls' nL (L (j + 1)) → W p9 l e R s m args below meth c H' locs' (cs (j + 1)) (ss (j + 1)) Q (F0 m pc ls' [])) → W p9 l e R s m args below meth c H locs (cs j) (ss j) Q (F0 m pc ls []))
    (j : Nat) {H : Heap} {locs : List Loc} {ls : Array Slot} (hj : j ≤ N) (h : I j H locs) (hl : lv_has ls nL (L j)) : W p9 l e R s m args below meth c H locs (cs j) (ss j) Q (F0 m pc ls []) := by
  obtain ⟨k, hk⟩ : ∃ k, k = N - j := ⟨_, rfl⟩
  induction k generalizing j H locs ls with
  | zero => exact step j H locs ls hj h hl (fun _ _ _ q => by omega)
  | succ k ih => exact step j H locs ls hj h hl (fun H' locs' ls' q h' hl' => ih (j + 1) (by omega) h' hl' (by omega))
end LU
