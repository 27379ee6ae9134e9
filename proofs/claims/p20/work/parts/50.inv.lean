/-! ===== what holds between calls goes on to hold ===== -/
theorem nc_of {F F' : Rows} {n n' : Nat} (h : ∀ l a, l < 10 → lk (F' 6) n' (nI l) = some a → lk (F 6) n (nI l) = some a ∧ ed F' a = ed F a) (hn : ∀ l h, l < h → h < 10 → ¬ crs F n l h) : ∀ l h, l < h → h < 10 → ¬ crs F' n' l h := by
  rintro l m hl hm ⟨a, b, h1, h2, h3⟩
  obtain ⟨g1, e1⟩ := h l a (by omega) h1
  obtain ⟨g2, e2⟩ := h m b hm h2
  exact hn l m hl hm ⟨a, b, g1, g2, by rw [← e1, ← e2]; exact h3⟩
theorem three_of {x : Int32} (h : 0 ≤ x ∧ x ≤ 2) : x = 0 ∨ x = 1 ∨ x = 2 := by
  obtain ⟨k, hk, rfl⟩ := inR_of (n := 3) (win_inR h (by decide) (by decide))
  obtain rfl | rfl | rfl : k = 0 ∨ k = 1 ∨ k = 2 := by omega
  · exact Or.inl rfl
  · exact Or.inr (Or.inl rfl)
  · exact Or.inr (Or.inr rfl)
theorem uq_out {n k : Nat} {g : Nat → Int32} (h : uq n g) : uq n (upd g k (-1)) := by
  intro a b ha hb e q
  rw [upd_at] at e q
  split at e
  · rename_i z; rw [if_pos z] at q; exact absurd rfl q
  · rename_i z
    rw [if_neg z] at q
    rw [upd_at] at e
    split at e
    · exact absurd e q
    · exact h a b ha hb e q
theorem uq_in {n k : Nat} {g : Nat → Int32} {v : Int32} (h : uq n g) (hf : lk g n v = none) : uq n (upd g k v) := by
  intro a b ha hb e q
  rw [upd_at, upd_at] at e
  rw [upd_at] at q
  split at e
  · split at e
    · omega
    · exact absurd e.symm (lk_none.mp hf b hb)
  · rename_i z
    rw [if_neg z] at q
    split at e
    · exact absurd e (lk_none.mp hf a ha)
    · exact h a b ha hb e q
theorem uq_new {n : Nat} {g : Nat → Int32} (h : uq n g) : uq (n + 1) (upd g n (-1)) := by
  intro a b ha hb e q
  rw [upd_at] at e q
  split at e
  · rename_i z; rw [if_pos z] at q; exact absurd rfl q
  · rename_i z
    rw [if_neg z] at q
    rw [upd_at] at e
    split at e
    · exact absurd e q
    · exact h a b (by omega) (by omega) e q
theorem I_start : Inv 0 0 F00 := by
  refine ⟨⟨by omega, by omega⟩, fun k hk => absurd hk (Nat.not_lt_zero k), fun k _ => ⟨rfl, rfl, rfl⟩, ⟨fun a b ha => absurd ha (Nat.not_lt_zero a), fun a b ha => absurd ha (Nat.not_lt_zero a)⟩, ⟨by decide, Or.inl rfl⟩, ?_⟩
  rintro l h - - ⟨a, b, q, -⟩
  cases q
/-- a kite is new -/
theorem I_kite {n p : Nat} {F : Rows} (hI : Inv n p F) (kd ar wt : Int32) : Inv (S_kite n F kd ar wt).2.2.1 p (S_kite n F kd ar wt).2.2.2 := by
  unfold S_kite
  split
  · rename_i hg
    obtain ⟨g1, g2, g3⟩ := hg
    split
    · exact hI
    · rename_i hn
      obtain ⟨⟨hn8, hp8⟩, hk, hz, ⟨hu5, hu6⟩, hs, hc⟩ := hI
      show Inv (n + 1) p (nwF n F kd ar wt)
      refine ⟨⟨by omega, hp8⟩, fun k hk1 => ?_, fun k hk1 => hz k (by omega), ⟨uq_new hu5, uq_new hu6⟩, hs, ?_⟩
      · by_cases e : k = n
        · subst e
          have a0 : nwF k F kd ar wt 0 k = kd := upd_s _ _ _
          have a1 : nwF k F kd ar wt 1 k = ar := upd_s _ _ _
          have a2 : nwF k F kd ar wt 2 k = wt := upd_s _ _ _
          have a5 : nwF k F kd ar wt 5 k = -1 := upd_s _ _ _
          have a6 : nwF k F kd ar wt 6 k = -1 := upd_s _ _ _
          refine ⟨by rw [a0]; exact three_of g1, by rw [a1]; exact g2, by rw [a2]; exact ⟨g3.1, by have h1 := g3.2; rw [i32_le] at h1 ⊢; have c1 : (20 : Int32).toInt = 20 := (by decide); have c2 : (40 : Int32).toInt = 40 := (by decide); omega⟩, Or.inl (hz k (Nat.le_refl k)).1, ⟨0, by omega, (hz k (Nat.le_refl k)).2.1⟩, Or.inl a5, Or.inl a6, fun q => absurd a6 q⟩
        · have hkn : k < n := by omega
          have a0 : nwF n F kd ar wt 0 k = F 0 k := upd_n _ e
          have a1 : nwF n F kd ar wt 1 k = F 1 k := upd_n _ e
          have a2 : nwF n F kd ar wt 2 k = F 2 k := upd_n _ e
          have a5 : nwF n F kd ar wt 5 k = F 5 k := upd_n _ e
          have a6 : nwF n F kd ar wt 6 k = F 6 k := upd_n _ e
          obtain ⟨b0, b1, b2, b3, b4, b5, b6, b7⟩ := hk k hkn
          refine ⟨by rw [a0]; exact b0, by rw [a1]; exact b1, by rw [a2]; exact b2, b3, b4, by rw [a5]; exact b5, by rw [a6]; exact b6, fun q => ?_⟩
          rw [a6] at q
          obtain ⟨c1, c2, c3⟩ := b7 q
          refine ⟨c1, by rw [a5]; exact c2, ?_⟩
          have ep : pl (nwF n F kd ar wt) k (nwF n F kd ar wt 9 0) = pl F k (F 9 0) := by
            show lift (nwF n F kd ar wt 0 k) (nwF n F kd ar wt 1 k) (F 9 0) - 100 * nwF n F kd ar wt 2 k = _
            rw [a0, a1, a2]; rfl
          unfold held
          rw [ep]; exact c3
      · refine nc_of (fun l a hl ha => ?_) hc
        have h1 : lk (nwF n F kd ar wt 6) (n + 1) (nI l) = lk (F 6) n (nI l) := lk_new (nI_m1 (by omega))
        rw [h1] at ha
        refine ⟨ha, ?_⟩
        have e : a ≠ n := by have := (lk_some ha).1; omega
        have a0 : nwF n F kd ar wt 0 a = F 0 a := upd_n _ e
        have a1 : nwF n F kd ar wt 1 a = F 1 a := upd_n _ e
        have a2 : nwF n F kd ar wt 2 a = F 2 a := upd_n _ e
        have a6 : nwF n F kd ar wt 6 a = F 6 a := upd_n _ e
        show 100 * nwF n F kd ar wt 6 a + F 9 1 * F 7 a * 1000 / (1000 + (lift (nwF n F kd ar wt 0 a) (nwF n F kd ar wt 1 a) (F 9 0) - 100 * nwF n F kd ar wt 2 a)) = _
        rw [a0, a1, a2, a6]; rfl
  · exact hI
theorem I_patch {n p : Nat} {F : Rows} (hI : Inv n p F) (its : Int32) : Inv n p (S_patch n F its).2.2 := by
  rcases inR_cases n its with ⟨k, hkn, rfl⟩ | hno
  · have hn8 := hI.1.1
    rw [S_patch, ix_t hkn (by omega)]
    show Inv n p (if ¬ F 3 k = 0 ∧ F 2 k + 2 ≤ 40 then ((0 : Int32), F 2 k + 2, up (up F 3 k 0) 2 k (F 2 k + 2)) else (2, 0, F)).2.2
    split
    · rename_i hg
      obtain ⟨g1, g2⟩ := hg
      obtain ⟨hnp, hk, hz, hu, hs, hc⟩ := hI
      have hk6 : F 6 k = -1 := Decidable.byContradiction (fun q => g1 ((hk k hkn).2.2.2.2.2.2.2 q).1)
      show Inv n p (up (up F 3 k 0) 2 k (F 2 k + 2))
      have e2 : ∀ j, j ≠ k → up (up F 3 k 0) 2 k (F 2 k + 2) 2 j = F 2 j := fun j hj => up_sn (F := up F 3 k 0) _ hj
      have e3 : ∀ j, j ≠ k → up (up F 3 k 0) 2 k (F 2 k + 2) 3 j = F 3 j := fun j hj => up_sn (F := F) (i := 3) _ hj
      have s2 : up (up F 3 k 0) 2 k (F 2 k + 2) 2 k = F 2 k + 2 := up_ss _ _ _ _
      have s3 : up (up F 3 k 0) 2 k (F 2 k + 2) 3 k = 0 := up_ss F 3 k 0
      have ep : ∀ j, j ≠ k → pl (up (up F 3 k 0) 2 k (F 2 k + 2)) j (F 9 0) = pl F j (F 9 0) := fun j hj => by
        show lift (F 0 j) (F 1 j) (F 9 0) - 100 * up (up F 3 k 0) 2 k (F 2 k + 2) 2 j = _
        rw [e2 j hj]; rfl
      refine ⟨hnp, fun j hj => ?_, fun j hj => ?_, hu, hs, nc_of (F := F) (n := n) (fun l a hl ha => ⟨ha, ?_⟩) hc⟩
      · obtain ⟨b0, b1, b2, b3, b4, b5, b6, b7⟩ := hk j hj
        by_cases e : j = k
        · subst e
          suffices hw : 1 ≤ F 2 j + 2 from ⟨b0, b1, by rw [s2]; exact ⟨hw, g2⟩, Or.inl s3, b4, b5, b6, fun q => absurd hk6 q⟩
          have h1 := b2.1
          have h2 := b2.2
          rw [i32_le] at h1 h2 ⊢
          have c1 : (1 : Int32).toInt = 1 := by decide
          have c2 : (2 : Int32).toInt = 2 := by decide
          have c40 : (40 : Int32).toInt = 40 := by decide
          rw [i32_add (by omega) (by omega)]
          omega
        · refine ⟨b0, b1, by rw [e2 j e]; exact b2, by rw [e3 j e]; exact b3, b4, b5, b6, fun q => ?_⟩
          obtain ⟨c1, c2, c3⟩ := b7 q
          refine ⟨by rw [e3 j e]; exact c1, c2, ?_⟩
          show 100 ≤ pl _ j (F 9 0) ∧ pl _ j (F 9 0) ≤ 6000
          rw [ep j e]; exact c3
      · have e : j ≠ k := by omega
        rw [e3 j e]; exact hz j hj
      · have e : a ≠ k := by
          rintro rfl
          have h1 := (lk_some ha).2
          exact nI_m1 (k := l) (by omega) (h1.symm.trans hk6)
        show 100 * F 6 a + F 9 1 * F 7 a * 1000 / (1000 + pl (up (up F 3 k 0) 2 k (F 2 k + 2)) a (F 9 0)) = _
        rw [ep a e]; rfl
    · exact hI
  · rw [S_patch, ix_f hno]; exact hI
theorem I_borrower {n p : Nat} {F : Rows} (hI : Inv n p F) (sk : Int32) : Inv n (S_borrower p F sk).2.2.1 (S_borrower p F sk).2.2.2 := by
  unfold S_borrower
  split
  · split
    · exact hI
    · obtain ⟨⟨hn8, hp8⟩, hk, hz, hu, hs, hc⟩ := hI
      refine ⟨⟨hn8, by show p + 1 ≤ 8; omega⟩, fun k hk1 => ?_, hz, hu, hs, hc⟩
      obtain ⟨b0, b1, b2, b3, b4, b5, b6, b7⟩ := hk k hk1
      exact ⟨b0, b1, b2, b3, b4, b5.imp id (fun q => by obtain ⟨j, hj, q⟩ := q; exact ⟨j, by show j < p + 1; omega, q⟩), b6, b7⟩
  · exact hI
theorem I_lend {n p : Nat} {F : Rows} (hI : Inv n p F) (its b : Int32) : Inv n p (S_lend n p F its b).2 := by
  have hn8 := hI.1.1
  have hp8 := hI.1.2
  rcases inR_cases n its with ⟨k, hkn, rfl⟩ | hno
  · rcases inR_cases p b with ⟨j, hjp, rfl⟩ | hno
    · simp only [S_lend, ix_t hkn (show n < 2147483648 by omega), ix_t hjp (show p < 2147483648 by omega)]
      split
      · rename_i hg
        obtain ⟨g1, g2, g3, g4, g5⟩ := hg
        obtain ⟨hnp, hk, hz, ⟨hu5, hu6⟩, hs, hc⟩ := hI
        show Inv n p (up F 5 k (nI j))
        refine ⟨hnp, fun i hi => ?_, hz, ⟨uq_in hu5 g4, hu6⟩, hs, hc⟩
        obtain ⟨b0, b1, b2, b3, b4, b5, b6, b7⟩ := hk i hi
        by_cases e : i = k
        · subst e
          exact ⟨b0, b1, b2, b3, b4, Or.inr ⟨j, hjp, up_ss _ _ _ _⟩, b6, fun q => absurd g1 (b7 q).2.1⟩
        · have e5 : up F 5 k (nI j) 5 i = F 5 i := up_sn (F := F) _ e
          exact ⟨b0, b1, b2, b3, b4, by rw [e5]; exact b5, b6, fun q => ⟨(b7 q).1, by rw [e5]; exact (b7 q).2.1, (b7 q).2.2⟩⟩
      · exact hI
    · simp only [S_lend, ix_t hkn (show n < 2147483648 by omega), ix_f hno]; exact hI
  · simp only [S_lend, ix_f hno]; exact hI
theorem I_giveBack {n p : Nat} {F : Rows} (hI : Inv n p F) (b : Int32) : Inv n p (S_giveBack n p F b).2.2 := by
  have hn8 := hI.1.1
  have hp8 := hI.1.2
  rcases inR_cases p b with ⟨j, hjp, rfl⟩ | hno
  · simp only [S_giveBack, ix_t hjp (show p < 2147483648 by omega)]
    cases hlk : lk (F 5) n (nI j) with
    | none => exact hI
    | some k =>
      show Inv n p (if F 6 k = -1 then ((0 : Int32), nI k, up F 5 k (-1)) else (2, 0, F)).2.2
      split
      · rename_i hg
        obtain ⟨hnp, hk, hz, ⟨hu5, hu6⟩, hs, hc⟩ := hI
        show Inv n p (up F 5 k (-1))
        refine ⟨hnp, fun i hi => ?_, hz, ⟨uq_out hu5, hu6⟩, hs, hc⟩
        obtain ⟨b0, b1, b2, b3, b4, b5, b6, b7⟩ := hk i hi
        by_cases e : i = k
        · subst e
          exact ⟨b0, b1, b2, b3, b4, Or.inl (up_ss _ _ _ _), b6, fun q => absurd hg q⟩
        · have e5 : up F 5 k (-1) 5 i = F 5 i := up_sn (F := F) _ e
          exact ⟨b0, b1, b2, b3, b4, by rw [e5]; exact b5, b6, fun q => ⟨(b7 q).1, by rw [e5]; exact (b7 q).2.1, (b7 q).2.2⟩⟩
      · exact hI
  · simp only [S_giveBack, ix_f hno]; exact hI
theorem I_fly {n p : Nat} {F : Rows} (hI : Inv n p F) (its ln len : Int32) : Inv n p (S_fly n F its ln len).2.2 := by
  have hn8 := hI.1.1
  rcases inR_cases n its with ⟨k, hkn, rfl⟩ | hno
  · rcases inR_cases 10 ln with ⟨l, hl10, rfl⟩ | hno
    · simp only [S_fly, ix_t hkn (show n < 2147483648 by omega), ix_t hl10 (show (10 : Nat) < 2147483648 by omega)]
      split
      · split
        · rename_i hg
          obtain ⟨g1, g2, g3, g4, g5, g6⟩ := hg
          obtain ⟨hnp, hk, hz, ⟨hu5, hu6⟩, hs, hc⟩ := hI
          show Inv n p (up (up F 6 k (nI l)) 7 k len)
          have s6 : up (up F 6 k (nI l)) 7 k len 6 k = nI l := up_ss F 6 k (nI l)
          have s7 : up (up F 6 k (nI l)) 7 k len 7 k = len := up_ss _ _ _ _
          have n6 : ∀ j, j ≠ k → up (up F 6 k (nI l)) 7 k len 6 j = F 6 j := fun j hj => up_sn (F := F) (i := 6) _ hj
          have n7 : ∀ j, j ≠ k → up (up F 6 k (nI l)) 7 k len 7 j = F 7 j := fun j hj => up_sn (F := up F 6 k (nI l)) _ hj
          have hed : ∀ j, j ≠ k → ed (up (up F 6 k (nI l)) 7 k len) j = ed F j := fun j hj => by
            show 100 * up (up F 6 k (nI l)) 7 k len 6 j + F 9 1 * up (up F 6 k (nI l)) 7 k len 7 j * 1000 / (1000 + pl F j (F 9 0)) = _
            rw [n6 j hj, n7 j hj]; rfl
          have hedk : ed (up (up F 6 k (nI l)) 7 k len) k = en F k (nI l) len := ed_new
          refine ⟨hnp, fun i hi => ?_, fun j hj => ?_, ⟨hu5, uq_in hu6 g5⟩, hs, ?_⟩
          · obtain ⟨b0, b1, b2, b3, b4, b5, b6, b7⟩ := hk i hi
            by_cases e : i = k
            · subst e
              exact ⟨b0, b1, b2, b3, b4, b5, Or.inr ⟨l, hl10, s6⟩, fun _ => ⟨g2, g1, g4⟩⟩
            · exact ⟨b0, b1, b2, b3, b4, b5, by rw [n6 i e]; exact b6, fun q => b7 (by rw [n6 i e] at q; exact q)⟩
          · have e : j ≠ k := by omega
            rw [n7 j e]; exact hz j hj
          · rintro l1 h1 hl1 hh1 ⟨a, b, q1, q2, q3⟩
            have hat : ∀ m, m < 10 → m ≠ l → lk (up (up F 6 k (nI l)) 7 k len 6) n (nI m) = lk (F 6) n (nI m) := fun m hm hml => by
              show lk (up F 6 k (nI l) 6) n (nI m) = _
              rw [up_r]
              exact lk_take_ne g3 (nI_m1 (by omega)) (fun z => hml (nI_inj (by omega) (by omega) z))
            have hal : lk (up (up F 6 k (nI l)) 7 k len 6) n (nI l) = some k := by
              show lk (up F 6 k (nI l) 6) n (nI l) = _
              rw [up_r]
              exact lk_take hkn g5
            have nek : ∀ m x, lk (F 6) n (nI m) = some x → m < 10 → x ≠ k := fun m x hx hm z => by
              rw [z] at hx
              have := (lk_some hx).2
              exact nI_m1 (k := m) (by omega) (this.symm.trans g3)
            by_cases e1 : l1 = l
            · subst e1
              rw [hal] at q1
              cases q1
              rw [hat h1 hh1 (by omega)] at q2
              have hb := nek h1 b q2 hh1
              rw [hedk, hed b hb] at q3
              obtain ⟨hbn, hb6⟩ := lk_some q2
              refine (g6 b hbn).2 ⟨by rw [hb6]; exact nI_m1 (by omega), ?_, q3⟩
              rw [hb6, i32_lt, nI_toInt (by omega), nI_toInt (by omega)]
              omega
            · rw [hat l1 (by omega) e1] at q1
              have ha := nek l1 a q1 (by omega)
              by_cases e2 : h1 = l
              · subst e2
                rw [hal] at q2
                cases q2
                rw [hedk, hed a ha] at q3
                obtain ⟨han, ha6⟩ := lk_some q1
                refine (g6 a han).1 ⟨by rw [ha6]; exact nI_m1 (by omega), ?_, q3⟩
                rw [ha6, i32_lt, nI_toInt (by omega), nI_toInt (by omega)]
                omega
              · rw [hat h1 hh1 e2] at q2
                have hb := nek h1 b q2 hh1
                rw [hed a ha, hed b hb] at q3
                exact hc l1 h1 hl1 hh1 ⟨a, b, q1, q2, q3⟩
        · exact hI
      · exact hI
    · simp only [S_fly, ix_t hkn (show n < 2147483648 by omega), ix_f hno]; exact hI
  · simp only [S_fly, ix_f hno]; exact hI
/-- a line less -/
theorem nc_dn {F : Rows} {n k : Nat} {F' : Rows} (h6 : F' 6 = upd (F 6) k (-1)) (he : ∀ j, j ≠ k → ed F' j = ed F j) (hc : ∀ l h, l < h → h < 10 → ¬ crs F n l h) (hk : k < n) (hu : uq n (F 6)) : ∀ l h, l < h → h < 10 → ¬ crs F' n l h := by
  refine nc_of (fun l a hl ha => ?_) hc
  rw [h6] at ha
  by_cases e : F 6 k = nI l
  · rw [lk_drop (nI_m1 (by omega)) e (fun j hj q => hu j k hj hk (q.trans e.symm) (by rw [q]; exact nI_m1 (by omega)))] at ha
    cases ha
  · have ha2 := ha
    rw [lk_drop_ne (v := F 6 k) rfl (nI_m1 (by omega)) (fun q => e q.symm)] at ha
    refine ⟨ha, he a ?_⟩
    rintro rfl
    exact e (lk_some ha).2
theorem I_land {n p : Nat} {F : Rows} (hI : Inv n p F) (its : Int32) : Inv n p (S_land n F its).2.2 := by
  have hn8 := hI.1.1
  rcases inR_cases n its with ⟨k, hkn, rfl⟩ | hno
  · simp only [S_land, ix_t hkn (show n < 2147483648 by omega)]
    split
    · exact hI
    · obtain ⟨hnp, hk, hz, ⟨hu5, hu6⟩, hs, hc⟩ := hI
      show Inv n p (up F 6 k (-1))
      have n6 : ∀ j, j ≠ k → up F 6 k (-1) 6 j = F 6 j := fun j hj => up_sn (F := F) (i := 6) _ hj
      refine ⟨hnp, fun i hi => ?_, hz, ⟨hu5, uq_out hu6⟩, hs, nc_dn (up_r F 6 k (-1)) (fun j hj => ?_) hc hkn hu6⟩
      · obtain ⟨b0, b1, b2, b3, b4, b5, b6, b7⟩ := hk i hi
        by_cases e : i = k
        · subst e
          exact ⟨b0, b1, b2, b3, b4, b5, Or.inl (up_ss _ _ _ _), fun q => absurd (up_ss _ _ _ _) q⟩
        · exact ⟨b0, b1, b2, b3, b4, b5, by rw [n6 i e]; exact b6, fun q => b7 (by rw [n6 i e] at q; exact q)⟩
      · show 100 * up F 6 k (-1) 6 j + F 9 1 * F 7 j * 1000 / (1000 + pl F j (F 9 0)) = _
        rw [n6 j hj]; rfl
  · simp only [S_land, ix_f hno]; exact hI
/-! the wind -/
def kJ (p : Nat) (F : Rows) (k : Nat) : Prop := (F 0 k = 0 ∨ F 0 k = 1 ∨ F 0 k = 2) ∧ (1 ≤ F 1 k ∧ F 1 k ≤ 20) ∧ (1 ≤ F 2 k ∧ F 2 k ≤ 40) ∧ (F 3 k = 0 ∨ F 3 k = 1) ∧ (∃ w, w ≤ 6 ∧ F 4 k = nI w) ∧ (F 5 k = -1 ∨ ∃ j, j < p ∧ F 5 k = nI j) ∧ (F 6 k = -1 ∨ ∃ l, l < 10 ∧ F 6 k = nI l) ∧ (¬ F 6 k = -1 → F 3 k = 0 ∧ ¬ F 5 k = -1)
def Jn (n p : Nat) (F : Rows) : Prop := (n ≤ 8 ∧ p ≤ 8) ∧ (∀ k, k < n → kJ p F k) ∧ (∀ k, n ≤ k → F 3 k = 0 ∧ F 4 k = 0 ∧ F 7 k = 0) ∧ (uq n (F 5) ∧ uq n (F 6)) ∧ ((0 ≤ F 9 0 ∧ F 9 0 ≤ 30) ∧ (F 9 2 = 0 ∨ F 9 2 = 1))
theorem J_of {n p : Nat} {F : Rows} (hJ : Jn n p F) (hh : ∀ k, k < n → ¬ F 6 k = -1 → held F k (F 9 0)) (hc : ∀ l h, l < h → h < 10 → ¬ crs F n l h) : Inv n p F := by
  obtain ⟨hnp, hk, hz, hu, hs⟩ := hJ
  refine ⟨hnp, fun k hkn => ?_, hz, hu, hs, hc⟩
  obtain ⟨b0, b1, b2, b3, b4, b5, b6, b7⟩ := hk k hkn
  exact ⟨b0, b1, b2, b3, b4, b5, b6, fun q => ⟨(b7 q).1, (b7 q).2, hh k hkn q⟩⟩
theorem I_Jw {n p : Nat} {F : Rows} (hI : Inv n p F) {sp sd : Int32} (hs : 0 ≤ sp ∧ sp ≤ 30) : Jn n p (up (up F 9 0 sp) 9 1 sd) := by
  obtain ⟨hnp, hk, hz, hu, hs0, hc⟩ := hI
  refine ⟨hnp, fun k hkn => ?_, hz, hu, hs, hs0.2⟩
  obtain ⟨b0, b1, b2, b3, b4, b5, b6, b7⟩ := hk k hkn
  exact ⟨b0, b1, b2, b3, b4, b5, b6, fun q => ⟨(b7 q).1, (b7 q).2.1⟩⟩
theorem J_uh {n p : Nat} {F : Rows} (hJ : Jn n p F) : Jn n p (uh F n) := by
  obtain ⟨hnp, hk, hz, ⟨hu5, hu6⟩, hs⟩ := hJ
  have e6 : ∀ j, uh F n 6 j = if (decide (j < n) && unh F j) then -1 else F 6 j := fun j => rfl
  have e3 : ∀ j, uh F n 3 j = if (decide (j < n) && unh F j) then bi (6000 < pl F j (F 9 0)) else F 3 j := fun j => rfl
  refine ⟨hnp, fun k hkn => ?_, fun k hkn => ?_, ⟨hu5, mvd_uq hu6⟩, hs⟩
  · obtain ⟨b0, b1, b2, b3, b4, b5, b6, b7⟩ := hk k hkn
    refine ⟨b0, b1, b2, ?_, b4, b5, ?_, fun q => ?_⟩
    · rw [e3]
      split
      · exact bi_01 _
      · exact b3
    · rw [e6]
      split
      · exact Or.inl rfl
      · exact b6
    · rw [e6] at q
      split at q
      · exact absurd rfl q
      · rename_i z
        exact ⟨by rw [e3, if_neg z]; exact (b7 q).1, (b7 q).2⟩
  · rw [e3, decide_eq_false (by omega)]
    exact hz k hkn
theorem J_dn {n p : Nat} {F : Rows} (hJ : Jn n p F) (k : Nat) : Jn n p (dn F k) := by
  obtain ⟨hnp, hk, hz, ⟨hu5, hu6⟩, hs⟩ := hJ
  have e6 : ∀ j, dn F k 6 j = if j = k then -1 else F 6 j := fun j => dn_6 F k j
  refine ⟨hnp, fun i hi => ?_, hz, ⟨hu5, ?_⟩, hs⟩
  · obtain ⟨b0, b1, b2, b3, b4, b5, b6, b7⟩ := hk i hi
    refine ⟨b0, b1, b2, b3, b4, b5, ?_, fun q => ?_⟩
    · rw [e6]
      split
      · exact Or.inl rfl
      · exact b6
    · rw [e6] at q
      split at q
      · exact absurd rfl q
      · exact b7 q
  · have : dn F k 6 = upd (F 6) k (-1) := up_r F 6 k (-1)
    rw [this]; exact uq_out hu6
theorem J_stl {n p : Nat} : ∀ {m : Nat} {F : Rows}, Jn n p F → Jn n p (stl n m F)
  | 0, F, h => h
  | m + 1, F, h => by
    cases hc : cK F n with
    | none => rw [stl_none hc]; exact h
    | some k => rw [stl_some hc]; exact J_stl (J_dn h k)
theorem I_wind {n p : Nat} {F : Rows} (hI : Inv n p F) (sp sd : Int32) : Inv n p (S_wind n F sp sd).2.2 := by
  unfold S_wind
  split
  · rename_i hg
    have hJ := J_uh (I_Jw hI (sd := sd) hg.1)
    have hF : HF n (uh (up (up F 9 0 sp) 9 1 sd) n) := uh_HF hI.1.1 hI.kd hI.2.2.2.1.2 hI.lr
    have hn8 := hI.1.1
    refine J_of (J_stl (m := 10) hJ) (stl_HF hF).2.2.1 (fun l h hl hh => ?_)
    have e := stl_end (m := 10) hF (Nat.le_trans (cnt_le _ n) (by omega))
    have sc := cK_spec (stl n 10 (uh (up (up F 9 0 sp) 9 1 sd) n)) n
    rw [e] at sc
    exact sc l h hl hh
  · exact hI
theorem I_pass {n p : Nat} {F : Rows} (hI : Inv n p F) (hs : Int32) : Inv n p (S_pass n F hs).2.2 := by
  unfold S_pass
  split
  · rename_i hg
    obtain ⟨m, hm, rfl⟩ := inR_of (win_inR (n := 25) hg (by decide) (by decide))
    obtain ⟨hnp, hk, hz, hu, hs0, hc⟩ := hI
    have e4 : ∀ j, wetF F n (nI m) 4 j = if j < n then wetv F (nI m) j else F 4 j := fun j => rfl
    refine ⟨hnp, fun i hi => ?_, fun i hi => ?_, hu, hs0, hc⟩
    · obtain ⟨b0, b1, b2, b3, ⟨w, hw, b4⟩, b5, b6, b7⟩ := hk i hi
      refine ⟨b0, b1, b2, b3, ?_, b5, b6, b7⟩
      show ∃ w, w ≤ 6 ∧ wetF F n (nI m) 4 i = nI w
      rw [e4, if_pos hi]
      unfold wetv
      split
      · exact ⟨6, by omega, rfl⟩
      · split
        · rename_i q
          rw [b4, i32_lt, nI_toInt (by omega), nI_toInt (by omega)] at q
          exact ⟨w - m, by omega, by rw [b4]; exact nI_sub (by omega) (by omega)⟩
        · exact ⟨0, by omega, rfl⟩
    · show wetF F n (nI m) 3 i = 0 ∧ wetF F n (nI m) 4 i = 0 ∧ wetF F n (nI m) 7 i = 0
      rw [e4, if_neg (by omega)]
      exact hz i hi
  · exact hI
theorem I_rain {n p : Nat} {F : Rows} (hI : Inv n p F) {b : Int32} (hb : b = 0 ∨ b = 1) : Inv n p (up F 9 2 b) := by
  obtain ⟨hnp, hk, hz, hu, hs0, hc⟩ := hI
  exact ⟨hnp, hk, hz, hu, ⟨hs0.1, hb⟩, hc⟩
