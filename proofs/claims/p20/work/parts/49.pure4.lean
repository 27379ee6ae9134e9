theorem hc_eq {n : Nat} (h8 : n ≤ 8) (h : nI n = 8) : n = 8 := nI_inj (by omega) (by omega) h
theorem lk_oI {g : Nat → Int32} {n : Nat} {v : Int32} (h8 : n ≤ 8) : oI (lk g n v) = -1 ↔ lk g n v = none := oI_m1 (fun k hk => by have := (lk_some hk).1; omega)
theorem ed_new {F : Rows} {k : Nat} {ln len : Int32} : ed (up (up F 6 k ln) 7 k len) k = en F k ln len := by
  show en F k (up F 6 k ln 6 k) (up (up F 6 k ln) 7 k len 7 k) = _
  rw [up_ss, up_ss]
