theorem st_rg (x : Int32) : (1 ≤ x - 10 ∧ x - 10 < 8) ↔ (11 ≤ x ∧ x ≤ 17) := by
  have e : (x - 10).toInt = (x.toInt - 10).bmod (2 ^ 32) := Int32.toInt_sub x 10
  have h1 := Int32.toInt_lt x
  have h2 := Int32.le_toInt x
  have e1 : (1 : Int32).toInt = 1 := rfl
  have e8 : (8 : Int32).toInt = 8 := rfl
  have e11 : (11 : Int32).toInt = 11 := rfl
  have e17 : (17 : Int32).toInt = 17 := rfl
  rw [t_le, t_lt, t_le, t_le, e, e1, e8, e11, e17, Int.bmod_def]
  generalize x.toInt = z at *
  split <;> omega
theorem ok_status {G N : Nat} {σ τ : xS} (h : RRn G N σ τ) (x : Int32) : staX σ x = staM τ x := by
  obtain ⟨-, ⟨c1, c2⟩, ⟨c3, c4⟩⟩ := RRn_G h
  obtain ⟨d1, d2, d3⟩ := h.1.2.1
  have hw := wc_eq h
  unfold staX staM
  by_cases hx : 11 ≤ x ∧ x ≤ 17
  · rw [if_pos ((st_rg x).mpr hx), if_pos hx]
    obtain ⟨y1, y2⟩ := (st_rg x).mpr hx
    have t1 := t_le.mp y1
    have t2 := t_lt.mp y2
    have e1 : (1 : Int32).toInt = 1 := rfl
    have e8 : (8 : Int32).toInt = 8 := rfl
    rw [e1] at t1
    rw [e8] at t2
    exact h.2.2.1 _ (by rw [t_tn]; omega) (by rw [t_tn]; omega)
  · rw [if_neg (fun q => hx ((st_rg x).mp q)), if_neg hx, c1, c2, c3, c4, d1, d2, d3, hw, h.2.2.2.2.1.1]
