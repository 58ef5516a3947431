/-! p1: the first call's answers, out of RelW of two fresh objects; the act's without a word on the flags behind it -/
section RF
variable {a0 a1 a2 a3 a4 a5 a6 a7 a8 a9 a10 a11 b0 b1 b2 b3 b4 b5 b6 b7 b8 b9 b10 b11 : Int32} {ff : Nat → Int32}
theorem rf_act (p0 p1 : Int32) (h : RelW [a0, a1, a2, a3, a4, a5, a6, a7, a8, a9, a10, a11] [b0, b1, b2, b3, b4, b5, b6, b7, b8, b9, b10, b11] ff) : fx_X0_act a0 a1 a2 a4 a5 a6 p0 p1 = fx_X1_act b1 b2 b3 b8 b9 b11 p0 p1 := by
  obtain ⟨⟨n, hn, rfl⟩, ⟨m, hm, rfl⟩, ⟨o, ho, rfl⟩, ⟨q, hq, rfl⟩, ⟨r, hr, rfl⟩, rfl, rfl, rfl, rfl, rfl, rfl, rfl, rfl, rfl, rfl, rfl, hd, hk⟩ := h
  have est : ∀ (_ : ¬ p0 < 0) (_ : p0 ≤ 6), fx_X0_statusOfAct (nI n) (nI m) (nI o) (nI q) b11 (nI r) p0 p1 = st1 (nI n) (nI m) (nI q) (nI o) (nI r) b11 p0 p1 := fun h1 h2 => pf_st hn hm ho hq hr b11 h1 h2 p1
  have cong : ∀ {f : Int32 → Int32} {z : Int32}, (if p0 < 0 then z else (if p0 ≤ 6 then f (fx_X0_statusOfAct (nI n) (nI m) (nI o) (nI q) b11 (nI r) p0 p1) else z)) = (if p0 < 0 then z else (if p0 ≤ 6 then f (st1 (nI n) (nI m) (nI q) (nI o) (nI r) b11 p0 p1) else z)) := by
    intro f z
    by_cases h1 : p0 < 0
    · rw [if_pos h1, if_pos h1]
    · by_cases h2 : p0 ≤ 6
      · rw [est h1 h2]
      · rw [if_neg h1, if_neg h1, if_neg h2, if_neg h2]
  exact cong (f := fun x => x) (z := (-4))
end RF
