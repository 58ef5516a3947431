/-! what the parts p2, p3, p5, p7 .. p12 need of the two objects: organisation, mode, open, optional, latest act, declaratives; of the reference's latest status that it is one -/
def Rel9 : lw_Rel := fun as bs ff => match as, bs with
  | [a0, a1, a2, a3, _, _, _, _, a8, a9, _, _], [_, b1, b2, _, b4, b5, _, _, b8, _, b10, _] => (∃ n : Nat, n < 3 ∧ a0 = nI n) ∧ b1 = a0 ∧ b2 = a1 ∧ b8 = a2 ∧ b10 = a3 ∧ b5 = a8 ∧ dec9 a9 ff ∧ ok9 b4
  | _, _ => False
theorem ok9_act (a1 a2 a3 a4 a8 a9 a11 p0 p1 : Int32) (h : ok9 a4) : ok9 (gx_X1_act_4 a1 a2 a3 a4 a8 a9 a11 p0 p1) := by
  unfold gx_X1_act_4 gx_X1_told_4
  exact ok9_if h (ok9_if (ok9_if (ok9_if (ok9_if (ok9_byOutcome _ _ _) (ok9_c (by decide))) (ok9_byOutcome _ _ _)) (ok9_ahead _ _ _ _ _ _)) h)
theorem pf_close {n : Nat} (hn : n < 3) (a1 a2 a4 a5 a6 b3 b9 p0 p1 : Int32) : gx_X0_act_2 (nI n) a1 a2 a4 a5 a6 p0 p1 = gx_X1_act_8 (nI n) a1 b3 a2 b9 p0 p1 := by
  unfold gx_X0_act_2 gx_X1_act_8
  by_cases h1 : p0 < 0
  · rw [if_pos h1, if_pos h1]
  rw [if_neg h1, if_neg h1]
  by_cases h2 : p0 ≤ 6
  · rw [if_pos h2, if_pos h2]
    rcases xx_06 h1 h2 with rfl | rfl | rfl | rfl | rfl | rfl | rfl
    · simp [gx_X0_move_2, fx_X0_isRead]
    · simp [gx_X0_move_2, fx_X0_isRead]
    · simp [gx_X0_move_2, fx_X0_isRead]
    · simp [gx_X0_move_2, fx_X0_isRead]
    · simp [gx_X0_move_2, fx_X0_isRead]
    · simp [gx_X0_move_2, fx_X0_isRead]
    · have e : fx_X0_statusByOutcome (nI n) 6 p1 = fx_X1_byOutcome (nI n) 6 p1 := pf_byOutcome (k := 6) hn (by decide) p1
      by_cases c : a2 = 0
      · simp [gx_X0_move_2, fx_X0_isRead, fx_X0_statusOfAct, fx_X0_statusAheadOfOutcome, fx_X1_ahead, c]
      · simp [gx_X0_move_2, fx_X0_isRead, fx_X0_statusOfAct, fx_X0_statusAheadOfOutcome, fx_X0_statusOfWrongMode, fx_X1_ahead, c, e]
  · rw [if_neg h2, if_neg h2]
theorem r9_kind {a0 a1 a2 a3 a4 a5 a6 a7 a8 a9 a10 a11 b0 b1 b2 b3 b4 b5 b6 b7 b8 b9 b10 b11 : Int32} {ff : Nat → Int32} (h : Rel9 [a0, a1, a2, a3, a4, a5, a6, a7, a8, a9, a10, a11] [b0, b1, b2, b3, b4, b5, b6, b7, b8, b9, b10, b11] ff) : vp_in (fx_X1_kindOf b4) 7 := by
  obtain ⟨j, hj, rfl⟩ := ok9_n h.2.2.2.2.2.2.2
  exact tb_kind7 j hj
theorem r9_init (x : Int32) : Rel9 [gx_X0_init_0 x, 0, 0, 0, 0, 0, 0, 0, gx_X0_init_8, 0, 0, 0] [0, gx_X1_init_1 x, 0, 0, 0, gx_X1_init_5, 0, 0, 0, 0, 0, 0] (fun _ => 0) := by
  have e : ∃ n : Nat, n < 3 ∧ gx_X0_init_0 x = nI n ∧ gx_X1_init_1 x = gx_X0_init_0 x := by
    unfold gx_X0_init_0 gx_X1_init_1
    by_cases h0 : x < 0
    · have h2 : x < 2 := Int32.lt_iff_toInt_lt.mpr (by have := Int32.lt_iff_toInt_lt.mp h0; rw [show (0 : Int32).toInt = 0 by decide] at this; rw [show (2 : Int32).toInt = 2 by decide]; omega)
      have h3 : ¬ 0 < x := Int32.not_lt.mpr (Int32.le_of_lt h0)
      have h4 : ¬ 0 ≤ x := Int32.not_le.mpr h0
      exact ⟨0, by decide, by rw [if_pos h2, if_neg h3]; rfl, by rw [if_pos h2, if_neg h3, if_neg h4]⟩
    · have g0 : 0 ≤ x := Int32.not_lt.mp h0
      by_cases h2 : x ≤ 2
      · obtain ⟨j, hj, rfl⟩ := xx_rng (x := x) 2 (by decide) h0 h2
        have t : ∀ j : Nat, j < 3 → (if (0 : Int32) < (if nI j < 2 then nI j else 2) then (if nI j < 2 then nI j else 2) else 0) = nI j := by decide +kernel
        exact ⟨j, by omega, t j (by omega), by rw [if_pos g0, if_pos h2, t j (by omega)]⟩
      · have h3 : ¬ x < 2 := fun c => h2 (Int32.le_of_lt c)
        exact ⟨2, by decide, by rw [if_neg h3]; rfl, by rw [if_neg h3, if_pos g0, if_neg h2]; rfl⟩
  obtain ⟨n, hn, e1, e2⟩ := e
  exact ⟨⟨n, hn, e1⟩, e2, rfl, rfl, rfl, rfl, ⟨0, by decide, rfl, fun k k1 k2 => by simp⟩, ok9_c (by decide)⟩
section R9
variable {a0 a1 a2 a3 a4 a5 a6 a7 a8 a9 a10 a11 b0 b1 b2 b3 b4 b5 b6 b7 b8 b9 b10 b11 : Int32} {ff : Nat → Int32}
/-- fields that Rel9 does not look at may change -/
theorem r9_any {c4 c5 c6 c7 c10 c11 d0 d3 d6 d7 d9 d11 : Int32} (h : Rel9 [a0, a1, a2, a3, a4, a5, a6, a7, a8, a9, a10, a11] [b0, b1, b2, b3, b4, b5, b6, b7, b8, b9, b10, b11] ff) : Rel9 [a0, a1, a2, a3, c4, c5, c6, c7, a8, a9, c10, c11] [d0, b1, b2, d3, b4, b5, d6, d7, b8, d9, b10, d11] ff := h
theorem r9_mode (p0 : Int32) (h : Rel9 [a0, a1, a2, a3, a4, a5, a6, a7, a8, a9, a10, a11] [b0, b1, b2, b3, b4, b5, b6, b7, b8, b9, b10, b11] ff) : fx_X0_mode a1 a2 p0 = fx_X1_mode b2 b8 p0 ∧ Rel9 [a0, gx_X0_mode_1 a1 a2 p0, a2, a3, a4, a5, a6, a7, a8, a9, a10, a11] [gx_X1_mode_0, b1, gx_X1_mode_2 b2 b8 p0, b3, b4, b5, b6, b7, b8, b9, b10, b11] ff := by
  obtain ⟨h0, rfl, rfl, rfl, rfl, rfl, hd, hk⟩ := h
  exact ⟨rfl, h0, rfl, rfl, rfl, rfl, rfl, hd, hk⟩
theorem r9_open (p0 : Int32) (h : Rel9 [a0, a1, a2, a3, a4, a5, a6, a7, a8, a9, a10, a11] [b0, b1, b2, b3, b4, b5, b6, b7, b8, b9, b10, b11] ff) : fx_X0_open a1 a2 a3 p0 = fx_X1_open b2 b8 b10 p0 ∧ Rel9 [a0, a1, gx_X0_open_2 a1 a2 a3 p0, a3, gx_X0_open_4 a1 a2 a3 a4 p0, gx_X0_open_5 a1 a2 a3 a5 p0, gx_X0_open_6, gx_X0_open_7 a1 a2 a3 p0, gx_X0_open_8, a9, gx_X0_open_10 a1 a2 a3 a10 p0, gx_X0_open_11 a1 a2 a3 a11 p0] [gx_X1_open_0, b1, b2, gx_X1_open_3 b2 b3 b8 b10 p0, gx_X1_open_4 b2 b8 b10 p0, gx_X1_open_5, b6, gx_X1_open_7 b2 b7 b8 b10 p0, gx_X1_open_8 b2 b8 b10 p0, gx_X1_open_9, b10, gx_X1_open_11 b2 b8 b10 b11 p0] ff := by
  obtain ⟨h0, rfl, rfl, rfl, rfl, rfl, hd, hk⟩ := h
  exact ⟨rfl, h0, rfl, rfl, rfl, rfl, rfl, hd, ok9_opened _ _ _ _⟩
theorem r9_act (p0 p1 : Int32) (h : Rel9 [a0, a1, a2, a3, a4, a5, a6, a7, a8, a9, a10, a11] [b0, b1, b2, b3, b4, b5, b6, b7, b8, b9, b10, b11] ff) : Rel9 [a0, a1, gx_X0_act_2 a0 a1 a2 a4 a5 a6 p0 p1, a3, gx_X0_act_4 a0 a1 a2 a4 a5 a6 p0 p1, gx_X0_act_5 a5 p0, gx_X0_act_6 a0 a1 a2 a4 a5 a6 p0 p1, gx_X0_act_7 a0 a1 a2 a4 a5 a6 a7 p0 p1, gx_X0_act_8 a8 p0, a9, gx_X0_act_10 a0 a1 a2 a4 a5 a6 a10 p0 p1, gx_X0_act_11 a0 a1 a2 a4 a5 a6 a11 p0 p1] [gx_X1_act_0, b1, b2, gx_X1_act_3 b1 b2 b3 b8 b9 b11 p0 p1, gx_X1_act_4 b1 b2 b3 b4 b8 b9 b11 p0 p1, gx_X1_act_5 b5 p0, gx_X1_act_6 b1 b2 b3 b6 b8 b9 b11 p0 p1, gx_X1_act_7 b1 b2 b3 b7 b8 b9 b11 p0 p1, gx_X1_act_8 b1 b2 b3 b8 b9 p0 p1, gx_X1_act_9 b1 b2 b3 b8 b9 b11 p0 p1, b10, gx_X1_act_11 b1 b2 b3 b8 b9 b11 p0 p1] ff := by
  obtain ⟨⟨n, hn, rfl⟩, rfl, rfl, rfl, rfl, rfl, hd, hk⟩ := h
  exact ⟨⟨n, hn, rfl⟩, rfl, rfl, (pf_close hn _ _ _ _ _ _ _ _ _).symm, rfl, rfl, hd, ok9_act _ _ _ _ _ _ _ _ _ hk⟩
theorem r9_declarative (p0 p1 : Int32) (h : Rel9 [a0, a1, a2, a3, a4, a5, a6, a7, a8, a9, a10, a11] [b0, b1, b2, b3, b4, b5, b6, b7, b8, b9, b10, b11] ff) (hp : p1 = 0 ∨ p1 = 1) : fx_X0_declarative a9 p0 = fx_X1_declarative ff p0 ∧ Rel9 [a0, a1, a2, a3, a4, a5, a6, a7, a8, gx_X0_declarative_9 a9 p0 p1, a10, a11] [gx_X1_declarative_0, b1, b2, b3, b4, b5, b6, b7, b8, b9, b10, b11] (gx_X1_declarative_arr ff p0 p1) := by
  obtain ⟨h0, rfl, rfl, rfl, rfl, rfl, hd, hk⟩ := h
  exact ⟨pf_declarative hd p0, h0, rfl, rfl, rfl, rfl, rfl, pf_declarative9 hd p0 p1 hp, hk⟩
theorem r9_optional (p0 : Int32) (h : Rel9 [a0, a1, a2, a3, a4, a5, a6, a7, a8, a9, a10, a11] [b0, b1, b2, b3, b4, b5, b6, b7, b8, b9, b10, b11] ff) : fx_X0_optional a2 a3 = fx_X1_optional b8 b10 ∧ Rel9 [a0, a1, a2, gx_X0_optional_3 a2 a3 p0, a4, a5, a6, a7, a8, a9, a10, a11] [gx_X1_optional_0, b1, b2, b3, b4, b5, b6, b7, b8, b9, gx_X1_optional_10 b8 b10 p0, b11] ff := by
  obtain ⟨h0, rfl, rfl, rfl, rfl, rfl, hd, hk⟩ := h
  exact ⟨rfl, h0, rfl, rfl, rfl, rfl, rfl, hd, hk⟩
theorem r9_extended (p0 : Int32) (h : Rel9 [a0, a1, a2, a3, a4, a5, a6, a7, a8, a9, a10, a11] [b0, b1, b2, b3, b4, b5, b6, b7, b8, b9, b10, b11] ff) : fx_X0_extended a0 a8 p0 = fx_X1_extended b1 b5 p0 := by
  obtain ⟨h0, rfl, rfl, rfl, rfl, rfl, hd, hk⟩ := h
  exact pf_extended _ _ _
end R9
