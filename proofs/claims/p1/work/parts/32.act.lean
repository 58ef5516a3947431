/-! acts, phrase, count: what whole needs beside Rel9. The flag of an opening by 5 (field 5 of the class, 11 of the reference) is a hypothesis here: that the two flags are equal. -/
theorem tb_ahead : ∀ n : Nat, n < 3 → ∀ m : Nat, m < 4 → ∀ o : Nat, o < 2 → ∀ q : Nat, q < 4 → ∀ r : Nat, r < 2 → ∀ k : Nat, k < 7 → fx_X0_statusAheadOfOutcome (nI n) (nI m) (nI o) (nI q) (nI r) (nI k) = if fx_X1_ahead (nI n) (nI m) (nI q) (nI o) (nI r) (nI k) = 0 then (-1) else fx_X1_ahead (nI n) (nI m) (nI q) (nI o) (nI r) (nI k) := by decide +kernel
/-- the reference's status of an act whose kind is 0 .. 6 -/
def st1 (a1 a2 a3 a8 a9 a11 p0 p1 : Int32) : Int32 := if fx_X1_ahead a1 a2 a3 a8 a9 p0 = 0 then (if p0 = 0 then (if a11 = 0 then fx_X1_byOutcome a1 p0 p1 else 10) else fx_X1_byOutcome a1 p0 p1) else fx_X1_ahead a1 a2 a3 a8 a9 p0
theorem ok9_st1 (a1 a2 a3 a8 a9 a11 p0 p1 : Int32) : ok9 (st1 a1 a2 a3 a8 a9 a11 p0 p1) := by
  unfold st1
  exact ok9_if (ok9_if (ok9_if (ok9_byOutcome _ _ _) (ok9_c (by decide))) (ok9_byOutcome _ _ _)) (ok9_ahead _ _ _ _ _ _)
theorem xx_06n {x : Int32} (h1 : ¬ x < 0) (h2 : x ≤ 6) : ∃ k : Nat, k < 7 ∧ x = nI k := by
  obtain ⟨j, hj, e⟩ := xx_rng (x := x) 6 (by decide) h1 h2
  exact ⟨j, by omega, e⟩
theorem pf_st {n m o q r : Nat} (hn : n < 3) (hm : m < 4) (ho : o < 2) (hq : q < 4) (hr : r < 2) (a5 : Int32) {p0 : Int32} (h1 : ¬ p0 < 0) (h2 : p0 ≤ 6) (p1 : Int32) : fx_X0_statusOfAct (nI n) (nI m) (nI o) (nI q) a5 (nI r) p0 p1 = st1 (nI n) (nI m) (nI q) (nI o) (nI r) a5 p0 p1 := by
  obtain ⟨k, hk, rfl⟩ := xx_06n h1 h2
  unfold fx_X0_statusOfAct st1
  rw [tb_ahead n hn m hm o ho q hq r hr k hk, pf_byOutcome hn hk p1]
  have hok := ok9_ahead (nI n) (nI m) (nI q) (nI o) (nI r) (nI k)
  generalize fx_X1_ahead (nI n) (nI m) (nI q) (nI o) (nI r) (nI k) = A at hok ⊢
  by_cases c : A = 0
  · rw [if_pos c, if_pos rfl, if_pos c]
  · have d : ¬ A = (-1) := fun e => by
      rw [e] at hok
      exact hok.1 (by decide)
    rw [if_neg c, if_neg d, if_neg c]
theorem pf_x1act (a1 a2 a3 a8 a9 a11 p0 p1 : Int32) : fx_X1_act a1 a2 a3 a8 a9 a11 p0 p1 = if p0 < 0 then (-4) else (if p0 ≤ 6 then st1 a1 a2 a3 a8 a9 a11 p0 p1 else (-4)) := rfl
theorem pf_placeAfter (x y : Int32) : fx_X0_placeAfter x y = if fx_X1_moved x = 0 then y else fx_X1_moved x := by
  unfold fx_X0_placeAfter fx_X0_givesPlace fx_X1_moved
  by_cases c0 : x = 0
  · subst c0; simp
  by_cases c1 : x = 2
  · subst c1; simp
  by_cases c2 : x = 4
  · subst c2; simp
  by_cases c3 : x = 10
  · subst c3; simp
  by_cases c4 : x = 14
  · subst c4; simp
  by_cases c5 : x = 23
  · subst c5; simp
  by_cases c6 : x = 46
  · subst c6; simp
  simp [c0, c1, c2, c3, c4, c5, c6]
theorem pf_closed (a1 a2 a3 a9 p0 : Int32) : fx_X1_ahead a1 a2 a3 0 a9 p0 = 42 := by
  unfold fx_X1_ahead
  rw [if_pos rfl]
theorem pf_pos (a1 a2 a3 a8 a9 a11 p0 p1 : Int32) : gx_X1_act_3 a1 a2 a3 a8 a9 a11 p0 p1 = if p0 < 0 then a3 else (if p0 ≤ 6 then gx_X0_move_4 a3 p0 (st1 a1 a2 a3 a8 a9 a11 p0 p1) else a3) := by
  unfold gx_X1_act_3
  by_cases h1 : p0 < 0
  · rw [if_pos h1, if_pos h1]
  rw [if_neg h1, if_neg h1]
  by_cases h2 : p0 ≤ 6
  · rw [if_pos h2, if_pos h2]
    unfold gx_X0_move_4
    rw [pf_placeAfter]
    unfold st1
    by_cases c8 : a8 = 0
    · subst c8
      rw [pf_closed]
      rcases xx_06 h1 h2 with rfl | rfl | rfl | rfl | rfl | rfl | rfl <;> simp [fx_X0_isRead, fx_X1_moved]
    · generalize fx_X1_ahead a1 a2 a3 a8 a9 p0 = A
      rcases xx_06 h1 h2 with rfl | rfl | rfl | rfl | rfl | rfl | rfl <;> by_cases cA : A = 0 <;> by_cases c11 : a11 = 0 <;> simp [fx_X0_isRead, cA, c11, c8]
  · rw [if_neg h2, if_neg h2]
theorem pf_gp (x : Int32) : (if fx_X0_givesPlace x = 0 then (0 : Int32) else 1) = if x = 0 then 1 else (if x = 2 then 1 else (if x = 4 then 1 else 0)) := by
  unfold fx_X0_givesPlace
  by_cases c0 : x = 0
  · subst c0; simp
  by_cases c1 : x = 2
  · subst c1; simp
  by_cases c2 : x = 4
  · subst c2; simp
  simp [c0, c1, c2]
theorem pf_permit (a1 a2 a3 a8 a9 a11 p0 p1 : Int32) : gx_X1_act_9 a1 a2 a3 a8 a9 a11 p0 p1 = if p0 < 0 then a9 else (if p0 ≤ 6 then (if fx_X0_isRead p0 = 0 then 0 else (if fx_X0_givesPlace (st1 a1 a2 a3 a8 a9 a11 p0 p1) = 0 then 0 else 1)) else a9) := by
  unfold gx_X1_act_9
  by_cases h1 : p0 < 0
  · rw [if_pos h1, if_pos h1]
  rw [if_neg h1, if_neg h1]
  by_cases h2 : p0 ≤ 6
  · rw [if_pos h2, if_pos h2, pf_gp]
    unfold st1
    generalize fx_X1_ahead a1 a2 a3 a8 a9 p0 = A
    rcases xx_06 h1 h2 with rfl | rfl | rfl | rfl | rfl | rfl | rfl <;> by_cases cA : A = 0 <;> by_cases c11 : a11 = 0 <;> simp [fx_X0_isRead, cA, c11]
  · rw [if_neg h2, if_neg h2]
theorem pf_latest (a1 a2 a3 a4 a8 a9 a11 p0 p1 : Int32) : gx_X1_act_4 a1 a2 a3 a4 a8 a9 a11 p0 p1 = if p0 < 0 then a4 else (if p0 ≤ 6 then st1 a1 a2 a3 a8 a9 a11 p0 p1 else a4) := rfl
theorem xx_910 (x : Int32) : (10 ≤ x) ↔ ¬ x ≤ 9 := by
  rw [Int32.le_iff_toInt_le, Int32.le_iff_toInt_le, show (9 : Int32).toInt = 9 by decide, show (10 : Int32).toInt = 10 by decide]
  omega
theorem pf_told6 (a x : Int32) {p0 : Int32} (h : ¬ p0 = 7) : gx_X1_told_6 a x = gx_X0_remember_10 a p0 x := by
  unfold gx_X1_told_6 gx_X0_remember_10
  by_cases c : x ≤ 9
  · rw [if_neg (fun d => (xx_910 x).mp d c), if_pos c, if_neg h]
  · rw [if_pos ((xx_910 x).mpr c), if_neg c, Int32.add_zero]
theorem pf_told7 (a x : Int32) : gx_X1_told_7 a x = gx_X0_remember_11 a x := by
  unfold gx_X1_told_7 gx_X0_remember_11
  by_cases c : x ≤ 9
  · rw [if_neg (fun d => (xx_910 x).mp d c), if_pos c, Int32.add_zero]
  · rw [if_pos ((xx_910 x).mpr c), if_neg c]
theorem pf_good (a1 a2 a3 a6 a8 a9 a11 p0 p1 : Int32) : gx_X1_act_6 a1 a2 a3 a6 a8 a9 a11 p0 p1 = if p0 < 0 then a6 else (if p0 ≤ 6 then gx_X0_remember_10 a6 p0 (st1 a1 a2 a3 a8 a9 a11 p0 p1) else a6) := by
  unfold gx_X1_act_6
  by_cases h1 : p0 < 0
  · rw [if_pos h1, if_pos h1]
  rw [if_neg h1, if_neg h1]
  by_cases h2 : p0 ≤ 6
  · have h7 : ¬ p0 = 7 := fun e => by
      rw [e] at h2
      exact absurd h2 (by decide)
    rw [if_pos h2, if_pos h2, pf_told6 _ _ h7, pf_told6 _ _ h7, pf_told6 _ _ h7]
    unfold st1
    generalize fx_X1_ahead a1 a2 a3 a8 a9 p0 = A
    by_cases cA : A = 0 <;> by_cases c0 : p0 = 0 <;> by_cases c11 : a11 = 0 <;> simp [cA, c0, c11]
  · rw [if_neg h2, if_neg h2]
theorem pf_bad (a1 a2 a3 a7 a8 a9 a11 p0 p1 : Int32) : gx_X1_act_7 a1 a2 a3 a7 a8 a9 a11 p0 p1 = if p0 < 0 then a7 else (if p0 ≤ 6 then gx_X0_remember_11 a7 (st1 a1 a2 a3 a8 a9 a11 p0 p1) else a7) := by
  unfold gx_X1_act_7
  by_cases h1 : p0 < 0
  · rw [if_pos h1, if_pos h1]
  rw [if_neg h1, if_neg h1]
  by_cases h2 : p0 ≤ 6
  · rw [if_pos h2, if_pos h2, pf_told7, pf_told7, pf_told7]
    unfold st1
    generalize fx_X1_ahead a1 a2 a3 a8 a9 p0 = A
    by_cases cA : A = 0 <;> by_cases c0 : p0 = 0 <;> by_cases c11 : a11 = 0 <;> simp [cA, c0, c11]
  · rw [if_neg h2, if_neg h2]
theorem pf_phrase {a7 a9 p0 : Int32} {ff : Nat → Int32} (hd : dec9 a9 ff) (hk : ok9 a7) : fx_X0_phrase a7 a9 p0 = fx_X1_phrase ff a7 p0 := by
  obtain ⟨n, hn, rfl, hb⟩ := hd
  obtain ⟨j, hj, rfl⟩ := ok9_n hk
  unfold fx_X0_phrase fx_X1_phrase
  rw [tb_kind j hj]
  have h7 := tb_kind7 j hj
  obtain ⟨k, hk7, e⟩ := vp_in_of h7 (by decide)
  rw [e, tb_has n hn k hk7, nI_clamp (by omega)]
  have hbk : 1 ≤ k → (n.testBit k = false ↔ ff k = 0) := fun h => hb k h hk7
  rcases (by omega : k = 0 ∨ k = 1 ∨ k = 2 ∨ k = 3 ∨ k = 4 ∨ k = 5 ∨ k = 6) with rfl | rfl | rfl | rfl | rfl | rfl | rfl
  · rfl
  all_goals
    have hbk := hbk (by decide)
    generalize ff _ = z at hbk ⊢
    generalize Nat.testBit n _ = t at hbk ⊢
    by_cases c : t = false
    · have cz := hbk.mp c
      by_cases c0 : p0 = 0 <;> simp [c, cz, c0, nI] <;> decide
    · have cz : ¬ z = 0 := fun q => c (hbk.mpr q)
      by_cases c0 : p0 = 0 <;> simp [c, cz, c0, nI] <;> decide
