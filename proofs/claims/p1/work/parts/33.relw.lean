/-! what whole needs of the two objects. rw_act takes the two flags' equality behind the act as a hypothesis (hf): of the class at d88b162 it is false. -/
def RelW : lw_Rel := fun as bs ff => match as, bs with
  | [a0, a1, a2, a3, a4, a5, a6, a7, a8, a9, a10, a11], [_, b1, b2, b3, b4, b5, b6, b7, b8, b9, b10, b11] => (∃ n : Nat, n < 3 ∧ a0 = nI n) ∧ (∃ m : Nat, m < 4 ∧ a1 = nI m) ∧ (∃ o : Nat, o < 2 ∧ a2 = nI o) ∧ (∃ q : Nat, q < 4 ∧ a4 = nI q) ∧ (∃ r : Nat, r < 2 ∧ a6 = nI r) ∧ b1 = a0 ∧ b2 = a1 ∧ b8 = a2 ∧ b10 = a3 ∧ b3 = a4 ∧ b11 = a5 ∧ b9 = a6 ∧ b4 = a7 ∧ b5 = a8 ∧ b6 = a10 ∧ b7 = a11 ∧ dec9 a9 ff ∧ ok9 a7
  | _, _ => False
theorem rw_rng {N : Nat} {c : Prop} [Decidable c] {a b : Int32} (ha : ∃ j : Nat, j < N ∧ a = nI j) (hb : ∃ j : Nat, j < N ∧ b = nI j) : ∃ j : Nat, j < N ∧ (if c then a else b) = nI j := by
  by_cases h : c
  · rw [if_pos h]; exact ha
  · rw [if_neg h]; exact hb
theorem rw_placeAfter (x : Int32) {y : Int32} (hy : ∃ q : Nat, q < 4 ∧ y = nI q) : ∃ q : Nat, q < 4 ∧ fx_X0_placeAfter x y = nI q := by
  unfold fx_X0_placeAfter
  exact rw_rng (rw_rng ⟨2, by decide, rfl⟩ (rw_rng ⟨3, by decide, rfl⟩ (rw_rng ⟨3, by decide, rfl⟩ (rw_rng ⟨3, by decide, rfl⟩ hy)))) ⟨1, by decide, rfl⟩
section RW
variable {a0 a1 a2 a3 a4 a5 a6 a7 a8 a9 a10 a11 b0 b1 b2 b3 b4 b5 b6 b7 b8 b9 b10 b11 : Int32} {ff : Nat → Int32}
theorem rw_kind (h : RelW [a0, a1, a2, a3, a4, a5, a6, a7, a8, a9, a10, a11] [b0, b1, b2, b3, b4, b5, b6, b7, b8, b9, b10, b11] ff) : vp_in (fx_X1_kindOf b4) 7 := by
  obtain ⟨h0, h1, h2, h4, h6, rfl, rfl, rfl, rfl, rfl, rfl, rfl, rfl, rfl, rfl, rfl, hd, hk⟩ := h
  obtain ⟨j, hj, rfl⟩ := ok9_n hk
  exact tb_kind7 j hj
theorem rw_init (x : Int32) : RelW [gx_X0_init_0 x, 0, 0, 0, 0, 0, 0, 0, gx_X0_init_8, 0, 0, 0] [0, gx_X1_init_1 x, 0, 0, 0, gx_X1_init_5, 0, 0, 0, 0, 0, 0] (fun _ => 0) := by
  obtain ⟨h0, e1, -, -, -, e5, hd, hk⟩ := r9_init x
  exact ⟨h0, ⟨0, by decide, rfl⟩, ⟨0, by decide, rfl⟩, ⟨0, by decide, rfl⟩, ⟨0, by decide, rfl⟩, e1, rfl, rfl, rfl, rfl, rfl, rfl, rfl, e5, rfl, rfl, hd, hk⟩
theorem rw_mode (p0 : Int32) (h : RelW [a0, a1, a2, a3, a4, a5, a6, a7, a8, a9, a10, a11] [b0, b1, b2, b3, b4, b5, b6, b7, b8, b9, b10, b11] ff) : fx_X0_mode a1 a2 p0 = fx_X1_mode b2 b8 p0 ∧ RelW [a0, gx_X0_mode_1 a1 a2 p0, a2, a3, a4, a5, a6, a7, a8, a9, a10, a11] [gx_X1_mode_0, b1, gx_X1_mode_2 b2 b8 p0, b3, b4, b5, b6, b7, b8, b9, b10, b11] ff := by
  obtain ⟨h0, h1, h2, h4, h6, rfl, rfl, rfl, rfl, rfl, rfl, rfl, rfl, rfl, rfl, rfl, hd, hk⟩ := h
  refine ⟨rfl, h0, ?_, h2, h4, h6, rfl, rfl, rfl, rfl, rfl, rfl, rfl, rfl, rfl, rfl, rfl, hd, hk⟩
  unfold gx_X0_mode_1
  by_cases c2 : b8 = 0
  · rw [if_pos c2]
    by_cases c0 : p0 < 0
    · rw [if_pos c0]; exact h1
    · rw [if_neg c0]
      by_cases c3 : p0 ≤ 3
      · rw [if_pos c3]
        obtain ⟨j, hj, e⟩ := xx_rng (x := p0) 3 (by decide) c0 c3
        exact ⟨j, by omega, e⟩
      · rw [if_neg c3]; exact h1
  · rw [if_neg c2]; exact h1
theorem rw_open (p0 : Int32) (h : RelW [a0, a1, a2, a3, a4, a5, a6, a7, a8, a9, a10, a11] [b0, b1, b2, b3, b4, b5, b6, b7, b8, b9, b10, b11] ff) : fx_X0_open a1 a2 a3 p0 = fx_X1_open b2 b8 b10 p0 ∧ RelW [a0, a1, gx_X0_open_2 a1 a2 a3 p0, a3, gx_X0_open_4 a1 a2 a3 a4 p0, gx_X0_open_5 a1 a2 a3 a5 p0, gx_X0_open_6, gx_X0_open_7 a1 a2 a3 p0, gx_X0_open_8, a9, gx_X0_open_10 a1 a2 a3 a10 p0, gx_X0_open_11 a1 a2 a3 a11 p0] [gx_X1_open_0, b1, b2, gx_X1_open_3 b2 b3 b8 b10 p0, gx_X1_open_4 b2 b8 b10 p0, gx_X1_open_5, b6, gx_X1_open_7 b2 b7 b8 b10 p0, gx_X1_open_8 b2 b8 b10 p0, gx_X1_open_9, b10, gx_X1_open_11 b2 b8 b10 b11 p0] ff := by
  obtain ⟨h0, h1, h2, h4, h6, rfl, rfl, rfl, rfl, rfl, rfl, rfl, rfl, rfl, rfl, rfl, hd, hk⟩ := h
  refine ⟨rfl, h0, h1, ?_, ?_, ⟨0, by decide, rfl⟩, rfl, rfl, rfl, rfl, rfl, ?_, rfl, rfl, rfl, ?_, ?_, hd, ok9_opened _ _ _ _⟩
  · exact rw_rng ⟨1, by decide, rfl⟩ (rw_rng ⟨1, by decide, rfl⟩ h2)
  · exact rw_rng ⟨0, by decide, rfl⟩ (rw_rng ⟨0, by decide, rfl⟩ h4)
  · unfold gx_X0_open_5 gx_X1_open_11
    rw [pf_opening]
    by_cases c0 : fx_X1_opened b2 b8 b10 p0 = 0
    · rw [if_pos c0, if_pos c0]
    · rw [if_neg c0, if_neg c0]
      by_cases c5 : fx_X1_opened b2 b8 b10 p0 = 5
      · rw [if_pos c5, if_pos c5]
        unfold fx_X0_isForReading
        by_cases d0 : b2 = 0
        · simp [d0]
        · by_cases d2 : b2 = 2 <;> simp [d0, d2]
      · rw [if_neg c5, if_neg c5]
  · unfold gx_X0_open_10 gx_X0_remember_10
    by_cases c : fx_X0_statusOfOpening b2 b8 b10 p0 ≤ 9
    · rw [if_pos c, if_pos rfl]
    · rw [if_neg c]
  · exact pf_told7 _ _
theorem rw_act (p0 p1 : Int32) (h : RelW [a0, a1, a2, a3, a4, a5, a6, a7, a8, a9, a10, a11] [b0, b1, b2, b3, b4, b5, b6, b7, b8, b9, b10, b11] ff) (hf : gx_X1_act_11 b1 b2 b3 b8 b9 b11 p0 p1 = gx_X0_act_5 a5 p0) : fx_X0_act a0 a1 a2 a4 a5 a6 p0 p1 = fx_X1_act b1 b2 b3 b8 b9 b11 p0 p1 ∧ RelW [a0, a1, gx_X0_act_2 a0 a1 a2 a4 a5 a6 p0 p1, a3, gx_X0_act_4 a0 a1 a2 a4 a5 a6 p0 p1, gx_X0_act_5 a5 p0, gx_X0_act_6 a0 a1 a2 a4 a5 a6 p0 p1, gx_X0_act_7 a0 a1 a2 a4 a5 a6 a7 p0 p1, gx_X0_act_8 a8 p0, a9, gx_X0_act_10 a0 a1 a2 a4 a5 a6 a10 p0 p1, gx_X0_act_11 a0 a1 a2 a4 a5 a6 a11 p0 p1] [gx_X1_act_0, b1, b2, gx_X1_act_3 b1 b2 b3 b8 b9 b11 p0 p1, gx_X1_act_4 b1 b2 b3 b4 b8 b9 b11 p0 p1, gx_X1_act_5 b5 p0, gx_X1_act_6 b1 b2 b3 b6 b8 b9 b11 p0 p1, gx_X1_act_7 b1 b2 b3 b7 b8 b9 b11 p0 p1, gx_X1_act_8 b1 b2 b3 b8 b9 p0 p1, gx_X1_act_9 b1 b2 b3 b8 b9 b11 p0 p1, b10, gx_X1_act_11 b1 b2 b3 b8 b9 b11 p0 p1] ff := by
  obtain ⟨⟨n, hn, rfl⟩, ⟨m, hm, rfl⟩, ⟨o, ho, rfl⟩, ⟨q, hq, rfl⟩, ⟨r, hr, rfl⟩, rfl, rfl, rfl, rfl, rfl, rfl, rfl, rfl, rfl, rfl, rfl, hd, hk⟩ := h
  have est : ∀ (_ : ¬ p0 < 0) (_ : p0 ≤ 6), fx_X0_statusOfAct (nI n) (nI m) (nI o) (nI q) b11 (nI r) p0 p1 = st1 (nI n) (nI m) (nI q) (nI o) (nI r) b11 p0 p1 := fun h1 h2 => pf_st hn hm ho hq hr b11 h1 h2 p1
  have cong : ∀ {f : Int32 → Int32} {z : Int32}, (if p0 < 0 then z else (if p0 ≤ 6 then f (fx_X0_statusOfAct (nI n) (nI m) (nI o) (nI q) b11 (nI r) p0 p1) else z)) = (if p0 < 0 then z else (if p0 ≤ 6 then f (st1 (nI n) (nI m) (nI q) (nI o) (nI r) b11 p0 p1) else z)) := by
    intro f z
    by_cases h1 : p0 < 0
    · rw [if_pos h1, if_pos h1]
    · by_cases h2 : p0 ≤ 6
      · rw [est h1 h2]
      · rw [if_neg h1, if_neg h1, if_neg h2, if_neg h2]
  refine ⟨cong (f := fun x => x) (z := (-4)), ⟨n, hn, rfl⟩, ⟨m, hm, rfl⟩, ?_, ?_, ?_, rfl, rfl, (pf_close hn _ _ _ _ _ _ _ _ _).symm, rfl, ?_, hf, ?_, ?_, rfl, ?_, ?_, hd, ?_⟩
  · exact rw_rng ⟨o, ho, rfl⟩ (rw_rng (rw_rng (rw_rng ⟨o, ho, rfl⟩ (rw_rng (rw_rng ⟨0, by decide, rfl⟩ ⟨o, ho, rfl⟩) ⟨o, ho, rfl⟩)) (rw_rng (rw_rng ⟨0, by decide, rfl⟩ ⟨o, ho, rfl⟩) ⟨o, ho, rfl⟩)) ⟨o, ho, rfl⟩)
  · exact rw_rng ⟨q, hq, rfl⟩ (rw_rng (rw_rng (rw_rng (rw_placeAfter _ ⟨q, hq, rfl⟩) ⟨q, hq, rfl⟩) (rw_placeAfter _ ⟨q, hq, rfl⟩)) ⟨q, hq, rfl⟩)
  · exact rw_rng ⟨r, hr, rfl⟩ (rw_rng (rw_rng ⟨0, by decide, rfl⟩ (rw_rng ⟨0, by decide, rfl⟩ ⟨1, by decide, rfl⟩)) ⟨r, hr, rfl⟩)
  · rw [pf_pos]
    exact (cong (f := fun x => gx_X0_move_4 (nI q) p0 x) (z := nI q)).symm
  · rw [pf_permit]
    exact (cong (f := fun x => if fx_X0_isRead p0 = 0 then 0 else (if fx_X0_givesPlace x = 0 then 0 else 1)) (z := nI r)).symm
  · rw [pf_latest]
    exact (cong (f := fun x => x) (z := b4)).symm
  · rw [pf_good]
    exact (cong (f := fun x => gx_X0_remember_10 b6 p0 x) (z := b6)).symm
  · rw [pf_bad]
    exact (cong (f := fun x => gx_X0_remember_11 b7 x) (z := b7)).symm
  · show ok9 (gx_X0_act_7 (nI n) (nI m) (nI o) (nI q) b11 (nI r) b4 p0 p1)
    have e := cong (f := fun x => x) (z := b4)
    have e2 : gx_X0_act_7 (nI n) (nI m) (nI o) (nI q) b11 (nI r) b4 p0 p1 = (if p0 < 0 then b4 else (if p0 ≤ 6 then st1 (nI n) (nI m) (nI q) (nI o) (nI r) b11 p0 p1 else b4)) := e
    rw [e2]
    exact ok9_if hk (ok9_if (ok9_st1 _ _ _ _ _ _ _ _) hk)
theorem rw_phrase (p0 : Int32) (h : RelW [a0, a1, a2, a3, a4, a5, a6, a7, a8, a9, a10, a11] [b0, b1, b2, b3, b4, b5, b6, b7, b8, b9, b10, b11] ff) : fx_X0_phrase a7 a9 p0 = fx_X1_phrase ff b4 p0 := by
  obtain ⟨h0, h1, h2, h4, h6, rfl, rfl, rfl, rfl, rfl, rfl, rfl, rfl, rfl, rfl, rfl, hd, hk⟩ := h
  exact pf_phrase hd hk
theorem rw_declarative (p0 p1 : Int32) (h : RelW [a0, a1, a2, a3, a4, a5, a6, a7, a8, a9, a10, a11] [b0, b1, b2, b3, b4, b5, b6, b7, b8, b9, b10, b11] ff) (hp : p1 = 0 ∨ p1 = 1) : fx_X0_declarative a9 p0 = fx_X1_declarative ff p0 ∧ RelW [a0, a1, a2, a3, a4, a5, a6, a7, a8, gx_X0_declarative_9 a9 p0 p1, a10, a11] [gx_X1_declarative_0, b1, b2, b3, b4, b5, b6, b7, b8, b9, b10, b11] (gx_X1_declarative_arr ff p0 p1) := by
  obtain ⟨h0, h1, h2, h4, h6, rfl, rfl, rfl, rfl, rfl, rfl, rfl, rfl, rfl, rfl, rfl, hd, hk⟩ := h
  exact ⟨pf_declarative hd p0, h0, h1, h2, h4, h6, rfl, rfl, rfl, rfl, rfl, rfl, rfl, rfl, rfl, rfl, rfl, pf_declarative9 hd p0 p1 hp, hk⟩
theorem rw_optional (p0 : Int32) (h : RelW [a0, a1, a2, a3, a4, a5, a6, a7, a8, a9, a10, a11] [b0, b1, b2, b3, b4, b5, b6, b7, b8, b9, b10, b11] ff) : fx_X0_optional a2 a3 = fx_X1_optional b8 b10 ∧ RelW [a0, a1, a2, gx_X0_optional_3 a2 a3 p0, a4, a5, a6, a7, a8, a9, a10, a11] [gx_X1_optional_0, b1, b2, b3, b4, b5, b6, b7, b8, b9, gx_X1_optional_10 b8 b10 p0, b11] ff := by
  obtain ⟨h0, h1, h2, h4, h6, rfl, rfl, rfl, rfl, rfl, rfl, rfl, rfl, rfl, rfl, rfl, hd, hk⟩ := h
  exact ⟨rfl, h0, h1, h2, h4, h6, rfl, rfl, rfl, rfl, rfl, rfl, rfl, rfl, rfl, rfl, rfl, hd, hk⟩
theorem rw_extended (p0 : Int32) (h : RelW [a0, a1, a2, a3, a4, a5, a6, a7, a8, a9, a10, a11] [b0, b1, b2, b3, b4, b5, b6, b7, b8, b9, b10, b11] ff) : fx_X0_extended a0 a8 p0 = fx_X1_extended b1 b5 p0 := by
  obtain ⟨h0, h1, h2, h4, h6, rfl, rfl, rfl, rfl, rfl, rfl, rfl, rfl, rfl, rfl, rfl, hd, hk⟩ := h
  exact pf_extended _ _ _
theorem rw_count (p0 : Int32) (h : RelW [a0, a1, a2, a3, a4, a5, a6, a7, a8, a9, a10, a11] [b0, b1, b2, b3, b4, b5, b6, b7, b8, b9, b10, b11] ff) : fx_X0_count a0 a1 a2 a4 a6 a7 a10 a11 p0 = fx_X1_count b1 b2 b3 b4 b6 b7 b8 b9 p0 := by
  obtain ⟨h0, h1, h2, h4, h6, rfl, rfl, rfl, rfl, rfl, rfl, rfl, rfl, rfl, rfl, rfl, hd, hk⟩ := h
  rfl
end RW
