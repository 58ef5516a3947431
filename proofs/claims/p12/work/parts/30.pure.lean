/-! the two sides as functions: where they agree -/
theorem xx_eqI {x y : Int32} {n : Int} (h : x.toInt = n) (hn : y.toInt = n) : x = y := Int32.toInt_inj.mp (h.trans hn.symm)
theorem xx_06 {x : Int32} (h1 : ¬ x < 0) (h2 : x ≤ 6) : x = 0 ∨ x = 1 ∨ x = 2 ∨ x = 3 ∨ x = 4 ∨ x = 5 ∨ x = 6 := by
  have a2 := Int32.le_iff_toInt_le.mp (Int32.not_lt.mp h1)
  have a3 := Int32.le_iff_toInt_le.mp h2
  have e0 : (0 : Int32).toInt = 0 := by decide
  have e6 : (6 : Int32).toInt = 6 := by decide
  rw [e0] at a2
  rw [e6] at a3
  rcases (by omega : x.toInt = 0 ∨ x.toInt = 1 ∨ x.toInt = 2 ∨ x.toInt = 3 ∨ x.toInt = 4 ∨ x.toInt = 5 ∨ x.toInt = 6) with h | h | h | h | h | h | h
  · exact Or.inl (xx_eqI h (by decide))
  · exact Or.inr (Or.inl (xx_eqI h (by decide)))
  · exact Or.inr (Or.inr (Or.inl (xx_eqI h (by decide))))
  · exact Or.inr (Or.inr (Or.inr (Or.inl (xx_eqI h (by decide)))))
  · exact Or.inr (Or.inr (Or.inr (Or.inr (Or.inl (xx_eqI h (by decide))))))
  · exact Or.inr (Or.inr (Or.inr (Or.inr (Or.inr (Or.inl (xx_eqI h (by decide)))))))
  · exact Or.inr (Or.inr (Or.inr (Or.inr (Or.inr (Or.inr (xx_eqI h (by decide)))))))
/-- a number of 0 .. n -/
theorem xx_rng {x : Int32} (n : Nat) (hn : n < 2 ^ 31) (h1 : ¬ x < 0) (h2 : x ≤ nI n) : ∃ j : Nat, j ≤ n ∧ x = nI j := nI_of2 (nI_toInt hn) h1 h2
/-- a status: 0 .. 99 -/
def ok9 (x : Int32) : Prop := ¬ x < 0 ∧ ¬ 99 < x
theorem ok9_n {x : Int32} (h : ok9 x) : ∃ j : Nat, j ≤ 99 ∧ x = nI j := xx_rng 99 (by decide) h.1 (Int32.not_lt.mp h.2)
theorem pf_isStatus (x : Int32) : fx_X0_isStatus x = fx_X1_isStatus x := by
  unfold fx_X0_isStatus fx_X1_isStatus
  have e : (99 < x) ↔ (100 ≤ x) := by
    rw [Int32.lt_iff_toInt_lt, Int32.le_iff_toInt_le, show (99 : Int32).toInt = 99 by decide, show (100 : Int32).toInt = 100 by decide]
    omega
  simp only [e]
theorem pf_isStatus_ok {x : Int32} (h : ¬ fx_X0_isStatus x = 0) : ok9 x := by
  unfold fx_X0_isStatus at h
  refine ⟨fun c => h (if_pos c), fun c => h ?_⟩
  by_cases d : x < 0
  · rw [if_pos d]
  · rw [if_neg d, if_pos c]
theorem tb_exception : ∀ n : Nat, n ≤ 99 → fx_X0_exception (nI n) = fx_X1_exception (nI n) := by
  intro n hn
  exact co_dec (N := 100) (P := fun n => fx_X0_exception (nI n) = fx_X1_exception (nI n)) (by decide +kernel) (by omega)
theorem tb_kind : ∀ n : Nat, n ≤ 99 → fx_X0_exception (nI n) = fx_X1_kindOf (nI n) := by
  intro n hn
  exact co_dec (N := 100) (P := fun n => fx_X0_exception (nI n) = fx_X1_kindOf (nI n)) (by decide +kernel) (by omega)
theorem tb_position : ∀ n : Nat, n ≤ 99 → fx_X0_placeAfter (nI n) 0 = fx_X1_moved (nI n) := by
  intro n hn
  exact co_dec (N := 100) (P := fun n => fx_X0_placeAfter (nI n) 0 = fx_X1_moved (nI n)) (by decide +kernel) (by omega)
theorem tb_kind7 : ∀ n : Nat, n ≤ 99 → vp_in (fx_X1_kindOf (nI n)) 7 := by
  intro n hn
  exact co_dec (N := 100) (P := fun n => ¬ (fx_X1_kindOf (nI n) < 0 ∨ 7 ≤ (fx_X1_kindOf (nI n)).toNatClampNeg)) (by decide +kernel) (by omega)
theorem pf_exception (x : Int32) : fx_X0_exception x = fx_X1_exception x := by
  by_cases h : fx_X0_isStatus x = 0
  · unfold fx_X0_exception fx_X1_exception
    rw [← pf_isStatus, if_pos h, if_pos h]
  · obtain ⟨j, hj, rfl⟩ := ok9_n (pf_isStatus_ok h)
    exact tb_exception j hj
theorem pf_position (x : Int32) : fx_X0_position x = fx_X1_position x := by
  unfold fx_X0_position fx_X1_position
  rw [← pf_isStatus]
  by_cases h : fx_X0_isStatus x = 0
  · rw [if_pos h, if_pos h]
  · rw [if_neg h, if_neg h]
    obtain ⟨j, hj, rfl⟩ := ok9_n (pf_isStatus_ok h)
    exact tb_position j hj
theorem pf_area (x : Int32) : fx_X0_area x = fx_X1_area x := by
  unfold fx_X0_area fx_X1_area
  rw [← pf_isStatus]
theorem pf_extended (a b x : Int32) : fx_X0_extended a b x = fx_X1_extended a b x := by
  unfold fx_X0_extended fx_X1_extended
  rw [← pf_isStatus]
theorem pf_both (x y : Int32) : fx_X0_both x y = fx_X1_both x y := by
  unfold fx_X0_both fx_X1_both
  rw [← pf_isStatus, ← pf_isStatus]
  by_cases h : fx_X0_isStatus x = 0
  · rw [if_pos h, if_pos h]
  · rw [if_neg h, if_neg h]
    by_cases g : fx_X0_isStatus y = 0
    · rw [if_pos g, if_pos g]
    · rw [if_neg g, if_neg g]
      obtain ⟨j, hj, rfl⟩ := ok9_n (pf_isStatus_ok h)
      obtain ⟨k, hk, rfl⟩ := ok9_n (pf_isStatus_ok g)
      rw [tb_kind j hj, tb_kind k hk]
      have e : (if nI k < nI j then nI k else nI j) = (if nI k ≤ nI j then nI k else nI j) := by
        by_cases c : nI k < nI j
        · rw [if_pos c, if_pos (Int32.le_of_lt c)]
        · rw [if_neg c]
          by_cases d : nI k ≤ nI j
          · rw [if_pos d]
            exact Int32.le_antisymm (Int32.not_lt.mp c) d
          · rw [if_neg d]
      rw [e]
theorem pf_opening (a1 a2 a3 x : Int32) : fx_X0_statusOfOpening a1 a2 a3 x = fx_X1_opened a1 a2 a3 x := rfl
/-- acts by their outcome: organisation 0 .. 2, kind 0 .. 6, any outcome -/
theorem tb_out : ∀ a : Nat, a < 3 → ∀ k : Nat, k < 7 → ∀ o : Nat, o < 9 → fx_X0_statusByOutcome (nI a) (nI k) (nI o) = fx_X1_byOutcome (nI a) (nI k) (nI o) := by decide +kernel
theorem pf_out90 {a k x : Int32} (h0 : ¬ x = 0) (h1 : ¬ x = 1) (h2 : ¬ x = 2) (h3 : ¬ x = 3) (h4 : ¬ x = 4) (h5 : ¬ x = 5) (h6 : ¬ x = 6) (h7 : ¬ x = 7) (h8 : ¬ x = 8) : fx_X0_statusByOutcome a k x = 90 ∧ fx_X1_byOutcome a k x = 90 := by
  constructor
  · unfold fx_X0_statusByOutcome
    rw [if_neg h0, if_neg h1, if_neg h2, if_neg h3, if_neg h4, if_neg h5, if_neg h6, if_neg h7, if_neg h8]
  · unfold fx_X1_byOutcome
    by_cases c1 : a ≤ 0
    · by_cases c2 : a = 2 <;> simp [c1, c2, h0, h1, h2, h3, h4, h5, h6, h7, h8]
    · by_cases c2 : a = 2 <;> simp [c1, c2, h0, h1, h2, h3, h4, h5, h6, h7, h8]
theorem pf_byOutcome {a k : Nat} (ha : a < 3) (hk : k < 7) (x : Int32) : fx_X0_statusByOutcome (nI a) (nI k) x = fx_X1_byOutcome (nI a) (nI k) x := by
  by_cases h0 : x = 0
  · rw [h0]; exact tb_out a ha k hk 0 (by decide)
  by_cases h1 : x = 1
  · rw [h1]; exact tb_out a ha k hk 1 (by decide)
  by_cases h2 : x = 2
  · rw [h2]; exact tb_out a ha k hk 2 (by decide)
  by_cases h3 : x = 3
  · rw [h3]; exact tb_out a ha k hk 3 (by decide)
  by_cases h4 : x = 4
  · rw [h4]; exact tb_out a ha k hk 4 (by decide)
  by_cases h5 : x = 5
  · rw [h5]; exact tb_out a ha k hk 5 (by decide)
  by_cases h6 : x = 6
  · rw [h6]; exact tb_out a ha k hk 6 (by decide)
  by_cases h7 : x = 7
  · rw [h7]; exact tb_out a ha k hk 7 (by decide)
  by_cases h8 : x = 8
  · rw [h8]; exact tb_out a ha k hk 8 (by decide)
  have h := pf_out90 (a := nI a) (k := nI k) h0 h1 h2 h3 h4 h5 h6 h7 h8
  rw [h.1, h.2]
/-- declaratives: a mask of bits 1 .. 6 beside a row of booleans -/
def dec9 (x : Int32) (ff : Nat → Int32) : Prop := ∃ n : Nat, n < 128 ∧ x = nI n ∧ ∀ k : Nat, 1 ≤ k → k < 7 → (n.testBit k = false ↔ ff k = 0)
theorem tb_has : ∀ n : Nat, n < 128 → ∀ k : Nat, k < 7 → fx_X0_hasDeclarative (nI n) (nI k) = if n.testBit k = false then 0 else 1 := by decide +kernel
theorem tb_or : ∀ n : Nat, n < 128 → ∀ k : Nat, k < 7 → (nI n ||| ((1 : Int32) <<< (nI k &&& 31))) = nI (n ||| 2 ^ k) ∧ (n ||| 2 ^ k) < 128 := by decide +kernel
theorem tb_and : ∀ n : Nat, n < 128 → ∀ k : Nat, k < 7 → (nI n &&& (((1 : Int32) <<< (nI k &&& 31)) ^^^ (-1))) = nI (n &&& (127 ^^^ 2 ^ k)) ∧ (n &&& (127 ^^^ 2 ^ k)) < 128 := by decide +kernel
theorem tb_orb : ∀ n : Nat, n < 128 → ∀ k : Nat, k < 7 → ∀ j : Nat, j < 7 → (n ||| 2 ^ k).testBit j = (decide (j = k) || n.testBit j) := by decide +kernel
theorem tb_andb : ∀ n : Nat, n < 128 → ∀ k : Nat, k < 7 → ∀ j : Nat, j < 7 → (n &&& (127 ^^^ 2 ^ k)).testBit j = (!decide (j = k) && n.testBit j) := by decide +kernel
theorem xx_16 {x : Int32} (h1 : ¬ x < 1) (h2 : x ≤ 6) : ∃ j : Nat, 1 ≤ j ∧ j < 7 ∧ x = nI j := by
  have a1 := Int32.le_iff_toInt_le.mp (Int32.not_lt.mp h1)
  have e1 : (1 : Int32).toInt = 1 := by decide
  have e0 : (0 : Int32).toInt = 0 := by decide
  obtain ⟨j, hj, rfl⟩ := xx_rng (x := x) 6 (by decide) (Int32.not_lt.mpr (Int32.le_iff_toInt_le.mpr (by rw [e0]; rw [e1] at a1; omega))) h2
  rw [e1, nI_toInt (by omega)] at a1
  exact ⟨j, by omega, by omega, rfl⟩
theorem pf_declarative {x : Int32} {ff : Nat → Int32} (h : dec9 x ff) (p0 : Int32) : fx_X0_declarative x p0 = fx_X1_declarative ff p0 := by
  obtain ⟨n, hn, rfl, hk⟩ := h
  unfold fx_X0_declarative fx_X1_declarative
  by_cases c1 : p0 < 1
  · rw [if_pos c1, if_pos c1]
  · rw [if_neg c1, if_neg c1]
    by_cases c2 : p0 ≤ 6
    · rw [if_pos c2, if_pos c2]
      obtain ⟨j, j1, j2, rfl⟩ := xx_16 c1 c2
      rw [tb_has n hn j j2, nI_clamp (by omega)]
      by_cases c3 : n.testBit j = false
      · simp [c3, (hk j j1 j2).mp c3]
      · have c4 : ¬ ff j = 0 := fun q => c3 ((hk j j1 j2).mpr q)
        simp [c3, c4]
    · rw [if_neg c2, if_neg c2]
theorem pf_declarative9 {x : Int32} {ff : Nat → Int32} (h : dec9 x ff) (p0 p1 : Int32) (hp : p1 = 0 ∨ p1 = 1) : dec9 (gx_X0_declarative_9 x p0 p1) (gx_X1_declarative_arr ff p0 p1) := by
  obtain ⟨n, hn, rfl, hk⟩ := id h
  unfold gx_X0_declarative_9 gx_X1_declarative_arr
  by_cases c1 : p0 < 1
  · rw [if_pos c1, if_pos c1]
    exact h
  · rw [if_neg c1, if_neg c1]
    by_cases c2 : p0 ≤ 6
    · rw [if_pos c2, if_pos c2]
      obtain ⟨j, j1, j2, rfl⟩ := xx_16 c1 c2
      rw [nI_clamp (by omega)]
      rcases hp with rfl | rfl
      · rw [if_pos rfl]
        refine ⟨_, (tb_and n hn j j2).2, (tb_and n hn j j2).1, fun k k1 k2 => ?_⟩
        rw [tb_andb n hn j j2 k k2]
        by_cases e : k = j
        · subst e
          rw [pk_us]
          simp [vp_nar, narrow]
        · rw [pk_un e, ← hk k k1 k2]
          simp [e]
      · rw [if_neg (by decide)]
        refine ⟨_, (tb_or n hn j j2).2, (tb_or n hn j j2).1, fun k k1 k2 => ?_⟩
        rw [tb_orb n hn j j2 k k2]
        by_cases e : k = j
        · subst e
          rw [pk_us]
          simp [vp_nar, narrow]
        · rw [pk_un e, ← hk k k1 k2]
          simp [e]
    · rw [if_neg c2, if_neg c2]
      exact h
