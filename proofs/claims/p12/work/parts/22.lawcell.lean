abbrev lw_Rel : Type := List Int32 → List Int32 → (Nat → Int32) → Prop
def st_mode (Rel : lw_Rel) : Prop := ∀ (a0 a1 a2 a3 a4 a5 a6 a7 a8 a9 a10 a11 b0 b1 b2 b3 b4 b5 b6 b7 b8 b9 b10 b11 : Int32) (ff : Nat → Int32) (p0 : Int32), Rel [a0, a1, a2, a3, a4, a5, a6, a7, a8, a9, a10, a11] [b0, b1, b2, b3, b4, b5, b6, b7, b8, b9, b10, b11] ff → Rel [a0, gx_X0_mode_1 a1 a2 p0, a2, a3, a4, a5, a6, a7, a8, a9, a10, a11] [gx_X1_mode_0, b1, gx_X1_mode_2 b2 b8 p0, b3, b4, b5, b6, b7, b8, b9, b10, b11] ff
def st_open (Rel : lw_Rel) : Prop := ∀ (a0 a1 a2 a3 a4 a5 a6 a7 a8 a9 a10 a11 b0 b1 b2 b3 b4 b5 b6 b7 b8 b9 b10 b11 : Int32) (ff : Nat → Int32) (p0 : Int32), Rel [a0, a1, a2, a3, a4, a5, a6, a7, a8, a9, a10, a11] [b0, b1, b2, b3, b4, b5, b6, b7, b8, b9, b10, b11] ff → Rel [a0, a1, gx_X0_open_2 a1 a2 a3 p0, a3, gx_X0_open_4 a1 a2 a3 a4 p0, gx_X0_open_5 a1 a2 a3 a5 p0, gx_X0_open_6, gx_X0_open_7 a1 a2 a3 p0, gx_X0_open_8, a9, gx_X0_open_10 a1 a2 a3 a10 p0, gx_X0_open_11 a1 a2 a3 a11 p0] [gx_X1_open_0, b1, b2, gx_X1_open_3 b2 b3 b8 b10 p0, gx_X1_open_4 b2 b8 b10 p0, gx_X1_open_5, b6, gx_X1_open_7 b2 b7 b8 b10 p0, gx_X1_open_8 b2 b8 b10 p0, gx_X1_open_9, b10, gx_X1_open_11 b2 b8 b10 b11 p0] ff
def st_act (Rel : lw_Rel) : Prop := ∀ (a0 a1 a2 a3 a4 a5 a6 a7 a8 a9 a10 a11 b0 b1 b2 b3 b4 b5 b6 b7 b8 b9 b10 b11 : Int32) (ff : Nat → Int32) (p0 p1 : Int32), Rel [a0, a1, a2, a3, a4, a5, a6, a7, a8, a9, a10, a11] [b0, b1, b2, b3, b4, b5, b6, b7, b8, b9, b10, b11] ff → Rel [a0, a1, gx_X0_act_2 a0 a1 a2 a4 a5 a6 p0 p1, a3, gx_X0_act_4 a0 a1 a2 a4 a5 a6 p0 p1, gx_X0_act_5 a5 p0, gx_X0_act_6 a0 a1 a2 a4 a5 a6 p0 p1, gx_X0_act_7 a0 a1 a2 a4 a5 a6 a7 p0 p1, gx_X0_act_8 a8 p0, a9, gx_X0_act_10 a0 a1 a2 a4 a5 a6 a10 p0 p1, gx_X0_act_11 a0 a1 a2 a4 a5 a6 a11 p0 p1] [gx_X1_act_0, b1, b2, gx_X1_act_3 b1 b2 b3 b8 b9 b11 p0 p1, gx_X1_act_4 b1 b2 b3 b4 b8 b9 b11 p0 p1, gx_X1_act_5 b5 p0, gx_X1_act_6 b1 b2 b3 b6 b8 b9 b11 p0 p1, gx_X1_act_7 b1 b2 b3 b7 b8 b9 b11 p0 p1, gx_X1_act_8 b1 b2 b3 b8 b9 p0 p1, gx_X1_act_9 b1 b2 b3 b8 b9 b11 p0 p1, b10, gx_X1_act_11 b1 b2 b3 b8 b9 b11 p0 p1] ff
def st_exception (Rel : lw_Rel) : Prop := ∀ (a0 a1 a2 a3 a4 a5 a6 a7 a8 a9 a10 a11 b0 b1 b2 b3 b4 b5 b6 b7 b8 b9 b10 b11 : Int32) (ff : Nat → Int32) (p0 : Int32), Rel [a0, a1, a2, a3, a4, a5, a6, a7, a8, a9, a10, a11] [b0, b1, b2, b3, b4, b5, b6, b7, b8, b9, b10, b11] ff → Rel [a0, a1, a2, a3, a4, a5, a6, a7, a8, a9, a10, a11] [gx_X1_exception_0, b1, b2, b3, b4, b5, b6, b7, b8, b9, b10, b11] ff
def st_phrase (Rel : lw_Rel) : Prop := ∀ (a0 a1 a2 a3 a4 a5 a6 a7 a8 a9 a10 a11 b0 b1 b2 b3 b4 b5 b6 b7 b8 b9 b10 b11 : Int32) (ff : Nat → Int32) (p0 : Int32), Rel [a0, a1, a2, a3, a4, a5, a6, a7, a8, a9, a10, a11] [b0, b1, b2, b3, b4, b5, b6, b7, b8, b9, b10, b11] ff → (p0 = 0 ∨ p0 = 1) → Rel [a0, a1, a2, a3, a4, a5, a6, a7, a8, a9, a10, a11] [gx_X1_phrase_0, b1, b2, b3, b4, b5, b6, b7, b8, b9, b10, b11] ff
def st_declarative (Rel : lw_Rel) : Prop := ∀ (a0 a1 a2 a3 a4 a5 a6 a7 a8 a9 a10 a11 b0 b1 b2 b3 b4 b5 b6 b7 b8 b9 b10 b11 : Int32) (ff : Nat → Int32) (p0 p1 : Int32), Rel [a0, a1, a2, a3, a4, a5, a6, a7, a8, a9, a10, a11] [b0, b1, b2, b3, b4, b5, b6, b7, b8, b9, b10, b11] ff → (p1 = 0 ∨ p1 = 1) → Rel [a0, a1, a2, a3, a4, a5, a6, a7, a8, gx_X0_declarative_9 a9 p0 p1, a10, a11] [gx_X1_declarative_0, b1, b2, b3, b4, b5, b6, b7, b8, b9, b10, b11] (gx_X1_declarative_arr ff p0 p1)
def st_position (Rel : lw_Rel) : Prop := ∀ (a0 a1 a2 a3 a4 a5 a6 a7 a8 a9 a10 a11 b0 b1 b2 b3 b4 b5 b6 b7 b8 b9 b10 b11 : Int32) (ff : Nat → Int32) (p0 : Int32), Rel [a0, a1, a2, a3, a4, a5, a6, a7, a8, a9, a10, a11] [b0, b1, b2, b3, b4, b5, b6, b7, b8, b9, b10, b11] ff → Rel [a0, a1, a2, a3, a4, a5, a6, a7, a8, a9, a10, a11] [gx_X1_position_0, b1, b2, b3, b4, b5, b6, b7, b8, b9, b10, b11] ff
def st_optional (Rel : lw_Rel) : Prop := ∀ (a0 a1 a2 a3 a4 a5 a6 a7 a8 a9 a10 a11 b0 b1 b2 b3 b4 b5 b6 b7 b8 b9 b10 b11 : Int32) (ff : Nat → Int32) (p0 : Int32), Rel [a0, a1, a2, a3, a4, a5, a6, a7, a8, a9, a10, a11] [b0, b1, b2, b3, b4, b5, b6, b7, b8, b9, b10, b11] ff → (p0 = 0 ∨ p0 = 1) → Rel [a0, a1, a2, gx_X0_optional_3 a2 a3 p0, a4, a5, a6, a7, a8, a9, a10, a11] [gx_X1_optional_0, b1, b2, b3, b4, b5, b6, b7, b8, b9, gx_X1_optional_10 b8 b10 p0, b11] ff
def st_both (Rel : lw_Rel) : Prop := ∀ (a0 a1 a2 a3 a4 a5 a6 a7 a8 a9 a10 a11 b0 b1 b2 b3 b4 b5 b6 b7 b8 b9 b10 b11 : Int32) (ff : Nat → Int32) (p0 p1 : Int32), Rel [a0, a1, a2, a3, a4, a5, a6, a7, a8, a9, a10, a11] [b0, b1, b2, b3, b4, b5, b6, b7, b8, b9, b10, b11] ff → Rel [a0, a1, a2, a3, a4, a5, a6, a7, a8, a9, a10, a11] [gx_X1_both_0, b1, b2, b3, b4, b5, b6, b7, b8, b9, b10, b11] ff
def st_extended (Rel : lw_Rel) : Prop := ∀ (a0 a1 a2 a3 a4 a5 a6 a7 a8 a9 a10 a11 b0 b1 b2 b3 b4 b5 b6 b7 b8 b9 b10 b11 : Int32) (ff : Nat → Int32) (p0 : Int32), Rel [a0, a1, a2, a3, a4, a5, a6, a7, a8, a9, a10, a11] [b0, b1, b2, b3, b4, b5, b6, b7, b8, b9, b10, b11] ff → Rel [a0, a1, a2, a3, a4, a5, a6, a7, a8, a9, a10, a11] [gx_X1_extended_0, b1, b2, b3, b4, b5, b6, b7, b8, b9, b10, b11] ff
def st_area (Rel : lw_Rel) : Prop := ∀ (a0 a1 a2 a3 a4 a5 a6 a7 a8 a9 a10 a11 b0 b1 b2 b3 b4 b5 b6 b7 b8 b9 b10 b11 : Int32) (ff : Nat → Int32) (p0 : Int32), Rel [a0, a1, a2, a3, a4, a5, a6, a7, a8, a9, a10, a11] [b0, b1, b2, b3, b4, b5, b6, b7, b8, b9, b10, b11] ff → fx_X0_area p0 = fx_X1_area p0 ∧ Rel [a0, a1, a2, a3, a4, a5, a6, a7, a8, a9, a10, a11] [gx_X1_area_0, b1, b2, b3, b4, b5, b6, b7, b8, b9, b10, b11] ff
def st_count (Rel : lw_Rel) : Prop := ∀ (a0 a1 a2 a3 a4 a5 a6 a7 a8 a9 a10 a11 b0 b1 b2 b3 b4 b5 b6 b7 b8 b9 b10 b11 : Int32) (ff : Nat → Int32) (p0 : Int32), Rel [a0, a1, a2, a3, a4, a5, a6, a7, a8, a9, a10, a11] [b0, b1, b2, b3, b4, b5, b6, b7, b8, b9, b10, b11] ff → Rel [a0, a1, a2, a3, a4, a5, a6, a7, a8, a9, a10, a11] [gx_X1_count_0, b1, b2, b3, b4, b5, b6, b7, b8, b9, b10, b11] ff
def st_kind (Rel : lw_Rel) : Prop := ∀ (a0 a1 a2 a3 a4 a5 a6 a7 a8 a9 a10 a11 b0 b1 b2 b3 b4 b5 b6 b7 b8 b9 b10 b11 : Int32) (ff : Nat → Int32), Rel [a0, a1, a2, a3, a4, a5, a6, a7, a8, a9, a10, a11] [b0, b1, b2, b3, b4, b5, b6, b7, b8, b9, b10, b11] ff → vp_in (fx_X1_kindOf b4) 7
theorem xx_lp {L i : Nat} (hL : L ≤ 1537) (hi : i ≤ L + 1) (h : ¬ (Int32.ofNat L - 3) < nI i) : i + 3 ≤ L := by
  have h1 := Int32.le_iff_toInt_le.mp (Int32.not_lt.mp h)
  have h2 : (Int32.ofNat L - 3).toInt = (L : Int) - 3 := pk_sub_toInt (a := L) (b := 3) (by omega) (by omega)
  have h3 : (nI i).toInt = (i : Int) := nI_toInt (by omega)
  rw [h2, h3] at h1
  omega
/-- cell(script, 0) -/
def xx_c0 (L : Nat) (xs : Nat → Int32) : Int32 := if Int32.ofNat L ≤ 0 then 0 else xs (0 : Int32).toNatClampNeg
set_option maxHeartbeats 4000000 in
set_option maxRecDepth 100000 in
theorem ct_L_cell (l : Launch) (b L sz : Nat) (xs : Nat → Int32) (hL : L ≤ 1537) : Met l yL_cell wsL_cell ({ frames := 0, cells := 0, slots := 0, locals := 0 }) (va_Pc [.ref b, .int 0] (fun U => U.heap.size = sz ∧ va_X b L xs U U.heap ∧ b < U.heap.size)) (va_Qi (fun (r : Int32) (_ : Nat) => r = xx_c0 L xs) (fun _ _ => True) (va_A [] sz)) 0 0 (va_A [] sz) := by
  refine Met.ofW (cc := cL_cell) (maxL := 2) (ret := (some .int)) (by decide) rfl ?_
  intro p e s m args below meth c s₁ B hml hv
  obtain ⟨rfl, hsz, hX, hbl⟩ := hv
  have hx := B.exec
  have hb := B.bytes
  have hr := B.returns
  have hlocks := B.notSynchronized
  subst hsz
  have hbA : ¬ va_A [] s.heap.size b := fun h => by
    rcases h with ⟨k, e, h⟩ | h
    · simp at h
    · omega
  generalize va_A [] s.heap.size = A at hbA ⊢
  have hS : va_S A s.heap s.heap [] := va_S.rf
  have hl := lv_entry ([.ref b, .int 0]) (n := 2) (Nat.le_of_ble_eq_true rfl)
  rw [lg_entry_eq]
  generalize (lg_sl ([.ref b, .int 0]) ++ List.replicate (2 - (lg_sl ([.ref b, .int 0])).length) Slot.unset).toArray = ls at hl ⊢
  have hl : lv_has ls 2 [(0, .ref b), (1, .int 0)] := hl
  refine lv_iload_n hx hb dL_cell_0 rfl (lv_at hl 1 rfl) ?_
  refine lv_aload_n hx hb dL_cell_1 rfl (lv_at hl 0 rfl) ?_
  refine va_slen hx hb hX hbl hbA hS dL_cell_2 ?_
  refine lv_icmp_ge (tgt := 12) hx hb dL_cell_3 (by decide) (fun c_1 => ?_) (fun c_1 => ?_)
  · refine lv_iconst (v := 0) hx hb dL_cell_12 (by decide) ?_
    exact W.iret (v := 0) hx hb hr (fun t ht hW => ⟨⟨0, 0, rfl, by unfold xx_c0; rw [if_pos c_1], trivial⟩, hS.F ht⟩) hS.2.2 dL_cell_13
  · refine lv_aload_n hx hb dL_cell_6 rfl (lv_at hl 0 rfl) ?_
    refine lv_iload_n hx hb dL_cell_7 rfl (lv_at hl 1 rfl) ?_
    have hpos : 0 < L := by
      rcases Nat.eq_zero_or_pos L with h | h
      · subst h
        exact absurd (by decide) c_1
      · exact h
    have hin : vp_in (0 : Int32) L := vp_in_iff.mpr ⟨by decide, by have e0 : (0 : Int32).toInt = 0 := by decide
                                                                   omega⟩
    refine va_sld hx hb hX hbl hbA hS hin dL_cell_8 ?_
    refine lv_goto (tgt := 13) hx hb dL_cell_9 (by decide) ?_
    exact W.iret (v := xs (0 : Int32).toNatClampNeg) hx hb hr (fun t ht hW => ⟨⟨xs (0 : Int32).toNatClampNeg, 0, rfl, by unfold xx_c0; rw [if_neg c_1], trivial⟩, hS.F ht⟩) hS.2.2 dL_cell_13
