set_option maxHeartbeats 4000000 in
set_option maxRecDepth 100000 in
theorem ct_X1_moved (l : Launch) (dC : Nat → ClassId) (dI : Nat → Nat → Nat) (sz : Nat) (p0 : Int32) : Met l yX1_moved wsX1_moved ({ frames := 0, cells := 0, slots := 0, locals := 0 }) (va_Pc [.int p0] (fun U => U.heap.size = sz ∧ va_P (dC, dI) vwCl [] U.heap ∧ va_K (dC, dI) vwCl [] U ∧ va_D (fun _ => True) [])) (va_Qi (fun (r : Int32) (u : va_W) => r = fx_X1_moved p0 ∧ u = []) (at_W dC dI [] (va_A [] sz)) (va_A [] sz)) 0 0 (va_A [] sz) := by
  refine Met.ofW (cc := cX1_moved) (maxL := 1) (ret := (some .int)) (by decide) rfl ?_
  intro p e s m args below meth c s₁ B hml hv
  obtain ⟨rfl, hsz, hP, hK, hD0⟩ := hv
  have hx := B.exec
  have hb := B.bytes
  have hr := B.returns
  have hts := atoms_spec (ws := wsX1_moved) B.pre
  have hown : s.vm.findClass RX1 = some m.cls := findClass_of_methodNamed B.named
  have hlocks := B.notSynchronized
  subst hsz
  have hD := hD0.self (sz := s.heap.size)
  generalize hAe : va_A [] s.heap.size = A at hD ⊢
  have hA : ∀ q : Nat, s.heap.size ≤ q → A q := fun q h => by rw [← hAe]; exact Or.inr h
  have hS : va_S A s.heap s.heap [] := va_S.rf
  have hP : va_P (dC, dI) vwCl [] s.heap := hP
  have hl := lv_entry ([.int p0]) (n := 1) (Nat.le_of_ble_eq_true rfl)
  rw [lg_entry_eq]
  generalize (lg_sl ([.int p0]) ++ List.replicate (1 - (lg_sl ([.int p0])).length) Slot.unset).toArray = ls at hl ⊢
  have hl : lv_has ls 1 [(0, .int p0)] := hl
  refine lv_iload_n hx hb dX1_moved_0 rfl (lv_at hl 0 rfl) ?_
  refine lv_if_eq (tgt := 14) hx hb dX1_moved_1 (by decide) (fun c_1 => ?_) (fun c_1 => ?_)
  · refine lv_iconst (v := 1) hx hb dX1_moved_14 (by decide) ?_
    have hP9 := hP.sub (ws' := []) [] rfl
    have hD9 := hD.sub (ws' := []) [] (by decide) rfl
    have hK9 := hK.sub (tys' := []) [] rfl
    have ef : fx_X1_moved p0 = 1 := by unfold fx_X1_moved; rw [if_pos c_1]
    exact W.iret (v := 1) hx hb hr (fun t ht hW => ⟨⟨1, [], rfl, ⟨ef.symm, rfl⟩, by rw [ht]; exact hP9, va_K.moved hW.alike hK9, hD9⟩, hS.F ht⟩) hS.2.2 dX1_moved_15
  refine lv_iload_n hx hb dX1_moved_4 rfl (lv_at hl 0 rfl) ?_
  refine lv_iconst (v := 2) hx hb dX1_moved_5 (by decide) ?_
  refine lv_icmp_eq (tgt := 14) hx hb dX1_moved_6 (by decide) (fun c_2 => ?_) (fun c_2 => ?_)
  · refine lv_iconst (v := 1) hx hb dX1_moved_14 (by decide) ?_
    have hP9 := hP.sub (ws' := []) [] rfl
    have hD9 := hD.sub (ws' := []) [] (by decide) rfl
    have hK9 := hK.sub (tys' := []) [] rfl
    have ef : fx_X1_moved p0 = 1 := by unfold fx_X1_moved; rw [if_neg c_1, if_pos c_2]
    exact W.iret (v := 1) hx hb hr (fun t ht hW => ⟨⟨1, [], rfl, ⟨ef.symm, rfl⟩, by rw [ht]; exact hP9, va_K.moved hW.alike hK9, hD9⟩, hS.F ht⟩) hS.2.2 dX1_moved_15
  refine lv_iload_n hx hb dX1_moved_9 rfl (lv_at hl 0 rfl) ?_
  refine lv_iconst (v := 4) hx hb dX1_moved_10 (by decide) ?_
  refine lv_icmp_ne (tgt := 16) hx hb dX1_moved_11 (by decide) (fun c_3 => ?_) (fun c_3 => ?_)
  · refine lv_iload_n hx hb dX1_moved_16 rfl (lv_at hl 0 rfl) ?_
    refine lv_bipush (v := 10) hx hb dX1_moved_17 (by decide) ?_
    refine lv_icmp_ne (tgt := 24) hx hb dX1_moved_19 (by decide) (fun c_4 => ?_) (fun c_4 => ?_)
    · refine lv_iload_n hx hb dX1_moved_24 rfl (lv_at hl 0 rfl) ?_
      refine lv_bipush (v := 14) hx hb dX1_moved_25 (by decide) ?_
      refine lv_icmp_eq (tgt := 42) hx hb dX1_moved_27 (by decide) (fun c_5 => ?_) (fun c_5 => ?_)
      · refine lv_iconst (v := 3) hx hb dX1_moved_42 (by decide) ?_
        refine lv_goto (tgt := 47) hx hb dX1_moved_43 (by decide) ?_
        have hP9 := hP.sub (ws' := []) [] rfl
        have hD9 := hD.sub (ws' := []) [] (by decide) rfl
        have hK9 := hK.sub (tys' := []) [] rfl
        have ef : fx_X1_moved p0 = 3 := by unfold fx_X1_moved; rw [if_neg c_1, if_neg c_2, if_neg c_3, if_neg c_4, if_pos c_5]
        exact W.iret (v := 3) hx hb hr (fun t ht hW => ⟨⟨3, [], rfl, ⟨ef.symm, rfl⟩, by rw [ht]; exact hP9, va_K.moved hW.alike hK9, hD9⟩, hS.F ht⟩) hS.2.2 dX1_moved_47
      refine lv_iload_n hx hb dX1_moved_30 rfl (lv_at hl 0 rfl) ?_
      refine lv_bipush (v := 23) hx hb dX1_moved_31 (by decide) ?_
      refine lv_icmp_eq (tgt := 42) hx hb dX1_moved_33 (by decide) (fun c_6 => ?_) (fun c_6 => ?_)
      · refine lv_iconst (v := 3) hx hb dX1_moved_42 (by decide) ?_
        refine lv_goto (tgt := 47) hx hb dX1_moved_43 (by decide) ?_
        have hP9 := hP.sub (ws' := []) [] rfl
        have hD9 := hD.sub (ws' := []) [] (by decide) rfl
        have hK9 := hK.sub (tys' := []) [] rfl
        have ef : fx_X1_moved p0 = 3 := by unfold fx_X1_moved; rw [if_neg c_1, if_neg c_2, if_neg c_3, if_neg c_4, if_neg c_5, if_pos c_6]
        exact W.iret (v := 3) hx hb hr (fun t ht hW => ⟨⟨3, [], rfl, ⟨ef.symm, rfl⟩, by rw [ht]; exact hP9, va_K.moved hW.alike hK9, hD9⟩, hS.F ht⟩) hS.2.2 dX1_moved_47
      refine lv_iload_n hx hb dX1_moved_36 rfl (lv_at hl 0 rfl) ?_
      refine lv_bipush (v := 46) hx hb dX1_moved_37 (by decide) ?_
      refine lv_icmp_ne (tgt := 46) hx hb dX1_moved_39 (by decide) (fun c_7 => ?_) (fun c_7 => ?_)
      · refine lv_iconst (v := 0) hx hb dX1_moved_46 (by decide) ?_
        have hP9 := hP.sub (ws' := []) [] rfl
        have hD9 := hD.sub (ws' := []) [] (by decide) rfl
        have hK9 := hK.sub (tys' := []) [] rfl
        have ef : fx_X1_moved p0 = 0 := by unfold fx_X1_moved; rw [if_neg c_1, if_neg c_2, if_neg c_3, if_neg c_4, if_neg c_5, if_neg c_6, if_neg c_7]
        exact W.iret (v := 0) hx hb hr (fun t ht hW => ⟨⟨0, [], rfl, ⟨ef.symm, rfl⟩, by rw [ht]; exact hP9, va_K.moved hW.alike hK9, hD9⟩, hS.F ht⟩) hS.2.2 dX1_moved_47
      refine lv_iconst (v := 3) hx hb dX1_moved_42 (by decide) ?_
      refine lv_goto (tgt := 47) hx hb dX1_moved_43 (by decide) ?_
      have hP9 := hP.sub (ws' := []) [] rfl
      have hD9 := hD.sub (ws' := []) [] (by decide) rfl
      have hK9 := hK.sub (tys' := []) [] rfl
      have ef : fx_X1_moved p0 = 3 := by unfold fx_X1_moved; rw [if_neg c_1, if_neg c_2, if_neg c_3, if_neg c_4, if_neg c_5, if_neg c_6, if_pos c_7]
      exact W.iret (v := 3) hx hb hr (fun t ht hW => ⟨⟨3, [], rfl, ⟨ef.symm, rfl⟩, by rw [ht]; exact hP9, va_K.moved hW.alike hK9, hD9⟩, hS.F ht⟩) hS.2.2 dX1_moved_47
    refine lv_iconst (v := 2) hx hb dX1_moved_22 (by decide) ?_
    have hP9 := hP.sub (ws' := []) [] rfl
    have hD9 := hD.sub (ws' := []) [] (by decide) rfl
    have hK9 := hK.sub (tys' := []) [] rfl
    have ef : fx_X1_moved p0 = 2 := by unfold fx_X1_moved; rw [if_neg c_1, if_neg c_2, if_neg c_3, if_pos c_4]
    exact W.iret (v := 2) hx hb hr (fun t ht hW => ⟨⟨2, [], rfl, ⟨ef.symm, rfl⟩, by rw [ht]; exact hP9, va_K.moved hW.alike hK9, hD9⟩, hS.F ht⟩) hS.2.2 dX1_moved_23
  refine lv_iconst (v := 1) hx hb dX1_moved_14 (by decide) ?_
  have hP9 := hP.sub (ws' := []) [] rfl
  have hD9 := hD.sub (ws' := []) [] (by decide) rfl
  have hK9 := hK.sub (tys' := []) [] rfl
  have ef : fx_X1_moved p0 = 1 := by unfold fx_X1_moved; rw [if_neg c_1, if_neg c_2, if_pos c_3]
  exact W.iret (v := 1) hx hb hr (fun t ht hW => ⟨⟨1, [], rfl, ⟨ef.symm, rfl⟩, by rw [ht]; exact hP9, va_K.moved hW.alike hK9, hD9⟩, hS.F ht⟩) hS.2.2 dX1_moved_15
set_option maxHeartbeats 4000000 in
set_option maxRecDepth 100000 in
theorem ct_X1_isStatus (l : Launch) (dC : Nat → ClassId) (dI : Nat → Nat → Nat) (sz : Nat) (p0 : Int32) : Met l yX1_isStatus wsX1_isStatus ({ frames := 0, cells := 0, slots := 0, locals := 0 }) (va_Pc [.int p0] (fun U => U.heap.size = sz ∧ va_P (dC, dI) vwCl [] U.heap ∧ va_K (dC, dI) vwCl [] U ∧ va_D (fun _ => True) [])) (va_Qi (fun (r : Int32) (u : va_W) => r = fx_X1_isStatus p0 ∧ u = []) (at_W dC dI [] (va_A [] sz)) (va_A [] sz)) 0 0 (va_A [] sz) := by
  refine Met.ofW (cc := cX1_isStatus) (maxL := 1) (ret := (some .boolean)) (by decide) rfl ?_
  intro p e s m args below meth c s₁ B hml hv
  obtain ⟨rfl, hsz, hP, hK, hD0⟩ := hv
  have hx := B.exec
  have hb := B.bytes
  have hr := B.returns
  have hts := atoms_spec (ws := wsX1_isStatus) B.pre
  have hown : s.vm.findClass RX1 = some m.cls := findClass_of_methodNamed B.named
  have hlocks := B.notSynchronized
  subst hsz
  have hD := hD0.self (sz := s.heap.size)
  generalize hAe : va_A [] s.heap.size = A at hD ⊢
  have hA : ∀ q : Nat, s.heap.size ≤ q → A q := fun q h => by rw [← hAe]; exact Or.inr h
  have hS : va_S A s.heap s.heap [] := va_S.rf
  have hP : va_P (dC, dI) vwCl [] s.heap := hP
  have hl := lv_entry ([.int p0]) (n := 1) (Nat.le_of_ble_eq_true rfl)
  rw [lg_entry_eq]
  generalize (lg_sl ([.int p0]) ++ List.replicate (1 - (lg_sl ([.int p0])).length) Slot.unset).toArray = ls at hl ⊢
  have hl : lv_has ls 1 [(0, .int p0)] := hl
  refine lv_iload_n hx hb dX1_isStatus_0 rfl (lv_at hl 0 rfl) ?_
  refine lv_if_lt (tgt := 14) hx hb dX1_isStatus_1 (by decide) (fun c_1 => ?_) (fun c_1 => ?_)
  · refine lv_iconst (v := 0) hx hb dX1_isStatus_14 (by decide) ?_
    have hP9 := hP.sub (ws' := []) [] rfl
    have hD9 := hD.sub (ws' := []) [] (by decide) rfl
    have hK9 := hK.sub (tys' := []) [] rfl
    have ef : fx_X1_isStatus p0 = 0 := by unfold fx_X1_isStatus; rw [if_pos c_1]
    exact W.zret (v := 0) (ty := .boolean) hx hb hr rfl (fun t ht hW => ⟨⟨0, [], rfl, ⟨ef.symm, rfl⟩, by rw [ht]; exact hP9, va_K.moved hW.alike hK9, hD9⟩, hS.F ht⟩) hS.2.2 dX1_isStatus_15
  refine lv_iload_n hx hb dX1_isStatus_4 rfl (lv_at hl 0 rfl) ?_
  refine lv_bipush (v := 100) hx hb dX1_isStatus_5 (by decide) ?_
  refine lv_icmp_ge (tgt := 14) hx hb dX1_isStatus_7 (by decide) (fun c_2 => ?_) (fun c_2 => ?_)
  · refine lv_iconst (v := 0) hx hb dX1_isStatus_14 (by decide) ?_
    have hP9 := hP.sub (ws' := []) [] rfl
    have hD9 := hD.sub (ws' := []) [] (by decide) rfl
    have hK9 := hK.sub (tys' := []) [] rfl
    have ef : fx_X1_isStatus p0 = 0 := by unfold fx_X1_isStatus; rw [if_neg c_1, if_pos c_2]
    exact W.zret (v := 0) (ty := .boolean) hx hb hr rfl (fun t ht hW => ⟨⟨0, [], rfl, ⟨ef.symm, rfl⟩, by rw [ht]; exact hP9, va_K.moved hW.alike hK9, hD9⟩, hS.F ht⟩) hS.2.2 dX1_isStatus_15
  refine lv_iconst (v := 1) hx hb dX1_isStatus_10 (by decide) ?_
  refine lv_goto (tgt := 15) hx hb dX1_isStatus_11 (by decide) ?_
  have hP9 := hP.sub (ws' := []) [] rfl
  have hD9 := hD.sub (ws' := []) [] (by decide) rfl
  have hK9 := hK.sub (tys' := []) [] rfl
  have ef : fx_X1_isStatus p0 = 1 := by unfold fx_X1_isStatus; rw [if_neg c_1, if_neg c_2]
  exact W.zret (v := 1) (ty := .boolean) hx hb hr rfl (fun t ht hW => ⟨⟨1, [], rfl, ⟨ef.symm, rfl⟩, by rw [ht]; exact hP9, va_K.moved hW.alike hK9, hD9⟩, hS.F ht⟩) hS.2.2 dX1_isStatus_15
set_option maxHeartbeats 4000000 in
set_option maxRecDepth 100000 in
theorem ct_X1_kindOf (l : Launch) (dC : Nat → ClassId) (dI : Nat → Nat → Nat) (sz : Nat) (p0 : Int32) : Met l yX1_kindOf wsX1_kindOf ({ frames := 0, cells := 0, slots := 0, locals := 0 }) (va_Pc [.int p0] (fun U => U.heap.size = sz ∧ va_P (dC, dI) vwCl [] U.heap ∧ va_K (dC, dI) vwCl [] U ∧ va_D (fun _ => True) [])) (va_Qi (fun (r : Int32) (u : va_W) => r = fx_X1_kindOf p0 ∧ u = []) (at_W dC dI [] (va_A [] sz)) (va_A [] sz)) 0 0 (va_A [] sz) := by
  refine Met.ofW (cc := cX1_kindOf) (maxL := 2) (ret := (some .int)) (by decide) rfl ?_
  intro p e s m args below meth c s₁ B hml hv
  obtain ⟨rfl, hsz, hP, hK, hD0⟩ := hv
  have hx := B.exec
  have hb := B.bytes
  have hr := B.returns
  have hts := atoms_spec (ws := wsX1_kindOf) B.pre
  have hown : s.vm.findClass RX1 = some m.cls := findClass_of_methodNamed B.named
  have hlocks := B.notSynchronized
  subst hsz
  have hD := hD0.self (sz := s.heap.size)
  generalize hAe : va_A [] s.heap.size = A at hD ⊢
  have hA : ∀ q : Nat, s.heap.size ≤ q → A q := fun q h => by rw [← hAe]; exact Or.inr h
  have hS : va_S A s.heap s.heap [] := va_S.rf
  have hP : va_P (dC, dI) vwCl [] s.heap := hP
  have hl := lv_entry ([.int p0]) (n := 2) (Nat.le_of_ble_eq_true rfl)
  rw [lg_entry_eq]
  generalize (lg_sl ([.int p0]) ++ List.replicate (2 - (lg_sl ([.int p0])).length) Slot.unset).toArray = ls at hl ⊢
  have hl : lv_has ls 2 [(0, .int p0)] := hl
  refine lv_iload_n hx hb dX1_kindOf_0 rfl (lv_at hl 0 rfl) ?_
  refine lv_bipush (v := 10) hx hb dX1_kindOf_1 (by decide) ?_
  refine lv_idiv hx hb dX1_kindOf_3 (by decide) ?_
  refine lv_istore_n (lv' := [(1, .int (p0 / 10)), (0, .int p0)]) hx hb dX1_kindOf_4 rfl hl (by decide) rfl (fun ls hl => ?_)
  refine lv_iload_n hx hb dX1_kindOf_5 rfl (lv_at hl 0 rfl) ?_
  refine lv_iconst (v := 5) hx hb dX1_kindOf_6 (by decide) ?_
  refine lv_icmp_ge (tgt := 14) hx hb dX1_kindOf_7 (by decide) (fun c_1 => ?_) (fun c_1 => ?_)
  · refine lv_iload_n hx hb dX1_kindOf_14 rfl (lv_at hl 0 rfl) ?_
    refine lv_bipush (v := 7) hx hb dX1_kindOf_15 (by decide) ?_
    refine lv_icmp_ge (tgt := 24) hx hb dX1_kindOf_17 (by decide) (fun c_2 => ?_) (fun c_2 => ?_)
    · refine lv_bipush (v := 6) hx hb dX1_kindOf_24 (by decide) ?_
      have hP9 := hP.sub (ws' := []) [] rfl
      have hD9 := hD.sub (ws' := []) [] (by decide) rfl
      have hK9 := hK.sub (tys' := []) [] rfl
      have ef : fx_X1_kindOf p0 = 6 := by unfold fx_X1_kindOf; rw [if_pos c_1, if_pos c_2]
      exact W.iret (v := 6) hx hb hr (fun t ht hW => ⟨⟨6, [], rfl, ⟨ef.symm, rfl⟩, by rw [ht]; exact hP9, va_K.moved hW.alike hK9, hD9⟩, hS.F ht⟩) hS.2.2 dX1_kindOf_26
    refine lv_iconst (v := 5) hx hb dX1_kindOf_20 (by decide) ?_
    refine lv_goto (tgt := 26) hx hb dX1_kindOf_21 (by decide) ?_
    have hP9 := hP.sub (ws' := []) [] rfl
    have hD9 := hD.sub (ws' := []) [] (by decide) rfl
    have hK9 := hK.sub (tys' := []) [] rfl
    have ef : fx_X1_kindOf p0 = 5 := by unfold fx_X1_kindOf; rw [if_pos c_1, if_neg c_2]
    exact W.iret (v := 5) hx hb hr (fun t ht hW => ⟨⟨5, [], rfl, ⟨ef.symm, rfl⟩, by rw [ht]; exact hP9, va_K.moved hW.alike hK9, hD9⟩, hS.F ht⟩) hS.2.2 dX1_kindOf_26
  refine lv_iload_n hx hb dX1_kindOf_10 rfl (lv_at hl 0 rfl) ?_
  refine lv_goto (tgt := 26) hx hb dX1_kindOf_11 (by decide) ?_
  have hP9 := hP.sub (ws' := []) [] rfl
  have hD9 := hD.sub (ws' := []) [] (by decide) rfl
  have hK9 := hK.sub (tys' := []) [] rfl
  have ef : fx_X1_kindOf p0 = p0 / 10 := by unfold fx_X1_kindOf; rw [if_neg c_1]
  exact W.iret (v := p0 / 10) hx hb hr (fun t ht hW => ⟨⟨(p0 / 10), [], rfl, ⟨ef.symm, rfl⟩, by rw [ht]; exact hP9, va_K.moved hW.alike hK9, hD9⟩, hS.F ht⟩) hS.2.2 dX1_kindOf_26
set_option maxHeartbeats 4000000 in
set_option maxRecDepth 100000 in
theorem ct_X1_exception (l : Launch) (dC : Nat → ClassId) (dI : Nat → Nat → Nat) (h0 : Nat) (h1 : Nat) (sz : Nat) (a0 a1 a2 a3 a4 a5 a6 a7 a8 a9 a10 a11 p0 : Int32) : Met l yX1_exception wsX1_exception ({ frames := 1, cells := 0, slots := 0, locals := 21 }) (va_Pc [.ref h0, .int p0] (fun U => U.heap.size = sz ∧ va_P (dC, dI) vwCl [(h0, .inr (1, [.int a0, .int a1, .int a2, .int a3, .int a4, .int a5, .int a6, .int a7, .int a8, .int a9, .int a10, .int a11, .ref h1]))] U.heap ∧ va_K (dC, dI) vwCl [] U ∧ va_D (fun _ => True) [(h0, .inr (1, [.int a0, .int a1, .int a2, .int a3, .int a4, .int a5, .int a6, .int a7, .int a8, .int a9, .int a10, .int a11, .ref h1]))])) (va_Qi (fun (r : Int32) (u : va_W) => r = fx_X1_exception p0 ∧ u = [(h0, .inr (1, [.int gx_X1_exception_0, .int a1, .int a2, .int a3, .int a4, .int a5, .int a6, .int a7, .int a8, .int a9, .int a10, .int a11, .ref h1]))]) (at_W dC dI [] (va_A [(h0, .inr (1, [.int a0, .int a1, .int a2, .int a3, .int a4, .int a5, .int a6, .int a7, .int a8, .int a9, .int a10, .int a11, .ref h1]))] sz)) (va_A [(h0, .inr (1, [.int a0, .int a1, .int a2, .int a3, .int a4, .int a5, .int a6, .int a7, .int a8, .int a9, .int a10, .int a11, .ref h1]))] sz)) 0 0 (va_A [(h0, .inr (1, [.int a0, .int a1, .int a2, .int a3, .int a4, .int a5, .int a6, .int a7, .int a8, .int a9, .int a10, .int a11, .ref h1]))] sz) := by
  refine Met.ofW (cc := cX1_exception) (maxL := 2) (ret := (some .int)) (by decide) rfl ?_
  intro p e s m args below meth c s₁ B hml hv
  obtain ⟨rfl, hsz, hP, hK, hD0⟩ := hv
  have hx := B.exec
  have hb := B.bytes
  have hr := B.returns
  have hts := atoms_spec (ws := wsX1_exception) B.pre
  have hown : s.vm.findClass RX1 = some m.cls := findClass_of_methodNamed B.named
  have hlocks := B.notSynchronized
  subst hsz
  have hD := hD0.self (sz := s.heap.size)
  generalize hAe : va_A [(h0, .inr (1, [.int a0, .int a1, .int a2, .int a3, .int a4, .int a5, .int a6, .int a7, .int a8, .int a9, .int a10, .int a11, .ref h1]))] s.heap.size = A at hD ⊢
  have hA : ∀ q : Nat, s.heap.size ≤ q → A q := fun q h => by rw [← hAe]; exact Or.inr h
  have hS : va_S A s.heap s.heap [] := va_S.rf
  have hP : va_P (dC, dI) vwCl [(h0, .inr (1, [.int a0, .int a1, .int a2, .int a3, .int a4, .int a5, .int a6, .int a7, .int a8, .int a9, .int a10, .int a11, .ref h1]))] s.heap := hP
  have hl := lv_entry ([.ref h0, .int p0]) (n := 2) (Nat.le_of_ble_eq_true rfl)
  rw [lg_entry_eq]
  generalize (lg_sl ([.ref h0, .int p0]) ++ List.replicate (2 - (lg_sl ([.ref h0, .int p0])).length) Slot.unset).toArray = ls at hl ⊢
  have hl : lv_has ls 2 [(0, .ref h0), (1, .int p0)] := hl
  refine lv_aload_n hx hb dX1_exception_0 rfl (lv_at hl 0 rfl) ?_
  refine lv_iconst (v := 0) hx hb dX1_exception_1 (by decide) ?_
  refine va_put (D := (dC, dI)) (ci := 1) (v := .int 0) (ty := .int) (C := RX1) (T := TX1) (N := 13) hx hb hts (fun _ h => List.mem_cons_of_mem _ (List.mem_append_right _ h)) tyX1 tyX1_ok nmX1 hown hK hP hD hS 0 rfl rfl 0 (by decide) (hts (.fieldLink RX1 20 "FileStatusModel" "code" "I") (by decide +kernel)) (fun _ h9 => h9) rfl (by decide +kernel) rfl rfl (Nat.le_of_ble_eq_true rfl) dX1_exception_2 (fun H locs hP hD hS => ?_)
  have hP : va_P (dC, dI) vwCl [(h0, .inr (1, [.int 0, .int a1, .int a2, .int a3, .int a4, .int a5, .int a6, .int a7, .int a8, .int a9, .int a10, .int a11, .ref h1]))] H := hP
  have hD : va_D A [(h0, .inr (1, [.int 0, .int a1, .int a2, .int a3, .int a4, .int a5, .int a6, .int a7, .int a8, .int a9, .int a10, .int a11, .ref h1]))] := hD
  refine lv_iload_n hx hb dX1_exception_5 rfl (lv_at hl 1 rfl) ?_
  have hPc := hP.sub (ws' := []) [] rfl
  have hDc := hD.sub (ws' := []) [] (by decide) rfl
  have hKc := hK.sub (tys' := []) [] rfl
  have hFc := va_free (wc := []) hD hS hA [] rfl
  refine va_calli (va_runS (As := [.int p0]) (rest := []) ⟨hx, hb, hml, hown, hts⟩ (ct_X1_isStatus l dC dI H.size p0) (va_cwS 1 hts gX1_exception_X1_isStatus rfl rfl rfl (by decide +kernel) ⟨Nat.le_of_ble_eq_true rfl, Nat.le_of_ble_eq_true rfl⟩) ⟨fun a U g mk q => by obtain ⟨q0, q1, qP, qK, qD⟩ := q; exact ⟨q0, q1, qP, va_K.moved (u := U) (U := U.calling g mk a) (Vm.Alike.refl U.vm) qK, qD⟩, fun U hU hW => ⟨rfl, by rw [hU], by rw [hU]; exact hPc, va_K.moved hW.alike hKc, hDc.weaken (fun _ _ _ _ => trivial)⟩⟩ rfl rfl hl.1 rfl (lv_room (Nat.le_of_ble_eq_true rfl)) dX1_exception_6 ⟨(Nat.zero_le _), (Nat.zero_le _)⟩) hS (fun q _ h => hFc q h) hFc (fun r_1 u t H1 locs ht hvm hw hB hz1 hk1 hS => ?_)
  obtain ⟨er, hu⟩ := hw
  subst hu
  subst er
  obtain ⟨hP1, -, hD1⟩ := hB
  rw [ht] at hP1
  obtain ⟨hP, hD⟩ := va_join (wr := [(h0, .inr (1, [.int 0, .int a1, .int a2, .int a3, .int a4, .int a5, .int a6, .int a7, .int a8, .int a9, .int a10, .int a11, .ref h1]))]) (w1 := []) hP hD [] [0] rfl rfl (by decide) (by decide) hk1 hFc hP1 hD1
  generalize H1 = H at hP hS ⊢
  have hP : va_P (dC, dI) vwCl [(h0, .inr (1, [.int 0, .int a1, .int a2, .int a3, .int a4, .int a5, .int a6, .int a7, .int a8, .int a9, .int a10, .int a11, .ref h1]))] H := hP
  have hD : va_D A [(h0, .inr (1, [.int 0, .int a1, .int a2, .int a3, .int a4, .int a5, .int a6, .int a7, .int a8, .int a9, .int a10, .int a11, .ref h1]))] := hD
  refine lv_if_eq (tgt := 19) hx hb dX1_exception_9 (by decide) (fun c_2 => ?_) (fun c_2 => ?_)
  · refine lv_iconst (v := (-1)) hx hb dX1_exception_19 (by decide) ?_
    have hP9 := hP.sub (ws' := [(h0, .inr (1, [.int 0, .int a1, .int a2, .int a3, .int a4, .int a5, .int a6, .int a7, .int a8, .int a9, .int a10, .int a11, .ref h1]))]) [0] rfl
    have hD9 := hD.sub (ws' := [(h0, .inr (1, [.int 0, .int a1, .int a2, .int a3, .int a4, .int a5, .int a6, .int a7, .int a8, .int a9, .int a10, .int a11, .ref h1]))]) [0] (by decide) rfl
    have hK9 := hK.sub (tys' := []) [] rfl
    have eg_0 : gx_X1_exception_0 = 0 := by rfl
    have ef : fx_X1_exception p0 = (-1) := by unfold fx_X1_exception; rw [if_pos c_2]
    exact W.iret (v := (-1)) hx hb hr (fun t ht hW => ⟨⟨(-1), [(h0, .inr (1, [.int 0, .int a1, .int a2, .int a3, .int a4, .int a5, .int a6, .int a7, .int a8, .int a9, .int a10, .int a11, .ref h1]))], rfl, ⟨ef.symm, by rw [eg_0]⟩, by rw [ht]; exact hP9, va_K.moved hW.alike hK9, hD9⟩, hS.F ht⟩) hS.2.2 dX1_exception_20
  refine lv_iload_n hx hb dX1_exception_12 rfl (lv_at hl 1 rfl) ?_
  have hPc := hP.sub (ws' := []) [] rfl
  have hDc := hD.sub (ws' := []) [] (by decide) rfl
  have hKc := hK.sub (tys' := []) [] rfl
  have hFc := va_free (wc := []) hD hS hA [] rfl
  refine va_calli (va_runS (As := [.int p0]) (rest := []) ⟨hx, hb, hml, hown, hts⟩ (ct_X1_kindOf l dC dI H.size p0) (va_cwS 1 hts gX1_exception_X1_kindOf rfl rfl rfl (by decide +kernel) ⟨Nat.le_of_ble_eq_true rfl, Nat.le_of_ble_eq_true rfl⟩) ⟨fun a U g mk q => by obtain ⟨q0, q1, qP, qK, qD⟩ := q; exact ⟨q0, q1, qP, va_K.moved (u := U) (U := U.calling g mk a) (Vm.Alike.refl U.vm) qK, qD⟩, fun U hU hW => ⟨rfl, by rw [hU], by rw [hU]; exact hPc, va_K.moved hW.alike hKc, hDc.weaken (fun _ _ _ _ => trivial)⟩⟩ rfl rfl hl.1 rfl (lv_room (Nat.le_of_ble_eq_true rfl)) dX1_exception_13 ⟨(Nat.zero_le _), (Nat.zero_le _)⟩) hS (fun q _ h => hFc q h) hFc (fun r_3 u t H1 locs ht hvm hw hB hz1 hk1 hS => ?_)
  obtain ⟨er, hu⟩ := hw
  subst hu
  subst er
  obtain ⟨hP1, -, hD1⟩ := hB
  rw [ht] at hP1
  obtain ⟨hP, hD⟩ := va_join (wr := [(h0, .inr (1, [.int 0, .int a1, .int a2, .int a3, .int a4, .int a5, .int a6, .int a7, .int a8, .int a9, .int a10, .int a11, .ref h1]))]) (w1 := []) hP hD [] [0] rfl rfl (by decide) (by decide) hk1 hFc hP1 hD1
  generalize H1 = H at hP hS ⊢
  have hP : va_P (dC, dI) vwCl [(h0, .inr (1, [.int 0, .int a1, .int a2, .int a3, .int a4, .int a5, .int a6, .int a7, .int a8, .int a9, .int a10, .int a11, .ref h1]))] H := hP
  have hD : va_D A [(h0, .inr (1, [.int 0, .int a1, .int a2, .int a3, .int a4, .int a5, .int a6, .int a7, .int a8, .int a9, .int a10, .int a11, .ref h1]))] := hD
  refine lv_goto (tgt := 20) hx hb dX1_exception_16 (by decide) ?_
  have hP9 := hP.sub (ws' := [(h0, .inr (1, [.int 0, .int a1, .int a2, .int a3, .int a4, .int a5, .int a6, .int a7, .int a8, .int a9, .int a10, .int a11, .ref h1]))]) [0] rfl
  have hD9 := hD.sub (ws' := [(h0, .inr (1, [.int 0, .int a1, .int a2, .int a3, .int a4, .int a5, .int a6, .int a7, .int a8, .int a9, .int a10, .int a11, .ref h1]))]) [0] (by decide) rfl
  have hK9 := hK.sub (tys' := []) [] rfl
  have eg_0 : gx_X1_exception_0 = 0 := by rfl
  have ef : fx_X1_exception p0 = fx_X1_kindOf p0 := by unfold fx_X1_exception; rw [if_neg c_2]
  exact W.iret (v := fx_X1_kindOf p0) hx hb hr (fun t ht hW => ⟨⟨(fx_X1_kindOf p0), [(h0, .inr (1, [.int 0, .int a1, .int a2, .int a3, .int a4, .int a5, .int a6, .int a7, .int a8, .int a9, .int a10, .int a11, .ref h1]))], rfl, ⟨ef.symm, by rw [eg_0]⟩, by rw [ht]; exact hP9, va_K.moved hW.alike hK9, hD9⟩, hS.F ht⟩) hS.2.2 dX1_exception_20
set_option maxHeartbeats 4000000 in
set_option maxRecDepth 100000 in
theorem ct_X1_phrase (l : Launch) (dC : Nat → ClassId) (dI : Nat → Nat → Nat) (h0 : Nat) (h1 : Nat) (cA : ClassId) (ff : Nat → Int32) (sz : Nat) (a0 a1 a2 a3 a4 a5 a6 a7 a8 a9 a10 a11 p0 : Int32) (hk : vp_in (fx_X1_kindOf a4) 7) : Met l yX1_phrase wsX1_phrase ({ frames := 1, cells := 0, slots := 0, locals := 21 }) (va_Pc [.ref h0, .int p0] (fun U => U.heap.size = sz ∧ va_P (dC, dI) vwCl [(h0, .inr (1, [.int a0, .int a1, .int a2, .int a3, .int a4, .int a5, .int a6, .int a7, .int a8, .int a9, .int a10, .int a11, .ref h1])), (h1, .inl (cA, 7, .inl ff))] U.heap ∧ va_K (dC, dI) vwCl [(cA, .boolean)] U ∧ va_D (fun _ => True) [(h0, .inr (1, [.int a0, .int a1, .int a2, .int a3, .int a4, .int a5, .int a6, .int a7, .int a8, .int a9, .int a10, .int a11, .ref h1])), (h1, .inl (cA, 7, .inl ff))])) (va_Qi (fun (r : Int32) (u : va_W) => r = fx_X1_phrase ff a4 p0 ∧ u = [(h0, .inr (1, [.int gx_X1_phrase_0, .int a1, .int a2, .int a3, .int a4, .int a5, .int a6, .int a7, .int a8, .int a9, .int a10, .int a11, .ref h1])), (h1, .inl (cA, 7, .inl ff))]) (at_W dC dI [(cA, .boolean)] (va_A [(h0, .inr (1, [.int a0, .int a1, .int a2, .int a3, .int a4, .int a5, .int a6, .int a7, .int a8, .int a9, .int a10, .int a11, .ref h1])), (h1, .inl (cA, 7, .inl ff))] sz)) (va_A [(h0, .inr (1, [.int a0, .int a1, .int a2, .int a3, .int a4, .int a5, .int a6, .int a7, .int a8, .int a9, .int a10, .int a11, .ref h1])), (h1, .inl (cA, 7, .inl ff))] sz)) 0 0 (va_A [(h0, .inr (1, [.int a0, .int a1, .int a2, .int a3, .int a4, .int a5, .int a6, .int a7, .int a8, .int a9, .int a10, .int a11, .ref h1])), (h1, .inl (cA, 7, .inl ff))] sz) := by
  refine Met.ofW (cc := cX1_phrase) (maxL := 3) (ret := (some .int)) (by decide) rfl ?_
  intro p e s m args below meth c s₁ B hml hv
  obtain ⟨rfl, hsz, hP, hK, hD0⟩ := hv
  have hx := B.exec
  have hb := B.bytes
  have hr := B.returns
  have hts := atoms_spec (ws := wsX1_phrase) B.pre
  have hown : s.vm.findClass RX1 = some m.cls := findClass_of_methodNamed B.named
  have hlocks := B.notSynchronized
  subst hsz
  have hD := hD0.self (sz := s.heap.size)
  generalize hAe : va_A [(h0, .inr (1, [.int a0, .int a1, .int a2, .int a3, .int a4, .int a5, .int a6, .int a7, .int a8, .int a9, .int a10, .int a11, .ref h1])), (h1, .inl (cA, 7, .inl ff))] s.heap.size = A at hD ⊢
  have hA : ∀ q : Nat, s.heap.size ≤ q → A q := fun q h => by rw [← hAe]; exact Or.inr h
  have hS : va_S A s.heap s.heap [] := va_S.rf
  have hP : va_P (dC, dI) vwCl [(h0, .inr (1, [.int a0, .int a1, .int a2, .int a3, .int a4, .int a5, .int a6, .int a7, .int a8, .int a9, .int a10, .int a11, .ref h1])), (h1, .inl (cA, 7, .inl ff))] s.heap := hP
  have hl := lv_entry ([.ref h0, .int p0]) (n := 3) (Nat.le_of_ble_eq_true rfl)
  rw [lg_entry_eq]
  generalize (lg_sl ([.ref h0, .int p0]) ++ List.replicate (3 - (lg_sl ([.ref h0, .int p0])).length) Slot.unset).toArray = ls at hl ⊢
  have hl : lv_has ls 3 [(0, .ref h0), (1, .int p0)] := hl
  refine lv_aload_n hx hb dX1_phrase_0 rfl (lv_at hl 0 rfl) ?_
  refine lv_iconst (v := 0) hx hb dX1_phrase_1 (by decide) ?_
  refine va_put (D := (dC, dI)) (ci := 1) (v := .int 0) (ty := .int) (C := RX1) (T := TX1) (N := 13) hx hb hts (fun _ h => List.mem_cons_of_mem _ (List.mem_append_right _ h)) tyX1 tyX1_ok nmX1 hown hK hP hD hS 0 rfl rfl 0 (by decide) (hts (.fieldLink RX1 20 "FileStatusModel" "code" "I") (by decide +kernel)) (fun _ h9 => h9) rfl (by decide +kernel) rfl rfl (Nat.le_of_ble_eq_true rfl) dX1_phrase_2 (fun H locs hP hD hS => ?_)
  have hP : va_P (dC, dI) vwCl [(h0, .inr (1, [.int 0, .int a1, .int a2, .int a3, .int a4, .int a5, .int a6, .int a7, .int a8, .int a9, .int a10, .int a11, .ref h1])), (h1, .inl (cA, 7, .inl ff))] H := hP
  have hD : va_D A [(h0, .inr (1, [.int 0, .int a1, .int a2, .int a3, .int a4, .int a5, .int a6, .int a7, .int a8, .int a9, .int a10, .int a11, .ref h1])), (h1, .inl (cA, 7, .inl ff))] := hD
  refine lv_aload_n hx hb dX1_phrase_5 rfl (lv_at hl 0 rfl) ?_
  refine va_get (D := (dC, dI)) (ci := 1) (v := .int a4) (C := RX1) (T := TX1) (N := 13) hx hb hts (fun _ h => List.mem_cons_of_mem _ (List.mem_append_right _ h)) hown hK hP 0 rfl rfl 4 (by decide) (hts (.fieldLink RX1 30 "FileStatusModel" "latest" "I") (by decide +kernel)) (fun _ h9 => h9) rfl dX1_phrase_6 ?_
  have hPc := hP.sub (ws' := []) [] rfl
  have hDc := hD.sub (ws' := []) [] (by decide) rfl
  have hKc := hK.sub (tys' := []) [] rfl
  have hFc := va_free (wc := []) hD hS hA [] rfl
  refine va_calli (va_runS (As := [.int a4]) (rest := []) ⟨hx, hb, hml, hown, hts⟩ (ct_X1_kindOf l dC dI H.size a4) (va_cwS 1 hts gX1_phrase_X1_kindOf rfl rfl rfl (by decide +kernel) ⟨Nat.le_of_ble_eq_true rfl, Nat.le_of_ble_eq_true rfl⟩) ⟨fun a U g mk q => by obtain ⟨q0, q1, qP, qK, qD⟩ := q; exact ⟨q0, q1, qP, va_K.moved (u := U) (U := U.calling g mk a) (Vm.Alike.refl U.vm) qK, qD⟩, fun U hU hW => ⟨rfl, by rw [hU], by rw [hU]; exact hPc, va_K.moved hW.alike hKc, hDc.weaken (fun _ _ _ _ => trivial)⟩⟩ rfl rfl hl.1 rfl (lv_room (Nat.le_of_ble_eq_true rfl)) dX1_phrase_9 ⟨(Nat.zero_le _), (Nat.zero_le _)⟩) hS (fun q _ h => hFc q h) hFc (fun r_1 u t H1 locs ht hvm hw hB hz1 hk1 hS => ?_)
  obtain ⟨er, hu⟩ := hw
  subst hu
  subst er
  obtain ⟨hP1, -, hD1⟩ := hB
  rw [ht] at hP1
  obtain ⟨hP, hD⟩ := va_join (wr := [(h0, .inr (1, [.int 0, .int a1, .int a2, .int a3, .int a4, .int a5, .int a6, .int a7, .int a8, .int a9, .int a10, .int a11, .ref h1])), (h1, .inl (cA, 7, .inl ff))]) (w1 := []) hP hD [] [0, 1] rfl rfl (by decide) (by decide) hk1 hFc hP1 hD1
  generalize H1 = H at hP hS ⊢
  have hP : va_P (dC, dI) vwCl [(h0, .inr (1, [.int 0, .int a1, .int a2, .int a3, .int a4, .int a5, .int a6, .int a7, .int a8, .int a9, .int a10, .int a11, .ref h1])), (h1, .inl (cA, 7, .inl ff))] H := hP
  have hD : va_D A [(h0, .inr (1, [.int 0, .int a1, .int a2, .int a3, .int a4, .int a5, .int a6, .int a7, .int a8, .int a9, .int a10, .int a11, .ref h1])), (h1, .inl (cA, 7, .inl ff))] := hD
  refine lv_istore_n (lv' := [(2, .int (fx_X1_kindOf a4)), (0, .ref h0), (1, .int p0)]) hx hb dX1_phrase_12 rfl hl (by decide) rfl (fun ls hl => ?_)
  refine lv_iload_n hx hb dX1_phrase_13 rfl (lv_at hl 0 rfl) ?_
  refine lv_if_ne (tgt := 19) hx hb dX1_phrase_14 (by decide) (fun c_2 => ?_) (fun c_2 => ?_)
  · refine lv_iload_n hx hb dX1_phrase_19 rfl (lv_at hl 2 rfl) ?_
    refine lv_if_eq (tgt := 30) hx hb dX1_phrase_20 (by decide) (fun c_3 => ?_) (fun c_3 => ?_)
    · refine lv_aload_n hx hb dX1_phrase_30 rfl (lv_at hl 1 rfl) ?_
      refine va_get (D := (dC, dI)) (ci := 1) (v := .ref h1) (C := RX1) (T := TX1) (N := 13) hx hb hts (fun _ h => List.mem_cons_of_mem _ (List.mem_append_right _ h)) hown hK hP 0 rfl rfl 12 (by decide) (hts (.fieldLink RX1 13 "FileStatusModel" "declared" "[Z") (by decide +kernel)) (fun _ h9 => h9) rfl dX1_phrase_31 ?_
      refine lv_iload_n hx hb dX1_phrase_34 rfl (lv_at hl 0 rfl) ?_
      refine va_zald hx hb hK hP 1 0 rfl rfl hk dX1_phrase_35 ?_
      refine lv_if_eq (tgt := 43) hx hb dX1_phrase_36 (by decide) (fun c_4 => ?_) (fun c_4 => ?_)
      · refine lv_iload_n hx hb dX1_phrase_43 rfl (lv_at hl 0 rfl) ?_
        refine lv_iconst (v := 2) hx hb dX1_phrase_44 (by decide) ?_
        refine lv_icmp_le (tgt := 52) hx hb dX1_phrase_45 (by decide) (fun c_5 => ?_) (fun c_5 => ?_)
        · refine lv_iconst (v := 4) hx hb dX1_phrase_52 (by decide) ?_
          have hP9 := hP.sub (ws' := [(h0, .inr (1, [.int 0, .int a1, .int a2, .int a3, .int a4, .int a5, .int a6, .int a7, .int a8, .int a9, .int a10, .int a11, .ref h1])), (h1, .inl (cA, 7, .inl ff))]) [0, 1] rfl
          have hD9 := hD.sub (ws' := [(h0, .inr (1, [.int 0, .int a1, .int a2, .int a3, .int a4, .int a5, .int a6, .int a7, .int a8, .int a9, .int a10, .int a11, .ref h1])), (h1, .inl (cA, 7, .inl ff))]) [0, 1] (by decide) rfl
          have hK9 := hK.sub (tys' := [(cA, .boolean)]) [0] rfl
          have eg_0 : gx_X1_phrase_0 = 0 := by rfl
          have ef : fx_X1_phrase ff a4 p0 = 4 := by unfold fx_X1_phrase; rw [if_neg c_2, if_pos c_3, if_pos c_4, if_pos c_5]
          exact W.iret (v := 4) hx hb hr (fun t ht hW => ⟨⟨4, [(h0, .inr (1, [.int 0, .int a1, .int a2, .int a3, .int a4, .int a5, .int a6, .int a7, .int a8, .int a9, .int a10, .int a11, .ref h1])), (h1, .inl (cA, 7, .inl ff))], rfl, ⟨ef.symm, by rw [eg_0]⟩, by rw [ht]; exact hP9, va_K.moved hW.alike hK9, hD9⟩, hS.F ht⟩) hS.2.2 dX1_phrase_53
        refine lv_iconst (v := 3) hx hb dX1_phrase_48 (by decide) ?_
        refine lv_goto (tgt := 53) hx hb dX1_phrase_49 (by decide) ?_
        have hP9 := hP.sub (ws' := [(h0, .inr (1, [.int 0, .int a1, .int a2, .int a3, .int a4, .int a5, .int a6, .int a7, .int a8, .int a9, .int a10, .int a11, .ref h1])), (h1, .inl (cA, 7, .inl ff))]) [0, 1] rfl
        have hD9 := hD.sub (ws' := [(h0, .inr (1, [.int 0, .int a1, .int a2, .int a3, .int a4, .int a5, .int a6, .int a7, .int a8, .int a9, .int a10, .int a11, .ref h1])), (h1, .inl (cA, 7, .inl ff))]) [0, 1] (by decide) rfl
        have hK9 := hK.sub (tys' := [(cA, .boolean)]) [0] rfl
        have eg_0 : gx_X1_phrase_0 = 0 := by rfl
        have ef : fx_X1_phrase ff a4 p0 = 3 := by unfold fx_X1_phrase; rw [if_neg c_2, if_pos c_3, if_pos c_4, if_neg c_5]
        exact W.iret (v := 3) hx hb hr (fun t ht hW => ⟨⟨3, [(h0, .inr (1, [.int 0, .int a1, .int a2, .int a3, .int a4, .int a5, .int a6, .int a7, .int a8, .int a9, .int a10, .int a11, .ref h1])), (h1, .inl (cA, 7, .inl ff))], rfl, ⟨ef.symm, by rw [eg_0]⟩, by rw [ht]; exact hP9, va_K.moved hW.alike hK9, hD9⟩, hS.F ht⟩) hS.2.2 dX1_phrase_53
      refine lv_iconst (v := 2) hx hb dX1_phrase_39 (by decide) ?_
      refine lv_goto (tgt := 53) hx hb dX1_phrase_40 (by decide) ?_
      have hP9 := hP.sub (ws' := [(h0, .inr (1, [.int 0, .int a1, .int a2, .int a3, .int a4, .int a5, .int a6, .int a7, .int a8, .int a9, .int a10, .int a11, .ref h1])), (h1, .inl (cA, 7, .inl ff))]) [0, 1] rfl
      have hD9 := hD.sub (ws' := [(h0, .inr (1, [.int 0, .int a1, .int a2, .int a3, .int a4, .int a5, .int a6, .int a7, .int a8, .int a9, .int a10, .int a11, .ref h1])), (h1, .inl (cA, 7, .inl ff))]) [0, 1] (by decide) rfl
      have hK9 := hK.sub (tys' := [(cA, .boolean)]) [0] rfl
      have eg_0 : gx_X1_phrase_0 = 0 := by rfl
      have ef : fx_X1_phrase ff a4 p0 = 2 := by unfold fx_X1_phrase; rw [if_neg c_2, if_pos c_3, if_neg c_4]
      exact W.iret (v := 2) hx hb hr (fun t ht hW => ⟨⟨2, [(h0, .inr (1, [.int 0, .int a1, .int a2, .int a3, .int a4, .int a5, .int a6, .int a7, .int a8, .int a9, .int a10, .int a11, .ref h1])), (h1, .inl (cA, 7, .inl ff))], rfl, ⟨ef.symm, by rw [eg_0]⟩, by rw [ht]; exact hP9, va_K.moved hW.alike hK9, hD9⟩, hS.F ht⟩) hS.2.2 dX1_phrase_53
    refine lv_iload_n hx hb dX1_phrase_23 rfl (lv_at hl 0 rfl) ?_
    refine lv_iconst (v := 3) hx hb dX1_phrase_24 (by decide) ?_
    refine lv_icmp_ge (tgt := 30) hx hb dX1_phrase_25 (by decide) (fun c_6 => ?_) (fun c_6 => ?_)
    · refine lv_aload_n hx hb dX1_phrase_30 rfl (lv_at hl 1 rfl) ?_
      refine va_get (D := (dC, dI)) (ci := 1) (v := .ref h1) (C := RX1) (T := TX1) (N := 13) hx hb hts (fun _ h => List.mem_cons_of_mem _ (List.mem_append_right _ h)) hown hK hP 0 rfl rfl 12 (by decide) (hts (.fieldLink RX1 13 "FileStatusModel" "declared" "[Z") (by decide +kernel)) (fun _ h9 => h9) rfl dX1_phrase_31 ?_
      refine lv_iload_n hx hb dX1_phrase_34 rfl (lv_at hl 0 rfl) ?_
      refine va_zald hx hb hK hP 1 0 rfl rfl hk dX1_phrase_35 ?_
      refine lv_if_eq (tgt := 43) hx hb dX1_phrase_36 (by decide) (fun c_7 => ?_) (fun c_7 => ?_)
      · refine lv_iload_n hx hb dX1_phrase_43 rfl (lv_at hl 0 rfl) ?_
        refine lv_iconst (v := 2) hx hb dX1_phrase_44 (by decide) ?_
        refine lv_icmp_le (tgt := 52) hx hb dX1_phrase_45 (by decide) (fun c_8 => ?_) (fun c_8 => ?_)
        · refine lv_iconst (v := 4) hx hb dX1_phrase_52 (by decide) ?_
          have hP9 := hP.sub (ws' := [(h0, .inr (1, [.int 0, .int a1, .int a2, .int a3, .int a4, .int a5, .int a6, .int a7, .int a8, .int a9, .int a10, .int a11, .ref h1])), (h1, .inl (cA, 7, .inl ff))]) [0, 1] rfl
          have hD9 := hD.sub (ws' := [(h0, .inr (1, [.int 0, .int a1, .int a2, .int a3, .int a4, .int a5, .int a6, .int a7, .int a8, .int a9, .int a10, .int a11, .ref h1])), (h1, .inl (cA, 7, .inl ff))]) [0, 1] (by decide) rfl
          have hK9 := hK.sub (tys' := [(cA, .boolean)]) [0] rfl
          have eg_0 : gx_X1_phrase_0 = 0 := by rfl
          have ef : fx_X1_phrase ff a4 p0 = 4 := by unfold fx_X1_phrase; rw [if_neg c_2, if_neg c_3, if_pos c_6, if_pos c_7, if_pos c_8]
          exact W.iret (v := 4) hx hb hr (fun t ht hW => ⟨⟨4, [(h0, .inr (1, [.int 0, .int a1, .int a2, .int a3, .int a4, .int a5, .int a6, .int a7, .int a8, .int a9, .int a10, .int a11, .ref h1])), (h1, .inl (cA, 7, .inl ff))], rfl, ⟨ef.symm, by rw [eg_0]⟩, by rw [ht]; exact hP9, va_K.moved hW.alike hK9, hD9⟩, hS.F ht⟩) hS.2.2 dX1_phrase_53
        refine lv_iconst (v := 3) hx hb dX1_phrase_48 (by decide) ?_
        refine lv_goto (tgt := 53) hx hb dX1_phrase_49 (by decide) ?_
        have hP9 := hP.sub (ws' := [(h0, .inr (1, [.int 0, .int a1, .int a2, .int a3, .int a4, .int a5, .int a6, .int a7, .int a8, .int a9, .int a10, .int a11, .ref h1])), (h1, .inl (cA, 7, .inl ff))]) [0, 1] rfl
        have hD9 := hD.sub (ws' := [(h0, .inr (1, [.int 0, .int a1, .int a2, .int a3, .int a4, .int a5, .int a6, .int a7, .int a8, .int a9, .int a10, .int a11, .ref h1])), (h1, .inl (cA, 7, .inl ff))]) [0, 1] (by decide) rfl
        have hK9 := hK.sub (tys' := [(cA, .boolean)]) [0] rfl
        have eg_0 : gx_X1_phrase_0 = 0 := by rfl
        have ef : fx_X1_phrase ff a4 p0 = 3 := by unfold fx_X1_phrase; rw [if_neg c_2, if_neg c_3, if_pos c_6, if_pos c_7, if_neg c_8]
        exact W.iret (v := 3) hx hb hr (fun t ht hW => ⟨⟨3, [(h0, .inr (1, [.int 0, .int a1, .int a2, .int a3, .int a4, .int a5, .int a6, .int a7, .int a8, .int a9, .int a10, .int a11, .ref h1])), (h1, .inl (cA, 7, .inl ff))], rfl, ⟨ef.symm, by rw [eg_0]⟩, by rw [ht]; exact hP9, va_K.moved hW.alike hK9, hD9⟩, hS.F ht⟩) hS.2.2 dX1_phrase_53
      refine lv_iconst (v := 2) hx hb dX1_phrase_39 (by decide) ?_
      refine lv_goto (tgt := 53) hx hb dX1_phrase_40 (by decide) ?_
      have hP9 := hP.sub (ws' := [(h0, .inr (1, [.int 0, .int a1, .int a2, .int a3, .int a4, .int a5, .int a6, .int a7, .int a8, .int a9, .int a10, .int a11, .ref h1])), (h1, .inl (cA, 7, .inl ff))]) [0, 1] rfl
      have hD9 := hD.sub (ws' := [(h0, .inr (1, [.int 0, .int a1, .int a2, .int a3, .int a4, .int a5, .int a6, .int a7, .int a8, .int a9, .int a10, .int a11, .ref h1])), (h1, .inl (cA, 7, .inl ff))]) [0, 1] (by decide) rfl
      have hK9 := hK.sub (tys' := [(cA, .boolean)]) [0] rfl
      have eg_0 : gx_X1_phrase_0 = 0 := by rfl
      have ef : fx_X1_phrase ff a4 p0 = 2 := by unfold fx_X1_phrase; rw [if_neg c_2, if_neg c_3, if_pos c_6, if_neg c_7]
      exact W.iret (v := 2) hx hb hr (fun t ht hW => ⟨⟨2, [(h0, .inr (1, [.int 0, .int a1, .int a2, .int a3, .int a4, .int a5, .int a6, .int a7, .int a8, .int a9, .int a10, .int a11, .ref h1])), (h1, .inl (cA, 7, .inl ff))], rfl, ⟨ef.symm, by rw [eg_0]⟩, by rw [ht]; exact hP9, va_K.moved hW.alike hK9, hD9⟩, hS.F ht⟩) hS.2.2 dX1_phrase_53
    refine lv_iconst (v := 1) hx hb dX1_phrase_28 (by decide) ?_
    have hP9 := hP.sub (ws' := [(h0, .inr (1, [.int 0, .int a1, .int a2, .int a3, .int a4, .int a5, .int a6, .int a7, .int a8, .int a9, .int a10, .int a11, .ref h1])), (h1, .inl (cA, 7, .inl ff))]) [0, 1] rfl
    have hD9 := hD.sub (ws' := [(h0, .inr (1, [.int 0, .int a1, .int a2, .int a3, .int a4, .int a5, .int a6, .int a7, .int a8, .int a9, .int a10, .int a11, .ref h1])), (h1, .inl (cA, 7, .inl ff))]) [0, 1] (by decide) rfl
    have hK9 := hK.sub (tys' := [(cA, .boolean)]) [0] rfl
    have eg_0 : gx_X1_phrase_0 = 0 := by rfl
    have ef : fx_X1_phrase ff a4 p0 = 1 := by unfold fx_X1_phrase; rw [if_neg c_2, if_neg c_3, if_neg c_6]
    exact W.iret (v := 1) hx hb hr (fun t ht hW => ⟨⟨1, [(h0, .inr (1, [.int 0, .int a1, .int a2, .int a3, .int a4, .int a5, .int a6, .int a7, .int a8, .int a9, .int a10, .int a11, .ref h1])), (h1, .inl (cA, 7, .inl ff))], rfl, ⟨ef.symm, by rw [eg_0]⟩, by rw [ht]; exact hP9, va_K.moved hW.alike hK9, hD9⟩, hS.F ht⟩) hS.2.2 dX1_phrase_29
  refine lv_iconst (v := 0) hx hb dX1_phrase_17 (by decide) ?_
  have hP9 := hP.sub (ws' := [(h0, .inr (1, [.int 0, .int a1, .int a2, .int a3, .int a4, .int a5, .int a6, .int a7, .int a8, .int a9, .int a10, .int a11, .ref h1])), (h1, .inl (cA, 7, .inl ff))]) [0, 1] rfl
  have hD9 := hD.sub (ws' := [(h0, .inr (1, [.int 0, .int a1, .int a2, .int a3, .int a4, .int a5, .int a6, .int a7, .int a8, .int a9, .int a10, .int a11, .ref h1])), (h1, .inl (cA, 7, .inl ff))]) [0, 1] (by decide) rfl
  have hK9 := hK.sub (tys' := [(cA, .boolean)]) [0] rfl
  have eg_0 : gx_X1_phrase_0 = 0 := by rfl
  have ef : fx_X1_phrase ff a4 p0 = 0 := by unfold fx_X1_phrase; rw [if_pos c_2]
  exact W.iret (v := 0) hx hb hr (fun t ht hW => ⟨⟨0, [(h0, .inr (1, [.int 0, .int a1, .int a2, .int a3, .int a4, .int a5, .int a6, .int a7, .int a8, .int a9, .int a10, .int a11, .ref h1])), (h1, .inl (cA, 7, .inl ff))], rfl, ⟨ef.symm, by rw [eg_0]⟩, by rw [ht]; exact hP9, va_K.moved hW.alike hK9, hD9⟩, hS.F ht⟩) hS.2.2 dX1_phrase_18
set_option maxHeartbeats 4000000 in
set_option maxRecDepth 100000 in
theorem ct_X1_declarative (l : Launch) (dC : Nat → ClassId) (dI : Nat → Nat → Nat) (h0 : Nat) (h1 : Nat) (cA : ClassId) (ff : Nat → Int32) (sz : Nat) (a0 a1 a2 a3 a4 a5 a6 a7 a8 a9 a10 a11 p0 p1 : Int32) : Met l yX1_declarative wsX1_declarative ({ frames := 0, cells := 0, slots := 0, locals := 0 }) (va_Pc [.ref h0, .int p0, .int p1] (fun U => U.heap.size = sz ∧ va_P (dC, dI) vwCl [(h0, .inr (1, [.int a0, .int a1, .int a2, .int a3, .int a4, .int a5, .int a6, .int a7, .int a8, .int a9, .int a10, .int a11, .ref h1])), (h1, .inl (cA, 7, .inl ff))] U.heap ∧ va_K (dC, dI) vwCl [(cA, .boolean)] U ∧ va_D (fun _ => True) [(h0, .inr (1, [.int a0, .int a1, .int a2, .int a3, .int a4, .int a5, .int a6, .int a7, .int a8, .int a9, .int a10, .int a11, .ref h1])), (h1, .inl (cA, 7, .inl ff))])) (va_Qi (fun (r : Int32) (u : va_W) => r = fx_X1_declarative ff p0 ∧ u = [(h0, .inr (1, [.int gx_X1_declarative_0, .int a1, .int a2, .int a3, .int a4, .int a5, .int a6, .int a7, .int a8, .int a9, .int a10, .int a11, .ref h1])), (h1, .inl (cA, 7, .inl (gx_X1_declarative_arr ff p0 p1)))]) (at_W dC dI [(cA, .boolean)] (va_A [(h0, .inr (1, [.int a0, .int a1, .int a2, .int a3, .int a4, .int a5, .int a6, .int a7, .int a8, .int a9, .int a10, .int a11, .ref h1])), (h1, .inl (cA, 7, .inl ff))] sz)) (va_A [(h0, .inr (1, [.int a0, .int a1, .int a2, .int a3, .int a4, .int a5, .int a6, .int a7, .int a8, .int a9, .int a10, .int a11, .ref h1])), (h1, .inl (cA, 7, .inl ff))] sz)) 0 0 (va_A [(h0, .inr (1, [.int a0, .int a1, .int a2, .int a3, .int a4, .int a5, .int a6, .int a7, .int a8, .int a9, .int a10, .int a11, .ref h1])), (h1, .inl (cA, 7, .inl ff))] sz) := by
  refine Met.ofW (cc := cX1_declarative) (maxL := 4) (ret := (some .int)) (by decide) rfl ?_
  intro p e s m args below meth c s₁ B hml hv
  obtain ⟨rfl, hsz, hP, hK, hD0⟩ := hv
  have hx := B.exec
  have hb := B.bytes
  have hr := B.returns
  have hts := atoms_spec (ws := wsX1_declarative) B.pre
  have hown : s.vm.findClass RX1 = some m.cls := findClass_of_methodNamed B.named
  have hlocks := B.notSynchronized
  subst hsz
  have hD := hD0.self (sz := s.heap.size)
  generalize hAe : va_A [(h0, .inr (1, [.int a0, .int a1, .int a2, .int a3, .int a4, .int a5, .int a6, .int a7, .int a8, .int a9, .int a10, .int a11, .ref h1])), (h1, .inl (cA, 7, .inl ff))] s.heap.size = A at hD ⊢
  have hA : ∀ q : Nat, s.heap.size ≤ q → A q := fun q h => by rw [← hAe]; exact Or.inr h
  have hS : va_S A s.heap s.heap [] := va_S.rf
  have hP : va_P (dC, dI) vwCl [(h0, .inr (1, [.int a0, .int a1, .int a2, .int a3, .int a4, .int a5, .int a6, .int a7, .int a8, .int a9, .int a10, .int a11, .ref h1])), (h1, .inl (cA, 7, .inl ff))] s.heap := hP
  have hl := lv_entry ([.ref h0, .int p0, .int p1]) (n := 4) (Nat.le_of_ble_eq_true rfl)
  rw [lg_entry_eq]
  generalize (lg_sl ([.ref h0, .int p0, .int p1]) ++ List.replicate (4 - (lg_sl ([.ref h0, .int p0, .int p1])).length) Slot.unset).toArray = ls at hl ⊢
  have hl : lv_has ls 4 [(0, .ref h0), (1, .int p0), (2, .int p1)] := hl
  refine lv_aload_n hx hb dX1_declarative_0 rfl (lv_at hl 0 rfl) ?_
  refine lv_iconst (v := 0) hx hb dX1_declarative_1 (by decide) ?_
  refine va_put (D := (dC, dI)) (ci := 1) (v := .int 0) (ty := .int) (C := RX1) (T := TX1) (N := 13) hx hb hts (fun _ h => List.mem_cons_of_mem _ (List.mem_append_right _ h)) tyX1 tyX1_ok nmX1 hown hK hP hD hS 0 rfl rfl 0 (by decide) (hts (.fieldLink RX1 20 "FileStatusModel" "code" "I") (by decide +kernel)) (fun _ h9 => h9) rfl (by decide +kernel) rfl rfl (Nat.le_of_ble_eq_true rfl) dX1_declarative_2 (fun H locs hP hD hS => ?_)
  have hP : va_P (dC, dI) vwCl [(h0, .inr (1, [.int 0, .int a1, .int a2, .int a3, .int a4, .int a5, .int a6, .int a7, .int a8, .int a9, .int a10, .int a11, .ref h1])), (h1, .inl (cA, 7, .inl ff))] H := hP
  have hD : va_D A [(h0, .inr (1, [.int 0, .int a1, .int a2, .int a3, .int a4, .int a5, .int a6, .int a7, .int a8, .int a9, .int a10, .int a11, .ref h1])), (h1, .inl (cA, 7, .inl ff))] := hD
  refine lv_iload_n hx hb dX1_declarative_5 rfl (lv_at hl 1 rfl) ?_
  refine lv_iconst (v := 1) hx hb dX1_declarative_6 (by decide) ?_
  refine lv_icmp_lt (tgt := 16) hx hb dX1_declarative_7 (by decide) (fun c_1 => ?_) (fun c_1 => ?_)
  · refine lv_bipush (v := (-4)) hx hb dX1_declarative_16 (by decide) ?_
    have hP9 := hP.sub (ws' := [(h0, .inr (1, [.int 0, .int a1, .int a2, .int a3, .int a4, .int a5, .int a6, .int a7, .int a8, .int a9, .int a10, .int a11, .ref h1])), (h1, .inl (cA, 7, .inl ff))]) [0, 1] rfl
    have hD9 := hD.sub (ws' := [(h0, .inr (1, [.int 0, .int a1, .int a2, .int a3, .int a4, .int a5, .int a6, .int a7, .int a8, .int a9, .int a10, .int a11, .ref h1])), (h1, .inl (cA, 7, .inl ff))]) [0, 1] (by decide) rfl
    have hK9 := hK.sub (tys' := [(cA, .boolean)]) [0] rfl
    have eg_0 : gx_X1_declarative_0 = 0 := by rfl
    have eg_arr : gx_X1_declarative_arr ff p0 p1 = ff := by unfold gx_X1_declarative_arr; rw [if_pos c_1]
    have ef : fx_X1_declarative ff p0 = (-4) := by unfold fx_X1_declarative; rw [if_pos c_1]
    exact W.iret (v := (-4)) hx hb hr (fun t ht hW => ⟨⟨(-4), [(h0, .inr (1, [.int 0, .int a1, .int a2, .int a3, .int a4, .int a5, .int a6, .int a7, .int a8, .int a9, .int a10, .int a11, .ref h1])), (h1, .inl (cA, 7, .inl ff))], rfl, ⟨ef.symm, by rw [eg_0, eg_arr]⟩, by rw [ht]; exact hP9, va_K.moved hW.alike hK9, hD9⟩, hS.F ht⟩) hS.2.2 dX1_declarative_18
  refine lv_iload_n hx hb dX1_declarative_10 rfl (lv_at hl 1 rfl) ?_
  refine lv_bipush (v := 6) hx hb dX1_declarative_11 (by decide) ?_
  refine lv_icmp_le (tgt := 19) hx hb dX1_declarative_13 (by decide) (fun c_2 => ?_) (fun c_2 => ?_)
  · refine lv_aload_n hx hb dX1_declarative_19 rfl (lv_at hl 0 rfl) ?_
    refine va_get (D := (dC, dI)) (ci := 1) (v := .ref h1) (C := RX1) (T := TX1) (N := 13) hx hb hts (fun _ h => List.mem_cons_of_mem _ (List.mem_append_right _ h)) hown hK hP 0 rfl rfl 12 (by decide) (hts (.fieldLink RX1 13 "FileStatusModel" "declared" "[Z") (by decide +kernel)) (fun _ h9 => h9) rfl dX1_declarative_20 ?_
    refine lv_iload_n hx hb dX1_declarative_23 rfl (lv_at hl 1 rfl) ?_
    refine va_zald hx hb hK hP 1 0 rfl rfl (xx_in16 c_1 c_2) dX1_declarative_24 ?_
    refine lv_if_eq (tgt := 32) hx hb dX1_declarative_25 (by decide) (fun c_3 => ?_) (fun c_3 => ?_)
    · refine lv_iconst (v := 0) hx hb dX1_declarative_32 (by decide) ?_
      refine lv_istore_n (lv' := [(3, .int 0), (0, .ref h0), (1, .int p0), (2, .int p1)]) hx hb dX1_declarative_33 rfl hl (by decide) rfl (fun ls hl => ?_)
      refine lv_aload_n hx hb dX1_declarative_34 rfl (lv_at hl 1 rfl) ?_
      refine va_get (D := (dC, dI)) (ci := 1) (v := .ref h1) (C := RX1) (T := TX1) (N := 13) hx hb hts (fun _ h => List.mem_cons_of_mem _ (List.mem_append_right _ h)) hown hK hP 0 rfl rfl 12 (by decide) (hts (.fieldLink RX1 13 "FileStatusModel" "declared" "[Z") (by decide +kernel)) (fun _ h9 => h9) rfl dX1_declarative_35 ?_
      refine lv_iload_n hx hb dX1_declarative_38 rfl (lv_at hl 2 rfl) ?_
      refine lv_iload_n hx hb dX1_declarative_39 rfl (lv_at hl 3 rfl) ?_
      refine va_zast hx hb hK hP hD hS 1 0 rfl rfl (xx_in16 c_1 c_2) dX1_declarative_40 (fun H locs hP hD hS => ?_)
      have hP : va_P (dC, dI) vwCl [(h0, .inr (1, [.int 0, .int a1, .int a2, .int a3, .int a4, .int a5, .int a6, .int a7, .int a8, .int a9, .int a10, .int a11, .ref h1])), (h1, .inl (cA, 7, .inl (upd ff (p0).toNatClampNeg (vp_nar .boolean p1))))] H := hP
      have hD : va_D A [(h0, .inr (1, [.int 0, .int a1, .int a2, .int a3, .int a4, .int a5, .int a6, .int a7, .int a8, .int a9, .int a10, .int a11, .ref h1])), (h1, .inl (cA, 7, .inl (upd ff (p0).toNatClampNeg (vp_nar .boolean p1))))] := hD
      refine lv_iload_n hx hb dX1_declarative_41 rfl (lv_at hl 0 rfl) ?_
      have hP9 := hP.sub (ws' := [(h0, .inr (1, [.int 0, .int a1, .int a2, .int a3, .int a4, .int a5, .int a6, .int a7, .int a8, .int a9, .int a10, .int a11, .ref h1])), (h1, .inl (cA, 7, .inl (upd ff (p0).toNatClampNeg (vp_nar .boolean p1))))]) [0, 1] rfl
      have hD9 := hD.sub (ws' := [(h0, .inr (1, [.int 0, .int a1, .int a2, .int a3, .int a4, .int a5, .int a6, .int a7, .int a8, .int a9, .int a10, .int a11, .ref h1])), (h1, .inl (cA, 7, .inl (upd ff (p0).toNatClampNeg (vp_nar .boolean p1))))]) [0, 1] (by decide) rfl
      have hK9 := hK.sub (tys' := [(cA, .boolean)]) [0] rfl
      have eg_0 : gx_X1_declarative_0 = 0 := by rfl
      have eg_arr : gx_X1_declarative_arr ff p0 p1 = upd ff (p0).toNatClampNeg (vp_nar .boolean p1) := by unfold gx_X1_declarative_arr; rw [if_neg c_1, if_pos c_2]
      have ef : fx_X1_declarative ff p0 = 0 := by unfold fx_X1_declarative; rw [if_neg c_1, if_pos c_2, if_pos c_3]
      exact W.iret (v := 0) hx hb hr (fun t ht hW => ⟨⟨0, [(h0, .inr (1, [.int 0, .int a1, .int a2, .int a3, .int a4, .int a5, .int a6, .int a7, .int a8, .int a9, .int a10, .int a11, .ref h1])), (h1, .inl (cA, 7, .inl (upd ff (p0).toNatClampNeg (vp_nar .boolean p1))))], rfl, ⟨ef.symm, by rw [eg_0, eg_arr]⟩, by rw [ht]; exact hP9, va_K.moved hW.alike hK9, hD9⟩, hS.F ht⟩) hS.2.2 dX1_declarative_42
    refine lv_iconst (v := 1) hx hb dX1_declarative_28 (by decide) ?_
    refine lv_goto (tgt := 33) hx hb dX1_declarative_29 (by decide) ?_
    refine lv_istore_n (lv' := [(3, .int 1), (0, .ref h0), (1, .int p0), (2, .int p1)]) hx hb dX1_declarative_33 rfl hl (by decide) rfl (fun ls hl => ?_)
    refine lv_aload_n hx hb dX1_declarative_34 rfl (lv_at hl 1 rfl) ?_
    refine va_get (D := (dC, dI)) (ci := 1) (v := .ref h1) (C := RX1) (T := TX1) (N := 13) hx hb hts (fun _ h => List.mem_cons_of_mem _ (List.mem_append_right _ h)) hown hK hP 0 rfl rfl 12 (by decide) (hts (.fieldLink RX1 13 "FileStatusModel" "declared" "[Z") (by decide +kernel)) (fun _ h9 => h9) rfl dX1_declarative_35 ?_
    refine lv_iload_n hx hb dX1_declarative_38 rfl (lv_at hl 2 rfl) ?_
    refine lv_iload_n hx hb dX1_declarative_39 rfl (lv_at hl 3 rfl) ?_
    refine va_zast hx hb hK hP hD hS 1 0 rfl rfl (xx_in16 c_1 c_2) dX1_declarative_40 (fun H locs hP hD hS => ?_)
    have hP : va_P (dC, dI) vwCl [(h0, .inr (1, [.int 0, .int a1, .int a2, .int a3, .int a4, .int a5, .int a6, .int a7, .int a8, .int a9, .int a10, .int a11, .ref h1])), (h1, .inl (cA, 7, .inl (upd ff (p0).toNatClampNeg (vp_nar .boolean p1))))] H := hP
    have hD : va_D A [(h0, .inr (1, [.int 0, .int a1, .int a2, .int a3, .int a4, .int a5, .int a6, .int a7, .int a8, .int a9, .int a10, .int a11, .ref h1])), (h1, .inl (cA, 7, .inl (upd ff (p0).toNatClampNeg (vp_nar .boolean p1))))] := hD
    refine lv_iload_n hx hb dX1_declarative_41 rfl (lv_at hl 0 rfl) ?_
    have hP9 := hP.sub (ws' := [(h0, .inr (1, [.int 0, .int a1, .int a2, .int a3, .int a4, .int a5, .int a6, .int a7, .int a8, .int a9, .int a10, .int a11, .ref h1])), (h1, .inl (cA, 7, .inl (upd ff (p0).toNatClampNeg (vp_nar .boolean p1))))]) [0, 1] rfl
    have hD9 := hD.sub (ws' := [(h0, .inr (1, [.int 0, .int a1, .int a2, .int a3, .int a4, .int a5, .int a6, .int a7, .int a8, .int a9, .int a10, .int a11, .ref h1])), (h1, .inl (cA, 7, .inl (upd ff (p0).toNatClampNeg (vp_nar .boolean p1))))]) [0, 1] (by decide) rfl
    have hK9 := hK.sub (tys' := [(cA, .boolean)]) [0] rfl
    have eg_0 : gx_X1_declarative_0 = 0 := by rfl
    have eg_arr : gx_X1_declarative_arr ff p0 p1 = upd ff (p0).toNatClampNeg (vp_nar .boolean p1) := by unfold gx_X1_declarative_arr; rw [if_neg c_1, if_pos c_2]
    have ef : fx_X1_declarative ff p0 = 1 := by unfold fx_X1_declarative; rw [if_neg c_1, if_pos c_2, if_neg c_3]
    exact W.iret (v := 1) hx hb hr (fun t ht hW => ⟨⟨1, [(h0, .inr (1, [.int 0, .int a1, .int a2, .int a3, .int a4, .int a5, .int a6, .int a7, .int a8, .int a9, .int a10, .int a11, .ref h1])), (h1, .inl (cA, 7, .inl (upd ff (p0).toNatClampNeg (vp_nar .boolean p1))))], rfl, ⟨ef.symm, by rw [eg_0, eg_arr]⟩, by rw [ht]; exact hP9, va_K.moved hW.alike hK9, hD9⟩, hS.F ht⟩) hS.2.2 dX1_declarative_42
  refine lv_bipush (v := (-4)) hx hb dX1_declarative_16 (by decide) ?_
  have hP9 := hP.sub (ws' := [(h0, .inr (1, [.int 0, .int a1, .int a2, .int a3, .int a4, .int a5, .int a6, .int a7, .int a8, .int a9, .int a10, .int a11, .ref h1])), (h1, .inl (cA, 7, .inl ff))]) [0, 1] rfl
  have hD9 := hD.sub (ws' := [(h0, .inr (1, [.int 0, .int a1, .int a2, .int a3, .int a4, .int a5, .int a6, .int a7, .int a8, .int a9, .int a10, .int a11, .ref h1])), (h1, .inl (cA, 7, .inl ff))]) [0, 1] (by decide) rfl
  have hK9 := hK.sub (tys' := [(cA, .boolean)]) [0] rfl
  have eg_0 : gx_X1_declarative_0 = 0 := by rfl
  have eg_arr : gx_X1_declarative_arr ff p0 p1 = ff := by unfold gx_X1_declarative_arr; rw [if_neg c_1, if_neg c_2]
  have ef : fx_X1_declarative ff p0 = (-4) := by unfold fx_X1_declarative; rw [if_neg c_1, if_neg c_2]
  exact W.iret (v := (-4)) hx hb hr (fun t ht hW => ⟨⟨(-4), [(h0, .inr (1, [.int 0, .int a1, .int a2, .int a3, .int a4, .int a5, .int a6, .int a7, .int a8, .int a9, .int a10, .int a11, .ref h1])), (h1, .inl (cA, 7, .inl ff))], rfl, ⟨ef.symm, by rw [eg_0, eg_arr]⟩, by rw [ht]; exact hP9, va_K.moved hW.alike hK9, hD9⟩, hS.F ht⟩) hS.2.2 dX1_declarative_18
set_option maxHeartbeats 4000000 in
set_option maxRecDepth 100000 in
theorem ct_X1_position (l : Launch) (dC : Nat → ClassId) (dI : Nat → Nat → Nat) (h0 : Nat) (h1 : Nat) (sz : Nat) (a0 a1 a2 a3 a4 a5 a6 a7 a8 a9 a10 a11 p0 : Int32) : Met l yX1_position wsX1_position ({ frames := 1, cells := 0, slots := 0, locals := 20 }) (va_Pc [.ref h0, .int p0] (fun U => U.heap.size = sz ∧ va_P (dC, dI) vwCl [(h0, .inr (1, [.int a0, .int a1, .int a2, .int a3, .int a4, .int a5, .int a6, .int a7, .int a8, .int a9, .int a10, .int a11, .ref h1]))] U.heap ∧ va_K (dC, dI) vwCl [] U ∧ va_D (fun _ => True) [(h0, .inr (1, [.int a0, .int a1, .int a2, .int a3, .int a4, .int a5, .int a6, .int a7, .int a8, .int a9, .int a10, .int a11, .ref h1]))])) (va_Qi (fun (r : Int32) (u : va_W) => r = fx_X1_position p0 ∧ u = [(h0, .inr (1, [.int gx_X1_position_0, .int a1, .int a2, .int a3, .int a4, .int a5, .int a6, .int a7, .int a8, .int a9, .int a10, .int a11, .ref h1]))]) (at_W dC dI [] (va_A [(h0, .inr (1, [.int a0, .int a1, .int a2, .int a3, .int a4, .int a5, .int a6, .int a7, .int a8, .int a9, .int a10, .int a11, .ref h1]))] sz)) (va_A [(h0, .inr (1, [.int a0, .int a1, .int a2, .int a3, .int a4, .int a5, .int a6, .int a7, .int a8, .int a9, .int a10, .int a11, .ref h1]))] sz)) 0 0 (va_A [(h0, .inr (1, [.int a0, .int a1, .int a2, .int a3, .int a4, .int a5, .int a6, .int a7, .int a8, .int a9, .int a10, .int a11, .ref h1]))] sz) := by
  refine Met.ofW (cc := cX1_position) (maxL := 2) (ret := (some .int)) (by decide) rfl ?_
  intro p e s m args below meth c s₁ B hml hv
  obtain ⟨rfl, hsz, hP, hK, hD0⟩ := hv
  have hx := B.exec
  have hb := B.bytes
  have hr := B.returns
  have hts := atoms_spec (ws := wsX1_position) B.pre
  have hown : s.vm.findClass RX1 = some m.cls := findClass_of_methodNamed B.named
  have hlocks := B.notSynchronized
  subst hsz
  have hD := hD0.self (sz := s.heap.size)
  generalize hAe : va_A [(h0, .inr (1, [.int a0, .int a1, .int a2, .int a3, .int a4, .int a5, .int a6, .int a7, .int a8, .int a9, .int a10, .int a11, .ref h1]))] s.heap.size = A at hD ⊢
  have hA : ∀ q : Nat, s.heap.size ≤ q → A q := fun q h => by rw [← hAe]; exact Or.inr h
  have hS : va_S A s.heap s.heap [] := va_S.rf
  have hP : va_P (dC, dI) vwCl [(h0, .inr (1, [.int a0, .int a1, .int a2, .int a3, .int a4, .int a5, .int a6, .int a7, .int a8, .int a9, .int a10, .int a11, .ref h1]))] s.heap := hP
  have hl := lv_entry ([.ref h0, .int p0]) (n := 2) (Nat.le_of_ble_eq_true rfl)
  rw [lg_entry_eq]
  generalize (lg_sl ([.ref h0, .int p0]) ++ List.replicate (2 - (lg_sl ([.ref h0, .int p0])).length) Slot.unset).toArray = ls at hl ⊢
  have hl : lv_has ls 2 [(0, .ref h0), (1, .int p0)] := hl
  refine lv_aload_n hx hb dX1_position_0 rfl (lv_at hl 0 rfl) ?_
  refine lv_iconst (v := 0) hx hb dX1_position_1 (by decide) ?_
  refine va_put (D := (dC, dI)) (ci := 1) (v := .int 0) (ty := .int) (C := RX1) (T := TX1) (N := 13) hx hb hts (fun _ h => List.mem_cons_of_mem _ (List.mem_append_right _ h)) tyX1 tyX1_ok nmX1 hown hK hP hD hS 0 rfl rfl 0 (by decide) (hts (.fieldLink RX1 20 "FileStatusModel" "code" "I") (by decide +kernel)) (fun _ h9 => h9) rfl (by decide +kernel) rfl rfl (Nat.le_of_ble_eq_true rfl) dX1_position_2 (fun H locs hP hD hS => ?_)
  have hP : va_P (dC, dI) vwCl [(h0, .inr (1, [.int 0, .int a1, .int a2, .int a3, .int a4, .int a5, .int a6, .int a7, .int a8, .int a9, .int a10, .int a11, .ref h1]))] H := hP
  have hD : va_D A [(h0, .inr (1, [.int 0, .int a1, .int a2, .int a3, .int a4, .int a5, .int a6, .int a7, .int a8, .int a9, .int a10, .int a11, .ref h1]))] := hD
  refine lv_iload_n hx hb dX1_position_5 rfl (lv_at hl 1 rfl) ?_
  have hPc := hP.sub (ws' := []) [] rfl
  have hDc := hD.sub (ws' := []) [] (by decide) rfl
  have hKc := hK.sub (tys' := []) [] rfl
  have hFc := va_free (wc := []) hD hS hA [] rfl
  refine va_calli (va_runS (As := [.int p0]) (rest := []) ⟨hx, hb, hml, hown, hts⟩ (ct_X1_isStatus l dC dI H.size p0) (va_cwS 1 hts gX1_position_X1_isStatus rfl rfl rfl (by decide +kernel) ⟨Nat.le_of_ble_eq_true rfl, Nat.le_of_ble_eq_true rfl⟩) ⟨fun a U g mk q => by obtain ⟨q0, q1, qP, qK, qD⟩ := q; exact ⟨q0, q1, qP, va_K.moved (u := U) (U := U.calling g mk a) (Vm.Alike.refl U.vm) qK, qD⟩, fun U hU hW => ⟨rfl, by rw [hU], by rw [hU]; exact hPc, va_K.moved hW.alike hKc, hDc.weaken (fun _ _ _ _ => trivial)⟩⟩ rfl rfl hl.1 rfl (lv_room (Nat.le_of_ble_eq_true rfl)) dX1_position_6 ⟨(Nat.zero_le _), (Nat.zero_le _)⟩) hS (fun q _ h => hFc q h) hFc (fun r_1 u t H1 locs ht hvm hw hB hz1 hk1 hS => ?_)
  obtain ⟨er, hu⟩ := hw
  subst hu
  subst er
  obtain ⟨hP1, -, hD1⟩ := hB
  rw [ht] at hP1
  obtain ⟨hP, hD⟩ := va_join (wr := [(h0, .inr (1, [.int 0, .int a1, .int a2, .int a3, .int a4, .int a5, .int a6, .int a7, .int a8, .int a9, .int a10, .int a11, .ref h1]))]) (w1 := []) hP hD [] [0] rfl rfl (by decide) (by decide) hk1 hFc hP1 hD1
  generalize H1 = H at hP hS ⊢
  have hP : va_P (dC, dI) vwCl [(h0, .inr (1, [.int 0, .int a1, .int a2, .int a3, .int a4, .int a5, .int a6, .int a7, .int a8, .int a9, .int a10, .int a11, .ref h1]))] H := hP
  have hD : va_D A [(h0, .inr (1, [.int 0, .int a1, .int a2, .int a3, .int a4, .int a5, .int a6, .int a7, .int a8, .int a9, .int a10, .int a11, .ref h1]))] := hD
  refine lv_if_eq (tgt := 19) hx hb dX1_position_9 (by decide) (fun c_2 => ?_) (fun c_2 => ?_)
  · refine lv_iconst (v := (-1)) hx hb dX1_position_19 (by decide) ?_
    have hP9 := hP.sub (ws' := [(h0, .inr (1, [.int 0, .int a1, .int a2, .int a3, .int a4, .int a5, .int a6, .int a7, .int a8, .int a9, .int a10, .int a11, .ref h1]))]) [0] rfl
    have hD9 := hD.sub (ws' := [(h0, .inr (1, [.int 0, .int a1, .int a2, .int a3, .int a4, .int a5, .int a6, .int a7, .int a8, .int a9, .int a10, .int a11, .ref h1]))]) [0] (by decide) rfl
    have hK9 := hK.sub (tys' := []) [] rfl
    have eg_0 : gx_X1_position_0 = 0 := by rfl
    have ef : fx_X1_position p0 = (-1) := by unfold fx_X1_position; rw [if_pos c_2]
    exact W.iret (v := (-1)) hx hb hr (fun t ht hW => ⟨⟨(-1), [(h0, .inr (1, [.int 0, .int a1, .int a2, .int a3, .int a4, .int a5, .int a6, .int a7, .int a8, .int a9, .int a10, .int a11, .ref h1]))], rfl, ⟨ef.symm, by rw [eg_0]⟩, by rw [ht]; exact hP9, va_K.moved hW.alike hK9, hD9⟩, hS.F ht⟩) hS.2.2 dX1_position_20
  refine lv_iload_n hx hb dX1_position_12 rfl (lv_at hl 1 rfl) ?_
  have hPc := hP.sub (ws' := []) [] rfl
  have hDc := hD.sub (ws' := []) [] (by decide) rfl
  have hKc := hK.sub (tys' := []) [] rfl
  have hFc := va_free (wc := []) hD hS hA [] rfl
  refine va_calli (va_runS (As := [.int p0]) (rest := []) ⟨hx, hb, hml, hown, hts⟩ (ct_X1_moved l dC dI H.size p0) (va_cwS 1 hts gX1_position_X1_moved rfl rfl rfl (by decide +kernel) ⟨Nat.le_of_ble_eq_true rfl, Nat.le_of_ble_eq_true rfl⟩) ⟨fun a U g mk q => by obtain ⟨q0, q1, qP, qK, qD⟩ := q; exact ⟨q0, q1, qP, va_K.moved (u := U) (U := U.calling g mk a) (Vm.Alike.refl U.vm) qK, qD⟩, fun U hU hW => ⟨rfl, by rw [hU], by rw [hU]; exact hPc, va_K.moved hW.alike hKc, hDc.weaken (fun _ _ _ _ => trivial)⟩⟩ rfl rfl hl.1 rfl (lv_room (Nat.le_of_ble_eq_true rfl)) dX1_position_13 ⟨(Nat.zero_le _), (Nat.zero_le _)⟩) hS (fun q _ h => hFc q h) hFc (fun r_3 u t H1 locs ht hvm hw hB hz1 hk1 hS => ?_)
  obtain ⟨er, hu⟩ := hw
  subst hu
  subst er
  obtain ⟨hP1, -, hD1⟩ := hB
  rw [ht] at hP1
  obtain ⟨hP, hD⟩ := va_join (wr := [(h0, .inr (1, [.int 0, .int a1, .int a2, .int a3, .int a4, .int a5, .int a6, .int a7, .int a8, .int a9, .int a10, .int a11, .ref h1]))]) (w1 := []) hP hD [] [0] rfl rfl (by decide) (by decide) hk1 hFc hP1 hD1
  generalize H1 = H at hP hS ⊢
  have hP : va_P (dC, dI) vwCl [(h0, .inr (1, [.int 0, .int a1, .int a2, .int a3, .int a4, .int a5, .int a6, .int a7, .int a8, .int a9, .int a10, .int a11, .ref h1]))] H := hP
  have hD : va_D A [(h0, .inr (1, [.int 0, .int a1, .int a2, .int a3, .int a4, .int a5, .int a6, .int a7, .int a8, .int a9, .int a10, .int a11, .ref h1]))] := hD
  refine lv_goto (tgt := 20) hx hb dX1_position_16 (by decide) ?_
  have hP9 := hP.sub (ws' := [(h0, .inr (1, [.int 0, .int a1, .int a2, .int a3, .int a4, .int a5, .int a6, .int a7, .int a8, .int a9, .int a10, .int a11, .ref h1]))]) [0] rfl
  have hD9 := hD.sub (ws' := [(h0, .inr (1, [.int 0, .int a1, .int a2, .int a3, .int a4, .int a5, .int a6, .int a7, .int a8, .int a9, .int a10, .int a11, .ref h1]))]) [0] (by decide) rfl
  have hK9 := hK.sub (tys' := []) [] rfl
  have eg_0 : gx_X1_position_0 = 0 := by rfl
  have ef : fx_X1_position p0 = fx_X1_moved p0 := by unfold fx_X1_position; rw [if_neg c_2]
  exact W.iret (v := fx_X1_moved p0) hx hb hr (fun t ht hW => ⟨⟨(fx_X1_moved p0), [(h0, .inr (1, [.int 0, .int a1, .int a2, .int a3, .int a4, .int a5, .int a6, .int a7, .int a8, .int a9, .int a10, .int a11, .ref h1]))], rfl, ⟨ef.symm, by rw [eg_0]⟩, by rw [ht]; exact hP9, va_K.moved hW.alike hK9, hD9⟩, hS.F ht⟩) hS.2.2 dX1_position_20
