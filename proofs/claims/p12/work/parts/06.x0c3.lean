set_option maxHeartbeats 4000000 in
set_option maxRecDepth 100000 in
theorem ct_X0_statusOfLength (l : Launch) (dC : Nat → ClassId) (dI : Nat → Nat → Nat) (h0 : Nat) (sz : Nat) (a0 a1 a2 a3 a4 a5 a6 a7 a8 a9 a10 a11 p0 : Int32) : Met l yX0_statusOfLength wsX0_statusOfLength ({ frames := 1, cells := 0, slots := 0, locals := 20 }) (va_Pc [.ref h0, .int p0] (fun U => U.heap.size = sz ∧ va_P (dC, dI) vwCl [(h0, .inr (0, [.int a0, .int a1, .int a2, .int a3, .int a4, .int a5, .int a6, .int a7, .int a8, .int a9, .int a10, .int a11]))] U.heap ∧ va_K (dC, dI) vwCl [] U ∧ va_D (fun _ => True) [(h0, .inr (0, [.int a0, .int a1, .int a2, .int a3, .int a4, .int a5, .int a6, .int a7, .int a8, .int a9, .int a10, .int a11]))])) (va_Qi (fun (r : Int32) (u : va_W) => r = fx_X0_statusOfLength p0 ∧ u = [(h0, .inr (0, [.int a0, .int a1, .int a2, .int a3, .int a4, .int a5, .int a6, .int a7, .int a8, .int a9, .int a10, .int a11]))]) (at_W dC dI [] (va_A [(h0, .inr (0, [.int a0, .int a1, .int a2, .int a3, .int a4, .int a5, .int a6, .int a7, .int a8, .int a9, .int a10, .int a11]))] sz)) (va_A [(h0, .inr (0, [.int a0, .int a1, .int a2, .int a3, .int a4, .int a5, .int a6, .int a7, .int a8, .int a9, .int a10, .int a11]))] sz)) 0 0 (va_A [(h0, .inr (0, [.int a0, .int a1, .int a2, .int a3, .int a4, .int a5, .int a6, .int a7, .int a8, .int a9, .int a10, .int a11]))] sz) := by
  refine Met.ofW (cc := cX0_statusOfLength) (maxL := 2) (ret := (some .int)) (by decide) rfl ?_
  intro p e s m args below meth c s₁ B hml hv
  obtain ⟨rfl, hsz, hP, hK, hD0⟩ := hv
  have hx := B.exec
  have hb := B.bytes
  have hr := B.returns
  have hts := atoms_spec (ws := wsX0_statusOfLength) B.pre
  have hown : s.vm.findClass RX0 = some m.cls := findClass_of_methodNamed B.named
  have hlocks := B.notSynchronized
  subst hsz
  have hD := hD0.self (sz := s.heap.size)
  generalize hAe : va_A [(h0, .inr (0, [.int a0, .int a1, .int a2, .int a3, .int a4, .int a5, .int a6, .int a7, .int a8, .int a9, .int a10, .int a11]))] s.heap.size = A at hD ⊢
  have hA : ∀ q : Nat, s.heap.size ≤ q → A q := fun q h => by rw [← hAe]; exact Or.inr h
  have hS : va_S A s.heap s.heap [] := va_S.rf
  have hP : va_P (dC, dI) vwCl [(h0, .inr (0, [.int a0, .int a1, .int a2, .int a3, .int a4, .int a5, .int a6, .int a7, .int a8, .int a9, .int a10, .int a11]))] s.heap := hP
  have hl := lv_entry ([.ref h0, .int p0]) (n := 2) (Nat.le_of_ble_eq_true rfl)
  rw [lg_entry_eq]
  generalize (lg_sl ([.ref h0, .int p0]) ++ List.replicate (2 - (lg_sl ([.ref h0, .int p0])).length) Slot.unset).toArray = ls at hl ⊢
  have hl : lv_has ls 2 [(0, .ref h0), (1, .int p0)] := hl
  refine lv_iload_n hx hb dX0_statusOfLength_0 rfl (lv_at hl 1 rfl) ?_
  have hPc := hP.sub (ws' := []) [] rfl
  have hDc := hD.sub (ws' := []) [] (by decide) rfl
  have hKc := hK.sub (tys' := []) [] rfl
  have hFc := va_free (wc := []) hD hS hA [] rfl
  refine va_calli (va_runS (As := [.int p0]) (rest := []) ⟨hx, hb, hml, hown, hts⟩ (ct_X0_isRead l dC dI s.heap.size p0) (va_cwS 1 hts gX0_statusOfLength_X0_isRead rfl rfl rfl (by decide +kernel) ⟨Nat.le_of_ble_eq_true rfl, Nat.le_of_ble_eq_true rfl⟩) ⟨fun a U g mk q => by obtain ⟨q0, q1, qP, qK, qD⟩ := q; exact ⟨q0, q1, qP, va_K.moved (u := U) (U := U.calling g mk a) (Vm.Alike.refl U.vm) qK, qD⟩, fun U hU hW => ⟨rfl, by rw [hU], by rw [hU]; exact hPc, va_K.moved hW.alike hKc, hDc.weaken (fun _ _ _ _ => trivial)⟩⟩ rfl rfl hl.1 rfl (lv_room (Nat.le_of_ble_eq_true rfl)) dX0_statusOfLength_1 ⟨(Nat.zero_le _), (Nat.zero_le _)⟩) hS (fun q _ h => hFc q h) hFc (fun r_1 u t H1 locs ht hvm hw hB hz1 hk1 hS => ?_)
  obtain ⟨er, hu⟩ := hw
  subst hu
  subst er
  obtain ⟨hP1, -, hD1⟩ := hB
  rw [ht] at hP1
  obtain ⟨hP, hD⟩ := va_join (wr := [(h0, .inr (0, [.int a0, .int a1, .int a2, .int a3, .int a4, .int a5, .int a6, .int a7, .int a8, .int a9, .int a10, .int a11]))]) (w1 := []) hP hD [] [0] rfl rfl (by decide) (by decide) hk1 hFc hP1 hD1
  generalize H1 = H at hP hS ⊢
  have hP : va_P (dC, dI) vwCl [(h0, .inr (0, [.int a0, .int a1, .int a2, .int a3, .int a4, .int a5, .int a6, .int a7, .int a8, .int a9, .int a10, .int a11]))] H := hP
  have hD : va_D A [(h0, .inr (0, [.int a0, .int a1, .int a2, .int a3, .int a4, .int a5, .int a6, .int a7, .int a8, .int a9, .int a10, .int a11]))] := hD
  refine lv_if_eq (tgt := 9) hx hb dX0_statusOfLength_4 (by decide) (fun c_2 => ?_) (fun c_2 => ?_)
  · refine lv_iload_n hx hb dX0_statusOfLength_9 rfl (lv_at hl 1 rfl) ?_
    have hPc := hP.sub (ws' := []) [] rfl
    have hDc := hD.sub (ws' := []) [] (by decide) rfl
    have hKc := hK.sub (tys' := []) [] rfl
    have hFc := va_free (wc := []) hD hS hA [] rfl
    refine va_calli (va_runS (As := [.int p0]) (rest := []) ⟨hx, hb, hml, hown, hts⟩ (ct_X0_isWriteOrRewrite l dC dI H.size p0) (va_cwS 1 hts gX0_statusOfLength_X0_isWriteOrRewrite rfl rfl rfl (by decide +kernel) ⟨Nat.le_of_ble_eq_true rfl, Nat.le_of_ble_eq_true rfl⟩) ⟨fun a U g mk q => by obtain ⟨q0, q1, qP, qK, qD⟩ := q; exact ⟨q0, q1, qP, va_K.moved (u := U) (U := U.calling g mk a) (Vm.Alike.refl U.vm) qK, qD⟩, fun U hU hW => ⟨rfl, by rw [hU], by rw [hU]; exact hPc, va_K.moved hW.alike hKc, hDc.weaken (fun _ _ _ _ => trivial)⟩⟩ rfl rfl hl.1 rfl (lv_room (Nat.le_of_ble_eq_true rfl)) dX0_statusOfLength_10 ⟨(Nat.zero_le _), (Nat.zero_le _)⟩) hS (fun q _ h => hFc q h) hFc (fun r_3 u t H1 locs ht hvm hw hB hz1 hk1 hS => ?_)
    obtain ⟨er, hu⟩ := hw
    subst hu
    subst er
    obtain ⟨hP1, -, hD1⟩ := hB
    rw [ht] at hP1
    obtain ⟨hP, hD⟩ := va_join (wr := [(h0, .inr (0, [.int a0, .int a1, .int a2, .int a3, .int a4, .int a5, .int a6, .int a7, .int a8, .int a9, .int a10, .int a11]))]) (w1 := []) hP hD [] [0] rfl rfl (by decide) (by decide) hk1 hFc hP1 hD1
    generalize H1 = H at hP hS ⊢
    have hP : va_P (dC, dI) vwCl [(h0, .inr (0, [.int a0, .int a1, .int a2, .int a3, .int a4, .int a5, .int a6, .int a7, .int a8, .int a9, .int a10, .int a11]))] H := hP
    have hD : va_D A [(h0, .inr (0, [.int a0, .int a1, .int a2, .int a3, .int a4, .int a5, .int a6, .int a7, .int a8, .int a9, .int a10, .int a11]))] := hD
    refine lv_if_eq (tgt := 21) hx hb dX0_statusOfLength_13 (by decide) (fun c_4 => ?_) (fun c_4 => ?_)
    · refine lv_bipush (v := 90) hx hb dX0_statusOfLength_21 (by decide) ?_
      have hP9 := hP.sub (ws' := [(h0, .inr (0, [.int a0, .int a1, .int a2, .int a3, .int a4, .int a5, .int a6, .int a7, .int a8, .int a9, .int a10, .int a11]))]) [0] rfl
      have hD9 := hD.sub (ws' := [(h0, .inr (0, [.int a0, .int a1, .int a2, .int a3, .int a4, .int a5, .int a6, .int a7, .int a8, .int a9, .int a10, .int a11]))]) [0] (by decide) rfl
      have hK9 := hK.sub (tys' := []) [] rfl
      have ef : fx_X0_statusOfLength p0 = 90 := by unfold fx_X0_statusOfLength; rw [if_pos c_2, if_pos c_4]
      exact W.iret (v := 90) hx hb hr (fun t ht hW => ⟨⟨90, [(h0, .inr (0, [.int a0, .int a1, .int a2, .int a3, .int a4, .int a5, .int a6, .int a7, .int a8, .int a9, .int a10, .int a11]))], rfl, ⟨ef.symm, rfl⟩, by rw [ht]; exact hP9, va_K.moved hW.alike hK9, hD9⟩, hS.F ht⟩) hS.2.2 dX0_statusOfLength_23
    refine lv_bipush (v := 44) hx hb dX0_statusOfLength_16 (by decide) ?_
    refine lv_goto (tgt := 23) hx hb dX0_statusOfLength_18 (by decide) ?_
    have hP9 := hP.sub (ws' := [(h0, .inr (0, [.int a0, .int a1, .int a2, .int a3, .int a4, .int a5, .int a6, .int a7, .int a8, .int a9, .int a10, .int a11]))]) [0] rfl
    have hD9 := hD.sub (ws' := [(h0, .inr (0, [.int a0, .int a1, .int a2, .int a3, .int a4, .int a5, .int a6, .int a7, .int a8, .int a9, .int a10, .int a11]))]) [0] (by decide) rfl
    have hK9 := hK.sub (tys' := []) [] rfl
    have ef : fx_X0_statusOfLength p0 = 44 := by unfold fx_X0_statusOfLength; rw [if_pos c_2, if_neg c_4]
    exact W.iret (v := 44) hx hb hr (fun t ht hW => ⟨⟨44, [(h0, .inr (0, [.int a0, .int a1, .int a2, .int a3, .int a4, .int a5, .int a6, .int a7, .int a8, .int a9, .int a10, .int a11]))], rfl, ⟨ef.symm, rfl⟩, by rw [ht]; exact hP9, va_K.moved hW.alike hK9, hD9⟩, hS.F ht⟩) hS.2.2 dX0_statusOfLength_23
  refine lv_iconst (v := 4) hx hb dX0_statusOfLength_7 (by decide) ?_
  have hP9 := hP.sub (ws' := [(h0, .inr (0, [.int a0, .int a1, .int a2, .int a3, .int a4, .int a5, .int a6, .int a7, .int a8, .int a9, .int a10, .int a11]))]) [0] rfl
  have hD9 := hD.sub (ws' := [(h0, .inr (0, [.int a0, .int a1, .int a2, .int a3, .int a4, .int a5, .int a6, .int a7, .int a8, .int a9, .int a10, .int a11]))]) [0] (by decide) rfl
  have hK9 := hK.sub (tys' := []) [] rfl
  have ef : fx_X0_statusOfLength p0 = 4 := by unfold fx_X0_statusOfLength; rw [if_neg c_2]
  exact W.iret (v := 4) hx hb hr (fun t ht hW => ⟨⟨4, [(h0, .inr (0, [.int a0, .int a1, .int a2, .int a3, .int a4, .int a5, .int a6, .int a7, .int a8, .int a9, .int a10, .int a11]))], rfl, ⟨ef.symm, rfl⟩, by rw [ht]; exact hP9, va_K.moved hW.alike hK9, hD9⟩, hS.F ht⟩) hS.2.2 dX0_statusOfLength_8
set_option maxHeartbeats 4000000 in
set_option maxRecDepth 100000 in
theorem ct_X0_placeAfter (l : Launch) (dC : Nat → ClassId) (dI : Nat → Nat → Nat) (sz : Nat) (p0 p1 : Int32) : Met l yX0_placeAfter wsX0_placeAfter ({ frames := 1, cells := 0, slots := 0, locals := 20 }) (va_Pc [.int p0, .int p1] (fun U => U.heap.size = sz ∧ va_P (dC, dI) vwCl [] U.heap ∧ va_K (dC, dI) vwCl [] U ∧ va_D (fun _ => True) [])) (va_Qi (fun (r : Int32) (u : va_W) => r = fx_X0_placeAfter p0 p1 ∧ u = []) (at_W dC dI [] (va_A [] sz)) (va_A [] sz)) 0 0 (va_A [] sz) := by
  refine Met.ofW (cc := cX0_placeAfter) (maxL := 2) (ret := (some .int)) (by decide) rfl ?_
  intro p e s m args below meth c s₁ B hml hv
  obtain ⟨rfl, hsz, hP, hK, hD0⟩ := hv
  have hx := B.exec
  have hb := B.bytes
  have hr := B.returns
  have hts := atoms_spec (ws := wsX0_placeAfter) B.pre
  have hown : s.vm.findClass RX0 = some m.cls := findClass_of_methodNamed B.named
  have hlocks := B.notSynchronized
  subst hsz
  have hD := hD0.self (sz := s.heap.size)
  generalize hAe : va_A [] s.heap.size = A at hD ⊢
  have hA : ∀ q : Nat, s.heap.size ≤ q → A q := fun q h => by rw [← hAe]; exact Or.inr h
  have hS : va_S A s.heap s.heap [] := va_S.rf
  have hP : va_P (dC, dI) vwCl [] s.heap := hP
  have hl := lv_entry ([.int p0, .int p1]) (n := 2) (Nat.le_of_ble_eq_true rfl)
  rw [lg_entry_eq]
  generalize (lg_sl ([.int p0, .int p1]) ++ List.replicate (2 - (lg_sl ([.int p0, .int p1])).length) Slot.unset).toArray = ls at hl ⊢
  have hl : lv_has ls 2 [(0, .int p0), (1, .int p1)] := hl
  refine lv_iload_n hx hb dX0_placeAfter_0 rfl (lv_at hl 0 rfl) ?_
  have hPc := hP.sub (ws' := []) [] rfl
  have hDc := hD.sub (ws' := []) [] (by decide) rfl
  have hKc := hK.sub (tys' := []) [] rfl
  have hFc := va_free (wc := []) hD hS hA [] rfl
  refine va_calli (va_runS (As := [.int p0]) (rest := []) ⟨hx, hb, hml, hown, hts⟩ (ct_X0_givesPlace l dC dI s.heap.size p0) (va_cwS 1 hts gX0_placeAfter_X0_givesPlace rfl rfl rfl (by decide +kernel) ⟨Nat.le_of_ble_eq_true rfl, Nat.le_of_ble_eq_true rfl⟩) ⟨fun a U g mk q => by obtain ⟨q0, q1, qP, qK, qD⟩ := q; exact ⟨q0, q1, qP, va_K.moved (u := U) (U := U.calling g mk a) (Vm.Alike.refl U.vm) qK, qD⟩, fun U hU hW => ⟨rfl, by rw [hU], by rw [hU]; exact hPc, va_K.moved hW.alike hKc, hDc.weaken (fun _ _ _ _ => trivial)⟩⟩ rfl rfl hl.1 rfl (lv_room (Nat.le_of_ble_eq_true rfl)) dX0_placeAfter_1 ⟨(Nat.zero_le _), (Nat.zero_le _)⟩) hS (fun q _ h => hFc q h) hFc (fun r_1 u t H1 locs ht hvm hw hB hz1 hk1 hS => ?_)
  obtain ⟨er, hu⟩ := hw
  subst hu
  subst er
  obtain ⟨hP1, -, hD1⟩ := hB
  rw [ht] at hP1
  obtain ⟨hP, hD⟩ := va_join (wr := []) (w1 := []) hP hD [] [] rfl rfl (by decide) (by decide) hk1 hFc hP1 hD1
  generalize H1 = H at hP hS ⊢
  have hP : va_P (dC, dI) vwCl [] H := hP
  have hD : va_D A [] := hD
  refine lv_if_eq (tgt := 9) hx hb dX0_placeAfter_4 (by decide) (fun c_2 => ?_) (fun c_2 => ?_)
  · refine lv_iload_n hx hb dX0_placeAfter_9 rfl (lv_at hl 0 rfl) ?_
    by_cases c_3 : p0 = 10
    · refine lv_lookup (off := 42) (tgt := 52) hx hb dX0_placeAfter_10 (by decide) (by rw [c_3]; rfl) (by decide) ?_
      refine lv_iconst (v := 2) hx hb dX0_placeAfter_52 (by decide) ?_
      have hP9 := hP.sub (ws' := []) [] rfl
      have hD9 := hD.sub (ws' := []) [] (by decide) rfl
      have hK9 := hK.sub (tys' := []) [] rfl
      have ef : fx_X0_placeAfter p0 p1 = 2 := by unfold fx_X0_placeAfter; rw [if_pos c_2, if_pos c_3]
      exact W.iret (v := 2) hx hb hr (fun t ht hW => ⟨⟨2, [], rfl, ⟨ef.symm, rfl⟩, by rw [ht]; exact hP9, va_K.moved hW.alike hK9, hD9⟩, hS.F ht⟩) hS.2.2 dX0_placeAfter_53
    by_cases c_4 : p0 = 14
    · refine lv_lookup (off := 44) (tgt := 54) hx hb dX0_placeAfter_10 (by decide) (by rw [c_4]; rfl) (by decide) ?_
      refine lv_iconst (v := 3) hx hb dX0_placeAfter_54 (by decide) ?_
      have hP9 := hP.sub (ws' := []) [] rfl
      have hD9 := hD.sub (ws' := []) [] (by decide) rfl
      have hK9 := hK.sub (tys' := []) [] rfl
      have ef : fx_X0_placeAfter p0 p1 = 3 := by unfold fx_X0_placeAfter; rw [if_pos c_2, if_neg c_3, if_pos c_4]
      exact W.iret (v := 3) hx hb hr (fun t ht hW => ⟨⟨3, [], rfl, ⟨ef.symm, rfl⟩, by rw [ht]; exact hP9, va_K.moved hW.alike hK9, hD9⟩, hS.F ht⟩) hS.2.2 dX0_placeAfter_55
    by_cases c_5 : p0 = 23
    · refine lv_lookup (off := 44) (tgt := 54) hx hb dX0_placeAfter_10 (by decide) (by rw [c_5]; rfl) (by decide) ?_
      refine lv_iconst (v := 3) hx hb dX0_placeAfter_54 (by decide) ?_
      have hP9 := hP.sub (ws' := []) [] rfl
      have hD9 := hD.sub (ws' := []) [] (by decide) rfl
      have hK9 := hK.sub (tys' := []) [] rfl
      have ef : fx_X0_placeAfter p0 p1 = 3 := by unfold fx_X0_placeAfter; rw [if_pos c_2, if_neg c_3, if_neg c_4, if_pos c_5]
      exact W.iret (v := 3) hx hb hr (fun t ht hW => ⟨⟨3, [], rfl, ⟨ef.symm, rfl⟩, by rw [ht]; exact hP9, va_K.moved hW.alike hK9, hD9⟩, hS.F ht⟩) hS.2.2 dX0_placeAfter_55
    by_cases c_6 : p0 = 46
    · refine lv_lookup (off := 44) (tgt := 54) hx hb dX0_placeAfter_10 (by decide) (by rw [c_6]; rfl) (by decide) ?_
      refine lv_iconst (v := 3) hx hb dX0_placeAfter_54 (by decide) ?_
      have hP9 := hP.sub (ws' := []) [] rfl
      have hD9 := hD.sub (ws' := []) [] (by decide) rfl
      have hK9 := hK.sub (tys' := []) [] rfl
      have ef : fx_X0_placeAfter p0 p1 = 3 := by unfold fx_X0_placeAfter; rw [if_pos c_2, if_neg c_3, if_neg c_4, if_neg c_5, if_pos c_6]
      exact W.iret (v := 3) hx hb hr (fun t ht hW => ⟨⟨3, [], rfl, ⟨ef.symm, rfl⟩, by rw [ht]; exact hP9, va_K.moved hW.alike hK9, hD9⟩, hS.F ht⟩) hS.2.2 dX0_placeAfter_55
    refine lv_lookup (off := 46) (tgt := 56) hx hb dX0_placeAfter_10 (by decide) (xx_lk ⟨(xx_ne c_3 (by decide)).symm, (xx_ne c_4 (by decide)).symm, (xx_ne c_5 (by decide)).symm, (xx_ne c_6 (by decide)).symm, trivial⟩) (by decide) ?_
    refine lv_iload_n hx hb dX0_placeAfter_56 rfl (lv_at hl 1 rfl) ?_
    have hP9 := hP.sub (ws' := []) [] rfl
    have hD9 := hD.sub (ws' := []) [] (by decide) rfl
    have hK9 := hK.sub (tys' := []) [] rfl
    have ef : fx_X0_placeAfter p0 p1 = p1 := by unfold fx_X0_placeAfter; rw [if_pos c_2, if_neg c_3, if_neg c_4, if_neg c_5, if_neg c_6]
    exact W.iret (v := p1) hx hb hr (fun t ht hW => ⟨⟨p1, [], rfl, ⟨ef.symm, rfl⟩, by rw [ht]; exact hP9, va_K.moved hW.alike hK9, hD9⟩, hS.F ht⟩) hS.2.2 dX0_placeAfter_57
  refine lv_iconst (v := 1) hx hb dX0_placeAfter_7 (by decide) ?_
  have hP9 := hP.sub (ws' := []) [] rfl
  have hD9 := hD.sub (ws' := []) [] (by decide) rfl
  have hK9 := hK.sub (tys' := []) [] rfl
  have ef : fx_X0_placeAfter p0 p1 = 1 := by unfold fx_X0_placeAfter; rw [if_neg c_2]
  exact W.iret (v := 1) hx hb hr (fun t ht hW => ⟨⟨1, [], rfl, ⟨ef.symm, rfl⟩, by rw [ht]; exact hP9, va_K.moved hW.alike hK9, hD9⟩, hS.F ht⟩) hS.2.2 dX0_placeAfter_8
set_option maxHeartbeats 4000000 in
set_option maxRecDepth 100000 in
theorem ct_X0_open (l : Launch) (dC : Nat → ClassId) (dI : Nat → Nat → Nat) (h0 : Nat) (sz : Nat) (a0 a1 a2 a3 a4 a5 a6 a7 a8 a9 a10 a11 p0 : Int32) : Met l yX0_open wsX0_open ({ frames := 2, cells := 0, slots := 0, locals := 41 }) (va_Pc [.ref h0, .int p0] (fun U => U.heap.size = sz ∧ va_P (dC, dI) vwCl [(h0, .inr (0, [.int a0, .int a1, .int a2, .int a3, .int a4, .int a5, .int a6, .int a7, .int a8, .int a9, .int a10, .int a11]))] U.heap ∧ va_K (dC, dI) vwCl [] U ∧ va_D (fun _ => True) [(h0, .inr (0, [.int a0, .int a1, .int a2, .int a3, .int a4, .int a5, .int a6, .int a7, .int a8, .int a9, .int a10, .int a11]))])) (va_Qi (fun (r : Int32) (u : va_W) => r = fx_X0_open a1 a2 a3 p0 ∧ u = [(h0, .inr (0, [.int a0, .int a1, .int (gx_X0_open_2 a1 a2 a3 p0), .int a3, .int (gx_X0_open_4 a1 a2 a3 a4 p0), .int (gx_X0_open_5 a1 a2 a3 a5 p0), .int gx_X0_open_6, .int (gx_X0_open_7 a1 a2 a3 p0), .int gx_X0_open_8, .int a9, .int (gx_X0_open_10 a1 a2 a3 a10 p0), .int (gx_X0_open_11 a1 a2 a3 a11 p0)]))]) (at_W dC dI [] (va_A [(h0, .inr (0, [.int a0, .int a1, .int a2, .int a3, .int a4, .int a5, .int a6, .int a7, .int a8, .int a9, .int a10, .int a11]))] sz)) (va_A [(h0, .inr (0, [.int a0, .int a1, .int a2, .int a3, .int a4, .int a5, .int a6, .int a7, .int a8, .int a9, .int a10, .int a11]))] sz)) 0 0 (va_A [(h0, .inr (0, [.int a0, .int a1, .int a2, .int a3, .int a4, .int a5, .int a6, .int a7, .int a8, .int a9, .int a10, .int a11]))] sz) := by
  refine Met.ofW (cc := cX0_open) (maxL := 3) (ret := (some .int)) (by decide) rfl ?_
  intro p e s m args below meth c s₁ B hml hv
  obtain ⟨rfl, hsz, hP, hK, hD0⟩ := hv
  have hx := B.exec
  have hb := B.bytes
  have hr := B.returns
  have hts := atoms_spec (ws := wsX0_open) B.pre
  have hown : s.vm.findClass RX0 = some m.cls := findClass_of_methodNamed B.named
  have hlocks := B.notSynchronized
  subst hsz
  have hD := hD0.self (sz := s.heap.size)
  generalize hAe : va_A [(h0, .inr (0, [.int a0, .int a1, .int a2, .int a3, .int a4, .int a5, .int a6, .int a7, .int a8, .int a9, .int a10, .int a11]))] s.heap.size = A at hD ⊢
  have hA : ∀ q : Nat, s.heap.size ≤ q → A q := fun q h => by rw [← hAe]; exact Or.inr h
  have hS : va_S A s.heap s.heap [] := va_S.rf
  have hP : va_P (dC, dI) vwCl [(h0, .inr (0, [.int a0, .int a1, .int a2, .int a3, .int a4, .int a5, .int a6, .int a7, .int a8, .int a9, .int a10, .int a11]))] s.heap := hP
  have hl := lv_entry ([.ref h0, .int p0]) (n := 3) (Nat.le_of_ble_eq_true rfl)
  rw [lg_entry_eq]
  generalize (lg_sl ([.ref h0, .int p0]) ++ List.replicate (3 - (lg_sl ([.ref h0, .int p0])).length) Slot.unset).toArray = ls at hl ⊢
  have hl : lv_has ls 3 [(0, .ref h0), (1, .int p0)] := hl
  refine lv_aload_n hx hb dX0_open_0 rfl (lv_at hl 0 rfl) ?_
  refine lv_iload_n hx hb dX0_open_1 rfl (lv_at hl 1 rfl) ?_
  have hPc := hP.sub (ws' := [(h0, .inr (0, [.int a0, .int a1, .int a2, .int a3, .int a4, .int a5, .int a6, .int a7, .int a8, .int a9, .int a10, .int a11]))]) [0] rfl
  have hDc := hD.sub (ws' := [(h0, .inr (0, [.int a0, .int a1, .int a2, .int a3, .int a4, .int a5, .int a6, .int a7, .int a8, .int a9, .int a10, .int a11]))]) [0] (by decide) rfl
  have hKc := hK.sub (tys' := []) [] rfl
  have hFc := va_free (wc := [(h0, .inr (0, [.int a0, .int a1, .int a2, .int a3, .int a4, .int a5, .int a6, .int a7, .int a8, .int a9, .int a10, .int a11]))]) hD hS hA [0] rfl
  refine va_calli (va_runV (As := [.int p0]) (rest := []) ⟨hx, hb, hml, hown, hts⟩ (ct_X0_statusOfOpening l dC dI h0 s.heap.size a0 a1 a2 a3 a4 a5 a6 a7 a8 a9 a10 a11 p0) (cwV 1 hts gX0_open_X0_statusOfOpening rfl rfl rfl (by decide +kernel) ⟨Nat.le_of_ble_eq_true rfl, Nat.le_of_ble_eq_true rfl⟩) ⟨fun a U g mk q => by obtain ⟨q0, q1, qP, qK, qD⟩ := q; exact ⟨q0, q1, qP, va_K.moved (u := U) (U := U.calling g mk a) (Vm.Alike.refl U.vm) qK, qD⟩, va_recv hKc hPc (ci := 0) (q0 := 0) rfl rfl, fun U hU hW => ⟨rfl, by rw [hU], by rw [hU]; exact hPc, va_K.moved hW.alike hKc, hDc.weaken (fun _ _ _ _ => trivial)⟩⟩ rfl rfl hl.1 rfl (lv_room (Nat.le_of_ble_eq_true rfl)) dX0_open_2 ⟨(Nat.zero_le _), (Nat.zero_le _)⟩) hS (fun q _ h => hFc q h) hFc (fun r_1 u t H1 locs ht hvm hw hB hz1 hk1 hS => ?_)
  obtain ⟨er, hu⟩ := hw
  subst hu
  subst er
  obtain ⟨hP1, -, hD1⟩ := hB
  rw [ht] at hP1
  obtain ⟨hP, hD⟩ := va_join (wr := []) (w1 := [(h0, .inr (0, [.int a0, .int a1, .int a2, .int a3, .int a4, .int a5, .int a6, .int a7, .int a8, .int a9, .int a10, .int a11]))]) hP hD [0] [] rfl rfl (by decide) (by decide) hk1 hFc hP1 hD1
  generalize H1 = H at hP hS ⊢
  have hP : va_P (dC, dI) vwCl [(h0, .inr (0, [.int a0, .int a1, .int a2, .int a3, .int a4, .int a5, .int a6, .int a7, .int a8, .int a9, .int a10, .int a11]))] H := hP
  have hD : va_D A [(h0, .inr (0, [.int a0, .int a1, .int a2, .int a3, .int a4, .int a5, .int a6, .int a7, .int a8, .int a9, .int a10, .int a11]))] := hD
  refine lv_istore_n (lv' := [(2, .int (fx_X0_statusOfOpening a1 a2 a3 p0)), (0, .ref h0), (1, .int p0)]) hx hb dX0_open_5 rfl hl (by decide) rfl (fun ls hl => ?_)
  refine lv_iload_n hx hb dX0_open_6 rfl (lv_at hl 0 rfl) ?_
  refine lv_if_eq (tgt := 15) hx hb dX0_open_7 (by decide) (fun c_2 => ?_) (fun c_2 => ?_)
  · refine lv_aload_n hx hb dX0_open_15 rfl (lv_at hl 1 rfl) ?_
    refine lv_iconst (v := 1) hx hb dX0_open_16 (by decide) ?_
    refine va_put (D := (dC, dI)) (ci := 0) (v := .int 1) (ty := .boolean) (C := RX0) (T := TX0) (N := 12) hx hb hts (fun _ h => List.mem_cons_of_mem _ (List.mem_append_right _ h)) tyX0 tyX0_ok nmX0 hown hK hP hD hS 0 rfl rfl 2 (by decide) (hts (.fieldLink RX0 13 "FileStatus" "isOpen" "Z") (by decide +kernel)) (fun _ h9 => h9) rfl (by decide +kernel) rfl rfl (Nat.le_of_ble_eq_true rfl) dX0_open_17 (fun H locs hP hD hS => ?_)
    have hP : va_P (dC, dI) vwCl [(h0, .inr (0, [.int a0, .int a1, .int 1, .int a3, .int a4, .int a5, .int a6, .int a7, .int a8, .int a9, .int a10, .int a11]))] H := hP
    have hD : va_D A [(h0, .inr (0, [.int a0, .int a1, .int 1, .int a3, .int a4, .int a5, .int a6, .int a7, .int a8, .int a9, .int a10, .int a11]))] := hD
    refine lv_aload_n hx hb dX0_open_20 rfl (lv_at hl 1 rfl) ?_
    refine lv_iconst (v := 0) hx hb dX0_open_21 (by decide) ?_
    refine va_put (D := (dC, dI)) (ci := 0) (v := .int 0) (ty := .int) (C := RX0) (T := TX0) (N := 12) hx hb hts (fun _ h => List.mem_cons_of_mem _ (List.mem_append_right _ h)) tyX0 tyX0_ok nmX0 hown hK hP hD hS 0 rfl rfl 4 (by decide) (hts (.fieldLink RX0 20 "FileStatus" "place" "I") (by decide +kernel)) (fun _ h9 => h9) rfl (by decide +kernel) rfl rfl (Nat.le_of_ble_eq_true rfl) dX0_open_22 (fun H locs hP hD hS => ?_)
    have hP : va_P (dC, dI) vwCl [(h0, .inr (0, [.int a0, .int a1, .int 1, .int a3, .int 0, .int a5, .int a6, .int a7, .int a8, .int a9, .int a10, .int a11]))] H := hP
    have hD : va_D A [(h0, .inr (0, [.int a0, .int a1, .int 1, .int a3, .int 0, .int a5, .int a6, .int a7, .int a8, .int a9, .int a10, .int a11]))] := hD
    refine lv_aload_n hx hb dX0_open_25 rfl (lv_at hl 1 rfl) ?_
    refine lv_iload_n hx hb dX0_open_26 rfl (lv_at hl 0 rfl) ?_
    refine lv_iconst (v := 5) hx hb dX0_open_27 (by decide) ?_
    refine lv_icmp_ne (tgt := 42) hx hb dX0_open_28 (by decide) (fun c9 => ?_) (fun c9 => absurd (c_2.symm.trans c9) (by decide))
    refine lv_iconst (v := 0) hx hb dX0_open_42 (by decide) ?_
    refine va_put (D := (dC, dI)) (ci := 0) (v := .int 0) (ty := .boolean) (C := RX0) (T := TX0) (N := 12) hx hb hts (fun _ h => List.mem_cons_of_mem _ (List.mem_append_right _ h)) tyX0 tyX0_ok nmX0 hown hK hP hD hS 0 rfl rfl 5 (by decide) (hts (.fieldLink RX0 23 "FileStatus" "endIsNext" "Z") (by decide +kernel)) (fun _ h9 => h9) rfl (by decide +kernel) rfl rfl (Nat.le_of_ble_eq_true rfl) dX0_open_43 (fun H locs hP hD hS => ?_)
    have hP : va_P (dC, dI) vwCl [(h0, .inr (0, [.int a0, .int a1, .int 1, .int a3, .int 0, .int 0, .int a6, .int a7, .int a8, .int a9, .int a10, .int a11]))] H := hP
    have hD : va_D A [(h0, .inr (0, [.int a0, .int a1, .int 1, .int a3, .int 0, .int 0, .int a6, .int a7, .int a8, .int a9, .int a10, .int a11]))] := hD
    refine lv_aload_n hx hb dX0_open_46 rfl (lv_at hl 1 rfl) ?_
    refine lv_iconst (v := 0) hx hb dX0_open_47 (by decide) ?_
    refine va_put (D := (dC, dI)) (ci := 0) (v := .int 0) (ty := .boolean) (C := RX0) (T := TX0) (N := 12) hx hb hts (fun _ h => List.mem_cons_of_mem _ (List.mem_append_right _ h)) tyX0 tyX0_ok nmX0 hown hK hP hD hS 0 rfl rfl 6 (by decide) (hts (.fieldLink RX0 26 "FileStatus" "permit" "Z") (by decide +kernel)) (fun _ h9 => h9) rfl (by decide +kernel) rfl rfl (Nat.le_of_ble_eq_true rfl) dX0_open_48 (fun H locs hP hD hS => ?_)
    have hP : va_P (dC, dI) vwCl [(h0, .inr (0, [.int a0, .int a1, .int 1, .int a3, .int 0, .int 0, .int 0, .int a7, .int a8, .int a9, .int a10, .int a11]))] H := hP
    have hD : va_D A [(h0, .inr (0, [.int a0, .int a1, .int 1, .int a3, .int 0, .int 0, .int 0, .int a7, .int a8, .int a9, .int a10, .int a11]))] := hD
    refine lv_aload_n hx hb dX0_open_51 rfl (lv_at hl 1 rfl) ?_
    refine lv_bipush (v := 7) hx hb dX0_open_52 (by decide) ?_
    refine lv_iload_n hx hb dX0_open_54 rfl (lv_at hl 0 rfl) ?_
    have hPc := hP.sub (ws' := [(h0, .inr (0, [.int a0, .int a1, .int 1, .int a3, .int 0, .int 0, .int 0, .int a7, .int a8, .int a9, .int a10, .int a11]))]) [0] rfl
    have hDc := hD.sub (ws' := [(h0, .inr (0, [.int a0, .int a1, .int 1, .int a3, .int 0, .int 0, .int 0, .int a7, .int a8, .int a9, .int a10, .int a11]))]) [0] (by decide) rfl
    have hKc := hK.sub (tys' := []) [] rfl
    have hFc := va_free (wc := [(h0, .inr (0, [.int a0, .int a1, .int 1, .int a3, .int 0, .int 0, .int 0, .int a7, .int a8, .int a9, .int a10, .int a11]))]) hD hS hA [0] rfl
    refine va_callv (va_runV (As := [.int 7, .int (fx_X0_statusOfOpening a1 a2 a3 p0)]) (rest := []) ⟨hx, hb, hml, hown, hts⟩ (ct_X0_remember l dC dI h0 H.size a0 a1 1 a3 0 0 0 a7 a8 a9 a10 a11 7 (fx_X0_statusOfOpening a1 a2 a3 p0)) (cwV 2 hts gX0_open_X0_remember rfl rfl rfl (by decide +kernel) ⟨Nat.le_of_ble_eq_true rfl, Nat.le_of_ble_eq_true rfl⟩) ⟨fun a U g mk q => by obtain ⟨q0, q1, qP, qK, qD⟩ := q; exact ⟨q0, q1, qP, va_K.moved (u := U) (U := U.calling g mk a) (Vm.Alike.refl U.vm) qK, qD⟩, va_recv hKc hPc (ci := 0) (q0 := 0) rfl rfl, fun U hU hW => ⟨rfl, by rw [hU], by rw [hU]; exact hPc, va_K.moved hW.alike hKc, hDc.weaken (fun _ _ _ _ => trivial)⟩⟩ rfl rfl hl.1 rfl (lv_room (Nat.le_of_ble_eq_true rfl)) dX0_open_55 ⟨(Nat.zero_le _), (Nat.zero_le _)⟩) hS (fun q _ h => hFc q h) hFc (fun u t H1 locs ht hvm hw hB hz1 hk1 hS => ?_)
    subst hw
    obtain ⟨hP1, -, hD1⟩ := hB
    rw [ht] at hP1
    obtain ⟨hP, hD⟩ := va_join (wr := []) (w1 := [(h0, .inr (0, [.int a0, .int a1, .int 1, .int a3, .int 0, .int 0, .int 0, .int (gx_X0_remember_7 (fx_X0_statusOfOpening a1 a2 a3 p0)), .int (gx_X0_remember_8 7), .int a9, .int (gx_X0_remember_10 a10 7 (fx_X0_statusOfOpening a1 a2 a3 p0)), .int (gx_X0_remember_11 a11 (fx_X0_statusOfOpening a1 a2 a3 p0))]))]) hP hD [0] [] rfl rfl (by decide) (by decide) hk1 hFc hP1 hD1
    generalize H1 = H at hP hS ⊢
    have hP : va_P (dC, dI) vwCl [(h0, .inr (0, [.int a0, .int a1, .int 1, .int a3, .int 0, .int 0, .int 0, .int (gx_X0_remember_7 (fx_X0_statusOfOpening a1 a2 a3 p0)), .int (gx_X0_remember_8 7), .int a9, .int (gx_X0_remember_10 a10 7 (fx_X0_statusOfOpening a1 a2 a3 p0)), .int (gx_X0_remember_11 a11 (fx_X0_statusOfOpening a1 a2 a3 p0))]))] H := hP
    have hD : va_D A [(h0, .inr (0, [.int a0, .int a1, .int 1, .int a3, .int 0, .int 0, .int 0, .int (gx_X0_remember_7 (fx_X0_statusOfOpening a1 a2 a3 p0)), .int (gx_X0_remember_8 7), .int a9, .int (gx_X0_remember_10 a10 7 (fx_X0_statusOfOpening a1 a2 a3 p0)), .int (gx_X0_remember_11 a11 (fx_X0_statusOfOpening a1 a2 a3 p0))]))] := hD
    refine lv_iload_n hx hb dX0_open_58 rfl (lv_at hl 0 rfl) ?_
    have hP9 := hP.sub (ws' := [(h0, .inr (0, [.int a0, .int a1, .int 1, .int a3, .int 0, .int 0, .int 0, .int (gx_X0_remember_7 (fx_X0_statusOfOpening a1 a2 a3 p0)), .int (gx_X0_remember_8 7), .int a9, .int (gx_X0_remember_10 a10 7 (fx_X0_statusOfOpening a1 a2 a3 p0)), .int (gx_X0_remember_11 a11 (fx_X0_statusOfOpening a1 a2 a3 p0))]))]) [0] rfl
    have hD9 := hD.sub (ws' := [(h0, .inr (0, [.int a0, .int a1, .int 1, .int a3, .int 0, .int 0, .int 0, .int (gx_X0_remember_7 (fx_X0_statusOfOpening a1 a2 a3 p0)), .int (gx_X0_remember_8 7), .int a9, .int (gx_X0_remember_10 a10 7 (fx_X0_statusOfOpening a1 a2 a3 p0)), .int (gx_X0_remember_11 a11 (fx_X0_statusOfOpening a1 a2 a3 p0))]))]) [0] (by decide) rfl
    have hK9 := hK.sub (tys' := []) [] rfl
    have eg_2 : gx_X0_open_2 a1 a2 a3 p0 = 1 := by unfold gx_X0_open_2; rw [if_pos c_2]
    have eg_4 : gx_X0_open_4 a1 a2 a3 a4 p0 = 0 := by unfold gx_X0_open_4; rw [if_pos c_2]
    have eg_5 : gx_X0_open_5 a1 a2 a3 a5 p0 = 0 := by unfold gx_X0_open_5; rw [if_pos c_2]
    have eg_6 : gx_X0_open_6 = 0 := by rfl
    have eg_7 : gx_X0_open_7 a1 a2 a3 p0 = gx_X0_remember_7 (fx_X0_statusOfOpening a1 a2 a3 p0) := by rfl
    have eg_8 : gx_X0_open_8 = gx_X0_remember_8 7 := by rfl
    have eg_10 : gx_X0_open_10 a1 a2 a3 a10 p0 = gx_X0_remember_10 a10 7 (fx_X0_statusOfOpening a1 a2 a3 p0) := by rfl
    have eg_11 : gx_X0_open_11 a1 a2 a3 a11 p0 = gx_X0_remember_11 a11 (fx_X0_statusOfOpening a1 a2 a3 p0) := by rfl
    have ef : fx_X0_open a1 a2 a3 p0 = fx_X0_statusOfOpening a1 a2 a3 p0 := by rfl
    exact W.iret (v := fx_X0_statusOfOpening a1 a2 a3 p0) hx hb hr (fun t ht hW => ⟨⟨(fx_X0_statusOfOpening a1 a2 a3 p0), [(h0, .inr (0, [.int a0, .int a1, .int 1, .int a3, .int 0, .int 0, .int 0, .int (gx_X0_remember_7 (fx_X0_statusOfOpening a1 a2 a3 p0)), .int (gx_X0_remember_8 7), .int a9, .int (gx_X0_remember_10 a10 7 (fx_X0_statusOfOpening a1 a2 a3 p0)), .int (gx_X0_remember_11 a11 (fx_X0_statusOfOpening a1 a2 a3 p0))]))], rfl, ⟨ef.symm, by rw [eg_2, eg_4, eg_5, eg_6, eg_7, eg_8, eg_10, eg_11]⟩, by rw [ht]; exact hP9, va_K.moved hW.alike hK9, hD9⟩, hS.F ht⟩) hS.2.2 dX0_open_59
  refine lv_iload_n hx hb dX0_open_10 rfl (lv_at hl 0 rfl) ?_
  refine lv_iconst (v := 5) hx hb dX0_open_11 (by decide) ?_
  refine lv_icmp_ne (tgt := 46) hx hb dX0_open_12 (by decide) (fun c_4 => ?_) (fun c_4 => ?_)
  · refine lv_aload_n hx hb dX0_open_46 rfl (lv_at hl 1 rfl) ?_
    refine lv_iconst (v := 0) hx hb dX0_open_47 (by decide) ?_
    refine va_put (D := (dC, dI)) (ci := 0) (v := .int 0) (ty := .boolean) (C := RX0) (T := TX0) (N := 12) hx hb hts (fun _ h => List.mem_cons_of_mem _ (List.mem_append_right _ h)) tyX0 tyX0_ok nmX0 hown hK hP hD hS 0 rfl rfl 6 (by decide) (hts (.fieldLink RX0 26 "FileStatus" "permit" "Z") (by decide +kernel)) (fun _ h9 => h9) rfl (by decide +kernel) rfl rfl (Nat.le_of_ble_eq_true rfl) dX0_open_48 (fun H locs hP hD hS => ?_)
    have hP : va_P (dC, dI) vwCl [(h0, .inr (0, [.int a0, .int a1, .int a2, .int a3, .int a4, .int a5, .int 0, .int a7, .int a8, .int a9, .int a10, .int a11]))] H := hP
    have hD : va_D A [(h0, .inr (0, [.int a0, .int a1, .int a2, .int a3, .int a4, .int a5, .int 0, .int a7, .int a8, .int a9, .int a10, .int a11]))] := hD
    refine lv_aload_n hx hb dX0_open_51 rfl (lv_at hl 1 rfl) ?_
    refine lv_bipush (v := 7) hx hb dX0_open_52 (by decide) ?_
    refine lv_iload_n hx hb dX0_open_54 rfl (lv_at hl 0 rfl) ?_
    have hPc := hP.sub (ws' := [(h0, .inr (0, [.int a0, .int a1, .int a2, .int a3, .int a4, .int a5, .int 0, .int a7, .int a8, .int a9, .int a10, .int a11]))]) [0] rfl
    have hDc := hD.sub (ws' := [(h0, .inr (0, [.int a0, .int a1, .int a2, .int a3, .int a4, .int a5, .int 0, .int a7, .int a8, .int a9, .int a10, .int a11]))]) [0] (by decide) rfl
    have hKc := hK.sub (tys' := []) [] rfl
    have hFc := va_free (wc := [(h0, .inr (0, [.int a0, .int a1, .int a2, .int a3, .int a4, .int a5, .int 0, .int a7, .int a8, .int a9, .int a10, .int a11]))]) hD hS hA [0] rfl
    refine va_callv (va_runV (As := [.int 7, .int (fx_X0_statusOfOpening a1 a2 a3 p0)]) (rest := []) ⟨hx, hb, hml, hown, hts⟩ (ct_X0_remember l dC dI h0 H.size a0 a1 a2 a3 a4 a5 0 a7 a8 a9 a10 a11 7 (fx_X0_statusOfOpening a1 a2 a3 p0)) (cwV 2 hts gX0_open_X0_remember rfl rfl rfl (by decide +kernel) ⟨Nat.le_of_ble_eq_true rfl, Nat.le_of_ble_eq_true rfl⟩) ⟨fun a U g mk q => by obtain ⟨q0, q1, qP, qK, qD⟩ := q; exact ⟨q0, q1, qP, va_K.moved (u := U) (U := U.calling g mk a) (Vm.Alike.refl U.vm) qK, qD⟩, va_recv hKc hPc (ci := 0) (q0 := 0) rfl rfl, fun U hU hW => ⟨rfl, by rw [hU], by rw [hU]; exact hPc, va_K.moved hW.alike hKc, hDc.weaken (fun _ _ _ _ => trivial)⟩⟩ rfl rfl hl.1 rfl (lv_room (Nat.le_of_ble_eq_true rfl)) dX0_open_55 ⟨(Nat.zero_le _), (Nat.zero_le _)⟩) hS (fun q _ h => hFc q h) hFc (fun u t H1 locs ht hvm hw hB hz1 hk1 hS => ?_)
    subst hw
    obtain ⟨hP1, -, hD1⟩ := hB
    rw [ht] at hP1
    obtain ⟨hP, hD⟩ := va_join (wr := []) (w1 := [(h0, .inr (0, [.int a0, .int a1, .int a2, .int a3, .int a4, .int a5, .int 0, .int (gx_X0_remember_7 (fx_X0_statusOfOpening a1 a2 a3 p0)), .int (gx_X0_remember_8 7), .int a9, .int (gx_X0_remember_10 a10 7 (fx_X0_statusOfOpening a1 a2 a3 p0)), .int (gx_X0_remember_11 a11 (fx_X0_statusOfOpening a1 a2 a3 p0))]))]) hP hD [0] [] rfl rfl (by decide) (by decide) hk1 hFc hP1 hD1
    generalize H1 = H at hP hS ⊢
    have hP : va_P (dC, dI) vwCl [(h0, .inr (0, [.int a0, .int a1, .int a2, .int a3, .int a4, .int a5, .int 0, .int (gx_X0_remember_7 (fx_X0_statusOfOpening a1 a2 a3 p0)), .int (gx_X0_remember_8 7), .int a9, .int (gx_X0_remember_10 a10 7 (fx_X0_statusOfOpening a1 a2 a3 p0)), .int (gx_X0_remember_11 a11 (fx_X0_statusOfOpening a1 a2 a3 p0))]))] H := hP
    have hD : va_D A [(h0, .inr (0, [.int a0, .int a1, .int a2, .int a3, .int a4, .int a5, .int 0, .int (gx_X0_remember_7 (fx_X0_statusOfOpening a1 a2 a3 p0)), .int (gx_X0_remember_8 7), .int a9, .int (gx_X0_remember_10 a10 7 (fx_X0_statusOfOpening a1 a2 a3 p0)), .int (gx_X0_remember_11 a11 (fx_X0_statusOfOpening a1 a2 a3 p0))]))] := hD
    refine lv_iload_n hx hb dX0_open_58 rfl (lv_at hl 0 rfl) ?_
    have hP9 := hP.sub (ws' := [(h0, .inr (0, [.int a0, .int a1, .int a2, .int a3, .int a4, .int a5, .int 0, .int (gx_X0_remember_7 (fx_X0_statusOfOpening a1 a2 a3 p0)), .int (gx_X0_remember_8 7), .int a9, .int (gx_X0_remember_10 a10 7 (fx_X0_statusOfOpening a1 a2 a3 p0)), .int (gx_X0_remember_11 a11 (fx_X0_statusOfOpening a1 a2 a3 p0))]))]) [0] rfl
    have hD9 := hD.sub (ws' := [(h0, .inr (0, [.int a0, .int a1, .int a2, .int a3, .int a4, .int a5, .int 0, .int (gx_X0_remember_7 (fx_X0_statusOfOpening a1 a2 a3 p0)), .int (gx_X0_remember_8 7), .int a9, .int (gx_X0_remember_10 a10 7 (fx_X0_statusOfOpening a1 a2 a3 p0)), .int (gx_X0_remember_11 a11 (fx_X0_statusOfOpening a1 a2 a3 p0))]))]) [0] (by decide) rfl
    have hK9 := hK.sub (tys' := []) [] rfl
    have eg_2 : gx_X0_open_2 a1 a2 a3 p0 = a2 := by unfold gx_X0_open_2; rw [if_neg c_2, if_neg c_4]
    have eg_4 : gx_X0_open_4 a1 a2 a3 a4 p0 = a4 := by unfold gx_X0_open_4; rw [if_neg c_2, if_neg c_4]
    have eg_5 : gx_X0_open_5 a1 a2 a3 a5 p0 = a5 := by unfold gx_X0_open_5; rw [if_neg c_2, if_neg c_4]
    have eg_6 : gx_X0_open_6 = 0 := by rfl
    have eg_7 : gx_X0_open_7 a1 a2 a3 p0 = gx_X0_remember_7 (fx_X0_statusOfOpening a1 a2 a3 p0) := by rfl
    have eg_8 : gx_X0_open_8 = gx_X0_remember_8 7 := by rfl
    have eg_10 : gx_X0_open_10 a1 a2 a3 a10 p0 = gx_X0_remember_10 a10 7 (fx_X0_statusOfOpening a1 a2 a3 p0) := by rfl
    have eg_11 : gx_X0_open_11 a1 a2 a3 a11 p0 = gx_X0_remember_11 a11 (fx_X0_statusOfOpening a1 a2 a3 p0) := by rfl
    have ef : fx_X0_open a1 a2 a3 p0 = fx_X0_statusOfOpening a1 a2 a3 p0 := by rfl
    exact W.iret (v := fx_X0_statusOfOpening a1 a2 a3 p0) hx hb hr (fun t ht hW => ⟨⟨(fx_X0_statusOfOpening a1 a2 a3 p0), [(h0, .inr (0, [.int a0, .int a1, .int a2, .int a3, .int a4, .int a5, .int 0, .int (gx_X0_remember_7 (fx_X0_statusOfOpening a1 a2 a3 p0)), .int (gx_X0_remember_8 7), .int a9, .int (gx_X0_remember_10 a10 7 (fx_X0_statusOfOpening a1 a2 a3 p0)), .int (gx_X0_remember_11 a11 (fx_X0_statusOfOpening a1 a2 a3 p0))]))], rfl, ⟨ef.symm, by rw [eg_2, eg_4, eg_5, eg_6, eg_7, eg_8, eg_10, eg_11]⟩, by rw [ht]; exact hP9, va_K.moved hW.alike hK9, hD9⟩, hS.F ht⟩) hS.2.2 dX0_open_59
  refine lv_aload_n hx hb dX0_open_15 rfl (lv_at hl 1 rfl) ?_
  refine lv_iconst (v := 1) hx hb dX0_open_16 (by decide) ?_
  refine va_put (D := (dC, dI)) (ci := 0) (v := .int 1) (ty := .boolean) (C := RX0) (T := TX0) (N := 12) hx hb hts (fun _ h => List.mem_cons_of_mem _ (List.mem_append_right _ h)) tyX0 tyX0_ok nmX0 hown hK hP hD hS 0 rfl rfl 2 (by decide) (hts (.fieldLink RX0 13 "FileStatus" "isOpen" "Z") (by decide +kernel)) (fun _ h9 => h9) rfl (by decide +kernel) rfl rfl (Nat.le_of_ble_eq_true rfl) dX0_open_17 (fun H locs hP hD hS => ?_)
  have hP : va_P (dC, dI) vwCl [(h0, .inr (0, [.int a0, .int a1, .int 1, .int a3, .int a4, .int a5, .int a6, .int a7, .int a8, .int a9, .int a10, .int a11]))] H := hP
  have hD : va_D A [(h0, .inr (0, [.int a0, .int a1, .int 1, .int a3, .int a4, .int a5, .int a6, .int a7, .int a8, .int a9, .int a10, .int a11]))] := hD
  refine lv_aload_n hx hb dX0_open_20 rfl (lv_at hl 1 rfl) ?_
  refine lv_iconst (v := 0) hx hb dX0_open_21 (by decide) ?_
  refine va_put (D := (dC, dI)) (ci := 0) (v := .int 0) (ty := .int) (C := RX0) (T := TX0) (N := 12) hx hb hts (fun _ h => List.mem_cons_of_mem _ (List.mem_append_right _ h)) tyX0 tyX0_ok nmX0 hown hK hP hD hS 0 rfl rfl 4 (by decide) (hts (.fieldLink RX0 20 "FileStatus" "place" "I") (by decide +kernel)) (fun _ h9 => h9) rfl (by decide +kernel) rfl rfl (Nat.le_of_ble_eq_true rfl) dX0_open_22 (fun H locs hP hD hS => ?_)
  have hP : va_P (dC, dI) vwCl [(h0, .inr (0, [.int a0, .int a1, .int 1, .int a3, .int 0, .int a5, .int a6, .int a7, .int a8, .int a9, .int a10, .int a11]))] H := hP
  have hD : va_D A [(h0, .inr (0, [.int a0, .int a1, .int 1, .int a3, .int 0, .int a5, .int a6, .int a7, .int a8, .int a9, .int a10, .int a11]))] := hD
  refine lv_aload_n hx hb dX0_open_25 rfl (lv_at hl 1 rfl) ?_
  refine lv_iload_n hx hb dX0_open_26 rfl (lv_at hl 0 rfl) ?_
  refine lv_iconst (v := 5) hx hb dX0_open_27 (by decide) ?_
  refine lv_icmp_ne (tgt := 42) hx hb dX0_open_28 (by decide) (fun c9 => absurd c_4 c9) (fun c9 => ?_)
  refine lv_aload_n hx hb dX0_open_31 rfl (lv_at hl 1 rfl) ?_
  have hPc := hP.sub (ws' := [(h0, .inr (0, [.int a0, .int a1, .int 1, .int a3, .int 0, .int a5, .int a6, .int a7, .int a8, .int a9, .int a10, .int a11]))]) [0] rfl
  have hDc := hD.sub (ws' := [(h0, .inr (0, [.int a0, .int a1, .int 1, .int a3, .int 0, .int a5, .int a6, .int a7, .int a8, .int a9, .int a10, .int a11]))]) [0] (by decide) rfl
  have hKc := hK.sub (tys' := []) [] rfl
  have hFc := va_free (wc := [(h0, .inr (0, [.int a0, .int a1, .int 1, .int a3, .int 0, .int a5, .int a6, .int a7, .int a8, .int a9, .int a10, .int a11]))]) hD hS hA [0] rfl
  refine va_calli (va_runV (As := []) (rest := [.ref h0]) ⟨hx, hb, hml, hown, hts⟩ (ct_X0_isForReading l dC dI h0 H.size a0 a1 1 a3 0 a5 a6 a7 a8 a9 a10 a11) (cwV 0 hts gX0_open_X0_isForReading rfl rfl rfl (by decide +kernel) ⟨Nat.le_of_ble_eq_true rfl, Nat.le_of_ble_eq_true rfl⟩) ⟨fun a U g mk q => by obtain ⟨q0, q1, qP, qK, qD⟩ := q; exact ⟨q0, q1, qP, va_K.moved (u := U) (U := U.calling g mk a) (Vm.Alike.refl U.vm) qK, qD⟩, va_recv hKc hPc (ci := 0) (q0 := 0) rfl rfl, fun U hU hW => ⟨rfl, by rw [hU], by rw [hU]; exact hPc, va_K.moved hW.alike hKc, hDc.weaken (fun _ _ _ _ => trivial)⟩⟩ rfl rfl hl.1 rfl (lv_room (Nat.le_of_ble_eq_true rfl)) dX0_open_32 ⟨(Nat.zero_le _), (Nat.zero_le _)⟩) hS (fun q _ h => hFc q h) hFc (fun r_6 u t H1 locs ht hvm hw hB hz1 hk1 hS => ?_)
  obtain ⟨er, hu⟩ := hw
  subst hu
  subst er
  obtain ⟨hP1, -, hD1⟩ := hB
  rw [ht] at hP1
  obtain ⟨hP, hD⟩ := va_join (wr := []) (w1 := [(h0, .inr (0, [.int a0, .int a1, .int 1, .int a3, .int 0, .int a5, .int a6, .int a7, .int a8, .int a9, .int a10, .int a11]))]) hP hD [0] [] rfl rfl (by decide) (by decide) hk1 hFc hP1 hD1
  generalize H1 = H at hP hS ⊢
  have hP : va_P (dC, dI) vwCl [(h0, .inr (0, [.int a0, .int a1, .int 1, .int a3, .int 0, .int a5, .int a6, .int a7, .int a8, .int a9, .int a10, .int a11]))] H := hP
  have hD : va_D A [(h0, .inr (0, [.int a0, .int a1, .int 1, .int a3, .int 0, .int a5, .int a6, .int a7, .int a8, .int a9, .int a10, .int a11]))] := hD
  refine lv_if_eq (tgt := 42) hx hb dX0_open_35 (by decide) (fun c_7 => ?_) (fun c_7 => ?_)
  · refine lv_iconst (v := 0) hx hb dX0_open_42 (by decide) ?_
    refine va_put (D := (dC, dI)) (ci := 0) (v := .int 0) (ty := .boolean) (C := RX0) (T := TX0) (N := 12) hx hb hts (fun _ h => List.mem_cons_of_mem _ (List.mem_append_right _ h)) tyX0 tyX0_ok nmX0 hown hK hP hD hS 0 rfl rfl 5 (by decide) (hts (.fieldLink RX0 23 "FileStatus" "endIsNext" "Z") (by decide +kernel)) (fun _ h9 => h9) rfl (by decide +kernel) rfl rfl (Nat.le_of_ble_eq_true rfl) dX0_open_43 (fun H locs hP hD hS => ?_)
    have hP : va_P (dC, dI) vwCl [(h0, .inr (0, [.int a0, .int a1, .int 1, .int a3, .int 0, .int 0, .int a6, .int a7, .int a8, .int a9, .int a10, .int a11]))] H := hP
    have hD : va_D A [(h0, .inr (0, [.int a0, .int a1, .int 1, .int a3, .int 0, .int 0, .int a6, .int a7, .int a8, .int a9, .int a10, .int a11]))] := hD
    refine lv_aload_n hx hb dX0_open_46 rfl (lv_at hl 1 rfl) ?_
    refine lv_iconst (v := 0) hx hb dX0_open_47 (by decide) ?_
    refine va_put (D := (dC, dI)) (ci := 0) (v := .int 0) (ty := .boolean) (C := RX0) (T := TX0) (N := 12) hx hb hts (fun _ h => List.mem_cons_of_mem _ (List.mem_append_right _ h)) tyX0 tyX0_ok nmX0 hown hK hP hD hS 0 rfl rfl 6 (by decide) (hts (.fieldLink RX0 26 "FileStatus" "permit" "Z") (by decide +kernel)) (fun _ h9 => h9) rfl (by decide +kernel) rfl rfl (Nat.le_of_ble_eq_true rfl) dX0_open_48 (fun H locs hP hD hS => ?_)
    have hP : va_P (dC, dI) vwCl [(h0, .inr (0, [.int a0, .int a1, .int 1, .int a3, .int 0, .int 0, .int 0, .int a7, .int a8, .int a9, .int a10, .int a11]))] H := hP
    have hD : va_D A [(h0, .inr (0, [.int a0, .int a1, .int 1, .int a3, .int 0, .int 0, .int 0, .int a7, .int a8, .int a9, .int a10, .int a11]))] := hD
    refine lv_aload_n hx hb dX0_open_51 rfl (lv_at hl 1 rfl) ?_
    refine lv_bipush (v := 7) hx hb dX0_open_52 (by decide) ?_
    refine lv_iload_n hx hb dX0_open_54 rfl (lv_at hl 0 rfl) ?_
    have hPc := hP.sub (ws' := [(h0, .inr (0, [.int a0, .int a1, .int 1, .int a3, .int 0, .int 0, .int 0, .int a7, .int a8, .int a9, .int a10, .int a11]))]) [0] rfl
    have hDc := hD.sub (ws' := [(h0, .inr (0, [.int a0, .int a1, .int 1, .int a3, .int 0, .int 0, .int 0, .int a7, .int a8, .int a9, .int a10, .int a11]))]) [0] (by decide) rfl
    have hKc := hK.sub (tys' := []) [] rfl
    have hFc := va_free (wc := [(h0, .inr (0, [.int a0, .int a1, .int 1, .int a3, .int 0, .int 0, .int 0, .int a7, .int a8, .int a9, .int a10, .int a11]))]) hD hS hA [0] rfl
    refine va_callv (va_runV (As := [.int 7, .int (fx_X0_statusOfOpening a1 a2 a3 p0)]) (rest := []) ⟨hx, hb, hml, hown, hts⟩ (ct_X0_remember l dC dI h0 H.size a0 a1 1 a3 0 0 0 a7 a8 a9 a10 a11 7 (fx_X0_statusOfOpening a1 a2 a3 p0)) (cwV 2 hts gX0_open_X0_remember rfl rfl rfl (by decide +kernel) ⟨Nat.le_of_ble_eq_true rfl, Nat.le_of_ble_eq_true rfl⟩) ⟨fun a U g mk q => by obtain ⟨q0, q1, qP, qK, qD⟩ := q; exact ⟨q0, q1, qP, va_K.moved (u := U) (U := U.calling g mk a) (Vm.Alike.refl U.vm) qK, qD⟩, va_recv hKc hPc (ci := 0) (q0 := 0) rfl rfl, fun U hU hW => ⟨rfl, by rw [hU], by rw [hU]; exact hPc, va_K.moved hW.alike hKc, hDc.weaken (fun _ _ _ _ => trivial)⟩⟩ rfl rfl hl.1 rfl (lv_room (Nat.le_of_ble_eq_true rfl)) dX0_open_55 ⟨(Nat.zero_le _), (Nat.zero_le _)⟩) hS (fun q _ h => hFc q h) hFc (fun u t H1 locs ht hvm hw hB hz1 hk1 hS => ?_)
    subst hw
    obtain ⟨hP1, -, hD1⟩ := hB
    rw [ht] at hP1
    obtain ⟨hP, hD⟩ := va_join (wr := []) (w1 := [(h0, .inr (0, [.int a0, .int a1, .int 1, .int a3, .int 0, .int 0, .int 0, .int (gx_X0_remember_7 (fx_X0_statusOfOpening a1 a2 a3 p0)), .int (gx_X0_remember_8 7), .int a9, .int (gx_X0_remember_10 a10 7 (fx_X0_statusOfOpening a1 a2 a3 p0)), .int (gx_X0_remember_11 a11 (fx_X0_statusOfOpening a1 a2 a3 p0))]))]) hP hD [0] [] rfl rfl (by decide) (by decide) hk1 hFc hP1 hD1
    generalize H1 = H at hP hS ⊢
    have hP : va_P (dC, dI) vwCl [(h0, .inr (0, [.int a0, .int a1, .int 1, .int a3, .int 0, .int 0, .int 0, .int (gx_X0_remember_7 (fx_X0_statusOfOpening a1 a2 a3 p0)), .int (gx_X0_remember_8 7), .int a9, .int (gx_X0_remember_10 a10 7 (fx_X0_statusOfOpening a1 a2 a3 p0)), .int (gx_X0_remember_11 a11 (fx_X0_statusOfOpening a1 a2 a3 p0))]))] H := hP
    have hD : va_D A [(h0, .inr (0, [.int a0, .int a1, .int 1, .int a3, .int 0, .int 0, .int 0, .int (gx_X0_remember_7 (fx_X0_statusOfOpening a1 a2 a3 p0)), .int (gx_X0_remember_8 7), .int a9, .int (gx_X0_remember_10 a10 7 (fx_X0_statusOfOpening a1 a2 a3 p0)), .int (gx_X0_remember_11 a11 (fx_X0_statusOfOpening a1 a2 a3 p0))]))] := hD
    refine lv_iload_n hx hb dX0_open_58 rfl (lv_at hl 0 rfl) ?_
    have hP9 := hP.sub (ws' := [(h0, .inr (0, [.int a0, .int a1, .int 1, .int a3, .int 0, .int 0, .int 0, .int (gx_X0_remember_7 (fx_X0_statusOfOpening a1 a2 a3 p0)), .int (gx_X0_remember_8 7), .int a9, .int (gx_X0_remember_10 a10 7 (fx_X0_statusOfOpening a1 a2 a3 p0)), .int (gx_X0_remember_11 a11 (fx_X0_statusOfOpening a1 a2 a3 p0))]))]) [0] rfl
    have hD9 := hD.sub (ws' := [(h0, .inr (0, [.int a0, .int a1, .int 1, .int a3, .int 0, .int 0, .int 0, .int (gx_X0_remember_7 (fx_X0_statusOfOpening a1 a2 a3 p0)), .int (gx_X0_remember_8 7), .int a9, .int (gx_X0_remember_10 a10 7 (fx_X0_statusOfOpening a1 a2 a3 p0)), .int (gx_X0_remember_11 a11 (fx_X0_statusOfOpening a1 a2 a3 p0))]))]) [0] (by decide) rfl
    have hK9 := hK.sub (tys' := []) [] rfl
    have eg_2 : gx_X0_open_2 a1 a2 a3 p0 = 1 := by unfold gx_X0_open_2; rw [if_neg c_2, if_pos c_4]
    have eg_4 : gx_X0_open_4 a1 a2 a3 a4 p0 = 0 := by unfold gx_X0_open_4; rw [if_neg c_2, if_pos c_4]
    have eg_5 : gx_X0_open_5 a1 a2 a3 a5 p0 = 0 := by unfold gx_X0_open_5; rw [if_neg c_2, if_pos c_4, if_pos c_7]
    have eg_6 : gx_X0_open_6 = 0 := by rfl
    have eg_7 : gx_X0_open_7 a1 a2 a3 p0 = gx_X0_remember_7 (fx_X0_statusOfOpening a1 a2 a3 p0) := by rfl
    have eg_8 : gx_X0_open_8 = gx_X0_remember_8 7 := by rfl
    have eg_10 : gx_X0_open_10 a1 a2 a3 a10 p0 = gx_X0_remember_10 a10 7 (fx_X0_statusOfOpening a1 a2 a3 p0) := by rfl
    have eg_11 : gx_X0_open_11 a1 a2 a3 a11 p0 = gx_X0_remember_11 a11 (fx_X0_statusOfOpening a1 a2 a3 p0) := by rfl
    have ef : fx_X0_open a1 a2 a3 p0 = fx_X0_statusOfOpening a1 a2 a3 p0 := by rfl
    exact W.iret (v := fx_X0_statusOfOpening a1 a2 a3 p0) hx hb hr (fun t ht hW => ⟨⟨(fx_X0_statusOfOpening a1 a2 a3 p0), [(h0, .inr (0, [.int a0, .int a1, .int 1, .int a3, .int 0, .int 0, .int 0, .int (gx_X0_remember_7 (fx_X0_statusOfOpening a1 a2 a3 p0)), .int (gx_X0_remember_8 7), .int a9, .int (gx_X0_remember_10 a10 7 (fx_X0_statusOfOpening a1 a2 a3 p0)), .int (gx_X0_remember_11 a11 (fx_X0_statusOfOpening a1 a2 a3 p0))]))], rfl, ⟨ef.symm, by rw [eg_2, eg_4, eg_5, eg_6, eg_7, eg_8, eg_10, eg_11]⟩, by rw [ht]; exact hP9, va_K.moved hW.alike hK9, hD9⟩, hS.F ht⟩) hS.2.2 dX0_open_59
  refine lv_iconst (v := 1) hx hb dX0_open_38 (by decide) ?_
  refine lv_goto (tgt := 43) hx hb dX0_open_39 (by decide) ?_
  refine va_put (D := (dC, dI)) (ci := 0) (v := .int 1) (ty := .boolean) (C := RX0) (T := TX0) (N := 12) hx hb hts (fun _ h => List.mem_cons_of_mem _ (List.mem_append_right _ h)) tyX0 tyX0_ok nmX0 hown hK hP hD hS 0 rfl rfl 5 (by decide) (hts (.fieldLink RX0 23 "FileStatus" "endIsNext" "Z") (by decide +kernel)) (fun _ h9 => h9) rfl (by decide +kernel) rfl rfl (Nat.le_of_ble_eq_true rfl) dX0_open_43 (fun H locs hP hD hS => ?_)
  have hP : va_P (dC, dI) vwCl [(h0, .inr (0, [.int a0, .int a1, .int 1, .int a3, .int 0, .int 1, .int a6, .int a7, .int a8, .int a9, .int a10, .int a11]))] H := hP
  have hD : va_D A [(h0, .inr (0, [.int a0, .int a1, .int 1, .int a3, .int 0, .int 1, .int a6, .int a7, .int a8, .int a9, .int a10, .int a11]))] := hD
  refine lv_aload_n hx hb dX0_open_46 rfl (lv_at hl 1 rfl) ?_
  refine lv_iconst (v := 0) hx hb dX0_open_47 (by decide) ?_
  refine va_put (D := (dC, dI)) (ci := 0) (v := .int 0) (ty := .boolean) (C := RX0) (T := TX0) (N := 12) hx hb hts (fun _ h => List.mem_cons_of_mem _ (List.mem_append_right _ h)) tyX0 tyX0_ok nmX0 hown hK hP hD hS 0 rfl rfl 6 (by decide) (hts (.fieldLink RX0 26 "FileStatus" "permit" "Z") (by decide +kernel)) (fun _ h9 => h9) rfl (by decide +kernel) rfl rfl (Nat.le_of_ble_eq_true rfl) dX0_open_48 (fun H locs hP hD hS => ?_)
  have hP : va_P (dC, dI) vwCl [(h0, .inr (0, [.int a0, .int a1, .int 1, .int a3, .int 0, .int 1, .int 0, .int a7, .int a8, .int a9, .int a10, .int a11]))] H := hP
  have hD : va_D A [(h0, .inr (0, [.int a0, .int a1, .int 1, .int a3, .int 0, .int 1, .int 0, .int a7, .int a8, .int a9, .int a10, .int a11]))] := hD
  refine lv_aload_n hx hb dX0_open_51 rfl (lv_at hl 1 rfl) ?_
  refine lv_bipush (v := 7) hx hb dX0_open_52 (by decide) ?_
  refine lv_iload_n hx hb dX0_open_54 rfl (lv_at hl 0 rfl) ?_
  have hPc := hP.sub (ws' := [(h0, .inr (0, [.int a0, .int a1, .int 1, .int a3, .int 0, .int 1, .int 0, .int a7, .int a8, .int a9, .int a10, .int a11]))]) [0] rfl
  have hDc := hD.sub (ws' := [(h0, .inr (0, [.int a0, .int a1, .int 1, .int a3, .int 0, .int 1, .int 0, .int a7, .int a8, .int a9, .int a10, .int a11]))]) [0] (by decide) rfl
  have hKc := hK.sub (tys' := []) [] rfl
  have hFc := va_free (wc := [(h0, .inr (0, [.int a0, .int a1, .int 1, .int a3, .int 0, .int 1, .int 0, .int a7, .int a8, .int a9, .int a10, .int a11]))]) hD hS hA [0] rfl
  refine va_callv (va_runV (As := [.int 7, .int (fx_X0_statusOfOpening a1 a2 a3 p0)]) (rest := []) ⟨hx, hb, hml, hown, hts⟩ (ct_X0_remember l dC dI h0 H.size a0 a1 1 a3 0 1 0 a7 a8 a9 a10 a11 7 (fx_X0_statusOfOpening a1 a2 a3 p0)) (cwV 2 hts gX0_open_X0_remember rfl rfl rfl (by decide +kernel) ⟨Nat.le_of_ble_eq_true rfl, Nat.le_of_ble_eq_true rfl⟩) ⟨fun a U g mk q => by obtain ⟨q0, q1, qP, qK, qD⟩ := q; exact ⟨q0, q1, qP, va_K.moved (u := U) (U := U.calling g mk a) (Vm.Alike.refl U.vm) qK, qD⟩, va_recv hKc hPc (ci := 0) (q0 := 0) rfl rfl, fun U hU hW => ⟨rfl, by rw [hU], by rw [hU]; exact hPc, va_K.moved hW.alike hKc, hDc.weaken (fun _ _ _ _ => trivial)⟩⟩ rfl rfl hl.1 rfl (lv_room (Nat.le_of_ble_eq_true rfl)) dX0_open_55 ⟨(Nat.zero_le _), (Nat.zero_le _)⟩) hS (fun q _ h => hFc q h) hFc (fun u t H1 locs ht hvm hw hB hz1 hk1 hS => ?_)
  subst hw
  obtain ⟨hP1, -, hD1⟩ := hB
  rw [ht] at hP1
  obtain ⟨hP, hD⟩ := va_join (wr := []) (w1 := [(h0, .inr (0, [.int a0, .int a1, .int 1, .int a3, .int 0, .int 1, .int 0, .int (gx_X0_remember_7 (fx_X0_statusOfOpening a1 a2 a3 p0)), .int (gx_X0_remember_8 7), .int a9, .int (gx_X0_remember_10 a10 7 (fx_X0_statusOfOpening a1 a2 a3 p0)), .int (gx_X0_remember_11 a11 (fx_X0_statusOfOpening a1 a2 a3 p0))]))]) hP hD [0] [] rfl rfl (by decide) (by decide) hk1 hFc hP1 hD1
  generalize H1 = H at hP hS ⊢
  have hP : va_P (dC, dI) vwCl [(h0, .inr (0, [.int a0, .int a1, .int 1, .int a3, .int 0, .int 1, .int 0, .int (gx_X0_remember_7 (fx_X0_statusOfOpening a1 a2 a3 p0)), .int (gx_X0_remember_8 7), .int a9, .int (gx_X0_remember_10 a10 7 (fx_X0_statusOfOpening a1 a2 a3 p0)), .int (gx_X0_remember_11 a11 (fx_X0_statusOfOpening a1 a2 a3 p0))]))] H := hP
  have hD : va_D A [(h0, .inr (0, [.int a0, .int a1, .int 1, .int a3, .int 0, .int 1, .int 0, .int (gx_X0_remember_7 (fx_X0_statusOfOpening a1 a2 a3 p0)), .int (gx_X0_remember_8 7), .int a9, .int (gx_X0_remember_10 a10 7 (fx_X0_statusOfOpening a1 a2 a3 p0)), .int (gx_X0_remember_11 a11 (fx_X0_statusOfOpening a1 a2 a3 p0))]))] := hD
  refine lv_iload_n hx hb dX0_open_58 rfl (lv_at hl 0 rfl) ?_
  have hP9 := hP.sub (ws' := [(h0, .inr (0, [.int a0, .int a1, .int 1, .int a3, .int 0, .int 1, .int 0, .int (gx_X0_remember_7 (fx_X0_statusOfOpening a1 a2 a3 p0)), .int (gx_X0_remember_8 7), .int a9, .int (gx_X0_remember_10 a10 7 (fx_X0_statusOfOpening a1 a2 a3 p0)), .int (gx_X0_remember_11 a11 (fx_X0_statusOfOpening a1 a2 a3 p0))]))]) [0] rfl
  have hD9 := hD.sub (ws' := [(h0, .inr (0, [.int a0, .int a1, .int 1, .int a3, .int 0, .int 1, .int 0, .int (gx_X0_remember_7 (fx_X0_statusOfOpening a1 a2 a3 p0)), .int (gx_X0_remember_8 7), .int a9, .int (gx_X0_remember_10 a10 7 (fx_X0_statusOfOpening a1 a2 a3 p0)), .int (gx_X0_remember_11 a11 (fx_X0_statusOfOpening a1 a2 a3 p0))]))]) [0] (by decide) rfl
  have hK9 := hK.sub (tys' := []) [] rfl
  have eg_2 : gx_X0_open_2 a1 a2 a3 p0 = 1 := by unfold gx_X0_open_2; rw [if_neg c_2, if_pos c_4]
  have eg_4 : gx_X0_open_4 a1 a2 a3 a4 p0 = 0 := by unfold gx_X0_open_4; rw [if_neg c_2, if_pos c_4]
  have eg_5 : gx_X0_open_5 a1 a2 a3 a5 p0 = 1 := by unfold gx_X0_open_5; rw [if_neg c_2, if_pos c_4, if_neg c_7]
  have eg_6 : gx_X0_open_6 = 0 := by rfl
  have eg_7 : gx_X0_open_7 a1 a2 a3 p0 = gx_X0_remember_7 (fx_X0_statusOfOpening a1 a2 a3 p0) := by rfl
  have eg_8 : gx_X0_open_8 = gx_X0_remember_8 7 := by rfl
  have eg_10 : gx_X0_open_10 a1 a2 a3 a10 p0 = gx_X0_remember_10 a10 7 (fx_X0_statusOfOpening a1 a2 a3 p0) := by rfl
  have eg_11 : gx_X0_open_11 a1 a2 a3 a11 p0 = gx_X0_remember_11 a11 (fx_X0_statusOfOpening a1 a2 a3 p0) := by rfl
  have ef : fx_X0_open a1 a2 a3 p0 = fx_X0_statusOfOpening a1 a2 a3 p0 := by rfl
  exact W.iret (v := fx_X0_statusOfOpening a1 a2 a3 p0) hx hb hr (fun t ht hW => ⟨⟨(fx_X0_statusOfOpening a1 a2 a3 p0), [(h0, .inr (0, [.int a0, .int a1, .int 1, .int a3, .int 0, .int 1, .int 0, .int (gx_X0_remember_7 (fx_X0_statusOfOpening a1 a2 a3 p0)), .int (gx_X0_remember_8 7), .int a9, .int (gx_X0_remember_10 a10 7 (fx_X0_statusOfOpening a1 a2 a3 p0)), .int (gx_X0_remember_11 a11 (fx_X0_statusOfOpening a1 a2 a3 p0))]))], rfl, ⟨ef.symm, by rw [eg_2, eg_4, eg_5, eg_6, eg_7, eg_8, eg_10, eg_11]⟩, by rw [ht]; exact hP9, va_K.moved hW.alike hK9, hD9⟩, hS.F ht⟩) hS.2.2 dX0_open_59
set_option maxHeartbeats 4000000 in
set_option maxRecDepth 100000 in
theorem ct_X0_position (l : Launch) (dC : Nat → ClassId) (dI : Nat → Nat → Nat) (h0 : Nat) (sz : Nat) (a0 a1 a2 a3 a4 a5 a6 a7 a8 a9 a10 a11 p0 : Int32) : Met l yX0_position wsX0_position ({ frames := 2, cells := 0, slots := 0, locals := 41 }) (va_Pc [.ref h0, .int p0] (fun U => U.heap.size = sz ∧ va_P (dC, dI) vwCl [(h0, .inr (0, [.int a0, .int a1, .int a2, .int a3, .int a4, .int a5, .int a6, .int a7, .int a8, .int a9, .int a10, .int a11]))] U.heap ∧ va_K (dC, dI) vwCl [] U ∧ va_D (fun _ => True) [(h0, .inr (0, [.int a0, .int a1, .int a2, .int a3, .int a4, .int a5, .int a6, .int a7, .int a8, .int a9, .int a10, .int a11]))])) (va_Qi (fun (r : Int32) (u : va_W) => r = fx_X0_position p0 ∧ u = [(h0, .inr (0, [.int a0, .int a1, .int a2, .int a3, .int a4, .int a5, .int a6, .int a7, .int a8, .int a9, .int a10, .int a11]))]) (at_W dC dI [] (va_A [(h0, .inr (0, [.int a0, .int a1, .int a2, .int a3, .int a4, .int a5, .int a6, .int a7, .int a8, .int a9, .int a10, .int a11]))] sz)) (va_A [(h0, .inr (0, [.int a0, .int a1, .int a2, .int a3, .int a4, .int a5, .int a6, .int a7, .int a8, .int a9, .int a10, .int a11]))] sz)) 0 0 (va_A [(h0, .inr (0, [.int a0, .int a1, .int a2, .int a3, .int a4, .int a5, .int a6, .int a7, .int a8, .int a9, .int a10, .int a11]))] sz) := by
  refine Met.ofW (cc := cX0_position) (maxL := 2) (ret := (some .int)) (by decide) rfl ?_
  intro p e s m args below meth c s₁ B hml hv
  obtain ⟨rfl, hsz, hP, hK, hD0⟩ := hv
  have hx := B.exec
  have hb := B.bytes
  have hr := B.returns
  have hts := atoms_spec (ws := wsX0_position) B.pre
  have hown : s.vm.findClass RX0 = some m.cls := findClass_of_methodNamed B.named
  have hlocks := B.notSynchronized
  subst hsz
  have hD := hD0.self (sz := s.heap.size)
  generalize hAe : va_A [(h0, .inr (0, [.int a0, .int a1, .int a2, .int a3, .int a4, .int a5, .int a6, .int a7, .int a8, .int a9, .int a10, .int a11]))] s.heap.size = A at hD ⊢
  have hA : ∀ q : Nat, s.heap.size ≤ q → A q := fun q h => by rw [← hAe]; exact Or.inr h
  have hS : va_S A s.heap s.heap [] := va_S.rf
  have hP : va_P (dC, dI) vwCl [(h0, .inr (0, [.int a0, .int a1, .int a2, .int a3, .int a4, .int a5, .int a6, .int a7, .int a8, .int a9, .int a10, .int a11]))] s.heap := hP
  have hl := lv_entry ([.ref h0, .int p0]) (n := 2) (Nat.le_of_ble_eq_true rfl)
  rw [lg_entry_eq]
  generalize (lg_sl ([.ref h0, .int p0]) ++ List.replicate (2 - (lg_sl ([.ref h0, .int p0])).length) Slot.unset).toArray = ls at hl ⊢
  have hl : lv_has ls 2 [(0, .ref h0), (1, .int p0)] := hl
  refine lv_iload_n hx hb dX0_position_0 rfl (lv_at hl 1 rfl) ?_
  have hPc := hP.sub (ws' := []) [] rfl
  have hDc := hD.sub (ws' := []) [] (by decide) rfl
  have hKc := hK.sub (tys' := []) [] rfl
  have hFc := va_free (wc := []) hD hS hA [] rfl
  refine va_calli (va_runS (As := [.int p0]) (rest := []) ⟨hx, hb, hml, hown, hts⟩ (ct_X0_isStatus l dC dI s.heap.size p0) (va_cwS 1 hts gX0_position_X0_isStatus rfl rfl rfl (by decide +kernel) ⟨Nat.le_of_ble_eq_true rfl, Nat.le_of_ble_eq_true rfl⟩) ⟨fun a U g mk q => by obtain ⟨q0, q1, qP, qK, qD⟩ := q; exact ⟨q0, q1, qP, va_K.moved (u := U) (U := U.calling g mk a) (Vm.Alike.refl U.vm) qK, qD⟩, fun U hU hW => ⟨rfl, by rw [hU], by rw [hU]; exact hPc, va_K.moved hW.alike hKc, hDc.weaken (fun _ _ _ _ => trivial)⟩⟩ rfl rfl hl.1 rfl (lv_room (Nat.le_of_ble_eq_true rfl)) dX0_position_1 ⟨(Nat.zero_le _), (Nat.zero_le _)⟩) hS (fun q _ h => hFc q h) hFc (fun r_1 u t H1 locs ht hvm hw hB hz1 hk1 hS => ?_)
  obtain ⟨er, hu⟩ := hw
  subst hu
  subst er
  obtain ⟨hP1, -, hD1⟩ := hB
  rw [ht] at hP1
  obtain ⟨hP, hD⟩ := va_join (wr := [(h0, .inr (0, [.int a0, .int a1, .int a2, .int a3, .int a4, .int a5, .int a6, .int a7, .int a8, .int a9, .int a10, .int a11]))]) (w1 := []) hP hD [] [0] rfl rfl (by decide) (by decide) hk1 hFc hP1 hD1
  generalize H1 = H at hP hS ⊢
  have hP : va_P (dC, dI) vwCl [(h0, .inr (0, [.int a0, .int a1, .int a2, .int a3, .int a4, .int a5, .int a6, .int a7, .int a8, .int a9, .int a10, .int a11]))] H := hP
  have hD : va_D A [(h0, .inr (0, [.int a0, .int a1, .int a2, .int a3, .int a4, .int a5, .int a6, .int a7, .int a8, .int a9, .int a10, .int a11]))] := hD
  refine lv_if_ne (tgt := 9) hx hb dX0_position_4 (by decide) (fun c_2 => ?_) (fun c_2 => ?_)
  · refine lv_iload_n hx hb dX0_position_9 rfl (lv_at hl 1 rfl) ?_
    refine lv_iconst (v := 0) hx hb dX0_position_10 (by decide) ?_
    have hPc := hP.sub (ws' := []) [] rfl
    have hDc := hD.sub (ws' := []) [] (by decide) rfl
    have hKc := hK.sub (tys' := []) [] rfl
    have hFc := va_free (wc := []) hD hS hA [] rfl
    refine va_calli (va_runS (As := [.int p0, .int 0]) (rest := []) ⟨hx, hb, hml, hown, hts⟩ (ct_X0_placeAfter l dC dI H.size p0 0) (va_cwS 2 hts gX0_position_X0_placeAfter rfl rfl rfl (by decide +kernel) ⟨Nat.le_of_ble_eq_true rfl, Nat.le_of_ble_eq_true rfl⟩) ⟨fun a U g mk q => by obtain ⟨q0, q1, qP, qK, qD⟩ := q; exact ⟨q0, q1, qP, va_K.moved (u := U) (U := U.calling g mk a) (Vm.Alike.refl U.vm) qK, qD⟩, fun U hU hW => ⟨rfl, by rw [hU], by rw [hU]; exact hPc, va_K.moved hW.alike hKc, hDc.weaken (fun _ _ _ _ => trivial)⟩⟩ rfl rfl hl.1 rfl (lv_room (Nat.le_of_ble_eq_true rfl)) dX0_position_11 ⟨(Nat.zero_le _), (Nat.zero_le _)⟩) hS (fun q _ h => hFc q h) hFc (fun r_3 u t H1 locs ht hvm hw hB hz1 hk1 hS => ?_)
    obtain ⟨er, hu⟩ := hw
    subst hu
    subst er
    obtain ⟨hP1, -, hD1⟩ := hB
    rw [ht] at hP1
    obtain ⟨hP, hD⟩ := va_join (wr := [(h0, .inr (0, [.int a0, .int a1, .int a2, .int a3, .int a4, .int a5, .int a6, .int a7, .int a8, .int a9, .int a10, .int a11]))]) (w1 := []) hP hD [] [0] rfl rfl (by decide) (by decide) hk1 hFc hP1 hD1
    generalize H1 = H at hP hS ⊢
    have hP : va_P (dC, dI) vwCl [(h0, .inr (0, [.int a0, .int a1, .int a2, .int a3, .int a4, .int a5, .int a6, .int a7, .int a8, .int a9, .int a10, .int a11]))] H := hP
    have hD : va_D A [(h0, .inr (0, [.int a0, .int a1, .int a2, .int a3, .int a4, .int a5, .int a6, .int a7, .int a8, .int a9, .int a10, .int a11]))] := hD
    have hP9 := hP.sub (ws' := [(h0, .inr (0, [.int a0, .int a1, .int a2, .int a3, .int a4, .int a5, .int a6, .int a7, .int a8, .int a9, .int a10, .int a11]))]) [0] rfl
    have hD9 := hD.sub (ws' := [(h0, .inr (0, [.int a0, .int a1, .int a2, .int a3, .int a4, .int a5, .int a6, .int a7, .int a8, .int a9, .int a10, .int a11]))]) [0] (by decide) rfl
    have hK9 := hK.sub (tys' := []) [] rfl
    have ef : fx_X0_position p0 = fx_X0_placeAfter p0 0 := by unfold fx_X0_position; rw [if_neg c_2]
    exact W.iret (v := fx_X0_placeAfter p0 0) hx hb hr (fun t ht hW => ⟨⟨(fx_X0_placeAfter p0 0), [(h0, .inr (0, [.int a0, .int a1, .int a2, .int a3, .int a4, .int a5, .int a6, .int a7, .int a8, .int a9, .int a10, .int a11]))], rfl, ⟨ef.symm, rfl⟩, by rw [ht]; exact hP9, va_K.moved hW.alike hK9, hD9⟩, hS.F ht⟩) hS.2.2 dX0_position_14
  refine lv_iconst (v := (-1)) hx hb dX0_position_7 (by decide) ?_
  have hP9 := hP.sub (ws' := [(h0, .inr (0, [.int a0, .int a1, .int a2, .int a3, .int a4, .int a5, .int a6, .int a7, .int a8, .int a9, .int a10, .int a11]))]) [0] rfl
  have hD9 := hD.sub (ws' := [(h0, .inr (0, [.int a0, .int a1, .int a2, .int a3, .int a4, .int a5, .int a6, .int a7, .int a8, .int a9, .int a10, .int a11]))]) [0] (by decide) rfl
  have hK9 := hK.sub (tys' := []) [] rfl
  have ef : fx_X0_position p0 = (-1) := by unfold fx_X0_position; rw [if_pos c_2]
  exact W.iret (v := (-1)) hx hb hr (fun t ht hW => ⟨⟨(-1), [(h0, .inr (0, [.int a0, .int a1, .int a2, .int a3, .int a4, .int a5, .int a6, .int a7, .int a8, .int a9, .int a10, .int a11]))], rfl, ⟨ef.symm, rfl⟩, by rw [ht]; exact hP9, va_K.moved hW.alike hK9, hD9⟩, hS.F ht⟩) hS.2.2 dX0_position_8
set_option maxHeartbeats 4000000 in
set_option maxRecDepth 100000 in
theorem ct_X0_statusAheadOfOutcome (l : Launch) (dC : Nat → ClassId) (dI : Nat → Nat → Nat) (h0 : Nat) (sz : Nat) (a0 a1 a2 a3 a4 a5 a6 a7 a8 a9 a10 a11 p0 : Int32) : Met l yX0_statusAheadOfOutcome wsX0_statusAheadOfOutcome ({ frames := 2, cells := 0, slots := 0, locals := 41 }) (va_Pc [.ref h0, .int p0] (fun U => U.heap.size = sz ∧ va_P (dC, dI) vwCl [(h0, .inr (0, [.int a0, .int a1, .int a2, .int a3, .int a4, .int a5, .int a6, .int a7, .int a8, .int a9, .int a10, .int a11]))] U.heap ∧ va_K (dC, dI) vwCl [] U ∧ va_D (fun _ => True) [(h0, .inr (0, [.int a0, .int a1, .int a2, .int a3, .int a4, .int a5, .int a6, .int a7, .int a8, .int a9, .int a10, .int a11]))])) (va_Qi (fun (r : Int32) (u : va_W) => r = fx_X0_statusAheadOfOutcome a0 a1 a2 a4 a6 p0 ∧ u = [(h0, .inr (0, [.int a0, .int a1, .int a2, .int a3, .int a4, .int a5, .int a6, .int a7, .int a8, .int a9, .int a10, .int a11]))]) (at_W dC dI [] (va_A [(h0, .inr (0, [.int a0, .int a1, .int a2, .int a3, .int a4, .int a5, .int a6, .int a7, .int a8, .int a9, .int a10, .int a11]))] sz)) (va_A [(h0, .inr (0, [.int a0, .int a1, .int a2, .int a3, .int a4, .int a5, .int a6, .int a7, .int a8, .int a9, .int a10, .int a11]))] sz)) 0 0 (va_A [(h0, .inr (0, [.int a0, .int a1, .int a2, .int a3, .int a4, .int a5, .int a6, .int a7, .int a8, .int a9, .int a10, .int a11]))] sz) := by
  refine Met.ofW (cc := cX0_statusAheadOfOutcome) (maxL := 3) (ret := (some .int)) (by decide) rfl ?_
  intro p e s m args below meth c s₁ B hml hv
  obtain ⟨rfl, hsz, hP, hK, hD0⟩ := hv
  have hx := B.exec
  have hb := B.bytes
  have hr := B.returns
  have hts := atoms_spec (ws := wsX0_statusAheadOfOutcome) B.pre
  have hown : s.vm.findClass RX0 = some m.cls := findClass_of_methodNamed B.named
  have hlocks := B.notSynchronized
  subst hsz
  have hD := hD0.self (sz := s.heap.size)
  generalize hAe : va_A [(h0, .inr (0, [.int a0, .int a1, .int a2, .int a3, .int a4, .int a5, .int a6, .int a7, .int a8, .int a9, .int a10, .int a11]))] s.heap.size = A at hD ⊢
  have hA : ∀ q : Nat, s.heap.size ≤ q → A q := fun q h => by rw [← hAe]; exact Or.inr h
  have hS : va_S A s.heap s.heap [] := va_S.rf
  have hP : va_P (dC, dI) vwCl [(h0, .inr (0, [.int a0, .int a1, .int a2, .int a3, .int a4, .int a5, .int a6, .int a7, .int a8, .int a9, .int a10, .int a11]))] s.heap := hP
  have hl := lv_entry ([.ref h0, .int p0]) (n := 3) (Nat.le_of_ble_eq_true rfl)
  rw [lg_entry_eq]
  generalize (lg_sl ([.ref h0, .int p0]) ++ List.replicate (3 - (lg_sl ([.ref h0, .int p0])).length) Slot.unset).toArray = ls at hl ⊢
  have hl : lv_has ls 3 [(0, .ref h0), (1, .int p0)] := hl
  refine lv_aload_n hx hb dX0_statusAheadOfOutcome_0 rfl (lv_at hl 0 rfl) ?_
  refine va_get (D := (dC, dI)) (ci := 0) (v := .int a2) (C := RX0) (T := TX0) (N := 12) hx hb hts (fun _ h => List.mem_cons_of_mem _ (List.mem_append_right _ h)) hown hK hP 0 rfl rfl 2 (by decide) (hts (.fieldLink RX0 13 "FileStatus" "isOpen" "Z") (by decide +kernel)) (fun _ h9 => h9) rfl dX0_statusAheadOfOutcome_1 ?_
  refine lv_if_ne (tgt := 10) hx hb dX0_statusAheadOfOutcome_4 (by decide) (fun c_1 => ?_) (fun c_1 => ?_)
  · refine lv_aload_n hx hb dX0_statusAheadOfOutcome_10 rfl (lv_at hl 0 rfl) ?_
    refine va_get (D := (dC, dI)) (ci := 0) (v := .int a0) (C := RX0) (T := TX0) (N := 12) hx hb hts (fun _ h => List.mem_cons_of_mem _ (List.mem_append_right _ h)) hown hK hP 0 rfl rfl 0 (by decide) (hts (.fieldLink RX0 53 "FileStatus" "organisation" "I") (by decide +kernel)) (fun _ h9 => h9) rfl dX0_statusAheadOfOutcome_11 ?_
    refine lv_if_ne (tgt := 35) hx hb dX0_statusAheadOfOutcome_14 (by decide) (fun c_2 => ?_) (fun c_2 => ?_)
    · refine lv_aload_n hx hb dX0_statusAheadOfOutcome_35 rfl (lv_at hl 0 rfl) ?_
      refine lv_iload_n hx hb dX0_statusAheadOfOutcome_36 rfl (lv_at hl 1 rfl) ?_
      have hPc := hP.sub (ws' := [(h0, .inr (0, [.int a0, .int a1, .int a2, .int a3, .int a4, .int a5, .int a6, .int a7, .int a8, .int a9, .int a10, .int a11]))]) [0] rfl
      have hDc := hD.sub (ws' := [(h0, .inr (0, [.int a0, .int a1, .int a2, .int a3, .int a4, .int a5, .int a6, .int a7, .int a8, .int a9, .int a10, .int a11]))]) [0] (by decide) rfl
      have hKc := hK.sub (tys' := []) [] rfl
      have hFc := va_free (wc := [(h0, .inr (0, [.int a0, .int a1, .int a2, .int a3, .int a4, .int a5, .int a6, .int a7, .int a8, .int a9, .int a10, .int a11]))]) hD hS hA [0] rfl
      refine va_calli (va_runV (As := [.int p0]) (rest := []) ⟨hx, hb, hml, hown, hts⟩ (ct_X0_statusOfWrongMode l dC dI h0 s.heap.size a0 a1 a2 a3 a4 a5 a6 a7 a8 a9 a10 a11 p0) (cwV 1 hts gX0_statusAheadOfOutcome_X0_statusOfWrongMode rfl rfl rfl (by decide +kernel) ⟨Nat.le_of_ble_eq_true rfl, Nat.le_of_ble_eq_true rfl⟩) ⟨fun a U g mk q => by obtain ⟨q0, q1, qP, qK, qD⟩ := q; exact ⟨q0, q1, qP, va_K.moved (u := U) (U := U.calling g mk a) (Vm.Alike.refl U.vm) qK, qD⟩, va_recv hKc hPc (ci := 0) (q0 := 0) rfl rfl, fun U hU hW => ⟨rfl, by rw [hU], by rw [hU]; exact hPc, va_K.moved hW.alike hKc, hDc.weaken (fun _ _ _ _ => trivial)⟩⟩ rfl rfl hl.1 rfl (lv_room (Nat.le_of_ble_eq_true rfl)) dX0_statusAheadOfOutcome_37 ⟨(Nat.zero_le _), (Nat.zero_le _)⟩) hS (fun q _ h => hFc q h) hFc (fun r_3 u t H1 locs ht hvm hw hB hz1 hk1 hS => ?_)
      obtain ⟨er, hu⟩ := hw
      subst hu
      subst er
      obtain ⟨hP1, -, hD1⟩ := hB
      rw [ht] at hP1
      obtain ⟨hP, hD⟩ := va_join (wr := []) (w1 := [(h0, .inr (0, [.int a0, .int a1, .int a2, .int a3, .int a4, .int a5, .int a6, .int a7, .int a8, .int a9, .int a10, .int a11]))]) hP hD [0] [] rfl rfl (by decide) (by decide) hk1 hFc hP1 hD1
      generalize H1 = H at hP hS ⊢
      have hP : va_P (dC, dI) vwCl [(h0, .inr (0, [.int a0, .int a1, .int a2, .int a3, .int a4, .int a5, .int a6, .int a7, .int a8, .int a9, .int a10, .int a11]))] H := hP
      have hD : va_D A [(h0, .inr (0, [.int a0, .int a1, .int a2, .int a3, .int a4, .int a5, .int a6, .int a7, .int a8, .int a9, .int a10, .int a11]))] := hD
      refine lv_istore_n (lv' := [(2, .int (fx_X0_statusOfWrongMode a0 a1 p0)), (0, .ref h0), (1, .int p0)]) hx hb dX0_statusAheadOfOutcome_40 rfl hl (by decide) rfl (fun ls hl => ?_)
      refine lv_iload_n hx hb dX0_statusAheadOfOutcome_41 rfl (lv_at hl 0 rfl) ?_
      refine lv_iconst (v := (-1)) hx hb dX0_statusAheadOfOutcome_42 (by decide) ?_
      refine lv_icmp_eq (tgt := 48) hx hb dX0_statusAheadOfOutcome_43 (by decide) (fun c_4 => ?_) (fun c_4 => ?_)
      · refine lv_iload_n hx hb dX0_statusAheadOfOutcome_48 rfl (lv_at hl 2 rfl) ?_
        refine lv_iconst (v := 3) hx hb dX0_statusAheadOfOutcome_49 (by decide) ?_
        refine lv_icmp_ne (tgt := 70) hx hb dX0_statusAheadOfOutcome_50 (by decide) (fun c_5 => ?_) (fun c_5 => ?_)
        · refine lv_iload_n hx hb dX0_statusAheadOfOutcome_70 rfl (lv_at hl 2 rfl) ?_
          refine lv_if_ne (tgt := 93) hx hb dX0_statusAheadOfOutcome_71 (by decide) (fun c_6 => ?_) (fun c_6 => ?_)
          · refine lv_iconst (v := (-1)) hx hb dX0_statusAheadOfOutcome_93 (by decide) ?_
            have hP9 := hP.sub (ws' := [(h0, .inr (0, [.int a0, .int a1, .int a2, .int a3, .int a4, .int a5, .int a6, .int a7, .int a8, .int a9, .int a10, .int a11]))]) [0] rfl
            have hD9 := hD.sub (ws' := [(h0, .inr (0, [.int a0, .int a1, .int a2, .int a3, .int a4, .int a5, .int a6, .int a7, .int a8, .int a9, .int a10, .int a11]))]) [0] (by decide) rfl
            have hK9 := hK.sub (tys' := []) [] rfl
            have ef : fx_X0_statusAheadOfOutcome a0 a1 a2 a4 a6 p0 = (-1) := by unfold fx_X0_statusAheadOfOutcome; rw [if_neg c_1, if_neg c_2, if_pos c_4, if_neg c_5, if_neg c_6]
            exact W.iret (v := (-1)) hx hb hr (fun t ht hW => ⟨⟨(-1), [(h0, .inr (0, [.int a0, .int a1, .int a2, .int a3, .int a4, .int a5, .int a6, .int a7, .int a8, .int a9, .int a10, .int a11]))], rfl, ⟨ef.symm, rfl⟩, by rw [ht]; exact hP9, va_K.moved hW.alike hK9, hD9⟩, hS.F ht⟩) hS.2.2 dX0_statusAheadOfOutcome_94
          refine lv_aload_n hx hb dX0_statusAheadOfOutcome_74 rfl (lv_at hl 1 rfl) ?_
          refine va_get (D := (dC, dI)) (ci := 0) (v := .int a4) (C := RX0) (T := TX0) (N := 12) hx hb hts (fun _ h => List.mem_cons_of_mem _ (List.mem_append_right _ h)) hown hK hP 0 rfl rfl 4 (by decide) (hts (.fieldLink RX0 20 "FileStatus" "place" "I") (by decide +kernel)) (fun _ h9 => h9) rfl dX0_statusAheadOfOutcome_75 ?_
          refine lv_iconst (v := 2) hx hb dX0_statusAheadOfOutcome_78 (by decide) ?_
          refine lv_icmp_eq (tgt := 90) hx hb dX0_statusAheadOfOutcome_79 (by decide) (fun c_7 => ?_) (fun c_7 => ?_)
          · refine lv_bipush (v := 46) hx hb dX0_statusAheadOfOutcome_90 (by decide) ?_
            have hP9 := hP.sub (ws' := [(h0, .inr (0, [.int a0, .int a1, .int a2, .int a3, .int a4, .int a5, .int a6, .int a7, .int a8, .int a9, .int a10, .int a11]))]) [0] rfl
            have hD9 := hD.sub (ws' := [(h0, .inr (0, [.int a0, .int a1, .int a2, .int a3, .int a4, .int a5, .int a6, .int a7, .int a8, .int a9, .int a10, .int a11]))]) [0] (by decide) rfl
            have hK9 := hK.sub (tys' := []) [] rfl
            have ef : fx_X0_statusAheadOfOutcome a0 a1 a2 a4 a6 p0 = 46 := by unfold fx_X0_statusAheadOfOutcome; rw [if_neg c_1, if_neg c_2, if_pos c_4, if_neg c_5, if_pos c_6, if_pos c_7]
            exact W.iret (v := 46) hx hb hr (fun t ht hW => ⟨⟨46, [(h0, .inr (0, [.int a0, .int a1, .int a2, .int a3, .int a4, .int a5, .int a6, .int a7, .int a8, .int a9, .int a10, .int a11]))], rfl, ⟨ef.symm, rfl⟩, by rw [ht]; exact hP9, va_K.moved hW.alike hK9, hD9⟩, hS.F ht⟩) hS.2.2 dX0_statusAheadOfOutcome_92
          refine lv_aload_n hx hb dX0_statusAheadOfOutcome_82 rfl (lv_at hl 1 rfl) ?_
          refine va_get (D := (dC, dI)) (ci := 0) (v := .int a4) (C := RX0) (T := TX0) (N := 12) hx hb hts (fun _ h => List.mem_cons_of_mem _ (List.mem_append_right _ h)) hown hK hP 0 rfl rfl 4 (by decide) (hts (.fieldLink RX0 20 "FileStatus" "place" "I") (by decide +kernel)) (fun _ h9 => h9) rfl dX0_statusAheadOfOutcome_83 ?_
          refine lv_iconst (v := 3) hx hb dX0_statusAheadOfOutcome_86 (by decide) ?_
          refine lv_icmp_ne (tgt := 93) hx hb dX0_statusAheadOfOutcome_87 (by decide) (fun c_8 => ?_) (fun c_8 => ?_)
          · refine lv_iconst (v := (-1)) hx hb dX0_statusAheadOfOutcome_93 (by decide) ?_
            have hP9 := hP.sub (ws' := [(h0, .inr (0, [.int a0, .int a1, .int a2, .int a3, .int a4, .int a5, .int a6, .int a7, .int a8, .int a9, .int a10, .int a11]))]) [0] rfl
            have hD9 := hD.sub (ws' := [(h0, .inr (0, [.int a0, .int a1, .int a2, .int a3, .int a4, .int a5, .int a6, .int a7, .int a8, .int a9, .int a10, .int a11]))]) [0] (by decide) rfl
            have hK9 := hK.sub (tys' := []) [] rfl
            have ef : fx_X0_statusAheadOfOutcome a0 a1 a2 a4 a6 p0 = (-1) := by unfold fx_X0_statusAheadOfOutcome; rw [if_neg c_1, if_neg c_2, if_pos c_4, if_neg c_5, if_pos c_6, if_neg c_7, if_neg c_8]
            exact W.iret (v := (-1)) hx hb hr (fun t ht hW => ⟨⟨(-1), [(h0, .inr (0, [.int a0, .int a1, .int a2, .int a3, .int a4, .int a5, .int a6, .int a7, .int a8, .int a9, .int a10, .int a11]))], rfl, ⟨ef.symm, rfl⟩, by rw [ht]; exact hP9, va_K.moved hW.alike hK9, hD9⟩, hS.F ht⟩) hS.2.2 dX0_statusAheadOfOutcome_94
          refine lv_bipush (v := 46) hx hb dX0_statusAheadOfOutcome_90 (by decide) ?_
          have hP9 := hP.sub (ws' := [(h0, .inr (0, [.int a0, .int a1, .int a2, .int a3, .int a4, .int a5, .int a6, .int a7, .int a8, .int a9, .int a10, .int a11]))]) [0] rfl
          have hD9 := hD.sub (ws' := [(h0, .inr (0, [.int a0, .int a1, .int a2, .int a3, .int a4, .int a5, .int a6, .int a7, .int a8, .int a9, .int a10, .int a11]))]) [0] (by decide) rfl
          have hK9 := hK.sub (tys' := []) [] rfl
          have ef : fx_X0_statusAheadOfOutcome a0 a1 a2 a4 a6 p0 = 46 := by unfold fx_X0_statusAheadOfOutcome; rw [if_neg c_1, if_neg c_2, if_pos c_4, if_neg c_5, if_pos c_6, if_neg c_7, if_pos c_8]
          exact W.iret (v := 46) hx hb hr (fun t ht hW => ⟨⟨46, [(h0, .inr (0, [.int a0, .int a1, .int a2, .int a3, .int a4, .int a5, .int a6, .int a7, .int a8, .int a9, .int a10, .int a11]))], rfl, ⟨ef.symm, rfl⟩, by rw [ht]; exact hP9, va_K.moved hW.alike hK9, hD9⟩, hS.F ht⟩) hS.2.2 dX0_statusAheadOfOutcome_92
        refine lv_aload_n hx hb dX0_statusAheadOfOutcome_53 rfl (lv_at hl 1 rfl) ?_
        refine va_get (D := (dC, dI)) (ci := 0) (v := .int a0) (C := RX0) (T := TX0) (N := 12) hx hb hts (fun _ h => List.mem_cons_of_mem _ (List.mem_append_right _ h)) hown hK hP 0 rfl rfl 0 (by decide) (hts (.fieldLink RX0 53 "FileStatus" "organisation" "I") (by decide +kernel)) (fun _ h9 => h9) rfl dX0_statusAheadOfOutcome_54 ?_
        refine lv_if_ne (tgt := 70) hx hb dX0_statusAheadOfOutcome_57 (by decide) (fun c9 => ?_) (fun c9 => absurd c9 c_2)
        refine lv_iload_n hx hb dX0_statusAheadOfOutcome_70 rfl (lv_at hl 2 rfl) ?_
        refine lv_if_ne (tgt := 93) hx hb dX0_statusAheadOfOutcome_71 (by decide) (fun c9 => ?_) (fun c9 => absurd (c_5.symm.trans c9) (by decide))
        refine lv_iconst (v := (-1)) hx hb dX0_statusAheadOfOutcome_93 (by decide) ?_
        have hP9 := hP.sub (ws' := [(h0, .inr (0, [.int a0, .int a1, .int a2, .int a3, .int a4, .int a5, .int a6, .int a7, .int a8, .int a9, .int a10, .int a11]))]) [0] rfl
        have hD9 := hD.sub (ws' := [(h0, .inr (0, [.int a0, .int a1, .int a2, .int a3, .int a4, .int a5, .int a6, .int a7, .int a8, .int a9, .int a10, .int a11]))]) [0] (by decide) rfl
        have hK9 := hK.sub (tys' := []) [] rfl
        have ef : fx_X0_statusAheadOfOutcome a0 a1 a2 a4 a6 p0 = (-1) := by unfold fx_X0_statusAheadOfOutcome; rw [if_neg c_1, if_neg c_2, if_pos c_4, if_pos c_5]
        exact W.iret (v := (-1)) hx hb hr (fun t ht hW => ⟨⟨(-1), [(h0, .inr (0, [.int a0, .int a1, .int a2, .int a3, .int a4, .int a5, .int a6, .int a7, .int a8, .int a9, .int a10, .int a11]))], rfl, ⟨ef.symm, rfl⟩, by rw [ht]; exact hP9, va_K.moved hW.alike hK9, hD9⟩, hS.F ht⟩) hS.2.2 dX0_statusAheadOfOutcome_94
      refine lv_iload_n hx hb dX0_statusAheadOfOutcome_46 rfl (lv_at hl 0 rfl) ?_
      have hP9 := hP.sub (ws' := [(h0, .inr (0, [.int a0, .int a1, .int a2, .int a3, .int a4, .int a5, .int a6, .int a7, .int a8, .int a9, .int a10, .int a11]))]) [0] rfl
      have hD9 := hD.sub (ws' := [(h0, .inr (0, [.int a0, .int a1, .int a2, .int a3, .int a4, .int a5, .int a6, .int a7, .int a8, .int a9, .int a10, .int a11]))]) [0] (by decide) rfl
      have hK9 := hK.sub (tys' := []) [] rfl
      have ef : fx_X0_statusAheadOfOutcome a0 a1 a2 a4 a6 p0 = fx_X0_statusOfWrongMode a0 a1 p0 := by unfold fx_X0_statusAheadOfOutcome; rw [if_neg c_1, if_neg c_2, if_neg c_4]
      exact W.iret (v := fx_X0_statusOfWrongMode a0 a1 p0) hx hb hr (fun t ht hW => ⟨⟨(fx_X0_statusOfWrongMode a0 a1 p0), [(h0, .inr (0, [.int a0, .int a1, .int a2, .int a3, .int a4, .int a5, .int a6, .int a7, .int a8, .int a9, .int a10, .int a11]))], rfl, ⟨ef.symm, rfl⟩, by rw [ht]; exact hP9, va_K.moved hW.alike hK9, hD9⟩, hS.F ht⟩) hS.2.2 dX0_statusAheadOfOutcome_47
    refine lv_iload_n hx hb dX0_statusAheadOfOutcome_17 rfl (lv_at hl 1 rfl) ?_
    refine lv_iconst (v := 1) hx hb dX0_statusAheadOfOutcome_18 (by decide) ?_
    refine lv_icmp_eq (tgt := 32) hx hb dX0_statusAheadOfOutcome_19 (by decide) (fun c_9 => ?_) (fun c_9 => ?_)
    · refine lv_bipush (v := 90) hx hb dX0_statusAheadOfOutcome_32 (by decide) ?_
      have hP9 := hP.sub (ws' := [(h0, .inr (0, [.int a0, .int a1, .int a2, .int a3, .int a4, .int a5, .int a6, .int a7, .int a8, .int a9, .int a10, .int a11]))]) [0] rfl
      have hD9 := hD.sub (ws' := [(h0, .inr (0, [.int a0, .int a1, .int a2, .int a3, .int a4, .int a5, .int a6, .int a7, .int a8, .int a9, .int a10, .int a11]))]) [0] (by decide) rfl
      have hK9 := hK.sub (tys' := []) [] rfl
      have ef : fx_X0_statusAheadOfOutcome a0 a1 a2 a4 a6 p0 = 90 := by unfold fx_X0_statusAheadOfOutcome; rw [if_neg c_1, if_pos c_2, if_pos c_9]
      exact W.iret (v := 90) hx hb hr (fun t ht hW => ⟨⟨90, [(h0, .inr (0, [.int a0, .int a1, .int a2, .int a3, .int a4, .int a5, .int a6, .int a7, .int a8, .int a9, .int a10, .int a11]))], rfl, ⟨ef.symm, rfl⟩, by rw [ht]; exact hP9, va_K.moved hW.alike hK9, hD9⟩, hS.F ht⟩) hS.2.2 dX0_statusAheadOfOutcome_34
    refine lv_iload_n hx hb dX0_statusAheadOfOutcome_22 rfl (lv_at hl 1 rfl) ?_
    refine lv_iconst (v := 4) hx hb dX0_statusAheadOfOutcome_23 (by decide) ?_
    refine lv_icmp_eq (tgt := 32) hx hb dX0_statusAheadOfOutcome_24 (by decide) (fun c_10 => ?_) (fun c_10 => ?_)
    · refine lv_bipush (v := 90) hx hb dX0_statusAheadOfOutcome_32 (by decide) ?_
      have hP9 := hP.sub (ws' := [(h0, .inr (0, [.int a0, .int a1, .int a2, .int a3, .int a4, .int a5, .int a6, .int a7, .int a8, .int a9, .int a10, .int a11]))]) [0] rfl
      have hD9 := hD.sub (ws' := [(h0, .inr (0, [.int a0, .int a1, .int a2, .int a3, .int a4, .int a5, .int a6, .int a7, .int a8, .int a9, .int a10, .int a11]))]) [0] (by decide) rfl
      have hK9 := hK.sub (tys' := []) [] rfl
      have ef : fx_X0_statusAheadOfOutcome a0 a1 a2 a4 a6 p0 = 90 := by unfold fx_X0_statusAheadOfOutcome; rw [if_neg c_1, if_pos c_2, if_neg c_9, if_pos c_10]
      exact W.iret (v := 90) hx hb hr (fun t ht hW => ⟨⟨90, [(h0, .inr (0, [.int a0, .int a1, .int a2, .int a3, .int a4, .int a5, .int a6, .int a7, .int a8, .int a9, .int a10, .int a11]))], rfl, ⟨ef.symm, rfl⟩, by rw [ht]; exact hP9, va_K.moved hW.alike hK9, hD9⟩, hS.F ht⟩) hS.2.2 dX0_statusAheadOfOutcome_34
    refine lv_iload_n hx hb dX0_statusAheadOfOutcome_27 rfl (lv_at hl 1 rfl) ?_
    refine lv_iconst (v := 5) hx hb dX0_statusAheadOfOutcome_28 (by decide) ?_
    refine lv_icmp_ne (tgt := 35) hx hb dX0_statusAheadOfOutcome_29 (by decide) (fun c_11 => ?_) (fun c_11 => ?_)
    · refine lv_aload_n hx hb dX0_statusAheadOfOutcome_35 rfl (lv_at hl 0 rfl) ?_
      refine lv_iload_n hx hb dX0_statusAheadOfOutcome_36 rfl (lv_at hl 1 rfl) ?_
      have hPc := hP.sub (ws' := [(h0, .inr (0, [.int a0, .int a1, .int a2, .int a3, .int a4, .int a5, .int a6, .int a7, .int a8, .int a9, .int a10, .int a11]))]) [0] rfl
      have hDc := hD.sub (ws' := [(h0, .inr (0, [.int a0, .int a1, .int a2, .int a3, .int a4, .int a5, .int a6, .int a7, .int a8, .int a9, .int a10, .int a11]))]) [0] (by decide) rfl
      have hKc := hK.sub (tys' := []) [] rfl
      have hFc := va_free (wc := [(h0, .inr (0, [.int a0, .int a1, .int a2, .int a3, .int a4, .int a5, .int a6, .int a7, .int a8, .int a9, .int a10, .int a11]))]) hD hS hA [0] rfl
      refine va_calli (va_runV (As := [.int p0]) (rest := []) ⟨hx, hb, hml, hown, hts⟩ (ct_X0_statusOfWrongMode l dC dI h0 s.heap.size a0 a1 a2 a3 a4 a5 a6 a7 a8 a9 a10 a11 p0) (cwV 1 hts gX0_statusAheadOfOutcome_X0_statusOfWrongMode rfl rfl rfl (by decide +kernel) ⟨Nat.le_of_ble_eq_true rfl, Nat.le_of_ble_eq_true rfl⟩) ⟨fun a U g mk q => by obtain ⟨q0, q1, qP, qK, qD⟩ := q; exact ⟨q0, q1, qP, va_K.moved (u := U) (U := U.calling g mk a) (Vm.Alike.refl U.vm) qK, qD⟩, va_recv hKc hPc (ci := 0) (q0 := 0) rfl rfl, fun U hU hW => ⟨rfl, by rw [hU], by rw [hU]; exact hPc, va_K.moved hW.alike hKc, hDc.weaken (fun _ _ _ _ => trivial)⟩⟩ rfl rfl hl.1 rfl (lv_room (Nat.le_of_ble_eq_true rfl)) dX0_statusAheadOfOutcome_37 ⟨(Nat.zero_le _), (Nat.zero_le _)⟩) hS (fun q _ h => hFc q h) hFc (fun r_12 u t H1 locs ht hvm hw hB hz1 hk1 hS => ?_)
      obtain ⟨er, hu⟩ := hw
      subst hu
      subst er
      obtain ⟨hP1, -, hD1⟩ := hB
      rw [ht] at hP1
      obtain ⟨hP, hD⟩ := va_join (wr := []) (w1 := [(h0, .inr (0, [.int a0, .int a1, .int a2, .int a3, .int a4, .int a5, .int a6, .int a7, .int a8, .int a9, .int a10, .int a11]))]) hP hD [0] [] rfl rfl (by decide) (by decide) hk1 hFc hP1 hD1
      generalize H1 = H at hP hS ⊢
      have hP : va_P (dC, dI) vwCl [(h0, .inr (0, [.int a0, .int a1, .int a2, .int a3, .int a4, .int a5, .int a6, .int a7, .int a8, .int a9, .int a10, .int a11]))] H := hP
      have hD : va_D A [(h0, .inr (0, [.int a0, .int a1, .int a2, .int a3, .int a4, .int a5, .int a6, .int a7, .int a8, .int a9, .int a10, .int a11]))] := hD
      refine lv_istore_n (lv' := [(2, .int (fx_X0_statusOfWrongMode a0 a1 p0)), (0, .ref h0), (1, .int p0)]) hx hb dX0_statusAheadOfOutcome_40 rfl hl (by decide) rfl (fun ls hl => ?_)
      refine lv_iload_n hx hb dX0_statusAheadOfOutcome_41 rfl (lv_at hl 0 rfl) ?_
      refine lv_iconst (v := (-1)) hx hb dX0_statusAheadOfOutcome_42 (by decide) ?_
      refine lv_icmp_eq (tgt := 48) hx hb dX0_statusAheadOfOutcome_43 (by decide) (fun c_13 => ?_) (fun c_13 => ?_)
      · refine lv_iload_n hx hb dX0_statusAheadOfOutcome_48 rfl (lv_at hl 2 rfl) ?_
        refine lv_iconst (v := 3) hx hb dX0_statusAheadOfOutcome_49 (by decide) ?_
        refine lv_icmp_ne (tgt := 70) hx hb dX0_statusAheadOfOutcome_50 (by decide) (fun c_14 => ?_) (fun c_14 => ?_)
        · refine lv_iload_n hx hb dX0_statusAheadOfOutcome_70 rfl (lv_at hl 2 rfl) ?_
          refine lv_if_ne (tgt := 93) hx hb dX0_statusAheadOfOutcome_71 (by decide) (fun c_15 => ?_) (fun c_15 => ?_)
          · refine lv_iconst (v := (-1)) hx hb dX0_statusAheadOfOutcome_93 (by decide) ?_
            have hP9 := hP.sub (ws' := [(h0, .inr (0, [.int a0, .int a1, .int a2, .int a3, .int a4, .int a5, .int a6, .int a7, .int a8, .int a9, .int a10, .int a11]))]) [0] rfl
            have hD9 := hD.sub (ws' := [(h0, .inr (0, [.int a0, .int a1, .int a2, .int a3, .int a4, .int a5, .int a6, .int a7, .int a8, .int a9, .int a10, .int a11]))]) [0] (by decide) rfl
            have hK9 := hK.sub (tys' := []) [] rfl
            have ef : fx_X0_statusAheadOfOutcome a0 a1 a2 a4 a6 p0 = (-1) := by unfold fx_X0_statusAheadOfOutcome; rw [if_neg c_1, if_pos c_2, if_neg c_9, if_neg c_10, if_neg c_11, if_pos c_13, if_neg c_14, if_neg c_15]
            exact W.iret (v := (-1)) hx hb hr (fun t ht hW => ⟨⟨(-1), [(h0, .inr (0, [.int a0, .int a1, .int a2, .int a3, .int a4, .int a5, .int a6, .int a7, .int a8, .int a9, .int a10, .int a11]))], rfl, ⟨ef.symm, rfl⟩, by rw [ht]; exact hP9, va_K.moved hW.alike hK9, hD9⟩, hS.F ht⟩) hS.2.2 dX0_statusAheadOfOutcome_94
          refine lv_aload_n hx hb dX0_statusAheadOfOutcome_74 rfl (lv_at hl 1 rfl) ?_
          refine va_get (D := (dC, dI)) (ci := 0) (v := .int a4) (C := RX0) (T := TX0) (N := 12) hx hb hts (fun _ h => List.mem_cons_of_mem _ (List.mem_append_right _ h)) hown hK hP 0 rfl rfl 4 (by decide) (hts (.fieldLink RX0 20 "FileStatus" "place" "I") (by decide +kernel)) (fun _ h9 => h9) rfl dX0_statusAheadOfOutcome_75 ?_
          refine lv_iconst (v := 2) hx hb dX0_statusAheadOfOutcome_78 (by decide) ?_
          refine lv_icmp_eq (tgt := 90) hx hb dX0_statusAheadOfOutcome_79 (by decide) (fun c_16 => ?_) (fun c_16 => ?_)
          · refine lv_bipush (v := 46) hx hb dX0_statusAheadOfOutcome_90 (by decide) ?_
            have hP9 := hP.sub (ws' := [(h0, .inr (0, [.int a0, .int a1, .int a2, .int a3, .int a4, .int a5, .int a6, .int a7, .int a8, .int a9, .int a10, .int a11]))]) [0] rfl
            have hD9 := hD.sub (ws' := [(h0, .inr (0, [.int a0, .int a1, .int a2, .int a3, .int a4, .int a5, .int a6, .int a7, .int a8, .int a9, .int a10, .int a11]))]) [0] (by decide) rfl
            have hK9 := hK.sub (tys' := []) [] rfl
            have ef : fx_X0_statusAheadOfOutcome a0 a1 a2 a4 a6 p0 = 46 := by unfold fx_X0_statusAheadOfOutcome; rw [if_neg c_1, if_pos c_2, if_neg c_9, if_neg c_10, if_neg c_11, if_pos c_13, if_neg c_14, if_pos c_15, if_pos c_16]
            exact W.iret (v := 46) hx hb hr (fun t ht hW => ⟨⟨46, [(h0, .inr (0, [.int a0, .int a1, .int a2, .int a3, .int a4, .int a5, .int a6, .int a7, .int a8, .int a9, .int a10, .int a11]))], rfl, ⟨ef.symm, rfl⟩, by rw [ht]; exact hP9, va_K.moved hW.alike hK9, hD9⟩, hS.F ht⟩) hS.2.2 dX0_statusAheadOfOutcome_92
          refine lv_aload_n hx hb dX0_statusAheadOfOutcome_82 rfl (lv_at hl 1 rfl) ?_
          refine va_get (D := (dC, dI)) (ci := 0) (v := .int a4) (C := RX0) (T := TX0) (N := 12) hx hb hts (fun _ h => List.mem_cons_of_mem _ (List.mem_append_right _ h)) hown hK hP 0 rfl rfl 4 (by decide) (hts (.fieldLink RX0 20 "FileStatus" "place" "I") (by decide +kernel)) (fun _ h9 => h9) rfl dX0_statusAheadOfOutcome_83 ?_
          refine lv_iconst (v := 3) hx hb dX0_statusAheadOfOutcome_86 (by decide) ?_
          refine lv_icmp_ne (tgt := 93) hx hb dX0_statusAheadOfOutcome_87 (by decide) (fun c_17 => ?_) (fun c_17 => ?_)
          · refine lv_iconst (v := (-1)) hx hb dX0_statusAheadOfOutcome_93 (by decide) ?_
            have hP9 := hP.sub (ws' := [(h0, .inr (0, [.int a0, .int a1, .int a2, .int a3, .int a4, .int a5, .int a6, .int a7, .int a8, .int a9, .int a10, .int a11]))]) [0] rfl
            have hD9 := hD.sub (ws' := [(h0, .inr (0, [.int a0, .int a1, .int a2, .int a3, .int a4, .int a5, .int a6, .int a7, .int a8, .int a9, .int a10, .int a11]))]) [0] (by decide) rfl
            have hK9 := hK.sub (tys' := []) [] rfl
            have ef : fx_X0_statusAheadOfOutcome a0 a1 a2 a4 a6 p0 = (-1) := by unfold fx_X0_statusAheadOfOutcome; rw [if_neg c_1, if_pos c_2, if_neg c_9, if_neg c_10, if_neg c_11, if_pos c_13, if_neg c_14, if_pos c_15, if_neg c_16, if_neg c_17]
            exact W.iret (v := (-1)) hx hb hr (fun t ht hW => ⟨⟨(-1), [(h0, .inr (0, [.int a0, .int a1, .int a2, .int a3, .int a4, .int a5, .int a6, .int a7, .int a8, .int a9, .int a10, .int a11]))], rfl, ⟨ef.symm, rfl⟩, by rw [ht]; exact hP9, va_K.moved hW.alike hK9, hD9⟩, hS.F ht⟩) hS.2.2 dX0_statusAheadOfOutcome_94
          refine lv_bipush (v := 46) hx hb dX0_statusAheadOfOutcome_90 (by decide) ?_
          have hP9 := hP.sub (ws' := [(h0, .inr (0, [.int a0, .int a1, .int a2, .int a3, .int a4, .int a5, .int a6, .int a7, .int a8, .int a9, .int a10, .int a11]))]) [0] rfl
          have hD9 := hD.sub (ws' := [(h0, .inr (0, [.int a0, .int a1, .int a2, .int a3, .int a4, .int a5, .int a6, .int a7, .int a8, .int a9, .int a10, .int a11]))]) [0] (by decide) rfl
          have hK9 := hK.sub (tys' := []) [] rfl
          have ef : fx_X0_statusAheadOfOutcome a0 a1 a2 a4 a6 p0 = 46 := by unfold fx_X0_statusAheadOfOutcome; rw [if_neg c_1, if_pos c_2, if_neg c_9, if_neg c_10, if_neg c_11, if_pos c_13, if_neg c_14, if_pos c_15, if_neg c_16, if_pos c_17]
          exact W.iret (v := 46) hx hb hr (fun t ht hW => ⟨⟨46, [(h0, .inr (0, [.int a0, .int a1, .int a2, .int a3, .int a4, .int a5, .int a6, .int a7, .int a8, .int a9, .int a10, .int a11]))], rfl, ⟨ef.symm, rfl⟩, by rw [ht]; exact hP9, va_K.moved hW.alike hK9, hD9⟩, hS.F ht⟩) hS.2.2 dX0_statusAheadOfOutcome_92
        refine lv_aload_n hx hb dX0_statusAheadOfOutcome_53 rfl (lv_at hl 1 rfl) ?_
        refine va_get (D := (dC, dI)) (ci := 0) (v := .int a0) (C := RX0) (T := TX0) (N := 12) hx hb hts (fun _ h => List.mem_cons_of_mem _ (List.mem_append_right _ h)) hown hK hP 0 rfl rfl 0 (by decide) (hts (.fieldLink RX0 53 "FileStatus" "organisation" "I") (by decide +kernel)) (fun _ h9 => h9) rfl dX0_statusAheadOfOutcome_54 ?_
        refine lv_if_ne (tgt := 70) hx hb dX0_statusAheadOfOutcome_57 (by decide) (fun c9 => absurd c_2 c9) (fun c9 => ?_)
        refine lv_aload_n hx hb dX0_statusAheadOfOutcome_60 rfl (lv_at hl 1 rfl) ?_
        refine va_get (D := (dC, dI)) (ci := 0) (v := .int a6) (C := RX0) (T := TX0) (N := 12) hx hb hts (fun _ h => List.mem_cons_of_mem _ (List.mem_append_right _ h)) hown hK hP 0 rfl rfl 6 (by decide) (hts (.fieldLink RX0 26 "FileStatus" "permit" "Z") (by decide +kernel)) (fun _ h9 => h9) rfl dX0_statusAheadOfOutcome_61 ?_
        refine lv_if_ne (tgt := 70) hx hb dX0_statusAheadOfOutcome_64 (by decide) (fun c_18 => ?_) (fun c_18 => ?_)
        · refine lv_iload_n hx hb dX0_statusAheadOfOutcome_70 rfl (lv_at hl 2 rfl) ?_
          refine lv_if_ne (tgt := 93) hx hb dX0_statusAheadOfOutcome_71 (by decide) (fun c9 => ?_) (fun c9 => absurd (c_14.symm.trans c9) (by decide))
          refine lv_iconst (v := (-1)) hx hb dX0_statusAheadOfOutcome_93 (by decide) ?_
          have hP9 := hP.sub (ws' := [(h0, .inr (0, [.int a0, .int a1, .int a2, .int a3, .int a4, .int a5, .int a6, .int a7, .int a8, .int a9, .int a10, .int a11]))]) [0] rfl
          have hD9 := hD.sub (ws' := [(h0, .inr (0, [.int a0, .int a1, .int a2, .int a3, .int a4, .int a5, .int a6, .int a7, .int a8, .int a9, .int a10, .int a11]))]) [0] (by decide) rfl
          have hK9 := hK.sub (tys' := []) [] rfl
          have ef : fx_X0_statusAheadOfOutcome a0 a1 a2 a4 a6 p0 = (-1) := by unfold fx_X0_statusAheadOfOutcome; rw [if_neg c_1, if_pos c_2, if_neg c_9, if_neg c_10, if_neg c_11, if_pos c_13, if_pos c_14, if_neg c_18]
          exact W.iret (v := (-1)) hx hb hr (fun t ht hW => ⟨⟨(-1), [(h0, .inr (0, [.int a0, .int a1, .int a2, .int a3, .int a4, .int a5, .int a6, .int a7, .int a8, .int a9, .int a10, .int a11]))], rfl, ⟨ef.symm, rfl⟩, by rw [ht]; exact hP9, va_K.moved hW.alike hK9, hD9⟩, hS.F ht⟩) hS.2.2 dX0_statusAheadOfOutcome_94
        refine lv_bipush (v := 43) hx hb dX0_statusAheadOfOutcome_67 (by decide) ?_
        have hP9 := hP.sub (ws' := [(h0, .inr (0, [.int a0, .int a1, .int a2, .int a3, .int a4, .int a5, .int a6, .int a7, .int a8, .int a9, .int a10, .int a11]))]) [0] rfl
        have hD9 := hD.sub (ws' := [(h0, .inr (0, [.int a0, .int a1, .int a2, .int a3, .int a4, .int a5, .int a6, .int a7, .int a8, .int a9, .int a10, .int a11]))]) [0] (by decide) rfl
        have hK9 := hK.sub (tys' := []) [] rfl
        have ef : fx_X0_statusAheadOfOutcome a0 a1 a2 a4 a6 p0 = 43 := by unfold fx_X0_statusAheadOfOutcome; rw [if_neg c_1, if_pos c_2, if_neg c_9, if_neg c_10, if_neg c_11, if_pos c_13, if_pos c_14, if_pos c_18]
        exact W.iret (v := 43) hx hb hr (fun t ht hW => ⟨⟨43, [(h0, .inr (0, [.int a0, .int a1, .int a2, .int a3, .int a4, .int a5, .int a6, .int a7, .int a8, .int a9, .int a10, .int a11]))], rfl, ⟨ef.symm, rfl⟩, by rw [ht]; exact hP9, va_K.moved hW.alike hK9, hD9⟩, hS.F ht⟩) hS.2.2 dX0_statusAheadOfOutcome_69
      refine lv_iload_n hx hb dX0_statusAheadOfOutcome_46 rfl (lv_at hl 0 rfl) ?_
      have hP9 := hP.sub (ws' := [(h0, .inr (0, [.int a0, .int a1, .int a2, .int a3, .int a4, .int a5, .int a6, .int a7, .int a8, .int a9, .int a10, .int a11]))]) [0] rfl
      have hD9 := hD.sub (ws' := [(h0, .inr (0, [.int a0, .int a1, .int a2, .int a3, .int a4, .int a5, .int a6, .int a7, .int a8, .int a9, .int a10, .int a11]))]) [0] (by decide) rfl
      have hK9 := hK.sub (tys' := []) [] rfl
      have ef : fx_X0_statusAheadOfOutcome a0 a1 a2 a4 a6 p0 = fx_X0_statusOfWrongMode a0 a1 p0 := by unfold fx_X0_statusAheadOfOutcome; rw [if_neg c_1, if_pos c_2, if_neg c_9, if_neg c_10, if_neg c_11, if_neg c_13]
      exact W.iret (v := fx_X0_statusOfWrongMode a0 a1 p0) hx hb hr (fun t ht hW => ⟨⟨(fx_X0_statusOfWrongMode a0 a1 p0), [(h0, .inr (0, [.int a0, .int a1, .int a2, .int a3, .int a4, .int a5, .int a6, .int a7, .int a8, .int a9, .int a10, .int a11]))], rfl, ⟨ef.symm, rfl⟩, by rw [ht]; exact hP9, va_K.moved hW.alike hK9, hD9⟩, hS.F ht⟩) hS.2.2 dX0_statusAheadOfOutcome_47
    refine lv_bipush (v := 90) hx hb dX0_statusAheadOfOutcome_32 (by decide) ?_
    have hP9 := hP.sub (ws' := [(h0, .inr (0, [.int a0, .int a1, .int a2, .int a3, .int a4, .int a5, .int a6, .int a7, .int a8, .int a9, .int a10, .int a11]))]) [0] rfl
    have hD9 := hD.sub (ws' := [(h0, .inr (0, [.int a0, .int a1, .int a2, .int a3, .int a4, .int a5, .int a6, .int a7, .int a8, .int a9, .int a10, .int a11]))]) [0] (by decide) rfl
    have hK9 := hK.sub (tys' := []) [] rfl
    have ef : fx_X0_statusAheadOfOutcome a0 a1 a2 a4 a6 p0 = 90 := by unfold fx_X0_statusAheadOfOutcome; rw [if_neg c_1, if_pos c_2, if_neg c_9, if_neg c_10, if_pos c_11]
    exact W.iret (v := 90) hx hb hr (fun t ht hW => ⟨⟨90, [(h0, .inr (0, [.int a0, .int a1, .int a2, .int a3, .int a4, .int a5, .int a6, .int a7, .int a8, .int a9, .int a10, .int a11]))], rfl, ⟨ef.symm, rfl⟩, by rw [ht]; exact hP9, va_K.moved hW.alike hK9, hD9⟩, hS.F ht⟩) hS.2.2 dX0_statusAheadOfOutcome_34
  refine lv_bipush (v := 42) hx hb dX0_statusAheadOfOutcome_7 (by decide) ?_
  have hP9 := hP.sub (ws' := [(h0, .inr (0, [.int a0, .int a1, .int a2, .int a3, .int a4, .int a5, .int a6, .int a7, .int a8, .int a9, .int a10, .int a11]))]) [0] rfl
  have hD9 := hD.sub (ws' := [(h0, .inr (0, [.int a0, .int a1, .int a2, .int a3, .int a4, .int a5, .int a6, .int a7, .int a8, .int a9, .int a10, .int a11]))]) [0] (by decide) rfl
  have hK9 := hK.sub (tys' := []) [] rfl
  have ef : fx_X0_statusAheadOfOutcome a0 a1 a2 a4 a6 p0 = 42 := by unfold fx_X0_statusAheadOfOutcome; rw [if_pos c_1]
  exact W.iret (v := 42) hx hb hr (fun t ht hW => ⟨⟨42, [(h0, .inr (0, [.int a0, .int a1, .int a2, .int a3, .int a4, .int a5, .int a6, .int a7, .int a8, .int a9, .int a10, .int a11]))], rfl, ⟨ef.symm, rfl⟩, by rw [ht]; exact hP9, va_K.moved hW.alike hK9, hD9⟩, hS.F ht⟩) hS.2.2 dX0_statusAheadOfOutcome_9
set_option maxHeartbeats 4000000 in
set_option maxRecDepth 100000 in
theorem ct_X0_statusByOutcome (l : Launch) (dC : Nat → ClassId) (dI : Nat → Nat → Nat) (h0 : Nat) (sz : Nat) (a0 a1 a2 a3 a4 a5 a6 a7 a8 a9 a10 a11 p0 p1 : Int32) : Met l yX0_statusByOutcome wsX0_statusByOutcome ({ frames := 2, cells := 0, slots := 0, locals := 41 }) (va_Pc [.ref h0, .int p0, .int p1] (fun U => U.heap.size = sz ∧ va_P (dC, dI) vwCl [(h0, .inr (0, [.int a0, .int a1, .int a2, .int a3, .int a4, .int a5, .int a6, .int a7, .int a8, .int a9, .int a10, .int a11]))] U.heap ∧ va_K (dC, dI) vwCl [] U ∧ va_D (fun _ => True) [(h0, .inr (0, [.int a0, .int a1, .int a2, .int a3, .int a4, .int a5, .int a6, .int a7, .int a8, .int a9, .int a10, .int a11]))])) (va_Qi (fun (r : Int32) (u : va_W) => r = fx_X0_statusByOutcome a0 p0 p1 ∧ u = [(h0, .inr (0, [.int a0, .int a1, .int a2, .int a3, .int a4, .int a5, .int a6, .int a7, .int a8, .int a9, .int a10, .int a11]))]) (at_W dC dI [] (va_A [(h0, .inr (0, [.int a0, .int a1, .int a2, .int a3, .int a4, .int a5, .int a6, .int a7, .int a8, .int a9, .int a10, .int a11]))] sz)) (va_A [(h0, .inr (0, [.int a0, .int a1, .int a2, .int a3, .int a4, .int a5, .int a6, .int a7, .int a8, .int a9, .int a10, .int a11]))] sz)) 0 0 (va_A [(h0, .inr (0, [.int a0, .int a1, .int a2, .int a3, .int a4, .int a5, .int a6, .int a7, .int a8, .int a9, .int a10, .int a11]))] sz) := by
  refine Met.ofW (cc := cX0_statusByOutcome) (maxL := 3) (ret := (some .int)) (by decide) rfl ?_
  intro p e s m args below meth c s₁ B hml hv
  obtain ⟨rfl, hsz, hP, hK, hD0⟩ := hv
  have hx := B.exec
  have hb := B.bytes
  have hr := B.returns
  have hts := atoms_spec (ws := wsX0_statusByOutcome) B.pre
  have hown : s.vm.findClass RX0 = some m.cls := findClass_of_methodNamed B.named
  have hlocks := B.notSynchronized
  subst hsz
  have hD := hD0.self (sz := s.heap.size)
  generalize hAe : va_A [(h0, .inr (0, [.int a0, .int a1, .int a2, .int a3, .int a4, .int a5, .int a6, .int a7, .int a8, .int a9, .int a10, .int a11]))] s.heap.size = A at hD ⊢
  have hA : ∀ q : Nat, s.heap.size ≤ q → A q := fun q h => by rw [← hAe]; exact Or.inr h
  have hS : va_S A s.heap s.heap [] := va_S.rf
  have hP : va_P (dC, dI) vwCl [(h0, .inr (0, [.int a0, .int a1, .int a2, .int a3, .int a4, .int a5, .int a6, .int a7, .int a8, .int a9, .int a10, .int a11]))] s.heap := hP
  have hl := lv_entry ([.ref h0, .int p0, .int p1]) (n := 3) (Nat.le_of_ble_eq_true rfl)
  rw [lg_entry_eq]
  generalize (lg_sl ([.ref h0, .int p0, .int p1]) ++ List.replicate (3 - (lg_sl ([.ref h0, .int p0, .int p1])).length) Slot.unset).toArray = ls at hl ⊢
  have hl : lv_has ls 3 [(0, .ref h0), (1, .int p0), (2, .int p1)] := hl
  refine lv_iload_n hx hb dX0_statusByOutcome_0 rfl (lv_at hl 2 rfl) ?_
  by_cases c_1 : p1 = 0
  · refine lv_tableIn (off := 51) (tgt := 52) hx hb dX0_statusByOutcome_1 (by rw [c_1]; decide) (by rw [c_1]; decide) (by rw [c_1]; rfl) (by decide) ?_
    refine lv_iconst (v := 0) hx hb dX0_statusByOutcome_52 (by decide) ?_
    have hP9 := hP.sub (ws' := [(h0, .inr (0, [.int a0, .int a1, .int a2, .int a3, .int a4, .int a5, .int a6, .int a7, .int a8, .int a9, .int a10, .int a11]))]) [0] rfl
    have hD9 := hD.sub (ws' := [(h0, .inr (0, [.int a0, .int a1, .int a2, .int a3, .int a4, .int a5, .int a6, .int a7, .int a8, .int a9, .int a10, .int a11]))]) [0] (by decide) rfl
    have hK9 := hK.sub (tys' := []) [] rfl
    have ef : fx_X0_statusByOutcome a0 p0 p1 = 0 := by unfold fx_X0_statusByOutcome; rw [if_pos c_1]
    exact W.iret (v := 0) hx hb hr (fun t ht hW => ⟨⟨0, [(h0, .inr (0, [.int a0, .int a1, .int a2, .int a3, .int a4, .int a5, .int a6, .int a7, .int a8, .int a9, .int a10, .int a11]))], rfl, ⟨ef.symm, rfl⟩, by rw [ht]; exact hP9, va_K.moved hW.alike hK9, hD9⟩, hS.F ht⟩) hS.2.2 dX0_statusByOutcome_53
  by_cases c_2 : p1 = 1
  · refine lv_tableIn (off := 53) (tgt := 54) hx hb dX0_statusByOutcome_1 (by rw [c_2]; decide) (by rw [c_2]; decide) (by rw [c_2]; rfl) (by decide) ?_
    refine lv_aload_n hx hb dX0_statusByOutcome_54 rfl (lv_at hl 0 rfl) ?_
    refine lv_iload_n hx hb dX0_statusByOutcome_55 rfl (lv_at hl 1 rfl) ?_
    have hPc := hP.sub (ws' := [(h0, .inr (0, [.int a0, .int a1, .int a2, .int a3, .int a4, .int a5, .int a6, .int a7, .int a8, .int a9, .int a10, .int a11]))]) [0] rfl
    have hDc := hD.sub (ws' := [(h0, .inr (0, [.int a0, .int a1, .int a2, .int a3, .int a4, .int a5, .int a6, .int a7, .int a8, .int a9, .int a10, .int a11]))]) [0] (by decide) rfl
    have hKc := hK.sub (tys' := []) [] rfl
    have hFc := va_free (wc := [(h0, .inr (0, [.int a0, .int a1, .int a2, .int a3, .int a4, .int a5, .int a6, .int a7, .int a8, .int a9, .int a10, .int a11]))]) hD hS hA [0] rfl
    refine va_calli (va_runV (As := [.int p0]) (rest := []) ⟨hx, hb, hml, hown, hts⟩ (ct_X0_statusOfNoRecord l dC dI h0 s.heap.size a0 a1 a2 a3 a4 a5 a6 a7 a8 a9 a10 a11 p0) (cwV 1 hts gX0_statusByOutcome_X0_statusOfNoRecord rfl rfl rfl (by decide +kernel) ⟨Nat.le_of_ble_eq_true rfl, Nat.le_of_ble_eq_true rfl⟩) ⟨fun a U g mk q => by obtain ⟨q0, q1, qP, qK, qD⟩ := q; exact ⟨q0, q1, qP, va_K.moved (u := U) (U := U.calling g mk a) (Vm.Alike.refl U.vm) qK, qD⟩, va_recv hKc hPc (ci := 0) (q0 := 0) rfl rfl, fun U hU hW => ⟨rfl, by rw [hU], by rw [hU]; exact hPc, va_K.moved hW.alike hKc, hDc.weaken (fun _ _ _ _ => trivial)⟩⟩ rfl rfl hl.1 rfl (lv_room (Nat.le_of_ble_eq_true rfl)) dX0_statusByOutcome_56 ⟨(Nat.zero_le _), (Nat.zero_le _)⟩) hS (fun q _ h => hFc q h) hFc (fun r_3 u t H1 locs ht hvm hw hB hz1 hk1 hS => ?_)
    obtain ⟨er, hu⟩ := hw
    subst hu
    subst er
    obtain ⟨hP1, -, hD1⟩ := hB
    rw [ht] at hP1
    obtain ⟨hP, hD⟩ := va_join (wr := []) (w1 := [(h0, .inr (0, [.int a0, .int a1, .int a2, .int a3, .int a4, .int a5, .int a6, .int a7, .int a8, .int a9, .int a10, .int a11]))]) hP hD [0] [] rfl rfl (by decide) (by decide) hk1 hFc hP1 hD1
    generalize H1 = H at hP hS ⊢
    have hP : va_P (dC, dI) vwCl [(h0, .inr (0, [.int a0, .int a1, .int a2, .int a3, .int a4, .int a5, .int a6, .int a7, .int a8, .int a9, .int a10, .int a11]))] H := hP
    have hD : va_D A [(h0, .inr (0, [.int a0, .int a1, .int a2, .int a3, .int a4, .int a5, .int a6, .int a7, .int a8, .int a9, .int a10, .int a11]))] := hD
    have hP9 := hP.sub (ws' := [(h0, .inr (0, [.int a0, .int a1, .int a2, .int a3, .int a4, .int a5, .int a6, .int a7, .int a8, .int a9, .int a10, .int a11]))]) [0] rfl
    have hD9 := hD.sub (ws' := [(h0, .inr (0, [.int a0, .int a1, .int a2, .int a3, .int a4, .int a5, .int a6, .int a7, .int a8, .int a9, .int a10, .int a11]))]) [0] (by decide) rfl
    have hK9 := hK.sub (tys' := []) [] rfl
    have ef : fx_X0_statusByOutcome a0 p0 p1 = fx_X0_statusOfNoRecord a0 p0 := by unfold fx_X0_statusByOutcome; rw [if_neg c_1, if_pos c_2]
    exact W.iret (v := fx_X0_statusOfNoRecord a0 p0) hx hb hr (fun t ht hW => ⟨⟨(fx_X0_statusOfNoRecord a0 p0), [(h0, .inr (0, [.int a0, .int a1, .int a2, .int a3, .int a4, .int a5, .int a6, .int a7, .int a8, .int a9, .int a10, .int a11]))], rfl, ⟨ef.symm, rfl⟩, by rw [ht]; exact hP9, va_K.moved hW.alike hK9, hD9⟩, hS.F ht⟩) hS.2.2 dX0_statusByOutcome_59
  by_cases c_4 : p1 = 2
  · refine lv_tableIn (off := 59) (tgt := 60) hx hb dX0_statusByOutcome_1 (by rw [c_4]; decide) (by rw [c_4]; decide) (by rw [c_4]; rfl) (by decide) ?_
    refine lv_aload_n hx hb dX0_statusByOutcome_60 rfl (lv_at hl 0 rfl) ?_
    refine va_get (D := (dC, dI)) (ci := 0) (v := .int a0) (C := RX0) (T := TX0) (N := 12) hx hb hts (fun _ h => List.mem_cons_of_mem _ (List.mem_append_right _ h)) hown hK hP 0 rfl rfl 0 (by decide) (hts (.fieldLink RX0 53 "FileStatus" "organisation" "I") (by decide +kernel)) (fun _ h9 => h9) rfl dX0_statusByOutcome_61 ?_
    refine lv_iconst (v := 2) hx hb dX0_statusByOutcome_64 (by decide) ?_
    refine lv_icmp_ne (tgt := 77) hx hb dX0_statusByOutcome_65 (by decide) (fun c_5 => ?_) (fun c_5 => ?_)
    · refine lv_bipush (v := 90) hx hb dX0_statusByOutcome_77 (by decide) ?_
      have hP9 := hP.sub (ws' := [(h0, .inr (0, [.int a0, .int a1, .int a2, .int a3, .int a4, .int a5, .int a6, .int a7, .int a8, .int a9, .int a10, .int a11]))]) [0] rfl
      have hD9 := hD.sub (ws' := [(h0, .inr (0, [.int a0, .int a1, .int a2, .int a3, .int a4, .int a5, .int a6, .int a7, .int a8, .int a9, .int a10, .int a11]))]) [0] (by decide) rfl
      have hK9 := hK.sub (tys' := []) [] rfl
      have ef : fx_X0_statusByOutcome a0 p0 p1 = 90 := by unfold fx_X0_statusByOutcome; rw [if_neg c_1, if_neg c_2, if_pos c_4, if_neg c_5]
      exact W.iret (v := 90) hx hb hr (fun t ht hW => ⟨⟨90, [(h0, .inr (0, [.int a0, .int a1, .int a2, .int a3, .int a4, .int a5, .int a6, .int a7, .int a8, .int a9, .int a10, .int a11]))], rfl, ⟨ef.symm, rfl⟩, by rw [ht]; exact hP9, va_K.moved hW.alike hK9, hD9⟩, hS.F ht⟩) hS.2.2 dX0_statusByOutcome_79
    refine lv_iload_n hx hb dX0_statusByOutcome_68 rfl (lv_at hl 1 rfl) ?_
    refine lv_iconst (v := 3) hx hb dX0_statusByOutcome_69 (by decide) ?_
    refine lv_icmp_gt (tgt := 77) hx hb dX0_statusByOutcome_70 (by decide) (fun c_6 => ?_) (fun c_6 => ?_)
    · refine lv_bipush (v := 90) hx hb dX0_statusByOutcome_77 (by decide) ?_
      have hP9 := hP.sub (ws' := [(h0, .inr (0, [.int a0, .int a1, .int a2, .int a3, .int a4, .int a5, .int a6, .int a7, .int a8, .int a9, .int a10, .int a11]))]) [0] rfl
      have hD9 := hD.sub (ws' := [(h0, .inr (0, [.int a0, .int a1, .int a2, .int a3, .int a4, .int a5, .int a6, .int a7, .int a8, .int a9, .int a10, .int a11]))]) [0] (by decide) rfl
      have hK9 := hK.sub (tys' := []) [] rfl
      have ef : fx_X0_statusByOutcome a0 p0 p1 = 90 := by unfold fx_X0_statusByOutcome; rw [if_neg c_1, if_neg c_2, if_pos c_4, if_pos c_5, if_pos c_6]
      exact W.iret (v := 90) hx hb hr (fun t ht hW => ⟨⟨90, [(h0, .inr (0, [.int a0, .int a1, .int a2, .int a3, .int a4, .int a5, .int a6, .int a7, .int a8, .int a9, .int a10, .int a11]))], rfl, ⟨ef.symm, rfl⟩, by rw [ht]; exact hP9, va_K.moved hW.alike hK9, hD9⟩, hS.F ht⟩) hS.2.2 dX0_statusByOutcome_79
    refine lv_iconst (v := 2) hx hb dX0_statusByOutcome_73 (by decide) ?_
    refine lv_goto (tgt := 79) hx hb dX0_statusByOutcome_74 (by decide) ?_
    have hP9 := hP.sub (ws' := [(h0, .inr (0, [.int a0, .int a1, .int a2, .int a3, .int a4, .int a5, .int a6, .int a7, .int a8, .int a9, .int a10, .int a11]))]) [0] rfl
    have hD9 := hD.sub (ws' := [(h0, .inr (0, [.int a0, .int a1, .int a2, .int a3, .int a4, .int a5, .int a6, .int a7, .int a8, .int a9, .int a10, .int a11]))]) [0] (by decide) rfl
    have hK9 := hK.sub (tys' := []) [] rfl
    have ef : fx_X0_statusByOutcome a0 p0 p1 = 2 := by unfold fx_X0_statusByOutcome; rw [if_neg c_1, if_neg c_2, if_pos c_4, if_pos c_5, if_neg c_6]
    exact W.iret (v := 2) hx hb hr (fun t ht hW => ⟨⟨2, [(h0, .inr (0, [.int a0, .int a1, .int a2, .int a3, .int a4, .int a5, .int a6, .int a7, .int a8, .int a9, .int a10, .int a11]))], rfl, ⟨ef.symm, rfl⟩, by rw [ht]; exact hP9, va_K.moved hW.alike hK9, hD9⟩, hS.F ht⟩) hS.2.2 dX0_statusByOutcome_79
  by_cases c_7 : p1 = 3
  · refine lv_tableIn (off := 79) (tgt := 80) hx hb dX0_statusByOutcome_1 (by rw [c_7]; decide) (by rw [c_7]; decide) (by rw [c_7]; rfl) (by decide) ?_
    refine lv_aload_n hx hb dX0_statusByOutcome_80 rfl (lv_at hl 0 rfl) ?_
    refine lv_iload_n hx hb dX0_statusByOutcome_81 rfl (lv_at hl 1 rfl) ?_
    have hPc := hP.sub (ws' := [(h0, .inr (0, [.int a0, .int a1, .int a2, .int a3, .int a4, .int a5, .int a6, .int a7, .int a8, .int a9, .int a10, .int a11]))]) [0] rfl
    have hDc := hD.sub (ws' := [(h0, .inr (0, [.int a0, .int a1, .int a2, .int a3, .int a4, .int a5, .int a6, .int a7, .int a8, .int a9, .int a10, .int a11]))]) [0] (by decide) rfl
    have hKc := hK.sub (tys' := []) [] rfl
    have hFc := va_free (wc := [(h0, .inr (0, [.int a0, .int a1, .int a2, .int a3, .int a4, .int a5, .int a6, .int a7, .int a8, .int a9, .int a10, .int a11]))]) hD hS hA [0] rfl
    refine va_calli (va_runV (As := [.int p0]) (rest := []) ⟨hx, hb, hml, hown, hts⟩ (ct_X0_statusOfBarredDouble l dC dI h0 s.heap.size a0 a1 a2 a3 a4 a5 a6 a7 a8 a9 a10 a11 p0) (cwV 1 hts gX0_statusByOutcome_X0_statusOfBarredDouble rfl rfl rfl (by decide +kernel) ⟨Nat.le_of_ble_eq_true rfl, Nat.le_of_ble_eq_true rfl⟩) ⟨fun a U g mk q => by obtain ⟨q0, q1, qP, qK, qD⟩ := q; exact ⟨q0, q1, qP, va_K.moved (u := U) (U := U.calling g mk a) (Vm.Alike.refl U.vm) qK, qD⟩, va_recv hKc hPc (ci := 0) (q0 := 0) rfl rfl, fun U hU hW => ⟨rfl, by rw [hU], by rw [hU]; exact hPc, va_K.moved hW.alike hKc, hDc.weaken (fun _ _ _ _ => trivial)⟩⟩ rfl rfl hl.1 rfl (lv_room (Nat.le_of_ble_eq_true rfl)) dX0_statusByOutcome_82 ⟨(Nat.zero_le _), (Nat.zero_le _)⟩) hS (fun q _ h => hFc q h) hFc (fun r_8 u t H1 locs ht hvm hw hB hz1 hk1 hS => ?_)
    obtain ⟨er, hu⟩ := hw
    subst hu
    subst er
    obtain ⟨hP1, -, hD1⟩ := hB
    rw [ht] at hP1
    obtain ⟨hP, hD⟩ := va_join (wr := []) (w1 := [(h0, .inr (0, [.int a0, .int a1, .int a2, .int a3, .int a4, .int a5, .int a6, .int a7, .int a8, .int a9, .int a10, .int a11]))]) hP hD [0] [] rfl rfl (by decide) (by decide) hk1 hFc hP1 hD1
    generalize H1 = H at hP hS ⊢
    have hP : va_P (dC, dI) vwCl [(h0, .inr (0, [.int a0, .int a1, .int a2, .int a3, .int a4, .int a5, .int a6, .int a7, .int a8, .int a9, .int a10, .int a11]))] H := hP
    have hD : va_D A [(h0, .inr (0, [.int a0, .int a1, .int a2, .int a3, .int a4, .int a5, .int a6, .int a7, .int a8, .int a9, .int a10, .int a11]))] := hD
    have hP9 := hP.sub (ws' := [(h0, .inr (0, [.int a0, .int a1, .int a2, .int a3, .int a4, .int a5, .int a6, .int a7, .int a8, .int a9, .int a10, .int a11]))]) [0] rfl
    have hD9 := hD.sub (ws' := [(h0, .inr (0, [.int a0, .int a1, .int a2, .int a3, .int a4, .int a5, .int a6, .int a7, .int a8, .int a9, .int a10, .int a11]))]) [0] (by decide) rfl
    have hK9 := hK.sub (tys' := []) [] rfl
    have ef : fx_X0_statusByOutcome a0 p0 p1 = fx_X0_statusOfBarredDouble a0 p0 := by unfold fx_X0_statusByOutcome; rw [if_neg c_1, if_neg c_2, if_neg c_4, if_pos c_7]
    exact W.iret (v := fx_X0_statusOfBarredDouble a0 p0) hx hb hr (fun t ht hW => ⟨⟨(fx_X0_statusOfBarredDouble a0 p0), [(h0, .inr (0, [.int a0, .int a1, .int a2, .int a3, .int a4, .int a5, .int a6, .int a7, .int a8, .int a9, .int a10, .int a11]))], rfl, ⟨ef.symm, rfl⟩, by rw [ht]; exact hP9, va_K.moved hW.alike hK9, hD9⟩, hS.F ht⟩) hS.2.2 dX0_statusByOutcome_85
  by_cases c_9 : p1 = 4
  · refine lv_tableIn (off := 85) (tgt := 86) hx hb dX0_statusByOutcome_1 (by rw [c_9]; decide) (by rw [c_9]; decide) (by rw [c_9]; rfl) (by decide) ?_
    refine lv_aload_n hx hb dX0_statusByOutcome_86 rfl (lv_at hl 0 rfl) ?_
    refine lv_iload_n hx hb dX0_statusByOutcome_87 rfl (lv_at hl 1 rfl) ?_
    have hPc := hP.sub (ws' := [(h0, .inr (0, [.int a0, .int a1, .int a2, .int a3, .int a4, .int a5, .int a6, .int a7, .int a8, .int a9, .int a10, .int a11]))]) [0] rfl
    have hDc := hD.sub (ws' := [(h0, .inr (0, [.int a0, .int a1, .int a2, .int a3, .int a4, .int a5, .int a6, .int a7, .int a8, .int a9, .int a10, .int a11]))]) [0] (by decide) rfl
    have hKc := hK.sub (tys' := []) [] rfl
    have hFc := va_free (wc := [(h0, .inr (0, [.int a0, .int a1, .int a2, .int a3, .int a4, .int a5, .int a6, .int a7, .int a8, .int a9, .int a10, .int a11]))]) hD hS hA [0] rfl
    refine va_calli (va_runV (As := [.int p0]) (rest := []) ⟨hx, hb, hml, hown, hts⟩ (ct_X0_statusOfNoRoom l dC dI h0 s.heap.size a0 a1 a2 a3 a4 a5 a6 a7 a8 a9 a10 a11 p0) (cwV 1 hts gX0_statusByOutcome_X0_statusOfNoRoom rfl rfl rfl (by decide +kernel) ⟨Nat.le_of_ble_eq_true rfl, Nat.le_of_ble_eq_true rfl⟩) ⟨fun a U g mk q => by obtain ⟨q0, q1, qP, qK, qD⟩ := q; exact ⟨q0, q1, qP, va_K.moved (u := U) (U := U.calling g mk a) (Vm.Alike.refl U.vm) qK, qD⟩, va_recv hKc hPc (ci := 0) (q0 := 0) rfl rfl, fun U hU hW => ⟨rfl, by rw [hU], by rw [hU]; exact hPc, va_K.moved hW.alike hKc, hDc.weaken (fun _ _ _ _ => trivial)⟩⟩ rfl rfl hl.1 rfl (lv_room (Nat.le_of_ble_eq_true rfl)) dX0_statusByOutcome_88 ⟨(Nat.zero_le _), (Nat.zero_le _)⟩) hS (fun q _ h => hFc q h) hFc (fun r_10 u t H1 locs ht hvm hw hB hz1 hk1 hS => ?_)
    obtain ⟨er, hu⟩ := hw
    subst hu
    subst er
    obtain ⟨hP1, -, hD1⟩ := hB
    rw [ht] at hP1
    obtain ⟨hP, hD⟩ := va_join (wr := []) (w1 := [(h0, .inr (0, [.int a0, .int a1, .int a2, .int a3, .int a4, .int a5, .int a6, .int a7, .int a8, .int a9, .int a10, .int a11]))]) hP hD [0] [] rfl rfl (by decide) (by decide) hk1 hFc hP1 hD1
    generalize H1 = H at hP hS ⊢
    have hP : va_P (dC, dI) vwCl [(h0, .inr (0, [.int a0, .int a1, .int a2, .int a3, .int a4, .int a5, .int a6, .int a7, .int a8, .int a9, .int a10, .int a11]))] H := hP
    have hD : va_D A [(h0, .inr (0, [.int a0, .int a1, .int a2, .int a3, .int a4, .int a5, .int a6, .int a7, .int a8, .int a9, .int a10, .int a11]))] := hD
    have hP9 := hP.sub (ws' := [(h0, .inr (0, [.int a0, .int a1, .int a2, .int a3, .int a4, .int a5, .int a6, .int a7, .int a8, .int a9, .int a10, .int a11]))]) [0] rfl
    have hD9 := hD.sub (ws' := [(h0, .inr (0, [.int a0, .int a1, .int a2, .int a3, .int a4, .int a5, .int a6, .int a7, .int a8, .int a9, .int a10, .int a11]))]) [0] (by decide) rfl
    have hK9 := hK.sub (tys' := []) [] rfl
    have ef : fx_X0_statusByOutcome a0 p0 p1 = fx_X0_statusOfNoRoom a0 p0 := by unfold fx_X0_statusByOutcome; rw [if_neg c_1, if_neg c_2, if_neg c_4, if_neg c_7, if_pos c_9]
    exact W.iret (v := fx_X0_statusOfNoRoom a0 p0) hx hb hr (fun t ht hW => ⟨⟨(fx_X0_statusOfNoRoom a0 p0), [(h0, .inr (0, [.int a0, .int a1, .int a2, .int a3, .int a4, .int a5, .int a6, .int a7, .int a8, .int a9, .int a10, .int a11]))], rfl, ⟨ef.symm, rfl⟩, by rw [ht]; exact hP9, va_K.moved hW.alike hK9, hD9⟩, hS.F ht⟩) hS.2.2 dX0_statusByOutcome_91
  by_cases c_11 : p1 = 5
  · refine lv_tableIn (off := 91) (tgt := 92) hx hb dX0_statusByOutcome_1 (by rw [c_11]; decide) (by rw [c_11]; decide) (by rw [c_11]; rfl) (by decide) ?_
    refine lv_bipush (v := 30) hx hb dX0_statusByOutcome_92 (by decide) ?_
    have hP9 := hP.sub (ws' := [(h0, .inr (0, [.int a0, .int a1, .int a2, .int a3, .int a4, .int a5, .int a6, .int a7, .int a8, .int a9, .int a10, .int a11]))]) [0] rfl
    have hD9 := hD.sub (ws' := [(h0, .inr (0, [.int a0, .int a1, .int a2, .int a3, .int a4, .int a5, .int a6, .int a7, .int a8, .int a9, .int a10, .int a11]))]) [0] (by decide) rfl
    have hK9 := hK.sub (tys' := []) [] rfl
    have ef : fx_X0_statusByOutcome a0 p0 p1 = 30 := by unfold fx_X0_statusByOutcome; rw [if_neg c_1, if_neg c_2, if_neg c_4, if_neg c_7, if_neg c_9, if_pos c_11]
    exact W.iret (v := 30) hx hb hr (fun t ht hW => ⟨⟨30, [(h0, .inr (0, [.int a0, .int a1, .int a2, .int a3, .int a4, .int a5, .int a6, .int a7, .int a8, .int a9, .int a10, .int a11]))], rfl, ⟨ef.symm, rfl⟩, by rw [ht]; exact hP9, va_K.moved hW.alike hK9, hD9⟩, hS.F ht⟩) hS.2.2 dX0_statusByOutcome_94
  by_cases c_12 : p1 = 6
  · refine lv_tableIn (off := 94) (tgt := 95) hx hb dX0_statusByOutcome_1 (by rw [c_12]; decide) (by rw [c_12]; decide) (by rw [c_12]; rfl) (by decide) ?_
    refine lv_iload_n hx hb dX0_statusByOutcome_95 rfl (lv_at hl 1 rfl) ?_
    refine lv_bipush (v := 6) hx hb dX0_statusByOutcome_96 (by decide) ?_
    refine lv_icmp_ne (tgt := 106) hx hb dX0_statusByOutcome_98 (by decide) (fun c_13 => ?_) (fun c_13 => ?_)
    · refine lv_bipush (v := 51) hx hb dX0_statusByOutcome_106 (by decide) ?_
      have hP9 := hP.sub (ws' := [(h0, .inr (0, [.int a0, .int a1, .int a2, .int a3, .int a4, .int a5, .int a6, .int a7, .int a8, .int a9, .int a10, .int a11]))]) [0] rfl
      have hD9 := hD.sub (ws' := [(h0, .inr (0, [.int a0, .int a1, .int a2, .int a3, .int a4, .int a5, .int a6, .int a7, .int a8, .int a9, .int a10, .int a11]))]) [0] (by decide) rfl
      have hK9 := hK.sub (tys' := []) [] rfl
      have ef : fx_X0_statusByOutcome a0 p0 p1 = 51 := by unfold fx_X0_statusByOutcome; rw [if_neg c_1, if_neg c_2, if_neg c_4, if_neg c_7, if_neg c_9, if_neg c_11, if_pos c_12, if_neg c_13]
      exact W.iret (v := 51) hx hb hr (fun t ht hW => ⟨⟨51, [(h0, .inr (0, [.int a0, .int a1, .int a2, .int a3, .int a4, .int a5, .int a6, .int a7, .int a8, .int a9, .int a10, .int a11]))], rfl, ⟨ef.symm, rfl⟩, by rw [ht]; exact hP9, va_K.moved hW.alike hK9, hD9⟩, hS.F ht⟩) hS.2.2 dX0_statusByOutcome_108
    refine lv_bipush (v := 90) hx hb dX0_statusByOutcome_101 (by decide) ?_
    refine lv_goto (tgt := 108) hx hb dX0_statusByOutcome_103 (by decide) ?_
    have hP9 := hP.sub (ws' := [(h0, .inr (0, [.int a0, .int a1, .int a2, .int a3, .int a4, .int a5, .int a6, .int a7, .int a8, .int a9, .int a10, .int a11]))]) [0] rfl
    have hD9 := hD.sub (ws' := [(h0, .inr (0, [.int a0, .int a1, .int a2, .int a3, .int a4, .int a5, .int a6, .int a7, .int a8, .int a9, .int a10, .int a11]))]) [0] (by decide) rfl
    have hK9 := hK.sub (tys' := []) [] rfl
    have ef : fx_X0_statusByOutcome a0 p0 p1 = 90 := by unfold fx_X0_statusByOutcome; rw [if_neg c_1, if_neg c_2, if_neg c_4, if_neg c_7, if_neg c_9, if_neg c_11, if_pos c_12, if_pos c_13]
    exact W.iret (v := 90) hx hb hr (fun t ht hW => ⟨⟨90, [(h0, .inr (0, [.int a0, .int a1, .int a2, .int a3, .int a4, .int a5, .int a6, .int a7, .int a8, .int a9, .int a10, .int a11]))], rfl, ⟨ef.symm, rfl⟩, by rw [ht]; exact hP9, va_K.moved hW.alike hK9, hD9⟩, hS.F ht⟩) hS.2.2 dX0_statusByOutcome_108
  by_cases c_14 : p1 = 7
  · refine lv_tableIn (off := 108) (tgt := 109) hx hb dX0_statusByOutcome_1 (by rw [c_14]; decide) (by rw [c_14]; decide) (by rw [c_14]; rfl) (by decide) ?_
    refine lv_aload_n hx hb dX0_statusByOutcome_109 rfl (lv_at hl 0 rfl) ?_
    refine lv_iload_n hx hb dX0_statusByOutcome_110 rfl (lv_at hl 1 rfl) ?_
    have hPc := hP.sub (ws' := [(h0, .inr (0, [.int a0, .int a1, .int a2, .int a3, .int a4, .int a5, .int a6, .int a7, .int a8, .int a9, .int a10, .int a11]))]) [0] rfl
    have hDc := hD.sub (ws' := [(h0, .inr (0, [.int a0, .int a1, .int a2, .int a3, .int a4, .int a5, .int a6, .int a7, .int a8, .int a9, .int a10, .int a11]))]) [0] (by decide) rfl
    have hKc := hK.sub (tys' := []) [] rfl
    have hFc := va_free (wc := [(h0, .inr (0, [.int a0, .int a1, .int a2, .int a3, .int a4, .int a5, .int a6, .int a7, .int a8, .int a9, .int a10, .int a11]))]) hD hS hA [0] rfl
    refine va_calli (va_runV (As := [.int p0]) (rest := []) ⟨hx, hb, hml, hown, hts⟩ (ct_X0_statusOfLength l dC dI h0 s.heap.size a0 a1 a2 a3 a4 a5 a6 a7 a8 a9 a10 a11 p0) (cwV 1 hts gX0_statusByOutcome_X0_statusOfLength rfl rfl rfl (by decide +kernel) ⟨Nat.le_of_ble_eq_true rfl, Nat.le_of_ble_eq_true rfl⟩) ⟨fun a U g mk q => by obtain ⟨q0, q1, qP, qK, qD⟩ := q; exact ⟨q0, q1, qP, va_K.moved (u := U) (U := U.calling g mk a) (Vm.Alike.refl U.vm) qK, qD⟩, va_recv hKc hPc (ci := 0) (q0 := 0) rfl rfl, fun U hU hW => ⟨rfl, by rw [hU], by rw [hU]; exact hPc, va_K.moved hW.alike hKc, hDc.weaken (fun _ _ _ _ => trivial)⟩⟩ rfl rfl hl.1 rfl (lv_room (Nat.le_of_ble_eq_true rfl)) dX0_statusByOutcome_111 ⟨(Nat.zero_le _), (Nat.zero_le _)⟩) hS (fun q _ h => hFc q h) hFc (fun r_15 u t H1 locs ht hvm hw hB hz1 hk1 hS => ?_)
    obtain ⟨er, hu⟩ := hw
    subst hu
    subst er
    obtain ⟨hP1, -, hD1⟩ := hB
    rw [ht] at hP1
    obtain ⟨hP, hD⟩ := va_join (wr := []) (w1 := [(h0, .inr (0, [.int a0, .int a1, .int a2, .int a3, .int a4, .int a5, .int a6, .int a7, .int a8, .int a9, .int a10, .int a11]))]) hP hD [0] [] rfl rfl (by decide) (by decide) hk1 hFc hP1 hD1
    generalize H1 = H at hP hS ⊢
    have hP : va_P (dC, dI) vwCl [(h0, .inr (0, [.int a0, .int a1, .int a2, .int a3, .int a4, .int a5, .int a6, .int a7, .int a8, .int a9, .int a10, .int a11]))] H := hP
    have hD : va_D A [(h0, .inr (0, [.int a0, .int a1, .int a2, .int a3, .int a4, .int a5, .int a6, .int a7, .int a8, .int a9, .int a10, .int a11]))] := hD
    have hP9 := hP.sub (ws' := [(h0, .inr (0, [.int a0, .int a1, .int a2, .int a3, .int a4, .int a5, .int a6, .int a7, .int a8, .int a9, .int a10, .int a11]))]) [0] rfl
    have hD9 := hD.sub (ws' := [(h0, .inr (0, [.int a0, .int a1, .int a2, .int a3, .int a4, .int a5, .int a6, .int a7, .int a8, .int a9, .int a10, .int a11]))]) [0] (by decide) rfl
    have hK9 := hK.sub (tys' := []) [] rfl
    have ef : fx_X0_statusByOutcome a0 p0 p1 = fx_X0_statusOfLength p0 := by unfold fx_X0_statusByOutcome; rw [if_neg c_1, if_neg c_2, if_neg c_4, if_neg c_7, if_neg c_9, if_neg c_11, if_neg c_12, if_pos c_14]
    exact W.iret (v := fx_X0_statusOfLength p0) hx hb hr (fun t ht hW => ⟨⟨(fx_X0_statusOfLength p0), [(h0, .inr (0, [.int a0, .int a1, .int a2, .int a3, .int a4, .int a5, .int a6, .int a7, .int a8, .int a9, .int a10, .int a11]))], rfl, ⟨ef.symm, rfl⟩, by rw [ht]; exact hP9, va_K.moved hW.alike hK9, hD9⟩, hS.F ht⟩) hS.2.2 dX0_statusByOutcome_114
  by_cases c_16 : p1 = 8
  · refine lv_tableIn (off := 114) (tgt := 115) hx hb dX0_statusByOutcome_1 (by rw [c_16]; decide) (by rw [c_16]; decide) (by rw [c_16]; rfl) (by decide) ?_
    refine lv_aload_n hx hb dX0_statusByOutcome_115 rfl (lv_at hl 0 rfl) ?_
    refine va_get (D := (dC, dI)) (ci := 0) (v := .int a0) (C := RX0) (T := TX0) (N := 12) hx hb hts (fun _ h => List.mem_cons_of_mem _ (List.mem_append_right _ h)) hown hK hP 0 rfl rfl 0 (by decide) (hts (.fieldLink RX0 53 "FileStatus" "organisation" "I") (by decide +kernel)) (fun _ h9 => h9) rfl dX0_statusByOutcome_116 ?_
    refine lv_iconst (v := 2) hx hb dX0_statusByOutcome_119 (by decide) ?_
    refine lv_icmp_ne (tgt := 135) hx hb dX0_statusByOutcome_120 (by decide) (fun c_17 => ?_) (fun c_17 => ?_)
    · refine lv_bipush (v := 90) hx hb dX0_statusByOutcome_135 (by decide) ?_
      have hP9 := hP.sub (ws' := [(h0, .inr (0, [.int a0, .int a1, .int a2, .int a3, .int a4, .int a5, .int a6, .int a7, .int a8, .int a9, .int a10, .int a11]))]) [0] rfl
      have hD9 := hD.sub (ws' := [(h0, .inr (0, [.int a0, .int a1, .int a2, .int a3, .int a4, .int a5, .int a6, .int a7, .int a8, .int a9, .int a10, .int a11]))]) [0] (by decide) rfl
      have hK9 := hK.sub (tys' := []) [] rfl
      have ef : fx_X0_statusByOutcome a0 p0 p1 = 90 := by unfold fx_X0_statusByOutcome; rw [if_neg c_1, if_neg c_2, if_neg c_4, if_neg c_7, if_neg c_9, if_neg c_11, if_neg c_12, if_neg c_14, if_pos c_16, if_neg c_17]
      exact W.iret (v := 90) hx hb hr (fun t ht hW => ⟨⟨90, [(h0, .inr (0, [.int a0, .int a1, .int a2, .int a3, .int a4, .int a5, .int a6, .int a7, .int a8, .int a9, .int a10, .int a11]))], rfl, ⟨ef.symm, rfl⟩, by rw [ht]; exact hP9, va_K.moved hW.alike hK9, hD9⟩, hS.F ht⟩) hS.2.2 dX0_statusByOutcome_137
    refine lv_iload_n hx hb dX0_statusByOutcome_123 rfl (lv_at hl 1 rfl) ?_
    have hPc := hP.sub (ws' := []) [] rfl
    have hDc := hD.sub (ws' := []) [] (by decide) rfl
    have hKc := hK.sub (tys' := []) [] rfl
    have hFc := va_free (wc := []) hD hS hA [] rfl
    refine va_calli (va_runS (As := [.int p0]) (rest := []) ⟨hx, hb, hml, hown, hts⟩ (ct_X0_isWriteOrRewrite l dC dI s.heap.size p0) (va_cwS 1 hts gX0_statusByOutcome_X0_isWriteOrRewrite rfl rfl rfl (by decide +kernel) ⟨Nat.le_of_ble_eq_true rfl, Nat.le_of_ble_eq_true rfl⟩) ⟨fun a U g mk q => by obtain ⟨q0, q1, qP, qK, qD⟩ := q; exact ⟨q0, q1, qP, va_K.moved (u := U) (U := U.calling g mk a) (Vm.Alike.refl U.vm) qK, qD⟩, fun U hU hW => ⟨rfl, by rw [hU], by rw [hU]; exact hPc, va_K.moved hW.alike hKc, hDc.weaken (fun _ _ _ _ => trivial)⟩⟩ rfl rfl hl.1 rfl (lv_room (Nat.le_of_ble_eq_true rfl)) dX0_statusByOutcome_124 ⟨(Nat.zero_le _), (Nat.zero_le _)⟩) hS (fun q _ h => hFc q h) hFc (fun r_18 u t H1 locs ht hvm hw hB hz1 hk1 hS => ?_)
    obtain ⟨er, hu⟩ := hw
    subst hu
    subst er
    obtain ⟨hP1, -, hD1⟩ := hB
    rw [ht] at hP1
    obtain ⟨hP, hD⟩ := va_join (wr := [(h0, .inr (0, [.int a0, .int a1, .int a2, .int a3, .int a4, .int a5, .int a6, .int a7, .int a8, .int a9, .int a10, .int a11]))]) (w1 := []) hP hD [] [0] rfl rfl (by decide) (by decide) hk1 hFc hP1 hD1
    generalize H1 = H at hP hS ⊢
    have hP : va_P (dC, dI) vwCl [(h0, .inr (0, [.int a0, .int a1, .int a2, .int a3, .int a4, .int a5, .int a6, .int a7, .int a8, .int a9, .int a10, .int a11]))] H := hP
    have hD : va_D A [(h0, .inr (0, [.int a0, .int a1, .int a2, .int a3, .int a4, .int a5, .int a6, .int a7, .int a8, .int a9, .int a10, .int a11]))] := hD
    refine lv_if_eq (tgt := 135) hx hb dX0_statusByOutcome_127 (by decide) (fun c_19 => ?_) (fun c_19 => ?_)
    · refine lv_bipush (v := 90) hx hb dX0_statusByOutcome_135 (by decide) ?_
      have hP9 := hP.sub (ws' := [(h0, .inr (0, [.int a0, .int a1, .int a2, .int a3, .int a4, .int a5, .int a6, .int a7, .int a8, .int a9, .int a10, .int a11]))]) [0] rfl
      have hD9 := hD.sub (ws' := [(h0, .inr (0, [.int a0, .int a1, .int a2, .int a3, .int a4, .int a5, .int a6, .int a7, .int a8, .int a9, .int a10, .int a11]))]) [0] (by decide) rfl
      have hK9 := hK.sub (tys' := []) [] rfl
      have ef : fx_X0_statusByOutcome a0 p0 p1 = 90 := by unfold fx_X0_statusByOutcome; rw [if_neg c_1, if_neg c_2, if_neg c_4, if_neg c_7, if_neg c_9, if_neg c_11, if_neg c_12, if_neg c_14, if_pos c_16, if_pos c_17, if_pos c_19]
      exact W.iret (v := 90) hx hb hr (fun t ht hW => ⟨⟨90, [(h0, .inr (0, [.int a0, .int a1, .int a2, .int a3, .int a4, .int a5, .int a6, .int a7, .int a8, .int a9, .int a10, .int a11]))], rfl, ⟨ef.symm, rfl⟩, by rw [ht]; exact hP9, va_K.moved hW.alike hK9, hD9⟩, hS.F ht⟩) hS.2.2 dX0_statusByOutcome_137
    refine lv_bipush (v := 21) hx hb dX0_statusByOutcome_130 (by decide) ?_
    refine lv_goto (tgt := 137) hx hb dX0_statusByOutcome_132 (by decide) ?_
    have hP9 := hP.sub (ws' := [(h0, .inr (0, [.int a0, .int a1, .int a2, .int a3, .int a4, .int a5, .int a6, .int a7, .int a8, .int a9, .int a10, .int a11]))]) [0] rfl
    have hD9 := hD.sub (ws' := [(h0, .inr (0, [.int a0, .int a1, .int a2, .int a3, .int a4, .int a5, .int a6, .int a7, .int a8, .int a9, .int a10, .int a11]))]) [0] (by decide) rfl
    have hK9 := hK.sub (tys' := []) [] rfl
    have ef : fx_X0_statusByOutcome a0 p0 p1 = 21 := by unfold fx_X0_statusByOutcome; rw [if_neg c_1, if_neg c_2, if_neg c_4, if_neg c_7, if_neg c_9, if_neg c_11, if_neg c_12, if_neg c_14, if_pos c_16, if_pos c_17, if_neg c_19]
    exact W.iret (v := 21) hx hb hr (fun t ht hW => ⟨⟨21, [(h0, .inr (0, [.int a0, .int a1, .int a2, .int a3, .int a4, .int a5, .int a6, .int a7, .int a8, .int a9, .int a10, .int a11]))], rfl, ⟨ef.symm, rfl⟩, by rw [ht]; exact hP9, va_K.moved hW.alike hK9, hD9⟩, hS.F ht⟩) hS.2.2 dX0_statusByOutcome_137
  refine lv_tableOut (tgt := 138) hx hb dX0_statusByOutcome_1 (by have n_0 : (p1 : Int32).toInt ≠ 0 := xx_ne c_1 (by decide); have n_1 : (p1 : Int32).toInt ≠ 1 := xx_ne c_2 (by decide); have n_2 : (p1 : Int32).toInt ≠ 2 := xx_ne c_4 (by decide); have n_3 : (p1 : Int32).toInt ≠ 3 := xx_ne c_7 (by decide); have n_4 : (p1 : Int32).toInt ≠ 4 := xx_ne c_9 (by decide); have n_5 : (p1 : Int32).toInt ≠ 5 := xx_ne c_11 (by decide); have n_6 : (p1 : Int32).toInt ≠ 6 := xx_ne c_12 (by decide); have n_7 : (p1 : Int32).toInt ≠ 7 := xx_ne c_14 (by decide); have n_8 : (p1 : Int32).toInt ≠ 8 := xx_ne c_16 (by decide); omega) (by decide) ?_
  refine lv_bipush (v := 90) hx hb dX0_statusByOutcome_138 (by decide) ?_
  have hP9 := hP.sub (ws' := [(h0, .inr (0, [.int a0, .int a1, .int a2, .int a3, .int a4, .int a5, .int a6, .int a7, .int a8, .int a9, .int a10, .int a11]))]) [0] rfl
  have hD9 := hD.sub (ws' := [(h0, .inr (0, [.int a0, .int a1, .int a2, .int a3, .int a4, .int a5, .int a6, .int a7, .int a8, .int a9, .int a10, .int a11]))]) [0] (by decide) rfl
  have hK9 := hK.sub (tys' := []) [] rfl
  have ef : fx_X0_statusByOutcome a0 p0 p1 = 90 := by unfold fx_X0_statusByOutcome; rw [if_neg c_1, if_neg c_2, if_neg c_4, if_neg c_7, if_neg c_9, if_neg c_11, if_neg c_12, if_neg c_14, if_neg c_16]
  exact W.iret (v := 90) hx hb hr (fun t ht hW => ⟨⟨90, [(h0, .inr (0, [.int a0, .int a1, .int a2, .int a3, .int a4, .int a5, .int a6, .int a7, .int a8, .int a9, .int a10, .int a11]))], rfl, ⟨ef.symm, rfl⟩, by rw [ht]; exact hP9, va_K.moved hW.alike hK9, hD9⟩, hS.F ht⟩) hS.2.2 dX0_statusByOutcome_140
set_option maxHeartbeats 4000000 in
set_option maxRecDepth 100000 in
theorem ct_X0_move (l : Launch) (dC : Nat → ClassId) (dI : Nat → Nat → Nat) (h0 : Nat) (sz : Nat) (a0 a1 a2 a3 a4 a5 a6 a7 a8 a9 a10 a11 p0 p1 : Int32) : Met l yX0_move wsX0_move ({ frames := 2, cells := 0, slots := 0, locals := 41 }) (va_Pc [.ref h0, .int p0, .int p1] (fun U => U.heap.size = sz ∧ va_P (dC, dI) vwCl [(h0, .inr (0, [.int a0, .int a1, .int a2, .int a3, .int a4, .int a5, .int a6, .int a7, .int a8, .int a9, .int a10, .int a11]))] U.heap ∧ va_K (dC, dI) vwCl [] U ∧ va_D (fun _ => True) [(h0, .inr (0, [.int a0, .int a1, .int a2, .int a3, .int a4, .int a5, .int a6, .int a7, .int a8, .int a9, .int a10, .int a11]))])) (va_Qv (fun u : va_W => u = [(h0, .inr (0, [.int a0, .int a1, .int (gx_X0_move_2 a2 p0 p1), .int a3, .int (gx_X0_move_4 a4 p0 p1), .int a5, .int a6, .int a7, .int a8, .int a9, .int a10, .int a11]))]) (at_W dC dI [] (va_A [(h0, .inr (0, [.int a0, .int a1, .int a2, .int a3, .int a4, .int a5, .int a6, .int a7, .int a8, .int a9, .int a10, .int a11]))] sz)) (va_A [(h0, .inr (0, [.int a0, .int a1, .int a2, .int a3, .int a4, .int a5, .int a6, .int a7, .int a8, .int a9, .int a10, .int a11]))] sz)) 0 0 (va_A [(h0, .inr (0, [.int a0, .int a1, .int a2, .int a3, .int a4, .int a5, .int a6, .int a7, .int a8, .int a9, .int a10, .int a11]))] sz) := by
  refine Met.ofW (cc := cX0_move) (maxL := 3) (ret := none) (by decide) rfl ?_
  intro p e s m args below meth c s₁ B hml hv
  obtain ⟨rfl, hsz, hP, hK, hD0⟩ := hv
  have hx := B.exec
  have hb := B.bytes
  have hr := B.returns
  have hts := atoms_spec (ws := wsX0_move) B.pre
  have hown : s.vm.findClass RX0 = some m.cls := findClass_of_methodNamed B.named
  have hlocks := B.notSynchronized
  subst hsz
  have hD := hD0.self (sz := s.heap.size)
  generalize hAe : va_A [(h0, .inr (0, [.int a0, .int a1, .int a2, .int a3, .int a4, .int a5, .int a6, .int a7, .int a8, .int a9, .int a10, .int a11]))] s.heap.size = A at hD ⊢
  have hA : ∀ q : Nat, s.heap.size ≤ q → A q := fun q h => by rw [← hAe]; exact Or.inr h
  have hS : va_S A s.heap s.heap [] := va_S.rf
  have hP : va_P (dC, dI) vwCl [(h0, .inr (0, [.int a0, .int a1, .int a2, .int a3, .int a4, .int a5, .int a6, .int a7, .int a8, .int a9, .int a10, .int a11]))] s.heap := hP
  have hl := lv_entry ([.ref h0, .int p0, .int p1]) (n := 3) (Nat.le_of_ble_eq_true rfl)
  rw [lg_entry_eq]
  generalize (lg_sl ([.ref h0, .int p0, .int p1]) ++ List.replicate (3 - (lg_sl ([.ref h0, .int p0, .int p1])).length) Slot.unset).toArray = ls at hl ⊢
  have hl : lv_has ls 3 [(0, .ref h0), (1, .int p0), (2, .int p1)] := hl
  refine lv_iload_n hx hb dX0_move_0 rfl (lv_at hl 1 rfl) ?_
  have hPc := hP.sub (ws' := []) [] rfl
  have hDc := hD.sub (ws' := []) [] (by decide) rfl
  have hKc := hK.sub (tys' := []) [] rfl
  have hFc := va_free (wc := []) hD hS hA [] rfl
  refine va_calli (va_runS (As := [.int p0]) (rest := []) ⟨hx, hb, hml, hown, hts⟩ (ct_X0_isRead l dC dI s.heap.size p0) (va_cwS 1 hts gX0_move_X0_isRead rfl rfl rfl (by decide +kernel) ⟨Nat.le_of_ble_eq_true rfl, Nat.le_of_ble_eq_true rfl⟩) ⟨fun a U g mk q => by obtain ⟨q0, q1, qP, qK, qD⟩ := q; exact ⟨q0, q1, qP, va_K.moved (u := U) (U := U.calling g mk a) (Vm.Alike.refl U.vm) qK, qD⟩, fun U hU hW => ⟨rfl, by rw [hU], by rw [hU]; exact hPc, va_K.moved hW.alike hKc, hDc.weaken (fun _ _ _ _ => trivial)⟩⟩ rfl rfl hl.1 rfl (lv_room (Nat.le_of_ble_eq_true rfl)) dX0_move_1 ⟨(Nat.zero_le _), (Nat.zero_le _)⟩) hS (fun q _ h => hFc q h) hFc (fun r_1 u t H1 locs ht hvm hw hB hz1 hk1 hS => ?_)
  obtain ⟨er, hu⟩ := hw
  subst hu
  subst er
  obtain ⟨hP1, -, hD1⟩ := hB
  rw [ht] at hP1
  obtain ⟨hP, hD⟩ := va_join (wr := [(h0, .inr (0, [.int a0, .int a1, .int a2, .int a3, .int a4, .int a5, .int a6, .int a7, .int a8, .int a9, .int a10, .int a11]))]) (w1 := []) hP hD [] [0] rfl rfl (by decide) (by decide) hk1 hFc hP1 hD1
  generalize H1 = H at hP hS ⊢
  have hP : va_P (dC, dI) vwCl [(h0, .inr (0, [.int a0, .int a1, .int a2, .int a3, .int a4, .int a5, .int a6, .int a7, .int a8, .int a9, .int a10, .int a11]))] H := hP
  have hD : va_D A [(h0, .inr (0, [.int a0, .int a1, .int a2, .int a3, .int a4, .int a5, .int a6, .int a7, .int a8, .int a9, .int a10, .int a11]))] := hD
  refine lv_if_ne (tgt := 12) hx hb dX0_move_4 (by decide) (fun c_2 => ?_) (fun c_2 => ?_)
  · refine lv_aload_n hx hb dX0_move_12 rfl (lv_at hl 0 rfl) ?_
    refine lv_iload_n hx hb dX0_move_13 rfl (lv_at hl 2 rfl) ?_
    refine lv_aload_n hx hb dX0_move_14 rfl (lv_at hl 0 rfl) ?_
    refine va_get (D := (dC, dI)) (ci := 0) (v := .int a4) (C := RX0) (T := TX0) (N := 12) hx hb hts (fun _ h => List.mem_cons_of_mem _ (List.mem_append_right _ h)) hown hK hP 0 rfl rfl 4 (by decide) (hts (.fieldLink RX0 20 "FileStatus" "place" "I") (by decide +kernel)) (fun _ h9 => h9) rfl dX0_move_15 ?_
    have hPc := hP.sub (ws' := []) [] rfl
    have hDc := hD.sub (ws' := []) [] (by decide) rfl
    have hKc := hK.sub (tys' := []) [] rfl
    have hFc := va_free (wc := []) hD hS hA [] rfl
    refine va_calli (va_runS (As := [.int p1, .int a4]) (rest := [.ref h0]) ⟨hx, hb, hml, hown, hts⟩ (ct_X0_placeAfter l dC dI H.size p1 a4) (va_cwS 2 hts gX0_move_X0_placeAfter rfl rfl rfl (by decide +kernel) ⟨Nat.le_of_ble_eq_true rfl, Nat.le_of_ble_eq_true rfl⟩) ⟨fun a U g mk q => by obtain ⟨q0, q1, qP, qK, qD⟩ := q; exact ⟨q0, q1, qP, va_K.moved (u := U) (U := U.calling g mk a) (Vm.Alike.refl U.vm) qK, qD⟩, fun U hU hW => ⟨rfl, by rw [hU], by rw [hU]; exact hPc, va_K.moved hW.alike hKc, hDc.weaken (fun _ _ _ _ => trivial)⟩⟩ rfl rfl hl.1 rfl (lv_room (Nat.le_of_ble_eq_true rfl)) dX0_move_18 ⟨(Nat.zero_le _), (Nat.zero_le _)⟩) hS (fun q _ h => hFc q h) hFc (fun r_3 u t H1 locs ht hvm hw hB hz1 hk1 hS => ?_)
    obtain ⟨er, hu⟩ := hw
    subst hu
    subst er
    obtain ⟨hP1, -, hD1⟩ := hB
    rw [ht] at hP1
    obtain ⟨hP, hD⟩ := va_join (wr := [(h0, .inr (0, [.int a0, .int a1, .int a2, .int a3, .int a4, .int a5, .int a6, .int a7, .int a8, .int a9, .int a10, .int a11]))]) (w1 := []) hP hD [] [0] rfl rfl (by decide) (by decide) hk1 hFc hP1 hD1
    generalize H1 = H at hP hS ⊢
    have hP : va_P (dC, dI) vwCl [(h0, .inr (0, [.int a0, .int a1, .int a2, .int a3, .int a4, .int a5, .int a6, .int a7, .int a8, .int a9, .int a10, .int a11]))] H := hP
    have hD : va_D A [(h0, .inr (0, [.int a0, .int a1, .int a2, .int a3, .int a4, .int a5, .int a6, .int a7, .int a8, .int a9, .int a10, .int a11]))] := hD
    refine va_put (D := (dC, dI)) (ci := 0) (v := .int (fx_X0_placeAfter p1 a4)) (ty := .int) (C := RX0) (T := TX0) (N := 12) hx hb hts (fun _ h => List.mem_cons_of_mem _ (List.mem_append_right _ h)) tyX0 tyX0_ok nmX0 hown hK hP hD hS 0 rfl rfl 4 (by decide) (hts (.fieldLink RX0 20 "FileStatus" "place" "I") (by decide +kernel)) (fun _ h9 => h9) rfl (by decide +kernel) rfl rfl (Nat.le_of_ble_eq_true rfl) dX0_move_21 (fun H locs hP hD hS => ?_)
    have hP : va_P (dC, dI) vwCl [(h0, .inr (0, [.int a0, .int a1, .int a2, .int a3, .int (fx_X0_placeAfter p1 a4), .int a5, .int a6, .int a7, .int a8, .int a9, .int a10, .int a11]))] H := hP
    have hD : va_D A [(h0, .inr (0, [.int a0, .int a1, .int a2, .int a3, .int (fx_X0_placeAfter p1 a4), .int a5, .int a6, .int a7, .int a8, .int a9, .int a10, .int a11]))] := hD
    refine lv_iload_n hx hb dX0_move_24 rfl (lv_at hl 1 rfl) ?_
    refine lv_bipush (v := 6) hx hb dX0_move_25 (by decide) ?_
    refine lv_icmp_ne (tgt := 39) hx hb dX0_move_27 (by decide) (fun c_4 => ?_) (fun c_4 => ?_)
    · have hP9 := hP.sub (ws' := [(h0, .inr (0, [.int a0, .int a1, .int a2, .int a3, .int (fx_X0_placeAfter p1 a4), .int a5, .int a6, .int a7, .int a8, .int a9, .int a10, .int a11]))]) [0] rfl
      have hD9 := hD.sub (ws' := [(h0, .inr (0, [.int a0, .int a1, .int a2, .int a3, .int (fx_X0_placeAfter p1 a4), .int a5, .int a6, .int a7, .int a8, .int a9, .int a10, .int a11]))]) [0] (by decide) rfl
      have hK9 := hK.sub (tys' := []) [] rfl
      have eg_2 : gx_X0_move_2 a2 p0 p1 = a2 := by unfold gx_X0_move_2; rw [if_neg c_2, if_neg c_4]
      have eg_4 : gx_X0_move_4 a4 p0 p1 = fx_X0_placeAfter p1 a4 := by unfold gx_X0_move_4; rw [if_neg c_2]
      exact W.vret hx hb hr (fun t ht hW => ⟨⟨[(h0, .inr (0, [.int a0, .int a1, .int a2, .int a3, .int (fx_X0_placeAfter p1 a4), .int a5, .int a6, .int a7, .int a8, .int a9, .int a10, .int a11]))], rfl, by rw [eg_2, eg_4], by rw [ht]; exact hP9, va_K.moved hW.alike hK9, hD9⟩, hS.F ht⟩) hS.2.2 dX0_move_39
    refine lv_iload_n hx hb dX0_move_30 rfl (lv_at hl 2 rfl) ?_
    refine lv_if_ne (tgt := 39) hx hb dX0_move_31 (by decide) (fun c_5 => ?_) (fun c_5 => ?_)
    · have hP9 := hP.sub (ws' := [(h0, .inr (0, [.int a0, .int a1, .int a2, .int a3, .int (fx_X0_placeAfter p1 a4), .int a5, .int a6, .int a7, .int a8, .int a9, .int a10, .int a11]))]) [0] rfl
      have hD9 := hD.sub (ws' := [(h0, .inr (0, [.int a0, .int a1, .int a2, .int a3, .int (fx_X0_placeAfter p1 a4), .int a5, .int a6, .int a7, .int a8, .int a9, .int a10, .int a11]))]) [0] (by decide) rfl
      have hK9 := hK.sub (tys' := []) [] rfl
      have eg_2 : gx_X0_move_2 a2 p0 p1 = a2 := by unfold gx_X0_move_2; rw [if_neg c_2, if_pos c_4, if_neg c_5]
      have eg_4 : gx_X0_move_4 a4 p0 p1 = fx_X0_placeAfter p1 a4 := by unfold gx_X0_move_4; rw [if_neg c_2]
      exact W.vret hx hb hr (fun t ht hW => ⟨⟨[(h0, .inr (0, [.int a0, .int a1, .int a2, .int a3, .int (fx_X0_placeAfter p1 a4), .int a5, .int a6, .int a7, .int a8, .int a9, .int a10, .int a11]))], rfl, by rw [eg_2, eg_4], by rw [ht]; exact hP9, va_K.moved hW.alike hK9, hD9⟩, hS.F ht⟩) hS.2.2 dX0_move_39
    refine lv_aload_n hx hb dX0_move_34 rfl (lv_at hl 0 rfl) ?_
    refine lv_iconst (v := 0) hx hb dX0_move_35 (by decide) ?_
    refine va_put (D := (dC, dI)) (ci := 0) (v := .int 0) (ty := .boolean) (C := RX0) (T := TX0) (N := 12) hx hb hts (fun _ h => List.mem_cons_of_mem _ (List.mem_append_right _ h)) tyX0 tyX0_ok nmX0 hown hK hP hD hS 0 rfl rfl 2 (by decide) (hts (.fieldLink RX0 13 "FileStatus" "isOpen" "Z") (by decide +kernel)) (fun _ h9 => h9) rfl (by decide +kernel) rfl rfl (Nat.le_of_ble_eq_true rfl) dX0_move_36 (fun H locs hP hD hS => ?_)
    have hP : va_P (dC, dI) vwCl [(h0, .inr (0, [.int a0, .int a1, .int 0, .int a3, .int (fx_X0_placeAfter p1 a4), .int a5, .int a6, .int a7, .int a8, .int a9, .int a10, .int a11]))] H := hP
    have hD : va_D A [(h0, .inr (0, [.int a0, .int a1, .int 0, .int a3, .int (fx_X0_placeAfter p1 a4), .int a5, .int a6, .int a7, .int a8, .int a9, .int a10, .int a11]))] := hD
    have hP9 := hP.sub (ws' := [(h0, .inr (0, [.int a0, .int a1, .int 0, .int a3, .int (fx_X0_placeAfter p1 a4), .int a5, .int a6, .int a7, .int a8, .int a9, .int a10, .int a11]))]) [0] rfl
    have hD9 := hD.sub (ws' := [(h0, .inr (0, [.int a0, .int a1, .int 0, .int a3, .int (fx_X0_placeAfter p1 a4), .int a5, .int a6, .int a7, .int a8, .int a9, .int a10, .int a11]))]) [0] (by decide) rfl
    have hK9 := hK.sub (tys' := []) [] rfl
    have eg_2 : gx_X0_move_2 a2 p0 p1 = 0 := by unfold gx_X0_move_2; rw [if_neg c_2, if_pos c_4, if_pos c_5]
    have eg_4 : gx_X0_move_4 a4 p0 p1 = fx_X0_placeAfter p1 a4 := by unfold gx_X0_move_4; rw [if_neg c_2]
    exact W.vret hx hb hr (fun t ht hW => ⟨⟨[(h0, .inr (0, [.int a0, .int a1, .int 0, .int a3, .int (fx_X0_placeAfter p1 a4), .int a5, .int a6, .int a7, .int a8, .int a9, .int a10, .int a11]))], rfl, by rw [eg_2, eg_4], by rw [ht]; exact hP9, va_K.moved hW.alike hK9, hD9⟩, hS.F ht⟩) hS.2.2 dX0_move_39
  refine lv_iload_n hx hb dX0_move_7 rfl (lv_at hl 1 rfl) ?_
  refine lv_iconst (v := 5) hx hb dX0_move_8 (by decide) ?_
  refine lv_icmp_ne (tgt := 24) hx hb dX0_move_9 (by decide) (fun c_6 => ?_) (fun c_6 => ?_)
  · refine lv_iload_n hx hb dX0_move_24 rfl (lv_at hl 1 rfl) ?_
    refine lv_bipush (v := 6) hx hb dX0_move_25 (by decide) ?_
    refine lv_icmp_ne (tgt := 39) hx hb dX0_move_27 (by decide) (fun c_7 => ?_) (fun c_7 => ?_)
    · have hP9 := hP.sub (ws' := [(h0, .inr (0, [.int a0, .int a1, .int a2, .int a3, .int a4, .int a5, .int a6, .int a7, .int a8, .int a9, .int a10, .int a11]))]) [0] rfl
      have hD9 := hD.sub (ws' := [(h0, .inr (0, [.int a0, .int a1, .int a2, .int a3, .int a4, .int a5, .int a6, .int a7, .int a8, .int a9, .int a10, .int a11]))]) [0] (by decide) rfl
      have hK9 := hK.sub (tys' := []) [] rfl
      have eg_2 : gx_X0_move_2 a2 p0 p1 = a2 := by unfold gx_X0_move_2; rw [if_pos c_2, if_neg c_6, if_neg c_7]
      have eg_4 : gx_X0_move_4 a4 p0 p1 = a4 := by unfold gx_X0_move_4; rw [if_pos c_2, if_neg c_6]
      exact W.vret hx hb hr (fun t ht hW => ⟨⟨[(h0, .inr (0, [.int a0, .int a1, .int a2, .int a3, .int a4, .int a5, .int a6, .int a7, .int a8, .int a9, .int a10, .int a11]))], rfl, by rw [eg_2, eg_4], by rw [ht]; exact hP9, va_K.moved hW.alike hK9, hD9⟩, hS.F ht⟩) hS.2.2 dX0_move_39
    refine lv_iload_n hx hb dX0_move_30 rfl (lv_at hl 2 rfl) ?_
    refine lv_if_ne (tgt := 39) hx hb dX0_move_31 (by decide) (fun c_8 => ?_) (fun c_8 => ?_)
    · have hP9 := hP.sub (ws' := [(h0, .inr (0, [.int a0, .int a1, .int a2, .int a3, .int a4, .int a5, .int a6, .int a7, .int a8, .int a9, .int a10, .int a11]))]) [0] rfl
      have hD9 := hD.sub (ws' := [(h0, .inr (0, [.int a0, .int a1, .int a2, .int a3, .int a4, .int a5, .int a6, .int a7, .int a8, .int a9, .int a10, .int a11]))]) [0] (by decide) rfl
      have hK9 := hK.sub (tys' := []) [] rfl
      have eg_2 : gx_X0_move_2 a2 p0 p1 = a2 := by unfold gx_X0_move_2; rw [if_pos c_2, if_neg c_6, if_pos c_7, if_neg c_8]
      have eg_4 : gx_X0_move_4 a4 p0 p1 = a4 := by unfold gx_X0_move_4; rw [if_pos c_2, if_neg c_6]
      exact W.vret hx hb hr (fun t ht hW => ⟨⟨[(h0, .inr (0, [.int a0, .int a1, .int a2, .int a3, .int a4, .int a5, .int a6, .int a7, .int a8, .int a9, .int a10, .int a11]))], rfl, by rw [eg_2, eg_4], by rw [ht]; exact hP9, va_K.moved hW.alike hK9, hD9⟩, hS.F ht⟩) hS.2.2 dX0_move_39
    refine lv_aload_n hx hb dX0_move_34 rfl (lv_at hl 0 rfl) ?_
    refine lv_iconst (v := 0) hx hb dX0_move_35 (by decide) ?_
    refine va_put (D := (dC, dI)) (ci := 0) (v := .int 0) (ty := .boolean) (C := RX0) (T := TX0) (N := 12) hx hb hts (fun _ h => List.mem_cons_of_mem _ (List.mem_append_right _ h)) tyX0 tyX0_ok nmX0 hown hK hP hD hS 0 rfl rfl 2 (by decide) (hts (.fieldLink RX0 13 "FileStatus" "isOpen" "Z") (by decide +kernel)) (fun _ h9 => h9) rfl (by decide +kernel) rfl rfl (Nat.le_of_ble_eq_true rfl) dX0_move_36 (fun H locs hP hD hS => ?_)
    have hP : va_P (dC, dI) vwCl [(h0, .inr (0, [.int a0, .int a1, .int 0, .int a3, .int a4, .int a5, .int a6, .int a7, .int a8, .int a9, .int a10, .int a11]))] H := hP
    have hD : va_D A [(h0, .inr (0, [.int a0, .int a1, .int 0, .int a3, .int a4, .int a5, .int a6, .int a7, .int a8, .int a9, .int a10, .int a11]))] := hD
    have hP9 := hP.sub (ws' := [(h0, .inr (0, [.int a0, .int a1, .int 0, .int a3, .int a4, .int a5, .int a6, .int a7, .int a8, .int a9, .int a10, .int a11]))]) [0] rfl
    have hD9 := hD.sub (ws' := [(h0, .inr (0, [.int a0, .int a1, .int 0, .int a3, .int a4, .int a5, .int a6, .int a7, .int a8, .int a9, .int a10, .int a11]))]) [0] (by decide) rfl
    have hK9 := hK.sub (tys' := []) [] rfl
    have eg_2 : gx_X0_move_2 a2 p0 p1 = 0 := by unfold gx_X0_move_2; rw [if_pos c_2, if_neg c_6, if_pos c_7, if_pos c_8]
    have eg_4 : gx_X0_move_4 a4 p0 p1 = a4 := by unfold gx_X0_move_4; rw [if_pos c_2, if_neg c_6]
    exact W.vret hx hb hr (fun t ht hW => ⟨⟨[(h0, .inr (0, [.int a0, .int a1, .int 0, .int a3, .int a4, .int a5, .int a6, .int a7, .int a8, .int a9, .int a10, .int a11]))], rfl, by rw [eg_2, eg_4], by rw [ht]; exact hP9, va_K.moved hW.alike hK9, hD9⟩, hS.F ht⟩) hS.2.2 dX0_move_39
  refine lv_aload_n hx hb dX0_move_12 rfl (lv_at hl 0 rfl) ?_
  refine lv_iload_n hx hb dX0_move_13 rfl (lv_at hl 2 rfl) ?_
  refine lv_aload_n hx hb dX0_move_14 rfl (lv_at hl 0 rfl) ?_
  refine va_get (D := (dC, dI)) (ci := 0) (v := .int a4) (C := RX0) (T := TX0) (N := 12) hx hb hts (fun _ h => List.mem_cons_of_mem _ (List.mem_append_right _ h)) hown hK hP 0 rfl rfl 4 (by decide) (hts (.fieldLink RX0 20 "FileStatus" "place" "I") (by decide +kernel)) (fun _ h9 => h9) rfl dX0_move_15 ?_
  have hPc := hP.sub (ws' := []) [] rfl
  have hDc := hD.sub (ws' := []) [] (by decide) rfl
  have hKc := hK.sub (tys' := []) [] rfl
  have hFc := va_free (wc := []) hD hS hA [] rfl
  refine va_calli (va_runS (As := [.int p1, .int a4]) (rest := [.ref h0]) ⟨hx, hb, hml, hown, hts⟩ (ct_X0_placeAfter l dC dI H.size p1 a4) (va_cwS 2 hts gX0_move_X0_placeAfter rfl rfl rfl (by decide +kernel) ⟨Nat.le_of_ble_eq_true rfl, Nat.le_of_ble_eq_true rfl⟩) ⟨fun a U g mk q => by obtain ⟨q0, q1, qP, qK, qD⟩ := q; exact ⟨q0, q1, qP, va_K.moved (u := U) (U := U.calling g mk a) (Vm.Alike.refl U.vm) qK, qD⟩, fun U hU hW => ⟨rfl, by rw [hU], by rw [hU]; exact hPc, va_K.moved hW.alike hKc, hDc.weaken (fun _ _ _ _ => trivial)⟩⟩ rfl rfl hl.1 rfl (lv_room (Nat.le_of_ble_eq_true rfl)) dX0_move_18 ⟨(Nat.zero_le _), (Nat.zero_le _)⟩) hS (fun q _ h => hFc q h) hFc (fun r_9 u t H1 locs ht hvm hw hB hz1 hk1 hS => ?_)
  obtain ⟨er, hu⟩ := hw
  subst hu
  subst er
  obtain ⟨hP1, -, hD1⟩ := hB
  rw [ht] at hP1
  obtain ⟨hP, hD⟩ := va_join (wr := [(h0, .inr (0, [.int a0, .int a1, .int a2, .int a3, .int a4, .int a5, .int a6, .int a7, .int a8, .int a9, .int a10, .int a11]))]) (w1 := []) hP hD [] [0] rfl rfl (by decide) (by decide) hk1 hFc hP1 hD1
  generalize H1 = H at hP hS ⊢
  have hP : va_P (dC, dI) vwCl [(h0, .inr (0, [.int a0, .int a1, .int a2, .int a3, .int a4, .int a5, .int a6, .int a7, .int a8, .int a9, .int a10, .int a11]))] H := hP
  have hD : va_D A [(h0, .inr (0, [.int a0, .int a1, .int a2, .int a3, .int a4, .int a5, .int a6, .int a7, .int a8, .int a9, .int a10, .int a11]))] := hD
  refine va_put (D := (dC, dI)) (ci := 0) (v := .int (fx_X0_placeAfter p1 a4)) (ty := .int) (C := RX0) (T := TX0) (N := 12) hx hb hts (fun _ h => List.mem_cons_of_mem _ (List.mem_append_right _ h)) tyX0 tyX0_ok nmX0 hown hK hP hD hS 0 rfl rfl 4 (by decide) (hts (.fieldLink RX0 20 "FileStatus" "place" "I") (by decide +kernel)) (fun _ h9 => h9) rfl (by decide +kernel) rfl rfl (Nat.le_of_ble_eq_true rfl) dX0_move_21 (fun H locs hP hD hS => ?_)
  have hP : va_P (dC, dI) vwCl [(h0, .inr (0, [.int a0, .int a1, .int a2, .int a3, .int (fx_X0_placeAfter p1 a4), .int a5, .int a6, .int a7, .int a8, .int a9, .int a10, .int a11]))] H := hP
  have hD : va_D A [(h0, .inr (0, [.int a0, .int a1, .int a2, .int a3, .int (fx_X0_placeAfter p1 a4), .int a5, .int a6, .int a7, .int a8, .int a9, .int a10, .int a11]))] := hD
  refine lv_iload_n hx hb dX0_move_24 rfl (lv_at hl 1 rfl) ?_
  refine lv_bipush (v := 6) hx hb dX0_move_25 (by decide) ?_
  refine lv_icmp_ne (tgt := 39) hx hb dX0_move_27 (by decide) (fun c9 => ?_) (fun c9 => absurd (c_6.symm.trans c9) (by decide))
  have hP9 := hP.sub (ws' := [(h0, .inr (0, [.int a0, .int a1, .int a2, .int a3, .int (fx_X0_placeAfter p1 a4), .int a5, .int a6, .int a7, .int a8, .int a9, .int a10, .int a11]))]) [0] rfl
  have hD9 := hD.sub (ws' := [(h0, .inr (0, [.int a0, .int a1, .int a2, .int a3, .int (fx_X0_placeAfter p1 a4), .int a5, .int a6, .int a7, .int a8, .int a9, .int a10, .int a11]))]) [0] (by decide) rfl
  have hK9 := hK.sub (tys' := []) [] rfl
  have eg_2 : gx_X0_move_2 a2 p0 p1 = a2 := by unfold gx_X0_move_2; rw [if_pos c_2, if_pos c_6]
  have eg_4 : gx_X0_move_4 a4 p0 p1 = fx_X0_placeAfter p1 a4 := by unfold gx_X0_move_4; rw [if_pos c_2, if_pos c_6]
  exact W.vret hx hb hr (fun t ht hW => ⟨⟨[(h0, .inr (0, [.int a0, .int a1, .int a2, .int a3, .int (fx_X0_placeAfter p1 a4), .int a5, .int a6, .int a7, .int a8, .int a9, .int a10, .int a11]))], rfl, by rw [eg_2, eg_4], by rw [ht]; exact hP9, va_K.moved hW.alike hK9, hD9⟩, hS.F ht⟩) hS.2.2 dX0_move_39
set_option maxHeartbeats 4000000 in
set_option maxRecDepth 100000 in
theorem ct_X0_statusOfAct (l : Launch) (dC : Nat → ClassId) (dI : Nat → Nat → Nat) (h0 : Nat) (sz : Nat) (a0 a1 a2 a3 a4 a5 a6 a7 a8 a9 a10 a11 p0 p1 : Int32) : Met l yX0_statusOfAct wsX0_statusOfAct ({ frames := 3, cells := 0, slots := 0, locals := 63 }) (va_Pc [.ref h0, .int p0, .int p1] (fun U => U.heap.size = sz ∧ va_P (dC, dI) vwCl [(h0, .inr (0, [.int a0, .int a1, .int a2, .int a3, .int a4, .int a5, .int a6, .int a7, .int a8, .int a9, .int a10, .int a11]))] U.heap ∧ va_K (dC, dI) vwCl [] U ∧ va_D (fun _ => True) [(h0, .inr (0, [.int a0, .int a1, .int a2, .int a3, .int a4, .int a5, .int a6, .int a7, .int a8, .int a9, .int a10, .int a11]))])) (va_Qi (fun (r : Int32) (u : va_W) => r = fx_X0_statusOfAct a0 a1 a2 a4 a5 a6 p0 p1 ∧ u = [(h0, .inr (0, [.int a0, .int a1, .int a2, .int a3, .int a4, .int a5, .int a6, .int a7, .int a8, .int a9, .int a10, .int a11]))]) (at_W dC dI [] (va_A [(h0, .inr (0, [.int a0, .int a1, .int a2, .int a3, .int a4, .int a5, .int a6, .int a7, .int a8, .int a9, .int a10, .int a11]))] sz)) (va_A [(h0, .inr (0, [.int a0, .int a1, .int a2, .int a3, .int a4, .int a5, .int a6, .int a7, .int a8, .int a9, .int a10, .int a11]))] sz)) 0 0 (va_A [(h0, .inr (0, [.int a0, .int a1, .int a2, .int a3, .int a4, .int a5, .int a6, .int a7, .int a8, .int a9, .int a10, .int a11]))] sz) := by
  refine Met.ofW (cc := cX0_statusOfAct) (maxL := 4) (ret := (some .int)) (by decide) rfl ?_
  intro p e s m args below meth c s₁ B hml hv
  obtain ⟨rfl, hsz, hP, hK, hD0⟩ := hv
  have hx := B.exec
  have hb := B.bytes
  have hr := B.returns
  have hts := atoms_spec (ws := wsX0_statusOfAct) B.pre
  have hown : s.vm.findClass RX0 = some m.cls := findClass_of_methodNamed B.named
  have hlocks := B.notSynchronized
  subst hsz
  have hD := hD0.self (sz := s.heap.size)
  generalize hAe : va_A [(h0, .inr (0, [.int a0, .int a1, .int a2, .int a3, .int a4, .int a5, .int a6, .int a7, .int a8, .int a9, .int a10, .int a11]))] s.heap.size = A at hD ⊢
  have hA : ∀ q : Nat, s.heap.size ≤ q → A q := fun q h => by rw [← hAe]; exact Or.inr h
  have hS : va_S A s.heap s.heap [] := va_S.rf
  have hP : va_P (dC, dI) vwCl [(h0, .inr (0, [.int a0, .int a1, .int a2, .int a3, .int a4, .int a5, .int a6, .int a7, .int a8, .int a9, .int a10, .int a11]))] s.heap := hP
  have hl := lv_entry ([.ref h0, .int p0, .int p1]) (n := 4) (Nat.le_of_ble_eq_true rfl)
  rw [lg_entry_eq]
  generalize (lg_sl ([.ref h0, .int p0, .int p1]) ++ List.replicate (4 - (lg_sl ([.ref h0, .int p0, .int p1])).length) Slot.unset).toArray = ls at hl ⊢
  have hl : lv_has ls 4 [(0, .ref h0), (1, .int p0), (2, .int p1)] := hl
  refine lv_aload_n hx hb dX0_statusOfAct_0 rfl (lv_at hl 0 rfl) ?_
  refine lv_iload_n hx hb dX0_statusOfAct_1 rfl (lv_at hl 1 rfl) ?_
  have hPc := hP.sub (ws' := [(h0, .inr (0, [.int a0, .int a1, .int a2, .int a3, .int a4, .int a5, .int a6, .int a7, .int a8, .int a9, .int a10, .int a11]))]) [0] rfl
  have hDc := hD.sub (ws' := [(h0, .inr (0, [.int a0, .int a1, .int a2, .int a3, .int a4, .int a5, .int a6, .int a7, .int a8, .int a9, .int a10, .int a11]))]) [0] (by decide) rfl
  have hKc := hK.sub (tys' := []) [] rfl
  have hFc := va_free (wc := [(h0, .inr (0, [.int a0, .int a1, .int a2, .int a3, .int a4, .int a5, .int a6, .int a7, .int a8, .int a9, .int a10, .int a11]))]) hD hS hA [0] rfl
  refine va_calli (va_runV (As := [.int p0]) (rest := []) ⟨hx, hb, hml, hown, hts⟩ (ct_X0_statusAheadOfOutcome l dC dI h0 s.heap.size a0 a1 a2 a3 a4 a5 a6 a7 a8 a9 a10 a11 p0) (cwV 1 hts gX0_statusOfAct_X0_statusAheadOfOutcome rfl rfl rfl (by decide +kernel) ⟨Nat.le_of_ble_eq_true rfl, Nat.le_of_ble_eq_true rfl⟩) ⟨fun a U g mk q => by obtain ⟨q0, q1, qP, qK, qD⟩ := q; exact ⟨q0, q1, qP, va_K.moved (u := U) (U := U.calling g mk a) (Vm.Alike.refl U.vm) qK, qD⟩, va_recv hKc hPc (ci := 0) (q0 := 0) rfl rfl, fun U hU hW => ⟨rfl, by rw [hU], by rw [hU]; exact hPc, va_K.moved hW.alike hKc, hDc.weaken (fun _ _ _ _ => trivial)⟩⟩ rfl rfl hl.1 rfl (lv_room (Nat.le_of_ble_eq_true rfl)) dX0_statusOfAct_2 ⟨(Nat.zero_le _), (Nat.zero_le _)⟩) hS (fun q _ h => hFc q h) hFc (fun r_1 u t H1 locs ht hvm hw hB hz1 hk1 hS => ?_)
  obtain ⟨er, hu⟩ := hw
  subst hu
  subst er
  obtain ⟨hP1, -, hD1⟩ := hB
  rw [ht] at hP1
  obtain ⟨hP, hD⟩ := va_join (wr := []) (w1 := [(h0, .inr (0, [.int a0, .int a1, .int a2, .int a3, .int a4, .int a5, .int a6, .int a7, .int a8, .int a9, .int a10, .int a11]))]) hP hD [0] [] rfl rfl (by decide) (by decide) hk1 hFc hP1 hD1
  generalize H1 = H at hP hS ⊢
  have hP : va_P (dC, dI) vwCl [(h0, .inr (0, [.int a0, .int a1, .int a2, .int a3, .int a4, .int a5, .int a6, .int a7, .int a8, .int a9, .int a10, .int a11]))] H := hP
  have hD : va_D A [(h0, .inr (0, [.int a0, .int a1, .int a2, .int a3, .int a4, .int a5, .int a6, .int a7, .int a8, .int a9, .int a10, .int a11]))] := hD
  refine lv_istore_n (lv' := [(3, .int (fx_X0_statusAheadOfOutcome a0 a1 a2 a4 a6 p0)), (0, .ref h0), (1, .int p0), (2, .int p1)]) hx hb dX0_statusOfAct_5 rfl hl (by decide) rfl (fun ls hl => ?_)
  refine lv_iload_n hx hb dX0_statusOfAct_6 rfl (lv_at hl 0 rfl) ?_
  refine lv_iconst (v := (-1)) hx hb dX0_statusOfAct_7 (by decide) ?_
  refine lv_icmp_eq (tgt := 13) hx hb dX0_statusOfAct_8 (by decide) (fun c_2 => ?_) (fun c_2 => ?_)
  · refine lv_iload_n hx hb dX0_statusOfAct_13 rfl (lv_at hl 2 rfl) ?_
    refine lv_if_ne (tgt := 27) hx hb dX0_statusOfAct_14 (by decide) (fun c_3 => ?_) (fun c_3 => ?_)
    · refine lv_aload_n hx hb dX0_statusOfAct_27 rfl (lv_at hl 1 rfl) ?_
      refine lv_iload_n hx hb dX0_statusOfAct_28 rfl (lv_at hl 2 rfl) ?_
      refine lv_iload_n hx hb dX0_statusOfAct_29 rfl (lv_at hl 3 rfl) ?_
      have hPc := hP.sub (ws' := [(h0, .inr (0, [.int a0, .int a1, .int a2, .int a3, .int a4, .int a5, .int a6, .int a7, .int a8, .int a9, .int a10, .int a11]))]) [0] rfl
      have hDc := hD.sub (ws' := [(h0, .inr (0, [.int a0, .int a1, .int a2, .int a3, .int a4, .int a5, .int a6, .int a7, .int a8, .int a9, .int a10, .int a11]))]) [0] (by decide) rfl
      have hKc := hK.sub (tys' := []) [] rfl
      have hFc := va_free (wc := [(h0, .inr (0, [.int a0, .int a1, .int a2, .int a3, .int a4, .int a5, .int a6, .int a7, .int a8, .int a9, .int a10, .int a11]))]) hD hS hA [0] rfl
      refine va_calli (va_runV (As := [.int p0, .int p1]) (rest := []) ⟨hx, hb, hml, hown, hts⟩ (ct_X0_statusByOutcome l dC dI h0 H.size a0 a1 a2 a3 a4 a5 a6 a7 a8 a9 a10 a11 p0 p1) (cwV 2 hts gX0_statusOfAct_X0_statusByOutcome rfl rfl rfl (by decide +kernel) ⟨Nat.le_of_ble_eq_true rfl, Nat.le_of_ble_eq_true rfl⟩) ⟨fun a U g mk q => by obtain ⟨q0, q1, qP, qK, qD⟩ := q; exact ⟨q0, q1, qP, va_K.moved (u := U) (U := U.calling g mk a) (Vm.Alike.refl U.vm) qK, qD⟩, va_recv hKc hPc (ci := 0) (q0 := 0) rfl rfl, fun U hU hW => ⟨rfl, by rw [hU], by rw [hU]; exact hPc, va_K.moved hW.alike hKc, hDc.weaken (fun _ _ _ _ => trivial)⟩⟩ rfl rfl hl.1 rfl (lv_room (Nat.le_of_ble_eq_true rfl)) dX0_statusOfAct_30 ⟨(Nat.zero_le _), (Nat.zero_le _)⟩) hS (fun q _ h => hFc q h) hFc (fun r_4 u t H1 locs ht hvm hw hB hz1 hk1 hS => ?_)
      obtain ⟨er, hu⟩ := hw
      subst hu
      subst er
      obtain ⟨hP1, -, hD1⟩ := hB
      rw [ht] at hP1
      obtain ⟨hP, hD⟩ := va_join (wr := []) (w1 := [(h0, .inr (0, [.int a0, .int a1, .int a2, .int a3, .int a4, .int a5, .int a6, .int a7, .int a8, .int a9, .int a10, .int a11]))]) hP hD [0] [] rfl rfl (by decide) (by decide) hk1 hFc hP1 hD1
      generalize H1 = H at hP hS ⊢
      have hP : va_P (dC, dI) vwCl [(h0, .inr (0, [.int a0, .int a1, .int a2, .int a3, .int a4, .int a5, .int a6, .int a7, .int a8, .int a9, .int a10, .int a11]))] H := hP
      have hD : va_D A [(h0, .inr (0, [.int a0, .int a1, .int a2, .int a3, .int a4, .int a5, .int a6, .int a7, .int a8, .int a9, .int a10, .int a11]))] := hD
      have hP9 := hP.sub (ws' := [(h0, .inr (0, [.int a0, .int a1, .int a2, .int a3, .int a4, .int a5, .int a6, .int a7, .int a8, .int a9, .int a10, .int a11]))]) [0] rfl
      have hD9 := hD.sub (ws' := [(h0, .inr (0, [.int a0, .int a1, .int a2, .int a3, .int a4, .int a5, .int a6, .int a7, .int a8, .int a9, .int a10, .int a11]))]) [0] (by decide) rfl
      have hK9 := hK.sub (tys' := []) [] rfl
      have ef : fx_X0_statusOfAct a0 a1 a2 a4 a5 a6 p0 p1 = fx_X0_statusByOutcome a0 p0 p1 := by unfold fx_X0_statusOfAct; rw [if_pos c_2, if_neg c_3]
      exact W.iret (v := fx_X0_statusByOutcome a0 p0 p1) hx hb hr (fun t ht hW => ⟨⟨(fx_X0_statusByOutcome a0 p0 p1), [(h0, .inr (0, [.int a0, .int a1, .int a2, .int a3, .int a4, .int a5, .int a6, .int a7, .int a8, .int a9, .int a10, .int a11]))], rfl, ⟨ef.symm, rfl⟩, by rw [ht]; exact hP9, va_K.moved hW.alike hK9, hD9⟩, hS.F ht⟩) hS.2.2 dX0_statusOfAct_33
    refine lv_aload_n hx hb dX0_statusOfAct_17 rfl (lv_at hl 1 rfl) ?_
    refine va_get (D := (dC, dI)) (ci := 0) (v := .int a5) (C := RX0) (T := TX0) (N := 12) hx hb hts (fun _ h => List.mem_cons_of_mem _ (List.mem_append_right _ h)) hown hK hP 0 rfl rfl 5 (by decide) (hts (.fieldLink RX0 23 "FileStatus" "endIsNext" "Z") (by decide +kernel)) (fun _ h9 => h9) rfl dX0_statusOfAct_18 ?_
    refine lv_if_eq (tgt := 27) hx hb dX0_statusOfAct_21 (by decide) (fun c_5 => ?_) (fun c_5 => ?_)
    · refine lv_aload_n hx hb dX0_statusOfAct_27 rfl (lv_at hl 1 rfl) ?_
      refine lv_iload_n hx hb dX0_statusOfAct_28 rfl (lv_at hl 2 rfl) ?_
      refine lv_iload_n hx hb dX0_statusOfAct_29 rfl (lv_at hl 3 rfl) ?_
      have hPc := hP.sub (ws' := [(h0, .inr (0, [.int a0, .int a1, .int a2, .int a3, .int a4, .int a5, .int a6, .int a7, .int a8, .int a9, .int a10, .int a11]))]) [0] rfl
      have hDc := hD.sub (ws' := [(h0, .inr (0, [.int a0, .int a1, .int a2, .int a3, .int a4, .int a5, .int a6, .int a7, .int a8, .int a9, .int a10, .int a11]))]) [0] (by decide) rfl
      have hKc := hK.sub (tys' := []) [] rfl
      have hFc := va_free (wc := [(h0, .inr (0, [.int a0, .int a1, .int a2, .int a3, .int a4, .int a5, .int a6, .int a7, .int a8, .int a9, .int a10, .int a11]))]) hD hS hA [0] rfl
      refine va_calli (va_runV (As := [.int p0, .int p1]) (rest := []) ⟨hx, hb, hml, hown, hts⟩ (ct_X0_statusByOutcome l dC dI h0 H.size a0 a1 a2 a3 a4 a5 a6 a7 a8 a9 a10 a11 p0 p1) (cwV 2 hts gX0_statusOfAct_X0_statusByOutcome rfl rfl rfl (by decide +kernel) ⟨Nat.le_of_ble_eq_true rfl, Nat.le_of_ble_eq_true rfl⟩) ⟨fun a U g mk q => by obtain ⟨q0, q1, qP, qK, qD⟩ := q; exact ⟨q0, q1, qP, va_K.moved (u := U) (U := U.calling g mk a) (Vm.Alike.refl U.vm) qK, qD⟩, va_recv hKc hPc (ci := 0) (q0 := 0) rfl rfl, fun U hU hW => ⟨rfl, by rw [hU], by rw [hU]; exact hPc, va_K.moved hW.alike hKc, hDc.weaken (fun _ _ _ _ => trivial)⟩⟩ rfl rfl hl.1 rfl (lv_room (Nat.le_of_ble_eq_true rfl)) dX0_statusOfAct_30 ⟨(Nat.zero_le _), (Nat.zero_le _)⟩) hS (fun q _ h => hFc q h) hFc (fun r_6 u t H1 locs ht hvm hw hB hz1 hk1 hS => ?_)
      obtain ⟨er, hu⟩ := hw
      subst hu
      subst er
      obtain ⟨hP1, -, hD1⟩ := hB
      rw [ht] at hP1
      obtain ⟨hP, hD⟩ := va_join (wr := []) (w1 := [(h0, .inr (0, [.int a0, .int a1, .int a2, .int a3, .int a4, .int a5, .int a6, .int a7, .int a8, .int a9, .int a10, .int a11]))]) hP hD [0] [] rfl rfl (by decide) (by decide) hk1 hFc hP1 hD1
      generalize H1 = H at hP hS ⊢
      have hP : va_P (dC, dI) vwCl [(h0, .inr (0, [.int a0, .int a1, .int a2, .int a3, .int a4, .int a5, .int a6, .int a7, .int a8, .int a9, .int a10, .int a11]))] H := hP
      have hD : va_D A [(h0, .inr (0, [.int a0, .int a1, .int a2, .int a3, .int a4, .int a5, .int a6, .int a7, .int a8, .int a9, .int a10, .int a11]))] := hD
      have hP9 := hP.sub (ws' := [(h0, .inr (0, [.int a0, .int a1, .int a2, .int a3, .int a4, .int a5, .int a6, .int a7, .int a8, .int a9, .int a10, .int a11]))]) [0] rfl
      have hD9 := hD.sub (ws' := [(h0, .inr (0, [.int a0, .int a1, .int a2, .int a3, .int a4, .int a5, .int a6, .int a7, .int a8, .int a9, .int a10, .int a11]))]) [0] (by decide) rfl
      have hK9 := hK.sub (tys' := []) [] rfl
      have ef : fx_X0_statusOfAct a0 a1 a2 a4 a5 a6 p0 p1 = fx_X0_statusByOutcome a0 p0 p1 := by unfold fx_X0_statusOfAct; rw [if_pos c_2, if_pos c_3, if_pos c_5]
      exact W.iret (v := fx_X0_statusByOutcome a0 p0 p1) hx hb hr (fun t ht hW => ⟨⟨(fx_X0_statusByOutcome a0 p0 p1), [(h0, .inr (0, [.int a0, .int a1, .int a2, .int a3, .int a4, .int a5, .int a6, .int a7, .int a8, .int a9, .int a10, .int a11]))], rfl, ⟨ef.symm, rfl⟩, by rw [ht]; exact hP9, va_K.moved hW.alike hK9, hD9⟩, hS.F ht⟩) hS.2.2 dX0_statusOfAct_33
    refine lv_bipush (v := 10) hx hb dX0_statusOfAct_24 (by decide) ?_
    have hP9 := hP.sub (ws' := [(h0, .inr (0, [.int a0, .int a1, .int a2, .int a3, .int a4, .int a5, .int a6, .int a7, .int a8, .int a9, .int a10, .int a11]))]) [0] rfl
    have hD9 := hD.sub (ws' := [(h0, .inr (0, [.int a0, .int a1, .int a2, .int a3, .int a4, .int a5, .int a6, .int a7, .int a8, .int a9, .int a10, .int a11]))]) [0] (by decide) rfl
    have hK9 := hK.sub (tys' := []) [] rfl
    have ef : fx_X0_statusOfAct a0 a1 a2 a4 a5 a6 p0 p1 = 10 := by unfold fx_X0_statusOfAct; rw [if_pos c_2, if_pos c_3, if_neg c_5]
    exact W.iret (v := 10) hx hb hr (fun t ht hW => ⟨⟨10, [(h0, .inr (0, [.int a0, .int a1, .int a2, .int a3, .int a4, .int a5, .int a6, .int a7, .int a8, .int a9, .int a10, .int a11]))], rfl, ⟨ef.symm, rfl⟩, by rw [ht]; exact hP9, va_K.moved hW.alike hK9, hD9⟩, hS.F ht⟩) hS.2.2 dX0_statusOfAct_26
  refine lv_iload_n hx hb dX0_statusOfAct_11 rfl (lv_at hl 0 rfl) ?_
  have hP9 := hP.sub (ws' := [(h0, .inr (0, [.int a0, .int a1, .int a2, .int a3, .int a4, .int a5, .int a6, .int a7, .int a8, .int a9, .int a10, .int a11]))]) [0] rfl
  have hD9 := hD.sub (ws' := [(h0, .inr (0, [.int a0, .int a1, .int a2, .int a3, .int a4, .int a5, .int a6, .int a7, .int a8, .int a9, .int a10, .int a11]))]) [0] (by decide) rfl
  have hK9 := hK.sub (tys' := []) [] rfl
  have ef : fx_X0_statusOfAct a0 a1 a2 a4 a5 a6 p0 p1 = fx_X0_statusAheadOfOutcome a0 a1 a2 a4 a6 p0 := by unfold fx_X0_statusOfAct; rw [if_neg c_2]
  exact W.iret (v := fx_X0_statusAheadOfOutcome a0 a1 a2 a4 a6 p0) hx hb hr (fun t ht hW => ⟨⟨(fx_X0_statusAheadOfOutcome a0 a1 a2 a4 a6 p0), [(h0, .inr (0, [.int a0, .int a1, .int a2, .int a3, .int a4, .int a5, .int a6, .int a7, .int a8, .int a9, .int a10, .int a11]))], rfl, ⟨ef.symm, rfl⟩, by rw [ht]; exact hP9, va_K.moved hW.alike hK9, hD9⟩, hS.F ht⟩) hS.2.2 dX0_statusOfAct_12
