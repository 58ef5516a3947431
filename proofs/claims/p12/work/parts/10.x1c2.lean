set_option maxHeartbeats 4000000 in
set_option maxRecDepth 100000 in
theorem ct_X1_optional (l : Launch) (dC : Nat → ClassId) (dI : Nat → Nat → Nat) (h0 : Nat) (h1 : Nat) (sz : Nat) (a0 a1 a2 a3 a4 a5 a6 a7 a8 a9 a10 a11 p0 : Int32) (hb_p0 : p0 = 0 ∨ p0 = 1) : Met l yX1_optional wsX1_optional ({ frames := 0, cells := 0, slots := 0, locals := 0 }) (va_Pc [.ref h0, .int p0] (fun U => U.heap.size = sz ∧ va_P (dC, dI) vwCl [(h0, .inr (1, [.int a0, .int a1, .int a2, .int a3, .int a4, .int a5, .int a6, .int a7, .int a8, .int a9, .int a10, .int a11, .ref h1]))] U.heap ∧ va_K (dC, dI) vwCl [] U ∧ va_D (fun _ => True) [(h0, .inr (1, [.int a0, .int a1, .int a2, .int a3, .int a4, .int a5, .int a6, .int a7, .int a8, .int a9, .int a10, .int a11, .ref h1]))])) (va_Qi (fun (r : Int32) (u : va_W) => r = fx_X1_optional a8 a10 ∧ u = [(h0, .inr (1, [.int gx_X1_optional_0, .int a1, .int a2, .int a3, .int a4, .int a5, .int a6, .int a7, .int a8, .int a9, .int (gx_X1_optional_10 a8 a10 p0), .int a11, .ref h1]))]) (at_W dC dI [] (va_A [(h0, .inr (1, [.int a0, .int a1, .int a2, .int a3, .int a4, .int a5, .int a6, .int a7, .int a8, .int a9, .int a10, .int a11, .ref h1]))] sz)) (va_A [(h0, .inr (1, [.int a0, .int a1, .int a2, .int a3, .int a4, .int a5, .int a6, .int a7, .int a8, .int a9, .int a10, .int a11, .ref h1]))] sz)) 0 0 (va_A [(h0, .inr (1, [.int a0, .int a1, .int a2, .int a3, .int a4, .int a5, .int a6, .int a7, .int a8, .int a9, .int a10, .int a11, .ref h1]))] sz) := by
  refine Met.ofW (cc := cX1_optional) (maxL := 3) (ret := (some .int)) (by decide) rfl ?_
  intro p e s m args below meth c s₁ B hml hv
  obtain ⟨rfl, hsz, hP, hK, hD0⟩ := hv
  have hx := B.exec
  have hb := B.bytes
  have hr := B.returns
  have hts := atoms_spec (ws := wsX1_optional) B.pre
  have hown : s.vm.findClass RX1 = some m.cls := findClass_of_methodNamed B.named
  have hlocks := B.notSynchronized
  have hz_p0 : narrow .boolean (.int p0) = .int p0 ∧ fits .boolean (.int p0) = true := by rcases hb_p0 with rfl | rfl <;> exact ⟨rfl, rfl⟩
  subst hsz
  have hD := hD0.self (sz := s.heap.size)
  generalize hAe : va_A [(h0, .inr (1, [.int a0, .int a1, .int a2, .int a3, .int a4, .int a5, .int a6, .int a7, .int a8, .int a9, .int a10, .int a11, .ref h1]))] s.heap.size = A at hD ⊢
  have hA : ∀ q : Nat, s.heap.size ≤ q → A q := fun q h => by rw [← hAe]; exact Or.inr h
  have hS : va_S A s.heap s.heap [] := va_S.rf
  have hP : va_P (dC, dI) vwCl [(h0, .inr (1, [.int a0, .int a1, .int a2, .int a3, .int a4, .int a5, .int a6, .int a7, .int a8, .int a9, .int a10, .int a11, .ref h1]))] s.heap := hP
  have hl := lv_entry ([.ref h0, .int p0]) (n := 3) (Nat.le_of_ble_eq_true rfl)
  rw [lg_entry_eq]
  generalize (lg_sl ([.ref h0, .int p0]) ++ List.replicate (3 - (lg_sl ([.ref h0, .int p0])).length) Slot.unset).toArray = ls at hl ⊢
  have hl : lv_has ls 3 [(0, .ref h0), (1, .int p0)] := hl
  refine lv_aload_n hx hb dX1_optional_0 rfl (lv_at hl 0 rfl) ?_
  refine lv_iconst (v := 0) hx hb dX1_optional_1 (by decide) ?_
  refine va_put (D := (dC, dI)) (ci := 1) (v := .int 0) (ty := .int) (C := RX1) (T := TX1) (N := 13) hx hb hts (fun _ h => List.mem_cons_of_mem _ (List.mem_append_right _ h)) tyX1 tyX1_ok nmX1 hown hK hP hD hS 0 rfl rfl 0 (by decide) (hts (.fieldLink RX1 20 "FileStatusModel" "code" "I") (by decide +kernel)) (fun _ h9 => h9) rfl (by decide +kernel) rfl rfl (Nat.le_of_ble_eq_true rfl) dX1_optional_2 (fun H locs hP hD hS => ?_)
  have hP : va_P (dC, dI) vwCl [(h0, .inr (1, [.int 0, .int a1, .int a2, .int a3, .int a4, .int a5, .int a6, .int a7, .int a8, .int a9, .int a10, .int a11, .ref h1]))] H := hP
  have hD : va_D A [(h0, .inr (1, [.int 0, .int a1, .int a2, .int a3, .int a4, .int a5, .int a6, .int a7, .int a8, .int a9, .int a10, .int a11, .ref h1]))] := hD
  refine lv_aload_n hx hb dX1_optional_5 rfl (lv_at hl 0 rfl) ?_
  refine va_get (D := (dC, dI)) (ci := 1) (v := .int a8) (C := RX1) (T := TX1) (N := 13) hx hb hts (fun _ h => List.mem_cons_of_mem _ (List.mem_append_right _ h)) hown hK hP 0 rfl rfl 8 (by decide) (hts (.fieldLink RX1 23 "FileStatusModel" "isOpen" "Z") (by decide +kernel)) (fun _ h9 => h9) rfl dX1_optional_6 ?_
  refine lv_if_eq (tgt := 15) hx hb dX1_optional_9 (by decide) (fun c_1 => ?_) (fun c_1 => ?_)
  · refine lv_aload_n hx hb dX1_optional_15 rfl (lv_at hl 0 rfl) ?_
    refine va_get (D := (dC, dI)) (ci := 1) (v := .int a10) (C := RX1) (T := TX1) (N := 13) hx hb hts (fun _ h => List.mem_cons_of_mem _ (List.mem_append_right _ h)) hown hK hP 0 rfl rfl 10 (by decide) (hts (.fieldLink RX1 56 "FileStatusModel" "optional" "Z") (by decide +kernel)) (fun _ h9 => h9) rfl dX1_optional_16 ?_
    refine lv_if_eq (tgt := 26) hx hb dX1_optional_19 (by decide) (fun c_2 => ?_) (fun c_2 => ?_)
    · refine lv_iconst (v := 0) hx hb dX1_optional_26 (by decide) ?_
      refine lv_istore_n (lv' := [(2, .int 0), (0, .ref h0), (1, .int p0)]) hx hb dX1_optional_27 rfl hl (by decide) rfl (fun ls hl => ?_)
      refine lv_aload_n hx hb dX1_optional_28 rfl (lv_at hl 1 rfl) ?_
      refine lv_iload_n hx hb dX1_optional_29 rfl (lv_at hl 2 rfl) ?_
      refine va_put (D := (dC, dI)) (ci := 1) (v := .int p0) (ty := .boolean) (C := RX1) (T := TX1) (N := 13) hx hb hts (fun _ h => List.mem_cons_of_mem _ (List.mem_append_right _ h)) tyX1 tyX1_ok nmX1 hown hK hP hD hS 0 rfl rfl 10 (by decide) (hts (.fieldLink RX1 56 "FileStatusModel" "optional" "Z") (by decide +kernel)) (fun _ h9 => h9) rfl (by decide +kernel) hz_p0.1 hz_p0.2 (Nat.le_of_ble_eq_true rfl) dX1_optional_30 (fun H locs hP hD hS => ?_)
      have hP : va_P (dC, dI) vwCl [(h0, .inr (1, [.int 0, .int a1, .int a2, .int a3, .int a4, .int a5, .int a6, .int a7, .int a8, .int a9, .int p0, .int a11, .ref h1]))] H := hP
      have hD : va_D A [(h0, .inr (1, [.int 0, .int a1, .int a2, .int a3, .int a4, .int a5, .int a6, .int a7, .int a8, .int a9, .int p0, .int a11, .ref h1]))] := hD
      refine lv_iload_n hx hb dX1_optional_33 rfl (lv_at hl 0 rfl) ?_
      have hP9 := hP.sub (ws' := [(h0, .inr (1, [.int 0, .int a1, .int a2, .int a3, .int a4, .int a5, .int a6, .int a7, .int a8, .int a9, .int p0, .int a11, .ref h1]))]) [0] rfl
      have hD9 := hD.sub (ws' := [(h0, .inr (1, [.int 0, .int a1, .int a2, .int a3, .int a4, .int a5, .int a6, .int a7, .int a8, .int a9, .int p0, .int a11, .ref h1]))]) [0] (by decide) rfl
      have hK9 := hK.sub (tys' := []) [] rfl
      have eg_0 : gx_X1_optional_0 = 0 := by rfl
      have eg_10 : gx_X1_optional_10 a8 a10 p0 = p0 := by unfold gx_X1_optional_10; rw [if_pos c_1]
      have ef : fx_X1_optional a8 a10 = 0 := by unfold fx_X1_optional; rw [if_pos c_1, if_pos c_2]
      exact W.iret (v := 0) hx hb hr (fun t ht hW => ⟨⟨0, [(h0, .inr (1, [.int 0, .int a1, .int a2, .int a3, .int a4, .int a5, .int a6, .int a7, .int a8, .int a9, .int p0, .int a11, .ref h1]))], rfl, ⟨ef.symm, by rw [eg_0, eg_10]⟩, by rw [ht]; exact hP9, va_K.moved hW.alike hK9, hD9⟩, hS.F ht⟩) hS.2.2 dX1_optional_34
    refine lv_iconst (v := 1) hx hb dX1_optional_22 (by decide) ?_
    refine lv_goto (tgt := 27) hx hb dX1_optional_23 (by decide) ?_
    refine lv_istore_n (lv' := [(2, .int 1), (0, .ref h0), (1, .int p0)]) hx hb dX1_optional_27 rfl hl (by decide) rfl (fun ls hl => ?_)
    refine lv_aload_n hx hb dX1_optional_28 rfl (lv_at hl 1 rfl) ?_
    refine lv_iload_n hx hb dX1_optional_29 rfl (lv_at hl 2 rfl) ?_
    refine va_put (D := (dC, dI)) (ci := 1) (v := .int p0) (ty := .boolean) (C := RX1) (T := TX1) (N := 13) hx hb hts (fun _ h => List.mem_cons_of_mem _ (List.mem_append_right _ h)) tyX1 tyX1_ok nmX1 hown hK hP hD hS 0 rfl rfl 10 (by decide) (hts (.fieldLink RX1 56 "FileStatusModel" "optional" "Z") (by decide +kernel)) (fun _ h9 => h9) rfl (by decide +kernel) hz_p0.1 hz_p0.2 (Nat.le_of_ble_eq_true rfl) dX1_optional_30 (fun H locs hP hD hS => ?_)
    have hP : va_P (dC, dI) vwCl [(h0, .inr (1, [.int 0, .int a1, .int a2, .int a3, .int a4, .int a5, .int a6, .int a7, .int a8, .int a9, .int p0, .int a11, .ref h1]))] H := hP
    have hD : va_D A [(h0, .inr (1, [.int 0, .int a1, .int a2, .int a3, .int a4, .int a5, .int a6, .int a7, .int a8, .int a9, .int p0, .int a11, .ref h1]))] := hD
    refine lv_iload_n hx hb dX1_optional_33 rfl (lv_at hl 0 rfl) ?_
    have hP9 := hP.sub (ws' := [(h0, .inr (1, [.int 0, .int a1, .int a2, .int a3, .int a4, .int a5, .int a6, .int a7, .int a8, .int a9, .int p0, .int a11, .ref h1]))]) [0] rfl
    have hD9 := hD.sub (ws' := [(h0, .inr (1, [.int 0, .int a1, .int a2, .int a3, .int a4, .int a5, .int a6, .int a7, .int a8, .int a9, .int p0, .int a11, .ref h1]))]) [0] (by decide) rfl
    have hK9 := hK.sub (tys' := []) [] rfl
    have eg_0 : gx_X1_optional_0 = 0 := by rfl
    have eg_10 : gx_X1_optional_10 a8 a10 p0 = p0 := by unfold gx_X1_optional_10; rw [if_pos c_1]
    have ef : fx_X1_optional a8 a10 = 1 := by unfold fx_X1_optional; rw [if_pos c_1, if_neg c_2]
    exact W.iret (v := 1) hx hb hr (fun t ht hW => ⟨⟨1, [(h0, .inr (1, [.int 0, .int a1, .int a2, .int a3, .int a4, .int a5, .int a6, .int a7, .int a8, .int a9, .int p0, .int a11, .ref h1]))], rfl, ⟨ef.symm, by rw [eg_0, eg_10]⟩, by rw [ht]; exact hP9, va_K.moved hW.alike hK9, hD9⟩, hS.F ht⟩) hS.2.2 dX1_optional_34
  refine lv_bipush (v := (-5)) hx hb dX1_optional_12 (by decide) ?_
  have hP9 := hP.sub (ws' := [(h0, .inr (1, [.int 0, .int a1, .int a2, .int a3, .int a4, .int a5, .int a6, .int a7, .int a8, .int a9, .int a10, .int a11, .ref h1]))]) [0] rfl
  have hD9 := hD.sub (ws' := [(h0, .inr (1, [.int 0, .int a1, .int a2, .int a3, .int a4, .int a5, .int a6, .int a7, .int a8, .int a9, .int a10, .int a11, .ref h1]))]) [0] (by decide) rfl
  have hK9 := hK.sub (tys' := []) [] rfl
  have eg_0 : gx_X1_optional_0 = 0 := by rfl
  have eg_10 : gx_X1_optional_10 a8 a10 p0 = a10 := by unfold gx_X1_optional_10; rw [if_neg c_1]
  have ef : fx_X1_optional a8 a10 = (-5) := by unfold fx_X1_optional; rw [if_neg c_1]
  exact W.iret (v := (-5)) hx hb hr (fun t ht hW => ⟨⟨(-5), [(h0, .inr (1, [.int 0, .int a1, .int a2, .int a3, .int a4, .int a5, .int a6, .int a7, .int a8, .int a9, .int a10, .int a11, .ref h1]))], rfl, ⟨ef.symm, by rw [eg_0, eg_10]⟩, by rw [ht]; exact hP9, va_K.moved hW.alike hK9, hD9⟩, hS.F ht⟩) hS.2.2 dX1_optional_14
set_option maxHeartbeats 4000000 in
set_option maxRecDepth 100000 in
theorem ct_X1_both (l : Launch) (dC : Nat → ClassId) (dI : Nat → Nat → Nat) (h0 : Nat) (h1 : Nat) (sz : Nat) (a0 a1 a2 a3 a4 a5 a6 a7 a8 a9 a10 a11 p0 p1 : Int32) : Met l yX1_both wsX1_both ({ frames := 1, cells := 0, slots := 0, locals := 21 }) (va_Pc [.ref h0, .int p0, .int p1] (fun U => U.heap.size = sz ∧ va_P (dC, dI) vwCl [(h0, .inr (1, [.int a0, .int a1, .int a2, .int a3, .int a4, .int a5, .int a6, .int a7, .int a8, .int a9, .int a10, .int a11, .ref h1]))] U.heap ∧ va_K (dC, dI) vwCl [] U ∧ va_D (fun _ => True) [(h0, .inr (1, [.int a0, .int a1, .int a2, .int a3, .int a4, .int a5, .int a6, .int a7, .int a8, .int a9, .int a10, .int a11, .ref h1]))])) (va_Qi (fun (r : Int32) (u : va_W) => r = fx_X1_both p0 p1 ∧ u = [(h0, .inr (1, [.int gx_X1_both_0, .int a1, .int a2, .int a3, .int a4, .int a5, .int a6, .int a7, .int a8, .int a9, .int a10, .int a11, .ref h1]))]) (at_W dC dI [] (va_A [(h0, .inr (1, [.int a0, .int a1, .int a2, .int a3, .int a4, .int a5, .int a6, .int a7, .int a8, .int a9, .int a10, .int a11, .ref h1]))] sz)) (va_A [(h0, .inr (1, [.int a0, .int a1, .int a2, .int a3, .int a4, .int a5, .int a6, .int a7, .int a8, .int a9, .int a10, .int a11, .ref h1]))] sz)) 0 0 (va_A [(h0, .inr (1, [.int a0, .int a1, .int a2, .int a3, .int a4, .int a5, .int a6, .int a7, .int a8, .int a9, .int a10, .int a11, .ref h1]))] sz) := by
  refine Met.ofW (cc := cX1_both) (maxL := 3) (ret := (some .int)) (by decide) rfl ?_
  intro p e s m args below meth c s₁ B hml hv
  obtain ⟨rfl, hsz, hP, hK, hD0⟩ := hv
  have hx := B.exec
  have hb := B.bytes
  have hr := B.returns
  have hts := atoms_spec (ws := wsX1_both) B.pre
  have hown : s.vm.findClass RX1 = some m.cls := findClass_of_methodNamed B.named
  have hlocks := B.notSynchronized
  subst hsz
  have hD := hD0.self (sz := s.heap.size)
  generalize hAe : va_A [(h0, .inr (1, [.int a0, .int a1, .int a2, .int a3, .int a4, .int a5, .int a6, .int a7, .int a8, .int a9, .int a10, .int a11, .ref h1]))] s.heap.size = A at hD ⊢
  have hA : ∀ q : Nat, s.heap.size ≤ q → A q := fun q h => by rw [← hAe]; exact Or.inr h
  have hS : va_S A s.heap s.heap [] := va_S.rf
  have hP : va_P (dC, dI) vwCl [(h0, .inr (1, [.int a0, .int a1, .int a2, .int a3, .int a4, .int a5, .int a6, .int a7, .int a8, .int a9, .int a10, .int a11, .ref h1]))] s.heap := hP
  have hl := lv_entry ([.ref h0, .int p0, .int p1]) (n := 3) (Nat.le_of_ble_eq_true rfl)
  rw [lg_entry_eq]
  generalize (lg_sl ([.ref h0, .int p0, .int p1]) ++ List.replicate (3 - (lg_sl ([.ref h0, .int p0, .int p1])).length) Slot.unset).toArray = ls at hl ⊢
  have hl : lv_has ls 3 [(0, .ref h0), (1, .int p0), (2, .int p1)] := hl
  refine lv_aload_n hx hb dX1_both_0 rfl (lv_at hl 0 rfl) ?_
  refine lv_iconst (v := 0) hx hb dX1_both_1 (by decide) ?_
  refine va_put (D := (dC, dI)) (ci := 1) (v := .int 0) (ty := .int) (C := RX1) (T := TX1) (N := 13) hx hb hts (fun _ h => List.mem_cons_of_mem _ (List.mem_append_right _ h)) tyX1 tyX1_ok nmX1 hown hK hP hD hS 0 rfl rfl 0 (by decide) (hts (.fieldLink RX1 20 "FileStatusModel" "code" "I") (by decide +kernel)) (fun _ h9 => h9) rfl (by decide +kernel) rfl rfl (Nat.le_of_ble_eq_true rfl) dX1_both_2 (fun H locs hP hD hS => ?_)
  have hP : va_P (dC, dI) vwCl [(h0, .inr (1, [.int 0, .int a1, .int a2, .int a3, .int a4, .int a5, .int a6, .int a7, .int a8, .int a9, .int a10, .int a11, .ref h1]))] H := hP
  have hD : va_D A [(h0, .inr (1, [.int 0, .int a1, .int a2, .int a3, .int a4, .int a5, .int a6, .int a7, .int a8, .int a9, .int a10, .int a11, .ref h1]))] := hD
  refine lv_iload_n hx hb dX1_both_5 rfl (lv_at hl 1 rfl) ?_
  have hPc := hP.sub (ws' := []) [] rfl
  have hDc := hD.sub (ws' := []) [] (by decide) rfl
  have hKc := hK.sub (tys' := []) [] rfl
  have hFc := va_free (wc := []) hD hS hA [] rfl
  refine va_calli (va_runS (As := [.int p0]) (rest := []) ⟨hx, hb, hml, hown, hts⟩ (ct_X1_isStatus l dC dI H.size p0) (va_cwS 1 hts gX1_both_X1_isStatus rfl rfl rfl (by decide +kernel) ⟨Nat.le_of_ble_eq_true rfl, Nat.le_of_ble_eq_true rfl⟩) ⟨fun a U g mk q => by obtain ⟨q0, q1, qP, qK, qD⟩ := q; exact ⟨q0, q1, qP, va_K.moved (u := U) (U := U.calling g mk a) (Vm.Alike.refl U.vm) qK, qD⟩, fun U hU hW => ⟨rfl, by rw [hU], by rw [hU]; exact hPc, va_K.moved hW.alike hKc, hDc.weaken (fun _ _ _ _ => trivial)⟩⟩ rfl rfl hl.1 rfl (lv_room (Nat.le_of_ble_eq_true rfl)) dX1_both_6 ⟨(Nat.zero_le _), (Nat.zero_le _)⟩) hS (fun q _ h => hFc q h) hFc (fun r_1 u t H1 locs ht hvm hw hB hz1 hk1 hS => ?_)
  obtain ⟨er, hu⟩ := hw
  subst hu
  subst er
  obtain ⟨hP1, -, hD1⟩ := hB
  rw [ht] at hP1
  obtain ⟨hP, hD⟩ := va_join (wr := [(h0, .inr (1, [.int 0, .int a1, .int a2, .int a3, .int a4, .int a5, .int a6, .int a7, .int a8, .int a9, .int a10, .int a11, .ref h1]))]) (w1 := []) hP hD [] [0] rfl rfl (by decide) (by decide) hk1 hFc hP1 hD1
  generalize H1 = H at hP hS ⊢
  have hP : va_P (dC, dI) vwCl [(h0, .inr (1, [.int 0, .int a1, .int a2, .int a3, .int a4, .int a5, .int a6, .int a7, .int a8, .int a9, .int a10, .int a11, .ref h1]))] H := hP
  have hD : va_D A [(h0, .inr (1, [.int 0, .int a1, .int a2, .int a3, .int a4, .int a5, .int a6, .int a7, .int a8, .int a9, .int a10, .int a11, .ref h1]))] := hD
  refine lv_if_eq (tgt := 19) hx hb dX1_both_9 (by decide) (fun c_2 => ?_) (fun c_2 => ?_)
  · refine lv_iconst (v := (-1)) hx hb dX1_both_19 (by decide) ?_
    have hP9 := hP.sub (ws' := [(h0, .inr (1, [.int 0, .int a1, .int a2, .int a3, .int a4, .int a5, .int a6, .int a7, .int a8, .int a9, .int a10, .int a11, .ref h1]))]) [0] rfl
    have hD9 := hD.sub (ws' := [(h0, .inr (1, [.int 0, .int a1, .int a2, .int a3, .int a4, .int a5, .int a6, .int a7, .int a8, .int a9, .int a10, .int a11, .ref h1]))]) [0] (by decide) rfl
    have hK9 := hK.sub (tys' := []) [] rfl
    have eg_0 : gx_X1_both_0 = 0 := by rfl
    have ef : fx_X1_both p0 p1 = (-1) := by unfold fx_X1_both; rw [if_pos c_2]
    exact W.iret (v := (-1)) hx hb hr (fun t ht hW => ⟨⟨(-1), [(h0, .inr (1, [.int 0, .int a1, .int a2, .int a3, .int a4, .int a5, .int a6, .int a7, .int a8, .int a9, .int a10, .int a11, .ref h1]))], rfl, ⟨ef.symm, by rw [eg_0]⟩, by rw [ht]; exact hP9, va_K.moved hW.alike hK9, hD9⟩, hS.F ht⟩) hS.2.2 dX1_both_20
  refine lv_iload_n hx hb dX1_both_12 rfl (lv_at hl 2 rfl) ?_
  have hPc := hP.sub (ws' := []) [] rfl
  have hDc := hD.sub (ws' := []) [] (by decide) rfl
  have hKc := hK.sub (tys' := []) [] rfl
  have hFc := va_free (wc := []) hD hS hA [] rfl
  refine va_calli (va_runS (As := [.int p1]) (rest := []) ⟨hx, hb, hml, hown, hts⟩ (ct_X1_isStatus l dC dI H.size p1) (va_cwS 1 hts gX1_both_X1_isStatus rfl rfl rfl (by decide +kernel) ⟨Nat.le_of_ble_eq_true rfl, Nat.le_of_ble_eq_true rfl⟩) ⟨fun a U g mk q => by obtain ⟨q0, q1, qP, qK, qD⟩ := q; exact ⟨q0, q1, qP, va_K.moved (u := U) (U := U.calling g mk a) (Vm.Alike.refl U.vm) qK, qD⟩, fun U hU hW => ⟨rfl, by rw [hU], by rw [hU]; exact hPc, va_K.moved hW.alike hKc, hDc.weaken (fun _ _ _ _ => trivial)⟩⟩ rfl rfl hl.1 rfl (lv_room (Nat.le_of_ble_eq_true rfl)) dX1_both_13 ⟨(Nat.zero_le _), (Nat.zero_le _)⟩) hS (fun q _ h => hFc q h) hFc (fun r_3 u t H1 locs ht hvm hw hB hz1 hk1 hS => ?_)
  obtain ⟨er, hu⟩ := hw
  subst hu
  subst er
  obtain ⟨hP1, -, hD1⟩ := hB
  rw [ht] at hP1
  obtain ⟨hP, hD⟩ := va_join (wr := [(h0, .inr (1, [.int 0, .int a1, .int a2, .int a3, .int a4, .int a5, .int a6, .int a7, .int a8, .int a9, .int a10, .int a11, .ref h1]))]) (w1 := []) hP hD [] [0] rfl rfl (by decide) (by decide) hk1 hFc hP1 hD1
  generalize H1 = H at hP hS ⊢
  have hP : va_P (dC, dI) vwCl [(h0, .inr (1, [.int 0, .int a1, .int a2, .int a3, .int a4, .int a5, .int a6, .int a7, .int a8, .int a9, .int a10, .int a11, .ref h1]))] H := hP
  have hD : va_D A [(h0, .inr (1, [.int 0, .int a1, .int a2, .int a3, .int a4, .int a5, .int a6, .int a7, .int a8, .int a9, .int a10, .int a11, .ref h1]))] := hD
  refine lv_if_ne (tgt := 21) hx hb dX1_both_16 (by decide) (fun c_4 => ?_) (fun c_4 => ?_)
  · refine lv_iload_n hx hb dX1_both_21 rfl (lv_at hl 1 rfl) ?_
    have hPc := hP.sub (ws' := []) [] rfl
    have hDc := hD.sub (ws' := []) [] (by decide) rfl
    have hKc := hK.sub (tys' := []) [] rfl
    have hFc := va_free (wc := []) hD hS hA [] rfl
    refine va_calli (va_runS (As := [.int p0]) (rest := []) ⟨hx, hb, hml, hown, hts⟩ (ct_X1_kindOf l dC dI H.size p0) (va_cwS 1 hts gX1_both_X1_kindOf rfl rfl rfl (by decide +kernel) ⟨Nat.le_of_ble_eq_true rfl, Nat.le_of_ble_eq_true rfl⟩) ⟨fun a U g mk q => by obtain ⟨q0, q1, qP, qK, qD⟩ := q; exact ⟨q0, q1, qP, va_K.moved (u := U) (U := U.calling g mk a) (Vm.Alike.refl U.vm) qK, qD⟩, fun U hU hW => ⟨rfl, by rw [hU], by rw [hU]; exact hPc, va_K.moved hW.alike hKc, hDc.weaken (fun _ _ _ _ => trivial)⟩⟩ rfl rfl hl.1 rfl (lv_room (Nat.le_of_ble_eq_true rfl)) dX1_both_22 ⟨(Nat.zero_le _), (Nat.zero_le _)⟩) hS (fun q _ h => hFc q h) hFc (fun r_5 u t H1 locs ht hvm hw hB hz1 hk1 hS => ?_)
    obtain ⟨er, hu⟩ := hw
    subst hu
    subst er
    obtain ⟨hP1, -, hD1⟩ := hB
    rw [ht] at hP1
    obtain ⟨hP, hD⟩ := va_join (wr := [(h0, .inr (1, [.int 0, .int a1, .int a2, .int a3, .int a4, .int a5, .int a6, .int a7, .int a8, .int a9, .int a10, .int a11, .ref h1]))]) (w1 := []) hP hD [] [0] rfl rfl (by decide) (by decide) hk1 hFc hP1 hD1
    generalize H1 = H at hP hS ⊢
    have hP : va_P (dC, dI) vwCl [(h0, .inr (1, [.int 0, .int a1, .int a2, .int a3, .int a4, .int a5, .int a6, .int a7, .int a8, .int a9, .int a10, .int a11, .ref h1]))] H := hP
    have hD : va_D A [(h0, .inr (1, [.int 0, .int a1, .int a2, .int a3, .int a4, .int a5, .int a6, .int a7, .int a8, .int a9, .int a10, .int a11, .ref h1]))] := hD
    refine lv_iload_n hx hb dX1_both_25 rfl (lv_at hl 2 rfl) ?_
    have hPc := hP.sub (ws' := []) [] rfl
    have hDc := hD.sub (ws' := []) [] (by decide) rfl
    have hKc := hK.sub (tys' := []) [] rfl
    have hFc := va_free (wc := []) hD hS hA [] rfl
    refine va_calli (va_runS (As := [.int p1]) (rest := [.int (fx_X1_kindOf p0)]) ⟨hx, hb, hml, hown, hts⟩ (ct_X1_kindOf l dC dI H.size p1) (va_cwS 1 hts gX1_both_X1_kindOf rfl rfl rfl (by decide +kernel) ⟨Nat.le_of_ble_eq_true rfl, Nat.le_of_ble_eq_true rfl⟩) ⟨fun a U g mk q => by obtain ⟨q0, q1, qP, qK, qD⟩ := q; exact ⟨q0, q1, qP, va_K.moved (u := U) (U := U.calling g mk a) (Vm.Alike.refl U.vm) qK, qD⟩, fun U hU hW => ⟨rfl, by rw [hU], by rw [hU]; exact hPc, va_K.moved hW.alike hKc, hDc.weaken (fun _ _ _ _ => trivial)⟩⟩ rfl rfl hl.1 rfl (lv_room (Nat.le_of_ble_eq_true rfl)) dX1_both_26 ⟨(Nat.zero_le _), (Nat.zero_le _)⟩) hS (fun q _ h => hFc q h) hFc (fun r_6 u t H1 locs ht hvm hw hB hz1 hk1 hS => ?_)
    obtain ⟨er, hu⟩ := hw
    subst hu
    subst er
    obtain ⟨hP1, -, hD1⟩ := hB
    rw [ht] at hP1
    obtain ⟨hP, hD⟩ := va_join (wr := [(h0, .inr (1, [.int 0, .int a1, .int a2, .int a3, .int a4, .int a5, .int a6, .int a7, .int a8, .int a9, .int a10, .int a11, .ref h1]))]) (w1 := []) hP hD [] [0] rfl rfl (by decide) (by decide) hk1 hFc hP1 hD1
    generalize H1 = H at hP hS ⊢
    have hP : va_P (dC, dI) vwCl [(h0, .inr (1, [.int 0, .int a1, .int a2, .int a3, .int a4, .int a5, .int a6, .int a7, .int a8, .int a9, .int a10, .int a11, .ref h1]))] H := hP
    have hD : va_D A [(h0, .inr (1, [.int 0, .int a1, .int a2, .int a3, .int a4, .int a5, .int a6, .int a7, .int a8, .int a9, .int a10, .int a11, .ref h1]))] := hD
    refine lv_icmp_eq (tgt := 49) hx hb dX1_both_29 (by decide) (fun c_7 => ?_) (fun c_7 => ?_)
    · refine lv_iload_n hx hb dX1_both_49 rfl (lv_at hl 1 rfl) ?_
      refine lv_iload_n hx hb dX1_both_50 rfl (lv_at hl 2 rfl) ?_
      refine lv_icmp_ge (tgt := 58) hx hb dX1_both_51 (by decide) (fun c_8 => ?_) (fun c_8 => ?_)
      · refine lv_iload_n hx hb dX1_both_58 rfl (lv_at hl 2 rfl) ?_
        have hP9 := hP.sub (ws' := [(h0, .inr (1, [.int 0, .int a1, .int a2, .int a3, .int a4, .int a5, .int a6, .int a7, .int a8, .int a9, .int a10, .int a11, .ref h1]))]) [0] rfl
        have hD9 := hD.sub (ws' := [(h0, .inr (1, [.int 0, .int a1, .int a2, .int a3, .int a4, .int a5, .int a6, .int a7, .int a8, .int a9, .int a10, .int a11, .ref h1]))]) [0] (by decide) rfl
        have hK9 := hK.sub (tys' := []) [] rfl
        have eg_0 : gx_X1_both_0 = 0 := by rfl
        have ef : fx_X1_both p0 p1 = p1 := by unfold fx_X1_both; rw [if_neg c_2, if_neg c_4, if_pos c_7, if_pos c_8]
        exact W.iret (v := p1) hx hb hr (fun t ht hW => ⟨⟨p1, [(h0, .inr (1, [.int 0, .int a1, .int a2, .int a3, .int a4, .int a5, .int a6, .int a7, .int a8, .int a9, .int a10, .int a11, .ref h1]))], rfl, ⟨ef.symm, by rw [eg_0]⟩, by rw [ht]; exact hP9, va_K.moved hW.alike hK9, hD9⟩, hS.F ht⟩) hS.2.2 dX1_both_59
      refine lv_iload_n hx hb dX1_both_54 rfl (lv_at hl 1 rfl) ?_
      refine lv_goto (tgt := 59) hx hb dX1_both_55 (by decide) ?_
      have hP9 := hP.sub (ws' := [(h0, .inr (1, [.int 0, .int a1, .int a2, .int a3, .int a4, .int a5, .int a6, .int a7, .int a8, .int a9, .int a10, .int a11, .ref h1]))]) [0] rfl
      have hD9 := hD.sub (ws' := [(h0, .inr (1, [.int 0, .int a1, .int a2, .int a3, .int a4, .int a5, .int a6, .int a7, .int a8, .int a9, .int a10, .int a11, .ref h1]))]) [0] (by decide) rfl
      have hK9 := hK.sub (tys' := []) [] rfl
      have eg_0 : gx_X1_both_0 = 0 := by rfl
      have ef : fx_X1_both p0 p1 = p0 := by unfold fx_X1_both; rw [if_neg c_2, if_neg c_4, if_pos c_7, if_neg c_8]
      exact W.iret (v := p0) hx hb hr (fun t ht hW => ⟨⟨p0, [(h0, .inr (1, [.int 0, .int a1, .int a2, .int a3, .int a4, .int a5, .int a6, .int a7, .int a8, .int a9, .int a10, .int a11, .ref h1]))], rfl, ⟨ef.symm, by rw [eg_0]⟩, by rw [ht]; exact hP9, va_K.moved hW.alike hK9, hD9⟩, hS.F ht⟩) hS.2.2 dX1_both_59
    refine lv_iload_n hx hb dX1_both_32 rfl (lv_at hl 1 rfl) ?_
    have hPc := hP.sub (ws' := []) [] rfl
    have hDc := hD.sub (ws' := []) [] (by decide) rfl
    have hKc := hK.sub (tys' := []) [] rfl
    have hFc := va_free (wc := []) hD hS hA [] rfl
    refine va_calli (va_runS (As := [.int p0]) (rest := []) ⟨hx, hb, hml, hown, hts⟩ (ct_X1_kindOf l dC dI H.size p0) (va_cwS 1 hts gX1_both_X1_kindOf rfl rfl rfl (by decide +kernel) ⟨Nat.le_of_ble_eq_true rfl, Nat.le_of_ble_eq_true rfl⟩) ⟨fun a U g mk q => by obtain ⟨q0, q1, qP, qK, qD⟩ := q; exact ⟨q0, q1, qP, va_K.moved (u := U) (U := U.calling g mk a) (Vm.Alike.refl U.vm) qK, qD⟩, fun U hU hW => ⟨rfl, by rw [hU], by rw [hU]; exact hPc, va_K.moved hW.alike hKc, hDc.weaken (fun _ _ _ _ => trivial)⟩⟩ rfl rfl hl.1 rfl (lv_room (Nat.le_of_ble_eq_true rfl)) dX1_both_33 ⟨(Nat.zero_le _), (Nat.zero_le _)⟩) hS (fun q _ h => hFc q h) hFc (fun r_9 u t H1 locs ht hvm hw hB hz1 hk1 hS => ?_)
    obtain ⟨er, hu⟩ := hw
    subst hu
    subst er
    obtain ⟨hP1, -, hD1⟩ := hB
    rw [ht] at hP1
    obtain ⟨hP, hD⟩ := va_join (wr := [(h0, .inr (1, [.int 0, .int a1, .int a2, .int a3, .int a4, .int a5, .int a6, .int a7, .int a8, .int a9, .int a10, .int a11, .ref h1]))]) (w1 := []) hP hD [] [0] rfl rfl (by decide) (by decide) hk1 hFc hP1 hD1
    generalize H1 = H at hP hS ⊢
    have hP : va_P (dC, dI) vwCl [(h0, .inr (1, [.int 0, .int a1, .int a2, .int a3, .int a4, .int a5, .int a6, .int a7, .int a8, .int a9, .int a10, .int a11, .ref h1]))] H := hP
    have hD : va_D A [(h0, .inr (1, [.int 0, .int a1, .int a2, .int a3, .int a4, .int a5, .int a6, .int a7, .int a8, .int a9, .int a10, .int a11, .ref h1]))] := hD
    refine lv_iload_n hx hb dX1_both_36 rfl (lv_at hl 2 rfl) ?_
    have hPc := hP.sub (ws' := []) [] rfl
    have hDc := hD.sub (ws' := []) [] (by decide) rfl
    have hKc := hK.sub (tys' := []) [] rfl
    have hFc := va_free (wc := []) hD hS hA [] rfl
    refine va_calli (va_runS (As := [.int p1]) (rest := [.int (fx_X1_kindOf p0)]) ⟨hx, hb, hml, hown, hts⟩ (ct_X1_kindOf l dC dI H.size p1) (va_cwS 1 hts gX1_both_X1_kindOf rfl rfl rfl (by decide +kernel) ⟨Nat.le_of_ble_eq_true rfl, Nat.le_of_ble_eq_true rfl⟩) ⟨fun a U g mk q => by obtain ⟨q0, q1, qP, qK, qD⟩ := q; exact ⟨q0, q1, qP, va_K.moved (u := U) (U := U.calling g mk a) (Vm.Alike.refl U.vm) qK, qD⟩, fun U hU hW => ⟨rfl, by rw [hU], by rw [hU]; exact hPc, va_K.moved hW.alike hKc, hDc.weaken (fun _ _ _ _ => trivial)⟩⟩ rfl rfl hl.1 rfl (lv_room (Nat.le_of_ble_eq_true rfl)) dX1_both_37 ⟨(Nat.zero_le _), (Nat.zero_le _)⟩) hS (fun q _ h => hFc q h) hFc (fun r_10 u t H1 locs ht hvm hw hB hz1 hk1 hS => ?_)
    obtain ⟨er, hu⟩ := hw
    subst hu
    subst er
    obtain ⟨hP1, -, hD1⟩ := hB
    rw [ht] at hP1
    obtain ⟨hP, hD⟩ := va_join (wr := [(h0, .inr (1, [.int 0, .int a1, .int a2, .int a3, .int a4, .int a5, .int a6, .int a7, .int a8, .int a9, .int a10, .int a11, .ref h1]))]) (w1 := []) hP hD [] [0] rfl rfl (by decide) (by decide) hk1 hFc hP1 hD1
    generalize H1 = H at hP hS ⊢
    have hP : va_P (dC, dI) vwCl [(h0, .inr (1, [.int 0, .int a1, .int a2, .int a3, .int a4, .int a5, .int a6, .int a7, .int a8, .int a9, .int a10, .int a11, .ref h1]))] H := hP
    have hD : va_D A [(h0, .inr (1, [.int 0, .int a1, .int a2, .int a3, .int a4, .int a5, .int a6, .int a7, .int a8, .int a9, .int a10, .int a11, .ref h1]))] := hD
    refine lv_icmp_le (tgt := 47) hx hb dX1_both_40 (by decide) (fun c_11 => ?_) (fun c_11 => ?_)
    · refine lv_iload_n hx hb dX1_both_47 rfl (lv_at hl 2 rfl) ?_
      have hP9 := hP.sub (ws' := [(h0, .inr (1, [.int 0, .int a1, .int a2, .int a3, .int a4, .int a5, .int a6, .int a7, .int a8, .int a9, .int a10, .int a11, .ref h1]))]) [0] rfl
      have hD9 := hD.sub (ws' := [(h0, .inr (1, [.int 0, .int a1, .int a2, .int a3, .int a4, .int a5, .int a6, .int a7, .int a8, .int a9, .int a10, .int a11, .ref h1]))]) [0] (by decide) rfl
      have hK9 := hK.sub (tys' := []) [] rfl
      have eg_0 : gx_X1_both_0 = 0 := by rfl
      have ef : fx_X1_both p0 p1 = p1 := by unfold fx_X1_both; rw [if_neg c_2, if_neg c_4, if_neg c_7, if_pos c_11]
      exact W.iret (v := p1) hx hb hr (fun t ht hW => ⟨⟨p1, [(h0, .inr (1, [.int 0, .int a1, .int a2, .int a3, .int a4, .int a5, .int a6, .int a7, .int a8, .int a9, .int a10, .int a11, .ref h1]))], rfl, ⟨ef.symm, by rw [eg_0]⟩, by rw [ht]; exact hP9, va_K.moved hW.alike hK9, hD9⟩, hS.F ht⟩) hS.2.2 dX1_both_48
    refine lv_iload_n hx hb dX1_both_43 rfl (lv_at hl 1 rfl) ?_
    refine lv_goto (tgt := 48) hx hb dX1_both_44 (by decide) ?_
    have hP9 := hP.sub (ws' := [(h0, .inr (1, [.int 0, .int a1, .int a2, .int a3, .int a4, .int a5, .int a6, .int a7, .int a8, .int a9, .int a10, .int a11, .ref h1]))]) [0] rfl
    have hD9 := hD.sub (ws' := [(h0, .inr (1, [.int 0, .int a1, .int a2, .int a3, .int a4, .int a5, .int a6, .int a7, .int a8, .int a9, .int a10, .int a11, .ref h1]))]) [0] (by decide) rfl
    have hK9 := hK.sub (tys' := []) [] rfl
    have eg_0 : gx_X1_both_0 = 0 := by rfl
    have ef : fx_X1_both p0 p1 = p0 := by unfold fx_X1_both; rw [if_neg c_2, if_neg c_4, if_neg c_7, if_neg c_11]
    exact W.iret (v := p0) hx hb hr (fun t ht hW => ⟨⟨p0, [(h0, .inr (1, [.int 0, .int a1, .int a2, .int a3, .int a4, .int a5, .int a6, .int a7, .int a8, .int a9, .int a10, .int a11, .ref h1]))], rfl, ⟨ef.symm, by rw [eg_0]⟩, by rw [ht]; exact hP9, va_K.moved hW.alike hK9, hD9⟩, hS.F ht⟩) hS.2.2 dX1_both_48
  refine lv_iconst (v := (-1)) hx hb dX1_both_19 (by decide) ?_
  have hP9 := hP.sub (ws' := [(h0, .inr (1, [.int 0, .int a1, .int a2, .int a3, .int a4, .int a5, .int a6, .int a7, .int a8, .int a9, .int a10, .int a11, .ref h1]))]) [0] rfl
  have hD9 := hD.sub (ws' := [(h0, .inr (1, [.int 0, .int a1, .int a2, .int a3, .int a4, .int a5, .int a6, .int a7, .int a8, .int a9, .int a10, .int a11, .ref h1]))]) [0] (by decide) rfl
  have hK9 := hK.sub (tys' := []) [] rfl
  have eg_0 : gx_X1_both_0 = 0 := by rfl
  have ef : fx_X1_both p0 p1 = (-1) := by unfold fx_X1_both; rw [if_neg c_2, if_pos c_4]
  exact W.iret (v := (-1)) hx hb hr (fun t ht hW => ⟨⟨(-1), [(h0, .inr (1, [.int 0, .int a1, .int a2, .int a3, .int a4, .int a5, .int a6, .int a7, .int a8, .int a9, .int a10, .int a11, .ref h1]))], rfl, ⟨ef.symm, by rw [eg_0]⟩, by rw [ht]; exact hP9, va_K.moved hW.alike hK9, hD9⟩, hS.F ht⟩) hS.2.2 dX1_both_20
set_option maxHeartbeats 4000000 in
set_option maxRecDepth 100000 in
theorem ct_X1_extended (l : Launch) (dC : Nat → ClassId) (dI : Nat → Nat → Nat) (h0 : Nat) (h1 : Nat) (sz : Nat) (a0 a1 a2 a3 a4 a5 a6 a7 a8 a9 a10 a11 p0 : Int32) : Met l yX1_extended wsX1_extended ({ frames := 1, cells := 0, slots := 0, locals := 20 }) (va_Pc [.ref h0, .int p0] (fun U => U.heap.size = sz ∧ va_P (dC, dI) vwCl [(h0, .inr (1, [.int a0, .int a1, .int a2, .int a3, .int a4, .int a5, .int a6, .int a7, .int a8, .int a9, .int a10, .int a11, .ref h1]))] U.heap ∧ va_K (dC, dI) vwCl [] U ∧ va_D (fun _ => True) [(h0, .inr (1, [.int a0, .int a1, .int a2, .int a3, .int a4, .int a5, .int a6, .int a7, .int a8, .int a9, .int a10, .int a11, .ref h1]))])) (va_Qi (fun (r : Int32) (u : va_W) => r = fx_X1_extended a1 a5 p0 ∧ u = [(h0, .inr (1, [.int gx_X1_extended_0, .int a1, .int a2, .int a3, .int a4, .int a5, .int a6, .int a7, .int a8, .int a9, .int a10, .int a11, .ref h1]))]) (at_W dC dI [] (va_A [(h0, .inr (1, [.int a0, .int a1, .int a2, .int a3, .int a4, .int a5, .int a6, .int a7, .int a8, .int a9, .int a10, .int a11, .ref h1]))] sz)) (va_A [(h0, .inr (1, [.int a0, .int a1, .int a2, .int a3, .int a4, .int a5, .int a6, .int a7, .int a8, .int a9, .int a10, .int a11, .ref h1]))] sz)) 0 0 (va_A [(h0, .inr (1, [.int a0, .int a1, .int a2, .int a3, .int a4, .int a5, .int a6, .int a7, .int a8, .int a9, .int a10, .int a11, .ref h1]))] sz) := by
  refine Met.ofW (cc := cX1_extended) (maxL := 2) (ret := (some .int)) (by decide) rfl ?_
  intro p e s m args below meth c s₁ B hml hv
  obtain ⟨rfl, hsz, hP, hK, hD0⟩ := hv
  have hx := B.exec
  have hb := B.bytes
  have hr := B.returns
  have hts := atoms_spec (ws := wsX1_extended) B.pre
  have hown : s.vm.findClass RX1 = some m.cls := findClass_of_methodNamed B.named
  have hlocks := B.notSynchronized
  subst hsz
  have hD := hD0.self (sz := s.heap.size)
  generalize hAe : va_A [(h0, .inr (1, [.int a0, .int a1, .int a2, .int a3, .int a4, .int a5, .int a6, .int a7, .int a8, .int a9, .int a10, .int a11, .ref h1]))] s.heap.size = A at hD ⊢
  have hA : ∀ q : Nat, s.heap.size ≤ q → A q := fun q h => by rw [← hAe]; exact Or.inr h
  have hS : va_S A s.heap s.heap [] := va_S.rf
  have hP : va_P (dC, dI) vwCl [(h0, .inr (1, [.int a0, .int a1, .int a2, .int a3, .int a4, .int a5, .int a6, .int a7, .int a8, .int a9, .int a10, .int a11, .ref h1]))] s.heap := hP
  have hl := lv_entry ([.ref h0, .int p0]) (n := 2) (Nat.le_of_ble_eq_true rfl)
  rw [lg_entry_eq]
  generalize (lg_sl ([.ref h0, .int p0]) ++ List.replicate (2 - (lg_sl ([.ref h0, .int p0])).length) Slot.unset).toArray = ls at hl ⊢
  have hl : lv_has ls 2 [(0, .ref h0), (1, .int p0)] := hl
  refine lv_aload_n hx hb dX1_extended_0 rfl (lv_at hl 0 rfl) ?_
  refine lv_iconst (v := 0) hx hb dX1_extended_1 (by decide) ?_
  refine va_put (D := (dC, dI)) (ci := 1) (v := .int 0) (ty := .int) (C := RX1) (T := TX1) (N := 13) hx hb hts (fun _ h => List.mem_cons_of_mem _ (List.mem_append_right _ h)) tyX1 tyX1_ok nmX1 hown hK hP hD hS 0 rfl rfl 0 (by decide) (hts (.fieldLink RX1 20 "FileStatusModel" "code" "I") (by decide +kernel)) (fun _ h9 => h9) rfl (by decide +kernel) rfl rfl (Nat.le_of_ble_eq_true rfl) dX1_extended_2 (fun H locs hP hD hS => ?_)
  have hP : va_P (dC, dI) vwCl [(h0, .inr (1, [.int 0, .int a1, .int a2, .int a3, .int a4, .int a5, .int a6, .int a7, .int a8, .int a9, .int a10, .int a11, .ref h1]))] H := hP
  have hD : va_D A [(h0, .inr (1, [.int 0, .int a1, .int a2, .int a3, .int a4, .int a5, .int a6, .int a7, .int a8, .int a9, .int a10, .int a11, .ref h1]))] := hD
  refine lv_iload_n hx hb dX1_extended_5 rfl (lv_at hl 1 rfl) ?_
  have hPc := hP.sub (ws' := []) [] rfl
  have hDc := hD.sub (ws' := []) [] (by decide) rfl
  have hKc := hK.sub (tys' := []) [] rfl
  have hFc := va_free (wc := []) hD hS hA [] rfl
  refine va_calli (va_runS (As := [.int p0]) (rest := []) ⟨hx, hb, hml, hown, hts⟩ (ct_X1_isStatus l dC dI H.size p0) (va_cwS 1 hts gX1_extended_X1_isStatus rfl rfl rfl (by decide +kernel) ⟨Nat.le_of_ble_eq_true rfl, Nat.le_of_ble_eq_true rfl⟩) ⟨fun a U g mk q => by obtain ⟨q0, q1, qP, qK, qD⟩ := q; exact ⟨q0, q1, qP, va_K.moved (u := U) (U := U.calling g mk a) (Vm.Alike.refl U.vm) qK, qD⟩, fun U hU hW => ⟨rfl, by rw [hU], by rw [hU]; exact hPc, va_K.moved hW.alike hKc, hDc.weaken (fun _ _ _ _ => trivial)⟩⟩ rfl rfl hl.1 rfl (lv_room (Nat.le_of_ble_eq_true rfl)) dX1_extended_6 ⟨(Nat.zero_le _), (Nat.zero_le _)⟩) hS (fun q _ h => hFc q h) hFc (fun r_1 u t H1 locs ht hvm hw hB hz1 hk1 hS => ?_)
  obtain ⟨er, hu⟩ := hw
  subst hu
  subst er
  obtain ⟨hP1, -, hD1⟩ := hB
  rw [ht] at hP1
  obtain ⟨hP, hD⟩ := va_join (wr := [(h0, .inr (1, [.int 0, .int a1, .int a2, .int a3, .int a4, .int a5, .int a6, .int a7, .int a8, .int a9, .int a10, .int a11, .ref h1]))]) (w1 := []) hP hD [] [0] rfl rfl (by decide) (by decide) hk1 hFc hP1 hD1
  generalize H1 = H at hP hS ⊢
  have hP : va_P (dC, dI) vwCl [(h0, .inr (1, [.int 0, .int a1, .int a2, .int a3, .int a4, .int a5, .int a6, .int a7, .int a8, .int a9, .int a10, .int a11, .ref h1]))] H := hP
  have hD : va_D A [(h0, .inr (1, [.int 0, .int a1, .int a2, .int a3, .int a4, .int a5, .int a6, .int a7, .int a8, .int a9, .int a10, .int a11, .ref h1]))] := hD
  refine lv_if_eq (tgt := 32) hx hb dX1_extended_9 (by decide) (fun c_2 => ?_) (fun c_2 => ?_)
  · refine lv_iconst (v := (-1)) hx hb dX1_extended_32 (by decide) ?_
    have hP9 := hP.sub (ws' := [(h0, .inr (1, [.int 0, .int a1, .int a2, .int a3, .int a4, .int a5, .int a6, .int a7, .int a8, .int a9, .int a10, .int a11, .ref h1]))]) [0] rfl
    have hD9 := hD.sub (ws' := [(h0, .inr (1, [.int 0, .int a1, .int a2, .int a3, .int a4, .int a5, .int a6, .int a7, .int a8, .int a9, .int a10, .int a11, .ref h1]))]) [0] (by decide) rfl
    have hK9 := hK.sub (tys' := []) [] rfl
    have eg_0 : gx_X1_extended_0 = 0 := by rfl
    have ef : fx_X1_extended a1 a5 p0 = (-1) := by unfold fx_X1_extended; rw [if_pos c_2]
    exact W.iret (v := (-1)) hx hb hr (fun t ht hW => ⟨⟨(-1), [(h0, .inr (1, [.int 0, .int a1, .int a2, .int a3, .int a4, .int a5, .int a6, .int a7, .int a8, .int a9, .int a10, .int a11, .ref h1]))], rfl, ⟨ef.symm, by rw [eg_0]⟩, by rw [ht]; exact hP9, va_K.moved hW.alike hK9, hD9⟩, hS.F ht⟩) hS.2.2 dX1_extended_33
  refine lv_bipush (v := 100) hx hb dX1_extended_12 (by decide) ?_
  refine lv_iload_n hx hb dX1_extended_14 rfl (lv_at hl 1 rfl) ?_
  refine lv_imul hx hb dX1_extended_15 ?_
  refine lv_bipush (v := 10) hx hb dX1_extended_16 (by decide) ?_
  refine lv_aload_n hx hb dX1_extended_18 rfl (lv_at hl 0 rfl) ?_
  refine va_get (D := (dC, dI)) (ci := 1) (v := .int a1) (C := RX1) (T := TX1) (N := 13) hx hb hts (fun _ h => List.mem_cons_of_mem _ (List.mem_append_right _ h)) hown hK hP 0 rfl rfl 1 (by decide) (hts (.fieldLink RX1 17 "FileStatusModel" "organisation" "I") (by decide +kernel)) (fun _ h9 => h9) rfl dX1_extended_19 ?_
  refine lv_imul hx hb dX1_extended_22 ?_
  refine lv_iadd hx hb dX1_extended_23 ?_
  refine lv_aload_n hx hb dX1_extended_24 rfl (lv_at hl 0 rfl) ?_
  refine va_get (D := (dC, dI)) (ci := 1) (v := .int a5) (C := RX1) (T := TX1) (N := 13) hx hb hts (fun _ h => List.mem_cons_of_mem _ (List.mem_append_right _ h)) hown hK hP 0 rfl rfl 5 (by decide) (hts (.fieldLink RX1 7 "FileStatusModel" "act" "I") (by decide +kernel)) (fun _ h9 => h9) rfl dX1_extended_25 ?_
  refine lv_iadd hx hb dX1_extended_28 ?_
  refine lv_goto (tgt := 33) hx hb dX1_extended_29 (by decide) ?_
  have hP9 := hP.sub (ws' := [(h0, .inr (1, [.int 0, .int a1, .int a2, .int a3, .int a4, .int a5, .int a6, .int a7, .int a8, .int a9, .int a10, .int a11, .ref h1]))]) [0] rfl
  have hD9 := hD.sub (ws' := [(h0, .inr (1, [.int 0, .int a1, .int a2, .int a3, .int a4, .int a5, .int a6, .int a7, .int a8, .int a9, .int a10, .int a11, .ref h1]))]) [0] (by decide) rfl
  have hK9 := hK.sub (tys' := []) [] rfl
  have eg_0 : gx_X1_extended_0 = 0 := by rfl
  have ef : fx_X1_extended a1 a5 p0 = ((100 * p0) + (10 * a1)) + a5 := by unfold fx_X1_extended; rw [if_neg c_2]
  exact W.iret (v := ((100 * p0) + (10 * a1)) + a5) hx hb hr (fun t ht hW => ⟨⟨(((100 * p0) + (10 * a1)) + a5), [(h0, .inr (1, [.int 0, .int a1, .int a2, .int a3, .int a4, .int a5, .int a6, .int a7, .int a8, .int a9, .int a10, .int a11, .ref h1]))], rfl, ⟨ef.symm, by rw [eg_0]⟩, by rw [ht]; exact hP9, va_K.moved hW.alike hK9, hD9⟩, hS.F ht⟩) hS.2.2 dX1_extended_33
set_option maxHeartbeats 4000000 in
set_option maxRecDepth 100000 in
theorem ct_X1_area (l : Launch) (dC : Nat → ClassId) (dI : Nat → Nat → Nat) (h0 : Nat) (h1 : Nat) (sz : Nat) (a0 a1 a2 a3 a4 a5 a6 a7 a8 a9 a10 a11 p0 : Int32) : Met l yX1_area wsX1_area ({ frames := 1, cells := 0, slots := 0, locals := 20 }) (va_Pc [.ref h0, .int p0] (fun U => U.heap.size = sz ∧ va_P (dC, dI) vwCl [(h0, .inr (1, [.int a0, .int a1, .int a2, .int a3, .int a4, .int a5, .int a6, .int a7, .int a8, .int a9, .int a10, .int a11, .ref h1]))] U.heap ∧ va_K (dC, dI) vwCl [] U ∧ va_D (fun _ => True) [(h0, .inr (1, [.int a0, .int a1, .int a2, .int a3, .int a4, .int a5, .int a6, .int a7, .int a8, .int a9, .int a10, .int a11, .ref h1]))])) (va_Qi (fun (r : Int32) (u : va_W) => r = fx_X1_area p0 ∧ u = [(h0, .inr (1, [.int gx_X1_area_0, .int a1, .int a2, .int a3, .int a4, .int a5, .int a6, .int a7, .int a8, .int a9, .int a10, .int a11, .ref h1]))]) (at_W dC dI [] (va_A [(h0, .inr (1, [.int a0, .int a1, .int a2, .int a3, .int a4, .int a5, .int a6, .int a7, .int a8, .int a9, .int a10, .int a11, .ref h1]))] sz)) (va_A [(h0, .inr (1, [.int a0, .int a1, .int a2, .int a3, .int a4, .int a5, .int a6, .int a7, .int a8, .int a9, .int a10, .int a11, .ref h1]))] sz)) 0 0 (va_A [(h0, .inr (1, [.int a0, .int a1, .int a2, .int a3, .int a4, .int a5, .int a6, .int a7, .int a8, .int a9, .int a10, .int a11, .ref h1]))] sz) := by
  refine Met.ofW (cc := cX1_area) (maxL := 2) (ret := (some .int)) (by decide) rfl ?_
  intro p e s m args below meth c s₁ B hml hv
  obtain ⟨rfl, hsz, hP, hK, hD0⟩ := hv
  have hx := B.exec
  have hb := B.bytes
  have hr := B.returns
  have hts := atoms_spec (ws := wsX1_area) B.pre
  have hown : s.vm.findClass RX1 = some m.cls := findClass_of_methodNamed B.named
  have hlocks := B.notSynchronized
  subst hsz
  have hD := hD0.self (sz := s.heap.size)
  generalize hAe : va_A [(h0, .inr (1, [.int a0, .int a1, .int a2, .int a3, .int a4, .int a5, .int a6, .int a7, .int a8, .int a9, .int a10, .int a11, .ref h1]))] s.heap.size = A at hD ⊢
  have hA : ∀ q : Nat, s.heap.size ≤ q → A q := fun q h => by rw [← hAe]; exact Or.inr h
  have hS : va_S A s.heap s.heap [] := va_S.rf
  have hP : va_P (dC, dI) vwCl [(h0, .inr (1, [.int a0, .int a1, .int a2, .int a3, .int a4, .int a5, .int a6, .int a7, .int a8, .int a9, .int a10, .int a11, .ref h1]))] s.heap := hP
  have hl := lv_entry ([.ref h0, .int p0]) (n := 2) (Nat.le_of_ble_eq_true rfl)
  rw [lg_entry_eq]
  generalize (lg_sl ([.ref h0, .int p0]) ++ List.replicate (2 - (lg_sl ([.ref h0, .int p0])).length) Slot.unset).toArray = ls at hl ⊢
  have hl : lv_has ls 2 [(0, .ref h0), (1, .int p0)] := hl
  refine lv_aload_n hx hb dX1_area_0 rfl (lv_at hl 0 rfl) ?_
  refine lv_iconst (v := 0) hx hb dX1_area_1 (by decide) ?_
  refine va_put (D := (dC, dI)) (ci := 1) (v := .int 0) (ty := .int) (C := RX1) (T := TX1) (N := 13) hx hb hts (fun _ h => List.mem_cons_of_mem _ (List.mem_append_right _ h)) tyX1 tyX1_ok nmX1 hown hK hP hD hS 0 rfl rfl 0 (by decide) (hts (.fieldLink RX1 20 "FileStatusModel" "code" "I") (by decide +kernel)) (fun _ h9 => h9) rfl (by decide +kernel) rfl rfl (Nat.le_of_ble_eq_true rfl) dX1_area_2 (fun H locs hP hD hS => ?_)
  have hP : va_P (dC, dI) vwCl [(h0, .inr (1, [.int 0, .int a1, .int a2, .int a3, .int a4, .int a5, .int a6, .int a7, .int a8, .int a9, .int a10, .int a11, .ref h1]))] H := hP
  have hD : va_D A [(h0, .inr (1, [.int 0, .int a1, .int a2, .int a3, .int a4, .int a5, .int a6, .int a7, .int a8, .int a9, .int a10, .int a11, .ref h1]))] := hD
  refine lv_iload_n hx hb dX1_area_5 rfl (lv_at hl 1 rfl) ?_
  have hPc := hP.sub (ws' := []) [] rfl
  have hDc := hD.sub (ws' := []) [] (by decide) rfl
  have hKc := hK.sub (tys' := []) [] rfl
  have hFc := va_free (wc := []) hD hS hA [] rfl
  refine va_calli (va_runS (As := [.int p0]) (rest := []) ⟨hx, hb, hml, hown, hts⟩ (ct_X1_isStatus l dC dI H.size p0) (va_cwS 1 hts gX1_area_X1_isStatus rfl rfl rfl (by decide +kernel) ⟨Nat.le_of_ble_eq_true rfl, Nat.le_of_ble_eq_true rfl⟩) ⟨fun a U g mk q => by obtain ⟨q0, q1, qP, qK, qD⟩ := q; exact ⟨q0, q1, qP, va_K.moved (u := U) (U := U.calling g mk a) (Vm.Alike.refl U.vm) qK, qD⟩, fun U hU hW => ⟨rfl, by rw [hU], by rw [hU]; exact hPc, va_K.moved hW.alike hKc, hDc.weaken (fun _ _ _ _ => trivial)⟩⟩ rfl rfl hl.1 rfl (lv_room (Nat.le_of_ble_eq_true rfl)) dX1_area_6 ⟨(Nat.zero_le _), (Nat.zero_le _)⟩) hS (fun q _ h => hFc q h) hFc (fun r_1 u t H1 locs ht hvm hw hB hz1 hk1 hS => ?_)
  obtain ⟨er, hu⟩ := hw
  subst hu
  subst er
  obtain ⟨hP1, -, hD1⟩ := hB
  rw [ht] at hP1
  obtain ⟨hP, hD⟩ := va_join (wr := [(h0, .inr (1, [.int 0, .int a1, .int a2, .int a3, .int a4, .int a5, .int a6, .int a7, .int a8, .int a9, .int a10, .int a11, .ref h1]))]) (w1 := []) hP hD [] [0] rfl rfl (by decide) (by decide) hk1 hFc hP1 hD1
  generalize H1 = H at hP hS ⊢
  have hP : va_P (dC, dI) vwCl [(h0, .inr (1, [.int 0, .int a1, .int a2, .int a3, .int a4, .int a5, .int a6, .int a7, .int a8, .int a9, .int a10, .int a11, .ref h1]))] H := hP
  have hD : va_D A [(h0, .inr (1, [.int 0, .int a1, .int a2, .int a3, .int a4, .int a5, .int a6, .int a7, .int a8, .int a9, .int a10, .int a11, .ref h1]))] := hD
  refine lv_if_ne (tgt := 14) hx hb dX1_area_9 (by decide) (fun c_2 => ?_) (fun c_2 => ?_)
  · refine lv_iload_n hx hb dX1_area_14 rfl (lv_at hl 1 rfl) ?_
    refine lv_if_eq (tgt := 23) hx hb dX1_area_15 (by decide) (fun c_3 => ?_) (fun c_3 => ?_)
    · refine lv_iconst (v := 1) hx hb dX1_area_23 (by decide) ?_
      refine lv_goto (tgt := 37) hx hb dX1_area_24 (by decide) ?_
      have hP9 := hP.sub (ws' := [(h0, .inr (1, [.int 0, .int a1, .int a2, .int a3, .int a4, .int a5, .int a6, .int a7, .int a8, .int a9, .int a10, .int a11, .ref h1]))]) [0] rfl
      have hD9 := hD.sub (ws' := [(h0, .inr (1, [.int 0, .int a1, .int a2, .int a3, .int a4, .int a5, .int a6, .int a7, .int a8, .int a9, .int a10, .int a11, .ref h1]))]) [0] (by decide) rfl
      have hK9 := hK.sub (tys' := []) [] rfl
      have eg_0 : gx_X1_area_0 = 0 := by rfl
      have ef : fx_X1_area p0 = 1 := by unfold fx_X1_area; rw [if_neg c_2, if_pos c_3]
      exact W.iret (v := 1) hx hb hr (fun t ht hW => ⟨⟨1, [(h0, .inr (1, [.int 0, .int a1, .int a2, .int a3, .int a4, .int a5, .int a6, .int a7, .int a8, .int a9, .int a10, .int a11, .ref h1]))], rfl, ⟨ef.symm, by rw [eg_0]⟩, by rw [ht]; exact hP9, va_K.moved hW.alike hK9, hD9⟩, hS.F ht⟩) hS.2.2 dX1_area_37
    refine lv_iload_n hx hb dX1_area_18 rfl (lv_at hl 1 rfl) ?_
    refine lv_iconst (v := 2) hx hb dX1_area_19 (by decide) ?_
    refine lv_icmp_ne (tgt := 27) hx hb dX1_area_20 (by decide) (fun c_4 => ?_) (fun c_4 => ?_)
    · refine lv_iload_n hx hb dX1_area_27 rfl (lv_at hl 1 rfl) ?_
      refine lv_iconst (v := 4) hx hb dX1_area_28 (by decide) ?_
      refine lv_icmp_ne (tgt := 36) hx hb dX1_area_29 (by decide) (fun c_5 => ?_) (fun c_5 => ?_)
      · refine lv_iconst (v := 0) hx hb dX1_area_36 (by decide) ?_
        have hP9 := hP.sub (ws' := [(h0, .inr (1, [.int 0, .int a1, .int a2, .int a3, .int a4, .int a5, .int a6, .int a7, .int a8, .int a9, .int a10, .int a11, .ref h1]))]) [0] rfl
        have hD9 := hD.sub (ws' := [(h0, .inr (1, [.int 0, .int a1, .int a2, .int a3, .int a4, .int a5, .int a6, .int a7, .int a8, .int a9, .int a10, .int a11, .ref h1]))]) [0] (by decide) rfl
        have hK9 := hK.sub (tys' := []) [] rfl
        have eg_0 : gx_X1_area_0 = 0 := by rfl
        have ef : fx_X1_area p0 = 0 := by unfold fx_X1_area; rw [if_neg c_2, if_neg c_3, if_neg c_4, if_neg c_5]
        exact W.iret (v := 0) hx hb hr (fun t ht hW => ⟨⟨0, [(h0, .inr (1, [.int 0, .int a1, .int a2, .int a3, .int a4, .int a5, .int a6, .int a7, .int a8, .int a9, .int a10, .int a11, .ref h1]))], rfl, ⟨ef.symm, by rw [eg_0]⟩, by rw [ht]; exact hP9, va_K.moved hW.alike hK9, hD9⟩, hS.F ht⟩) hS.2.2 dX1_area_37
      refine lv_iconst (v := 2) hx hb dX1_area_32 (by decide) ?_
      refine lv_goto (tgt := 37) hx hb dX1_area_33 (by decide) ?_
      have hP9 := hP.sub (ws' := [(h0, .inr (1, [.int 0, .int a1, .int a2, .int a3, .int a4, .int a5, .int a6, .int a7, .int a8, .int a9, .int a10, .int a11, .ref h1]))]) [0] rfl
      have hD9 := hD.sub (ws' := [(h0, .inr (1, [.int 0, .int a1, .int a2, .int a3, .int a4, .int a5, .int a6, .int a7, .int a8, .int a9, .int a10, .int a11, .ref h1]))]) [0] (by decide) rfl
      have hK9 := hK.sub (tys' := []) [] rfl
      have eg_0 : gx_X1_area_0 = 0 := by rfl
      have ef : fx_X1_area p0 = 2 := by unfold fx_X1_area; rw [if_neg c_2, if_neg c_3, if_neg c_4, if_pos c_5]
      exact W.iret (v := 2) hx hb hr (fun t ht hW => ⟨⟨2, [(h0, .inr (1, [.int 0, .int a1, .int a2, .int a3, .int a4, .int a5, .int a6, .int a7, .int a8, .int a9, .int a10, .int a11, .ref h1]))], rfl, ⟨ef.symm, by rw [eg_0]⟩, by rw [ht]; exact hP9, va_K.moved hW.alike hK9, hD9⟩, hS.F ht⟩) hS.2.2 dX1_area_37
    refine lv_iconst (v := 1) hx hb dX1_area_23 (by decide) ?_
    refine lv_goto (tgt := 37) hx hb dX1_area_24 (by decide) ?_
    have hP9 := hP.sub (ws' := [(h0, .inr (1, [.int 0, .int a1, .int a2, .int a3, .int a4, .int a5, .int a6, .int a7, .int a8, .int a9, .int a10, .int a11, .ref h1]))]) [0] rfl
    have hD9 := hD.sub (ws' := [(h0, .inr (1, [.int 0, .int a1, .int a2, .int a3, .int a4, .int a5, .int a6, .int a7, .int a8, .int a9, .int a10, .int a11, .ref h1]))]) [0] (by decide) rfl
    have hK9 := hK.sub (tys' := []) [] rfl
    have eg_0 : gx_X1_area_0 = 0 := by rfl
    have ef : fx_X1_area p0 = 1 := by unfold fx_X1_area; rw [if_neg c_2, if_neg c_3, if_pos c_4]
    exact W.iret (v := 1) hx hb hr (fun t ht hW => ⟨⟨1, [(h0, .inr (1, [.int 0, .int a1, .int a2, .int a3, .int a4, .int a5, .int a6, .int a7, .int a8, .int a9, .int a10, .int a11, .ref h1]))], rfl, ⟨ef.symm, by rw [eg_0]⟩, by rw [ht]; exact hP9, va_K.moved hW.alike hK9, hD9⟩, hS.F ht⟩) hS.2.2 dX1_area_37
  refine lv_iconst (v := (-1)) hx hb dX1_area_12 (by decide) ?_
  have hP9 := hP.sub (ws' := [(h0, .inr (1, [.int 0, .int a1, .int a2, .int a3, .int a4, .int a5, .int a6, .int a7, .int a8, .int a9, .int a10, .int a11, .ref h1]))]) [0] rfl
  have hD9 := hD.sub (ws' := [(h0, .inr (1, [.int 0, .int a1, .int a2, .int a3, .int a4, .int a5, .int a6, .int a7, .int a8, .int a9, .int a10, .int a11, .ref h1]))]) [0] (by decide) rfl
  have hK9 := hK.sub (tys' := []) [] rfl
  have eg_0 : gx_X1_area_0 = 0 := by rfl
  have ef : fx_X1_area p0 = (-1) := by unfold fx_X1_area; rw [if_pos c_2]
  exact W.iret (v := (-1)) hx hb hr (fun t ht hW => ⟨⟨(-1), [(h0, .inr (1, [.int 0, .int a1, .int a2, .int a3, .int a4, .int a5, .int a6, .int a7, .int a8, .int a9, .int a10, .int a11, .ref h1]))], rfl, ⟨ef.symm, by rw [eg_0]⟩, by rw [ht]; exact hP9, va_K.moved hW.alike hK9, hD9⟩, hS.F ht⟩) hS.2.2 dX1_area_13
set_option maxHeartbeats 4000000 in
set_option maxRecDepth 100000 in
theorem ct_X1_count (l : Launch) (dC : Nat → ClassId) (dI : Nat → Nat → Nat) (h0 : Nat) (h1 : Nat) (sz : Nat) (a0 a1 a2 a3 a4 a5 a6 a7 a8 a9 a10 a11 p0 : Int32) : Met l yX1_count wsX1_count ({ frames := 0, cells := 0, slots := 0, locals := 0 }) (va_Pc [.ref h0, .int p0] (fun U => U.heap.size = sz ∧ va_P (dC, dI) vwCl [(h0, .inr (1, [.int a0, .int a1, .int a2, .int a3, .int a4, .int a5, .int a6, .int a7, .int a8, .int a9, .int a10, .int a11, .ref h1]))] U.heap ∧ va_K (dC, dI) vwCl [] U ∧ va_D (fun _ => True) [(h0, .inr (1, [.int a0, .int a1, .int a2, .int a3, .int a4, .int a5, .int a6, .int a7, .int a8, .int a9, .int a10, .int a11, .ref h1]))])) (va_Qi (fun (r : Int32) (u : va_W) => r = fx_X1_count a1 a2 a3 a4 a6 a7 a8 a9 p0 ∧ u = [(h0, .inr (1, [.int gx_X1_count_0, .int a1, .int a2, .int a3, .int a4, .int a5, .int a6, .int a7, .int a8, .int a9, .int a10, .int a11, .ref h1]))]) (at_W dC dI [] (va_A [(h0, .inr (1, [.int a0, .int a1, .int a2, .int a3, .int a4, .int a5, .int a6, .int a7, .int a8, .int a9, .int a10, .int a11, .ref h1]))] sz)) (va_A [(h0, .inr (1, [.int a0, .int a1, .int a2, .int a3, .int a4, .int a5, .int a6, .int a7, .int a8, .int a9, .int a10, .int a11, .ref h1]))] sz)) 0 0 (va_A [(h0, .inr (1, [.int a0, .int a1, .int a2, .int a3, .int a4, .int a5, .int a6, .int a7, .int a8, .int a9, .int a10, .int a11, .ref h1]))] sz) := by
  refine Met.ofW (cc := cX1_count) (maxL := 2) (ret := (some .int)) (by decide) rfl ?_
  intro p e s m args below meth c s₁ B hml hv
  obtain ⟨rfl, hsz, hP, hK, hD0⟩ := hv
  have hx := B.exec
  have hb := B.bytes
  have hr := B.returns
  have hts := atoms_spec (ws := wsX1_count) B.pre
  have hown : s.vm.findClass RX1 = some m.cls := findClass_of_methodNamed B.named
  have hlocks := B.notSynchronized
  subst hsz
  have hD := hD0.self (sz := s.heap.size)
  generalize hAe : va_A [(h0, .inr (1, [.int a0, .int a1, .int a2, .int a3, .int a4, .int a5, .int a6, .int a7, .int a8, .int a9, .int a10, .int a11, .ref h1]))] s.heap.size = A at hD ⊢
  have hA : ∀ q : Nat, s.heap.size ≤ q → A q := fun q h => by rw [← hAe]; exact Or.inr h
  have hS : va_S A s.heap s.heap [] := va_S.rf
  have hP : va_P (dC, dI) vwCl [(h0, .inr (1, [.int a0, .int a1, .int a2, .int a3, .int a4, .int a5, .int a6, .int a7, .int a8, .int a9, .int a10, .int a11, .ref h1]))] s.heap := hP
  have hl := lv_entry ([.ref h0, .int p0]) (n := 2) (Nat.le_of_ble_eq_true rfl)
  rw [lg_entry_eq]
  generalize (lg_sl ([.ref h0, .int p0]) ++ List.replicate (2 - (lg_sl ([.ref h0, .int p0])).length) Slot.unset).toArray = ls at hl ⊢
  have hl : lv_has ls 2 [(0, .ref h0), (1, .int p0)] := hl
  refine lv_aload_n hx hb dX1_count_0 rfl (lv_at hl 0 rfl) ?_
  refine lv_iconst (v := 0) hx hb dX1_count_1 (by decide) ?_
  refine va_put (D := (dC, dI)) (ci := 1) (v := .int 0) (ty := .int) (C := RX1) (T := TX1) (N := 13) hx hb hts (fun _ h => List.mem_cons_of_mem _ (List.mem_append_right _ h)) tyX1 tyX1_ok nmX1 hown hK hP hD hS 0 rfl rfl 0 (by decide) (hts (.fieldLink RX1 20 "FileStatusModel" "code" "I") (by decide +kernel)) (fun _ h9 => h9) rfl (by decide +kernel) rfl rfl (Nat.le_of_ble_eq_true rfl) dX1_count_2 (fun H locs hP hD hS => ?_)
  have hP : va_P (dC, dI) vwCl [(h0, .inr (1, [.int 0, .int a1, .int a2, .int a3, .int a4, .int a5, .int a6, .int a7, .int a8, .int a9, .int a10, .int a11, .ref h1]))] H := hP
  have hD : va_D A [(h0, .inr (1, [.int 0, .int a1, .int a2, .int a3, .int a4, .int a5, .int a6, .int a7, .int a8, .int a9, .int a10, .int a11, .ref h1]))] := hD
  refine lv_iload_n hx hb dX1_count_5 rfl (lv_at hl 1 rfl) ?_
  by_cases c_1 : p0 = 0
  · refine lv_tableIn (off := 42) (tgt := 48) hx hb dX1_count_6 (by rw [c_1]; decide) (by rw [c_1]; decide) (by rw [c_1]; rfl) (by decide) ?_
    refine lv_aload_n hx hb dX1_count_48 rfl (lv_at hl 0 rfl) ?_
    refine va_get (D := (dC, dI)) (ci := 1) (v := .int a8) (C := RX1) (T := TX1) (N := 13) hx hb hts (fun _ h => List.mem_cons_of_mem _ (List.mem_append_right _ h)) hown hK hP 0 rfl rfl 8 (by decide) (hts (.fieldLink RX1 23 "FileStatusModel" "isOpen" "Z") (by decide +kernel)) (fun _ h9 => h9) rfl dX1_count_49 ?_
    refine lv_if_eq (tgt := 62) hx hb dX1_count_52 (by decide) (fun c_2 => ?_) (fun c_2 => ?_)
    · refine lv_iconst (v := (-1)) hx hb dX1_count_62 (by decide) ?_
      have hP9 := hP.sub (ws' := [(h0, .inr (1, [.int 0, .int a1, .int a2, .int a3, .int a4, .int a5, .int a6, .int a7, .int a8, .int a9, .int a10, .int a11, .ref h1]))]) [0] rfl
      have hD9 := hD.sub (ws' := [(h0, .inr (1, [.int 0, .int a1, .int a2, .int a3, .int a4, .int a5, .int a6, .int a7, .int a8, .int a9, .int a10, .int a11, .ref h1]))]) [0] (by decide) rfl
      have hK9 := hK.sub (tys' := []) [] rfl
      have eg_0 : gx_X1_count_0 = 0 := by rfl
      have ef : fx_X1_count a1 a2 a3 a4 a6 a7 a8 a9 p0 = (-1) := by unfold fx_X1_count; rw [if_pos c_1, if_pos c_2]
      exact W.iret (v := (-1)) hx hb hr (fun t ht hW => ⟨⟨(-1), [(h0, .inr (1, [.int 0, .int a1, .int a2, .int a3, .int a4, .int a5, .int a6, .int a7, .int a8, .int a9, .int a10, .int a11, .ref h1]))], rfl, ⟨ef.symm, by rw [eg_0]⟩, by rw [ht]; exact hP9, va_K.moved hW.alike hK9, hD9⟩, hS.F ht⟩) hS.2.2 dX1_count_63
    refine lv_aload_n hx hb dX1_count_55 rfl (lv_at hl 0 rfl) ?_
    refine va_get (D := (dC, dI)) (ci := 1) (v := .int a2) (C := RX1) (T := TX1) (N := 13) hx hb hts (fun _ h => List.mem_cons_of_mem _ (List.mem_append_right _ h)) hown hK hP 0 rfl rfl 2 (by decide) (hts (.fieldLink RX1 27 "FileStatusModel" "mode" "I") (by decide +kernel)) (fun _ h9 => h9) rfl dX1_count_56 ?_
    refine lv_goto (tgt := 63) hx hb dX1_count_59 (by decide) ?_
    have hP9 := hP.sub (ws' := [(h0, .inr (1, [.int 0, .int a1, .int a2, .int a3, .int a4, .int a5, .int a6, .int a7, .int a8, .int a9, .int a10, .int a11, .ref h1]))]) [0] rfl
    have hD9 := hD.sub (ws' := [(h0, .inr (1, [.int 0, .int a1, .int a2, .int a3, .int a4, .int a5, .int a6, .int a7, .int a8, .int a9, .int a10, .int a11, .ref h1]))]) [0] (by decide) rfl
    have hK9 := hK.sub (tys' := []) [] rfl
    have eg_0 : gx_X1_count_0 = 0 := by rfl
    have ef : fx_X1_count a1 a2 a3 a4 a6 a7 a8 a9 p0 = a2 := by unfold fx_X1_count; rw [if_pos c_1, if_neg c_2]
    exact W.iret (v := a2) hx hb hr (fun t ht hW => ⟨⟨a2, [(h0, .inr (1, [.int 0, .int a1, .int a2, .int a3, .int a4, .int a5, .int a6, .int a7, .int a8, .int a9, .int a10, .int a11, .ref h1]))], rfl, ⟨ef.symm, by rw [eg_0]⟩, by rw [ht]; exact hP9, va_K.moved hW.alike hK9, hD9⟩, hS.F ht⟩) hS.2.2 dX1_count_63
  by_cases c_3 : p0 = 1
  · refine lv_tableIn (off := 58) (tgt := 64) hx hb dX1_count_6 (by rw [c_3]; decide) (by rw [c_3]; decide) (by rw [c_3]; rfl) (by decide) ?_
    refine lv_aload_n hx hb dX1_count_64 rfl (lv_at hl 0 rfl) ?_
    refine va_get (D := (dC, dI)) (ci := 1) (v := .int a3) (C := RX1) (T := TX1) (N := 13) hx hb hts (fun _ h => List.mem_cons_of_mem _ (List.mem_append_right _ h)) hown hK hP 0 rfl rfl 3 (by decide) (hts (.fieldLink RX1 50 "FileStatusModel" "position" "I") (by decide +kernel)) (fun _ h9 => h9) rfl dX1_count_65 ?_
    have hP9 := hP.sub (ws' := [(h0, .inr (1, [.int 0, .int a1, .int a2, .int a3, .int a4, .int a5, .int a6, .int a7, .int a8, .int a9, .int a10, .int a11, .ref h1]))]) [0] rfl
    have hD9 := hD.sub (ws' := [(h0, .inr (1, [.int 0, .int a1, .int a2, .int a3, .int a4, .int a5, .int a6, .int a7, .int a8, .int a9, .int a10, .int a11, .ref h1]))]) [0] (by decide) rfl
    have hK9 := hK.sub (tys' := []) [] rfl
    have eg_0 : gx_X1_count_0 = 0 := by rfl
    have ef : fx_X1_count a1 a2 a3 a4 a6 a7 a8 a9 p0 = a3 := by unfold fx_X1_count; rw [if_neg c_1, if_pos c_3]
    exact W.iret (v := a3) hx hb hr (fun t ht hW => ⟨⟨a3, [(h0, .inr (1, [.int 0, .int a1, .int a2, .int a3, .int a4, .int a5, .int a6, .int a7, .int a8, .int a9, .int a10, .int a11, .ref h1]))], rfl, ⟨ef.symm, by rw [eg_0]⟩, by rw [ht]; exact hP9, va_K.moved hW.alike hK9, hD9⟩, hS.F ht⟩) hS.2.2 dX1_count_68
  by_cases c_4 : p0 = 2
  · refine lv_tableIn (off := 63) (tgt := 69) hx hb dX1_count_6 (by rw [c_4]; decide) (by rw [c_4]; decide) (by rw [c_4]; rfl) (by decide) ?_
    refine lv_aload_n hx hb dX1_count_69 rfl (lv_at hl 0 rfl) ?_
    refine va_get (D := (dC, dI)) (ci := 1) (v := .int a9) (C := RX1) (T := TX1) (N := 13) hx hb hts (fun _ h => List.mem_cons_of_mem _ (List.mem_append_right _ h)) hown hK hP 0 rfl rfl 9 (by decide) (hts (.fieldLink RX1 47 "FileStatusModel" "permit" "Z") (by decide +kernel)) (fun _ h9 => h9) rfl dX1_count_70 ?_
    refine lv_if_eq (tgt := 80) hx hb dX1_count_73 (by decide) (fun c_5 => ?_) (fun c_5 => ?_)
    · refine lv_iconst (v := 0) hx hb dX1_count_80 (by decide) ?_
      have hP9 := hP.sub (ws' := [(h0, .inr (1, [.int 0, .int a1, .int a2, .int a3, .int a4, .int a5, .int a6, .int a7, .int a8, .int a9, .int a10, .int a11, .ref h1]))]) [0] rfl
      have hD9 := hD.sub (ws' := [(h0, .inr (1, [.int 0, .int a1, .int a2, .int a3, .int a4, .int a5, .int a6, .int a7, .int a8, .int a9, .int a10, .int a11, .ref h1]))]) [0] (by decide) rfl
      have hK9 := hK.sub (tys' := []) [] rfl
      have eg_0 : gx_X1_count_0 = 0 := by rfl
      have ef : fx_X1_count a1 a2 a3 a4 a6 a7 a8 a9 p0 = 0 := by unfold fx_X1_count; rw [if_neg c_1, if_neg c_3, if_pos c_4, if_pos c_5]
      exact W.iret (v := 0) hx hb hr (fun t ht hW => ⟨⟨0, [(h0, .inr (1, [.int 0, .int a1, .int a2, .int a3, .int a4, .int a5, .int a6, .int a7, .int a8, .int a9, .int a10, .int a11, .ref h1]))], rfl, ⟨ef.symm, by rw [eg_0]⟩, by rw [ht]; exact hP9, va_K.moved hW.alike hK9, hD9⟩, hS.F ht⟩) hS.2.2 dX1_count_81
    refine lv_iconst (v := 1) hx hb dX1_count_76 (by decide) ?_
    refine lv_goto (tgt := 81) hx hb dX1_count_77 (by decide) ?_
    have hP9 := hP.sub (ws' := [(h0, .inr (1, [.int 0, .int a1, .int a2, .int a3, .int a4, .int a5, .int a6, .int a7, .int a8, .int a9, .int a10, .int a11, .ref h1]))]) [0] rfl
    have hD9 := hD.sub (ws' := [(h0, .inr (1, [.int 0, .int a1, .int a2, .int a3, .int a4, .int a5, .int a6, .int a7, .int a8, .int a9, .int a10, .int a11, .ref h1]))]) [0] (by decide) rfl
    have hK9 := hK.sub (tys' := []) [] rfl
    have eg_0 : gx_X1_count_0 = 0 := by rfl
    have ef : fx_X1_count a1 a2 a3 a4 a6 a7 a8 a9 p0 = 1 := by unfold fx_X1_count; rw [if_neg c_1, if_neg c_3, if_pos c_4, if_neg c_5]
    exact W.iret (v := 1) hx hb hr (fun t ht hW => ⟨⟨1, [(h0, .inr (1, [.int 0, .int a1, .int a2, .int a3, .int a4, .int a5, .int a6, .int a7, .int a8, .int a9, .int a10, .int a11, .ref h1]))], rfl, ⟨ef.symm, by rw [eg_0]⟩, by rw [ht]; exact hP9, va_K.moved hW.alike hK9, hD9⟩, hS.F ht⟩) hS.2.2 dX1_count_81
  by_cases c_6 : p0 = 3
  · refine lv_tableIn (off := 76) (tgt := 82) hx hb dX1_count_6 (by rw [c_6]; decide) (by rw [c_6]; decide) (by rw [c_6]; rfl) (by decide) ?_
    refine lv_aload_n hx hb dX1_count_82 rfl (lv_at hl 0 rfl) ?_
    refine va_get (D := (dC, dI)) (ci := 1) (v := .int a4) (C := RX1) (T := TX1) (N := 13) hx hb hts (fun _ h => List.mem_cons_of_mem _ (List.mem_append_right _ h)) hown hK hP 0 rfl rfl 4 (by decide) (hts (.fieldLink RX1 30 "FileStatusModel" "latest" "I") (by decide +kernel)) (fun _ h9 => h9) rfl dX1_count_83 ?_
    have hP9 := hP.sub (ws' := [(h0, .inr (1, [.int 0, .int a1, .int a2, .int a3, .int a4, .int a5, .int a6, .int a7, .int a8, .int a9, .int a10, .int a11, .ref h1]))]) [0] rfl
    have hD9 := hD.sub (ws' := [(h0, .inr (1, [.int 0, .int a1, .int a2, .int a3, .int a4, .int a5, .int a6, .int a7, .int a8, .int a9, .int a10, .int a11, .ref h1]))]) [0] (by decide) rfl
    have hK9 := hK.sub (tys' := []) [] rfl
    have eg_0 : gx_X1_count_0 = 0 := by rfl
    have ef : fx_X1_count a1 a2 a3 a4 a6 a7 a8 a9 p0 = a4 := by unfold fx_X1_count; rw [if_neg c_1, if_neg c_3, if_neg c_4, if_pos c_6]
    exact W.iret (v := a4) hx hb hr (fun t ht hW => ⟨⟨a4, [(h0, .inr (1, [.int 0, .int a1, .int a2, .int a3, .int a4, .int a5, .int a6, .int a7, .int a8, .int a9, .int a10, .int a11, .ref h1]))], rfl, ⟨ef.symm, by rw [eg_0]⟩, by rw [ht]; exact hP9, va_K.moved hW.alike hK9, hD9⟩, hS.F ht⟩) hS.2.2 dX1_count_86
  by_cases c_7 : p0 = 4
  · refine lv_tableIn (off := 81) (tgt := 87) hx hb dX1_count_6 (by rw [c_7]; decide) (by rw [c_7]; decide) (by rw [c_7]; rfl) (by decide) ?_
    refine lv_aload_n hx hb dX1_count_87 rfl (lv_at hl 0 rfl) ?_
    refine va_get (D := (dC, dI)) (ci := 1) (v := .int a6) (C := RX1) (T := TX1) (N := 13) hx hb hts (fun _ h => List.mem_cons_of_mem _ (List.mem_append_right _ h)) hown hK hP 0 rfl rfl 6 (by decide) (hts (.fieldLink RX1 33 "FileStatusModel" "good" "I") (by decide +kernel)) (fun _ h9 => h9) rfl dX1_count_88 ?_
    have hP9 := hP.sub (ws' := [(h0, .inr (1, [.int 0, .int a1, .int a2, .int a3, .int a4, .int a5, .int a6, .int a7, .int a8, .int a9, .int a10, .int a11, .ref h1]))]) [0] rfl
    have hD9 := hD.sub (ws' := [(h0, .inr (1, [.int 0, .int a1, .int a2, .int a3, .int a4, .int a5, .int a6, .int a7, .int a8, .int a9, .int a10, .int a11, .ref h1]))]) [0] (by decide) rfl
    have hK9 := hK.sub (tys' := []) [] rfl
    have eg_0 : gx_X1_count_0 = 0 := by rfl
    have ef : fx_X1_count a1 a2 a3 a4 a6 a7 a8 a9 p0 = a6 := by unfold fx_X1_count; rw [if_neg c_1, if_neg c_3, if_neg c_4, if_neg c_6, if_pos c_7]
    exact W.iret (v := a6) hx hb hr (fun t ht hW => ⟨⟨a6, [(h0, .inr (1, [.int 0, .int a1, .int a2, .int a3, .int a4, .int a5, .int a6, .int a7, .int a8, .int a9, .int a10, .int a11, .ref h1]))], rfl, ⟨ef.symm, by rw [eg_0]⟩, by rw [ht]; exact hP9, va_K.moved hW.alike hK9, hD9⟩, hS.F ht⟩) hS.2.2 dX1_count_91
  by_cases c_8 : p0 = 5
  · refine lv_tableIn (off := 86) (tgt := 92) hx hb dX1_count_6 (by rw [c_8]; decide) (by rw [c_8]; decide) (by rw [c_8]; rfl) (by decide) ?_
    refine lv_aload_n hx hb dX1_count_92 rfl (lv_at hl 0 rfl) ?_
    refine va_get (D := (dC, dI)) (ci := 1) (v := .int a7) (C := RX1) (T := TX1) (N := 13) hx hb hts (fun _ h => List.mem_cons_of_mem _ (List.mem_append_right _ h)) hown hK hP 0 rfl rfl 7 (by decide) (hts (.fieldLink RX1 36 "FileStatusModel" "bad" "I") (by decide +kernel)) (fun _ h9 => h9) rfl dX1_count_93 ?_
    have hP9 := hP.sub (ws' := [(h0, .inr (1, [.int 0, .int a1, .int a2, .int a3, .int a4, .int a5, .int a6, .int a7, .int a8, .int a9, .int a10, .int a11, .ref h1]))]) [0] rfl
    have hD9 := hD.sub (ws' := [(h0, .inr (1, [.int 0, .int a1, .int a2, .int a3, .int a4, .int a5, .int a6, .int a7, .int a8, .int a9, .int a10, .int a11, .ref h1]))]) [0] (by decide) rfl
    have hK9 := hK.sub (tys' := []) [] rfl
    have eg_0 : gx_X1_count_0 = 0 := by rfl
    have ef : fx_X1_count a1 a2 a3 a4 a6 a7 a8 a9 p0 = a7 := by unfold fx_X1_count; rw [if_neg c_1, if_neg c_3, if_neg c_4, if_neg c_6, if_neg c_7, if_pos c_8]
    exact W.iret (v := a7) hx hb hr (fun t ht hW => ⟨⟨a7, [(h0, .inr (1, [.int 0, .int a1, .int a2, .int a3, .int a4, .int a5, .int a6, .int a7, .int a8, .int a9, .int a10, .int a11, .ref h1]))], rfl, ⟨ef.symm, by rw [eg_0]⟩, by rw [ht]; exact hP9, va_K.moved hW.alike hK9, hD9⟩, hS.F ht⟩) hS.2.2 dX1_count_96
  by_cases c_9 : p0 = 6
  · refine lv_tableIn (off := 91) (tgt := 97) hx hb dX1_count_6 (by rw [c_9]; decide) (by rw [c_9]; decide) (by rw [c_9]; rfl) (by decide) ?_
    refine lv_aload_n hx hb dX1_count_97 rfl (lv_at hl 0 rfl) ?_
    refine va_get (D := (dC, dI)) (ci := 1) (v := .int a1) (C := RX1) (T := TX1) (N := 13) hx hb hts (fun _ h => List.mem_cons_of_mem _ (List.mem_append_right _ h)) hown hK hP 0 rfl rfl 1 (by decide) (hts (.fieldLink RX1 17 "FileStatusModel" "organisation" "I") (by decide +kernel)) (fun _ h9 => h9) rfl dX1_count_98 ?_
    have hP9 := hP.sub (ws' := [(h0, .inr (1, [.int 0, .int a1, .int a2, .int a3, .int a4, .int a5, .int a6, .int a7, .int a8, .int a9, .int a10, .int a11, .ref h1]))]) [0] rfl
    have hD9 := hD.sub (ws' := [(h0, .inr (1, [.int 0, .int a1, .int a2, .int a3, .int a4, .int a5, .int a6, .int a7, .int a8, .int a9, .int a10, .int a11, .ref h1]))]) [0] (by decide) rfl
    have hK9 := hK.sub (tys' := []) [] rfl
    have eg_0 : gx_X1_count_0 = 0 := by rfl
    have ef : fx_X1_count a1 a2 a3 a4 a6 a7 a8 a9 p0 = a1 := by unfold fx_X1_count; rw [if_neg c_1, if_neg c_3, if_neg c_4, if_neg c_6, if_neg c_7, if_neg c_8, if_pos c_9]
    exact W.iret (v := a1) hx hb hr (fun t ht hW => ⟨⟨a1, [(h0, .inr (1, [.int 0, .int a1, .int a2, .int a3, .int a4, .int a5, .int a6, .int a7, .int a8, .int a9, .int a10, .int a11, .ref h1]))], rfl, ⟨ef.symm, by rw [eg_0]⟩, by rw [ht]; exact hP9, va_K.moved hW.alike hK9, hD9⟩, hS.F ht⟩) hS.2.2 dX1_count_101
  refine lv_tableOut (tgt := 102) hx hb dX1_count_6 (by have n_0 : (p0 : Int32).toInt ≠ 0 := xx_ne c_1 (by decide); have n_1 : (p0 : Int32).toInt ≠ 1 := xx_ne c_3 (by decide); have n_2 : (p0 : Int32).toInt ≠ 2 := xx_ne c_4 (by decide); have n_3 : (p0 : Int32).toInt ≠ 3 := xx_ne c_6 (by decide); have n_4 : (p0 : Int32).toInt ≠ 4 := xx_ne c_7 (by decide); have n_5 : (p0 : Int32).toInt ≠ 5 := xx_ne c_8 (by decide); have n_6 : (p0 : Int32).toInt ≠ 6 := xx_ne c_9 (by decide); omega) (by decide) ?_
  refine lv_iconst (v := (-1)) hx hb dX1_count_102 (by decide) ?_
  have hP9 := hP.sub (ws' := [(h0, .inr (1, [.int 0, .int a1, .int a2, .int a3, .int a4, .int a5, .int a6, .int a7, .int a8, .int a9, .int a10, .int a11, .ref h1]))]) [0] rfl
  have hD9 := hD.sub (ws' := [(h0, .inr (1, [.int 0, .int a1, .int a2, .int a3, .int a4, .int a5, .int a6, .int a7, .int a8, .int a9, .int a10, .int a11, .ref h1]))]) [0] (by decide) rfl
  have hK9 := hK.sub (tys' := []) [] rfl
  have eg_0 : gx_X1_count_0 = 0 := by rfl
  have ef : fx_X1_count a1 a2 a3 a4 a6 a7 a8 a9 p0 = (-1) := by unfold fx_X1_count; rw [if_neg c_1, if_neg c_3, if_neg c_4, if_neg c_6, if_neg c_7, if_neg c_8, if_neg c_9]
  exact W.iret (v := (-1)) hx hb hr (fun t ht hW => ⟨⟨(-1), [(h0, .inr (1, [.int 0, .int a1, .int a2, .int a3, .int a4, .int a5, .int a6, .int a7, .int a8, .int a9, .int a10, .int a11, .ref h1]))], rfl, ⟨ef.symm, by rw [eg_0]⟩, by rw [ht]; exact hP9, va_K.moved hW.alike hK9, hD9⟩, hS.F ht⟩) hS.2.2 dX1_count_103
set_option maxHeartbeats 4000000 in
set_option maxRecDepth 100000 in
theorem ct_X1_open (l : Launch) (dC : Nat → ClassId) (dI : Nat → Nat → Nat) (h0 : Nat) (h1 : Nat) (sz : Nat) (a0 a1 a2 a3 a4 a5 a6 a7 a8 a9 a10 a11 p0 : Int32) : Met l yX1_open wsX1_open ({ frames := 1, cells := 0, slots := 0, locals := 22 }) (va_Pc [.ref h0, .int p0] (fun U => U.heap.size = sz ∧ va_P (dC, dI) vwCl [(h0, .inr (1, [.int a0, .int a1, .int a2, .int a3, .int a4, .int a5, .int a6, .int a7, .int a8, .int a9, .int a10, .int a11, .ref h1]))] U.heap ∧ va_K (dC, dI) vwCl [] U ∧ va_D (fun _ => True) [(h0, .inr (1, [.int a0, .int a1, .int a2, .int a3, .int a4, .int a5, .int a6, .int a7, .int a8, .int a9, .int a10, .int a11, .ref h1]))])) (va_Qi (fun (r : Int32) (u : va_W) => r = fx_X1_open a2 a8 a10 p0 ∧ u = [(h0, .inr (1, [.int gx_X1_open_0, .int a1, .int a2, .int (gx_X1_open_3 a2 a3 a8 a10 p0), .int (gx_X1_open_4 a2 a8 a10 p0), .int gx_X1_open_5, .int a6, .int (gx_X1_open_7 a2 a7 a8 a10 p0), .int (gx_X1_open_8 a2 a8 a10 p0), .int gx_X1_open_9, .int a10, .int (gx_X1_open_11 a2 a8 a10 a11 p0), .ref h1]))]) (at_W dC dI [] (va_A [(h0, .inr (1, [.int a0, .int a1, .int a2, .int a3, .int a4, .int a5, .int a6, .int a7, .int a8, .int a9, .int a10, .int a11, .ref h1]))] sz)) (va_A [(h0, .inr (1, [.int a0, .int a1, .int a2, .int a3, .int a4, .int a5, .int a6, .int a7, .int a8, .int a9, .int a10, .int a11, .ref h1]))] sz)) 0 0 (va_A [(h0, .inr (1, [.int a0, .int a1, .int a2, .int a3, .int a4, .int a5, .int a6, .int a7, .int a8, .int a9, .int a10, .int a11, .ref h1]))] sz) := by
  refine Met.ofW (cc := cX1_open) (maxL := 4) (ret := (some .int)) (by decide) rfl ?_
  intro p e s m args below meth c s₁ B hml hv
  obtain ⟨rfl, hsz, hP, hK, hD0⟩ := hv
  have hx := B.exec
  have hb := B.bytes
  have hr := B.returns
  have hts := atoms_spec (ws := wsX1_open) B.pre
  have hown : s.vm.findClass RX1 = some m.cls := findClass_of_methodNamed B.named
  have hlocks := B.notSynchronized
  subst hsz
  have hD := hD0.self (sz := s.heap.size)
  generalize hAe : va_A [(h0, .inr (1, [.int a0, .int a1, .int a2, .int a3, .int a4, .int a5, .int a6, .int a7, .int a8, .int a9, .int a10, .int a11, .ref h1]))] s.heap.size = A at hD ⊢
  have hA : ∀ q : Nat, s.heap.size ≤ q → A q := fun q h => by rw [← hAe]; exact Or.inr h
  have hS : va_S A s.heap s.heap [] := va_S.rf
  have hP : va_P (dC, dI) vwCl [(h0, .inr (1, [.int a0, .int a1, .int a2, .int a3, .int a4, .int a5, .int a6, .int a7, .int a8, .int a9, .int a10, .int a11, .ref h1]))] s.heap := hP
  have hl := lv_entry ([.ref h0, .int p0]) (n := 4) (Nat.le_of_ble_eq_true rfl)
  rw [lg_entry_eq]
  generalize (lg_sl ([.ref h0, .int p0]) ++ List.replicate (4 - (lg_sl ([.ref h0, .int p0])).length) Slot.unset).toArray = ls at hl ⊢
  have hl : lv_has ls 4 [(0, .ref h0), (1, .int p0)] := hl
  refine lv_aload_n hx hb dX1_open_0 rfl (lv_at hl 0 rfl) ?_
  refine lv_iconst (v := 0) hx hb dX1_open_1 (by decide) ?_
  refine va_put (D := (dC, dI)) (ci := 1) (v := .int 0) (ty := .int) (C := RX1) (T := TX1) (N := 13) hx hb hts (fun _ h => List.mem_cons_of_mem _ (List.mem_append_right _ h)) tyX1 tyX1_ok nmX1 hown hK hP hD hS 0 rfl rfl 0 (by decide) (hts (.fieldLink RX1 20 "FileStatusModel" "code" "I") (by decide +kernel)) (fun _ h9 => h9) rfl (by decide +kernel) rfl rfl (Nat.le_of_ble_eq_true rfl) dX1_open_2 (fun H locs hP hD hS => ?_)
  have hP : va_P (dC, dI) vwCl [(h0, .inr (1, [.int 0, .int a1, .int a2, .int a3, .int a4, .int a5, .int a6, .int a7, .int a8, .int a9, .int a10, .int a11, .ref h1]))] H := hP
  have hD : va_D A [(h0, .inr (1, [.int 0, .int a1, .int a2, .int a3, .int a4, .int a5, .int a6, .int a7, .int a8, .int a9, .int a10, .int a11, .ref h1]))] := hD
  refine lv_aload_n hx hb dX1_open_5 rfl (lv_at hl 0 rfl) ?_
  refine lv_iload_n hx hb dX1_open_6 rfl (lv_at hl 1 rfl) ?_
  have hPc := hP.sub (ws' := [(h0, .inr (1, [.int 0, .int a1, .int a2, .int a3, .int a4, .int a5, .int a6, .int a7, .int a8, .int a9, .int a10, .int a11, .ref h1]))]) [0] rfl
  have hDc := hD.sub (ws' := [(h0, .inr (1, [.int 0, .int a1, .int a2, .int a3, .int a4, .int a5, .int a6, .int a7, .int a8, .int a9, .int a10, .int a11, .ref h1]))]) [0] (by decide) rfl
  have hKc := hK.sub (tys' := []) [] rfl
  have hFc := va_free (wc := [(h0, .inr (1, [.int 0, .int a1, .int a2, .int a3, .int a4, .int a5, .int a6, .int a7, .int a8, .int a9, .int a10, .int a11, .ref h1]))]) hD hS hA [0] rfl
  refine va_calli (va_runV (As := [.int p0]) (rest := []) ⟨hx, hb, hml, hown, hts⟩ (ct_X1_opened l dC dI h0 h1 H.size 0 a1 a2 a3 a4 a5 a6 a7 a8 a9 a10 a11 p0) (cwV 1 hts gX1_open_X1_opened rfl rfl rfl (by decide +kernel) ⟨Nat.le_of_ble_eq_true rfl, Nat.le_of_ble_eq_true rfl⟩) ⟨fun a U g mk q => by obtain ⟨q0, q1, qP, qK, qD⟩ := q; exact ⟨q0, q1, qP, va_K.moved (u := U) (U := U.calling g mk a) (Vm.Alike.refl U.vm) qK, qD⟩, va_recv hKc hPc (ci := 1) (q0 := 0) rfl rfl, fun U hU hW => ⟨rfl, by rw [hU], by rw [hU]; exact hPc, va_K.moved hW.alike hKc, hDc.weaken (fun _ _ _ _ => trivial)⟩⟩ rfl rfl hl.1 rfl (lv_room (Nat.le_of_ble_eq_true rfl)) dX1_open_7 ⟨(Nat.zero_le _), (Nat.zero_le _)⟩) hS (fun q _ h => hFc q h) hFc (fun r_1 u t H1 locs ht hvm hw hB hz1 hk1 hS => ?_)
  obtain ⟨er, hu⟩ := hw
  subst hu
  subst er
  obtain ⟨hP1, -, hD1⟩ := hB
  rw [ht] at hP1
  obtain ⟨hP, hD⟩ := va_join (wr := []) (w1 := [(h0, .inr (1, [.int 0, .int a1, .int a2, .int a3, .int a4, .int a5, .int a6, .int a7, .int a8, .int a9, .int a10, .int a11, .ref h1]))]) hP hD [0] [] rfl rfl (by decide) (by decide) hk1 hFc hP1 hD1
  generalize H1 = H at hP hS ⊢
  have hP : va_P (dC, dI) vwCl [(h0, .inr (1, [.int 0, .int a1, .int a2, .int a3, .int a4, .int a5, .int a6, .int a7, .int a8, .int a9, .int a10, .int a11, .ref h1]))] H := hP
  have hD : va_D A [(h0, .inr (1, [.int 0, .int a1, .int a2, .int a3, .int a4, .int a5, .int a6, .int a7, .int a8, .int a9, .int a10, .int a11, .ref h1]))] := hD
  refine lv_istore_n (lv' := [(2, .int (fx_X1_opened a2 a8 a10 p0)), (0, .ref h0), (1, .int p0)]) hx hb dX1_open_10 rfl hl (by decide) rfl (fun ls hl => ?_)
  refine lv_aload_n hx hb dX1_open_11 rfl (lv_at hl 1 rfl) ?_
  refine va_get (D := (dC, dI)) (ci := 1) (v := .int a6) (C := RX1) (T := TX1) (N := 13) hx hb hts (fun _ h => List.mem_cons_of_mem _ (List.mem_append_right _ h)) hown hK hP 0 rfl rfl 6 (by decide) (hts (.fieldLink RX1 33 "FileStatusModel" "good" "I") (by decide +kernel)) (fun _ h9 => h9) rfl dX1_open_12 ?_
  refine lv_istore_n (lv' := [(3, .int a6), (2, .int (fx_X1_opened a2 a8 a10 p0)), (0, .ref h0), (1, .int p0)]) hx hb dX1_open_15 rfl hl (by decide) rfl (fun ls hl => ?_)
  refine lv_aload_n hx hb dX1_open_16 rfl (lv_at hl 2 rfl) ?_
  refine lv_iload_n hx hb dX1_open_17 rfl (lv_at hl 1 rfl) ?_
  refine lv_bipush (v := 7) hx hb dX1_open_18 (by decide) ?_
  have hPc := hP.sub (ws' := [(h0, .inr (1, [.int 0, .int a1, .int a2, .int a3, .int a4, .int a5, .int a6, .int a7, .int a8, .int a9, .int a10, .int a11, .ref h1]))]) [0] rfl
  have hDc := hD.sub (ws' := [(h0, .inr (1, [.int 0, .int a1, .int a2, .int a3, .int a4, .int a5, .int a6, .int a7, .int a8, .int a9, .int a10, .int a11, .ref h1]))]) [0] (by decide) rfl
  have hKc := hK.sub (tys' := []) [] rfl
  have hFc := va_free (wc := [(h0, .inr (1, [.int 0, .int a1, .int a2, .int a3, .int a4, .int a5, .int a6, .int a7, .int a8, .int a9, .int a10, .int a11, .ref h1]))]) hD hS hA [0] rfl
  refine va_calli (va_runV (As := [.int (fx_X1_opened a2 a8 a10 p0), .int 7]) (rest := []) ⟨hx, hb, hml, hown, hts⟩ (ct_X1_told l dC dI h0 h1 H.size 0 a1 a2 a3 a4 a5 a6 a7 a8 a9 a10 a11 (fx_X1_opened a2 a8 a10 p0) 7) (cwV 2 hts gX1_open_X1_told rfl rfl rfl (by decide +kernel) ⟨Nat.le_of_ble_eq_true rfl, Nat.le_of_ble_eq_true rfl⟩) ⟨fun a U g mk q => by obtain ⟨q0, q1, qP, qK, qD⟩ := q; exact ⟨q0, q1, qP, va_K.moved (u := U) (U := U.calling g mk a) (Vm.Alike.refl U.vm) qK, qD⟩, va_recv hKc hPc (ci := 1) (q0 := 0) rfl rfl, fun U hU hW => ⟨rfl, by rw [hU], by rw [hU]; exact hPc, va_K.moved hW.alike hKc, hDc.weaken (fun _ _ _ _ => trivial)⟩⟩ rfl rfl hl.1 rfl (lv_room (Nat.le_of_ble_eq_true rfl)) dX1_open_20 ⟨(Nat.zero_le _), (Nat.zero_le _)⟩) hS (fun q _ h => hFc q h) hFc (fun r_2 u t H1 locs ht hvm hw hB hz1 hk1 hS => ?_)
  obtain ⟨er, hu⟩ := hw
  subst hu
  subst er
  obtain ⟨hP1, -, hD1⟩ := hB
  rw [ht] at hP1
  obtain ⟨hP, hD⟩ := va_join (wr := []) (w1 := [(h0, .inr (1, [.int 0, .int a1, .int a2, .int a3, .int (gx_X1_told_4 (fx_X1_opened a2 a8 a10 p0)), .int (gx_X1_told_5 7), .int (gx_X1_told_6 a6 (fx_X1_opened a2 a8 a10 p0)), .int (gx_X1_told_7 a7 (fx_X1_opened a2 a8 a10 p0)), .int a8, .int a9, .int a10, .int a11, .ref h1]))]) hP hD [0] [] rfl rfl (by decide) (by decide) hk1 hFc hP1 hD1
  generalize H1 = H at hP hS ⊢
  have hP : va_P (dC, dI) vwCl [(h0, .inr (1, [.int 0, .int a1, .int a2, .int a3, .int (gx_X1_told_4 (fx_X1_opened a2 a8 a10 p0)), .int (gx_X1_told_5 7), .int (gx_X1_told_6 a6 (fx_X1_opened a2 a8 a10 p0)), .int (gx_X1_told_7 a7 (fx_X1_opened a2 a8 a10 p0)), .int a8, .int a9, .int a10, .int a11, .ref h1]))] H := hP
  have hD : va_D A [(h0, .inr (1, [.int 0, .int a1, .int a2, .int a3, .int (gx_X1_told_4 (fx_X1_opened a2 a8 a10 p0)), .int (gx_X1_told_5 7), .int (gx_X1_told_6 a6 (fx_X1_opened a2 a8 a10 p0)), .int (gx_X1_told_7 a7 (fx_X1_opened a2 a8 a10 p0)), .int a8, .int a9, .int a10, .int a11, .ref h1]))] := hD
  refine lv_pop hx hb dX1_open_23 rfl ?_
  refine lv_aload_n hx hb dX1_open_24 rfl (lv_at hl 2 rfl) ?_
  refine lv_iload_n hx hb dX1_open_25 rfl (lv_at hl 0 rfl) ?_
  refine va_put (D := (dC, dI)) (ci := 1) (v := .int a6) (ty := .int) (C := RX1) (T := TX1) (N := 13) hx hb hts (fun _ h => List.mem_cons_of_mem _ (List.mem_append_right _ h)) tyX1 tyX1_ok nmX1 hown hK hP hD hS 0 rfl rfl 6 (by decide) (hts (.fieldLink RX1 33 "FileStatusModel" "good" "I") (by decide +kernel)) (fun _ h9 => h9) rfl (by decide +kernel) rfl rfl (Nat.le_of_ble_eq_true rfl) dX1_open_26 (fun H locs hP hD hS => ?_)
  have hP : va_P (dC, dI) vwCl [(h0, .inr (1, [.int 0, .int a1, .int a2, .int a3, .int (gx_X1_told_4 (fx_X1_opened a2 a8 a10 p0)), .int (gx_X1_told_5 7), .int a6, .int (gx_X1_told_7 a7 (fx_X1_opened a2 a8 a10 p0)), .int a8, .int a9, .int a10, .int a11, .ref h1]))] H := hP
  have hD : va_D A [(h0, .inr (1, [.int 0, .int a1, .int a2, .int a3, .int (gx_X1_told_4 (fx_X1_opened a2 a8 a10 p0)), .int (gx_X1_told_5 7), .int a6, .int (gx_X1_told_7 a7 (fx_X1_opened a2 a8 a10 p0)), .int a8, .int a9, .int a10, .int a11, .ref h1]))] := hD
  refine lv_aload_n hx hb dX1_open_29 rfl (lv_at hl 2 rfl) ?_
  refine lv_iconst (v := 0) hx hb dX1_open_30 (by decide) ?_
  refine va_put (D := (dC, dI)) (ci := 1) (v := .int 0) (ty := .boolean) (C := RX1) (T := TX1) (N := 13) hx hb hts (fun _ h => List.mem_cons_of_mem _ (List.mem_append_right _ h)) tyX1 tyX1_ok nmX1 hown hK hP hD hS 0 rfl rfl 9 (by decide) (hts (.fieldLink RX1 47 "FileStatusModel" "permit" "Z") (by decide +kernel)) (fun _ h9 => h9) rfl (by decide +kernel) rfl rfl (Nat.le_of_ble_eq_true rfl) dX1_open_31 (fun H locs hP hD hS => ?_)
  have hP : va_P (dC, dI) vwCl [(h0, .inr (1, [.int 0, .int a1, .int a2, .int a3, .int (gx_X1_told_4 (fx_X1_opened a2 a8 a10 p0)), .int (gx_X1_told_5 7), .int a6, .int (gx_X1_told_7 a7 (fx_X1_opened a2 a8 a10 p0)), .int a8, .int 0, .int a10, .int a11, .ref h1]))] H := hP
  have hD : va_D A [(h0, .inr (1, [.int 0, .int a1, .int a2, .int a3, .int (gx_X1_told_4 (fx_X1_opened a2 a8 a10 p0)), .int (gx_X1_told_5 7), .int a6, .int (gx_X1_told_7 a7 (fx_X1_opened a2 a8 a10 p0)), .int a8, .int 0, .int a10, .int a11, .ref h1]))] := hD
  refine lv_iload_n hx hb dX1_open_34 rfl (lv_at hl 1 rfl) ?_
  refine lv_if_eq (tgt := 45) hx hb dX1_open_35 (by decide) (fun c_3 => ?_) (fun c_3 => ?_)
  · refine lv_aload_n hx hb dX1_open_45 rfl (lv_at hl 2 rfl) ?_
    refine lv_iconst (v := 1) hx hb dX1_open_46 (by decide) ?_
    refine va_put (D := (dC, dI)) (ci := 1) (v := .int 1) (ty := .boolean) (C := RX1) (T := TX1) (N := 13) hx hb hts (fun _ h => List.mem_cons_of_mem _ (List.mem_append_right _ h)) tyX1 tyX1_ok nmX1 hown hK hP hD hS 0 rfl rfl 8 (by decide) (hts (.fieldLink RX1 23 "FileStatusModel" "isOpen" "Z") (by decide +kernel)) (fun _ h9 => h9) rfl (by decide +kernel) rfl rfl (Nat.le_of_ble_eq_true rfl) dX1_open_47 (fun H locs hP hD hS => ?_)
    have hP : va_P (dC, dI) vwCl [(h0, .inr (1, [.int 0, .int a1, .int a2, .int a3, .int (gx_X1_told_4 (fx_X1_opened a2 a8 a10 p0)), .int (gx_X1_told_5 7), .int a6, .int (gx_X1_told_7 a7 (fx_X1_opened a2 a8 a10 p0)), .int 1, .int 0, .int a10, .int a11, .ref h1]))] H := hP
    have hD : va_D A [(h0, .inr (1, [.int 0, .int a1, .int a2, .int a3, .int (gx_X1_told_4 (fx_X1_opened a2 a8 a10 p0)), .int (gx_X1_told_5 7), .int a6, .int (gx_X1_told_7 a7 (fx_X1_opened a2 a8 a10 p0)), .int 1, .int 0, .int a10, .int a11, .ref h1]))] := hD
    refine lv_aload_n hx hb dX1_open_50 rfl (lv_at hl 2 rfl) ?_
    refine lv_iconst (v := 0) hx hb dX1_open_51 (by decide) ?_
    refine va_put (D := (dC, dI)) (ci := 1) (v := .int 0) (ty := .int) (C := RX1) (T := TX1) (N := 13) hx hb hts (fun _ h => List.mem_cons_of_mem _ (List.mem_append_right _ h)) tyX1 tyX1_ok nmX1 hown hK hP hD hS 0 rfl rfl 3 (by decide) (hts (.fieldLink RX1 50 "FileStatusModel" "position" "I") (by decide +kernel)) (fun _ h9 => h9) rfl (by decide +kernel) rfl rfl (Nat.le_of_ble_eq_true rfl) dX1_open_52 (fun H locs hP hD hS => ?_)
    have hP : va_P (dC, dI) vwCl [(h0, .inr (1, [.int 0, .int a1, .int a2, .int 0, .int (gx_X1_told_4 (fx_X1_opened a2 a8 a10 p0)), .int (gx_X1_told_5 7), .int a6, .int (gx_X1_told_7 a7 (fx_X1_opened a2 a8 a10 p0)), .int 1, .int 0, .int a10, .int a11, .ref h1]))] H := hP
    have hD : va_D A [(h0, .inr (1, [.int 0, .int a1, .int a2, .int 0, .int (gx_X1_told_4 (fx_X1_opened a2 a8 a10 p0)), .int (gx_X1_told_5 7), .int a6, .int (gx_X1_told_7 a7 (fx_X1_opened a2 a8 a10 p0)), .int 1, .int 0, .int a10, .int a11, .ref h1]))] := hD
    refine lv_aload_n hx hb dX1_open_55 rfl (lv_at hl 2 rfl) ?_
    refine lv_iload_n hx hb dX1_open_56 rfl (lv_at hl 1 rfl) ?_
    refine lv_iconst (v := 5) hx hb dX1_open_57 (by decide) ?_
    refine lv_icmp_ne (tgt := 80) hx hb dX1_open_58 (by decide) (fun c9 => ?_) (fun c9 => absurd (c_3.symm.trans c9) (by decide))
    refine lv_iconst (v := 0) hx hb dX1_open_80 (by decide) ?_
    refine va_put (D := (dC, dI)) (ci := 1) (v := .int 0) (ty := .boolean) (C := RX1) (T := TX1) (N := 13) hx hb hts (fun _ h => List.mem_cons_of_mem _ (List.mem_append_right _ h)) tyX1 tyX1_ok nmX1 hown hK hP hD hS 0 rfl rfl 11 (by decide) (hts (.fieldLink RX1 53 "FileStatusModel" "nothing" "Z") (by decide +kernel)) (fun _ h9 => h9) rfl (by decide +kernel) rfl rfl (Nat.le_of_ble_eq_true rfl) dX1_open_81 (fun H locs hP hD hS => ?_)
    have hP : va_P (dC, dI) vwCl [(h0, .inr (1, [.int 0, .int a1, .int a2, .int 0, .int (gx_X1_told_4 (fx_X1_opened a2 a8 a10 p0)), .int (gx_X1_told_5 7), .int a6, .int (gx_X1_told_7 a7 (fx_X1_opened a2 a8 a10 p0)), .int 1, .int 0, .int a10, .int 0, .ref h1]))] H := hP
    have hD : va_D A [(h0, .inr (1, [.int 0, .int a1, .int a2, .int 0, .int (gx_X1_told_4 (fx_X1_opened a2 a8 a10 p0)), .int (gx_X1_told_5 7), .int a6, .int (gx_X1_told_7 a7 (fx_X1_opened a2 a8 a10 p0)), .int 1, .int 0, .int a10, .int 0, .ref h1]))] := hD
    refine lv_iload_n hx hb dX1_open_84 rfl (lv_at hl 1 rfl) ?_
    have hP9 := hP.sub (ws' := [(h0, .inr (1, [.int 0, .int a1, .int a2, .int 0, .int (gx_X1_told_4 (fx_X1_opened a2 a8 a10 p0)), .int (gx_X1_told_5 7), .int a6, .int (gx_X1_told_7 a7 (fx_X1_opened a2 a8 a10 p0)), .int 1, .int 0, .int a10, .int 0, .ref h1]))]) [0] rfl
    have hD9 := hD.sub (ws' := [(h0, .inr (1, [.int 0, .int a1, .int a2, .int 0, .int (gx_X1_told_4 (fx_X1_opened a2 a8 a10 p0)), .int (gx_X1_told_5 7), .int a6, .int (gx_X1_told_7 a7 (fx_X1_opened a2 a8 a10 p0)), .int 1, .int 0, .int a10, .int 0, .ref h1]))]) [0] (by decide) rfl
    have hK9 := hK.sub (tys' := []) [] rfl
    have eg_0 : gx_X1_open_0 = 0 := by rfl
    have eg_3 : gx_X1_open_3 a2 a3 a8 a10 p0 = 0 := by unfold gx_X1_open_3; rw [if_pos c_3]
    have eg_4 : gx_X1_open_4 a2 a8 a10 p0 = gx_X1_told_4 (fx_X1_opened a2 a8 a10 p0) := by rfl
    have eg_5 : gx_X1_open_5 = gx_X1_told_5 7 := by rfl
    have eg_7 : gx_X1_open_7 a2 a7 a8 a10 p0 = gx_X1_told_7 a7 (fx_X1_opened a2 a8 a10 p0) := by rfl
    have eg_8 : gx_X1_open_8 a2 a8 a10 p0 = 1 := by unfold gx_X1_open_8; rw [if_pos c_3]
    have eg_9 : gx_X1_open_9 = 0 := by rfl
    have eg_11 : gx_X1_open_11 a2 a8 a10 a11 p0 = 0 := by unfold gx_X1_open_11; rw [if_pos c_3]
    have ef : fx_X1_open a2 a8 a10 p0 = fx_X1_opened a2 a8 a10 p0 := by rfl
    exact W.iret (v := fx_X1_opened a2 a8 a10 p0) hx hb hr (fun t ht hW => ⟨⟨(fx_X1_opened a2 a8 a10 p0), [(h0, .inr (1, [.int 0, .int a1, .int a2, .int 0, .int (gx_X1_told_4 (fx_X1_opened a2 a8 a10 p0)), .int (gx_X1_told_5 7), .int a6, .int (gx_X1_told_7 a7 (fx_X1_opened a2 a8 a10 p0)), .int 1, .int 0, .int a10, .int 0, .ref h1]))], rfl, ⟨ef.symm, by rw [eg_0, eg_3, eg_4, eg_5, eg_7, eg_8, eg_9, eg_11]⟩, by rw [ht]; exact hP9, va_K.moved hW.alike hK9, hD9⟩, hS.F ht⟩) hS.2.2 dX1_open_85
  refine lv_iload_n hx hb dX1_open_38 rfl (lv_at hl 1 rfl) ?_
  refine lv_iconst (v := 5) hx hb dX1_open_39 (by decide) ?_
  refine lv_icmp_eq (tgt := 45) hx hb dX1_open_40 (by decide) (fun c_4 => ?_) (fun c_4 => ?_)
  · refine lv_aload_n hx hb dX1_open_45 rfl (lv_at hl 2 rfl) ?_
    refine lv_iconst (v := 1) hx hb dX1_open_46 (by decide) ?_
    refine va_put (D := (dC, dI)) (ci := 1) (v := .int 1) (ty := .boolean) (C := RX1) (T := TX1) (N := 13) hx hb hts (fun _ h => List.mem_cons_of_mem _ (List.mem_append_right _ h)) tyX1 tyX1_ok nmX1 hown hK hP hD hS 0 rfl rfl 8 (by decide) (hts (.fieldLink RX1 23 "FileStatusModel" "isOpen" "Z") (by decide +kernel)) (fun _ h9 => h9) rfl (by decide +kernel) rfl rfl (Nat.le_of_ble_eq_true rfl) dX1_open_47 (fun H locs hP hD hS => ?_)
    have hP : va_P (dC, dI) vwCl [(h0, .inr (1, [.int 0, .int a1, .int a2, .int a3, .int (gx_X1_told_4 (fx_X1_opened a2 a8 a10 p0)), .int (gx_X1_told_5 7), .int a6, .int (gx_X1_told_7 a7 (fx_X1_opened a2 a8 a10 p0)), .int 1, .int 0, .int a10, .int a11, .ref h1]))] H := hP
    have hD : va_D A [(h0, .inr (1, [.int 0, .int a1, .int a2, .int a3, .int (gx_X1_told_4 (fx_X1_opened a2 a8 a10 p0)), .int (gx_X1_told_5 7), .int a6, .int (gx_X1_told_7 a7 (fx_X1_opened a2 a8 a10 p0)), .int 1, .int 0, .int a10, .int a11, .ref h1]))] := hD
    refine lv_aload_n hx hb dX1_open_50 rfl (lv_at hl 2 rfl) ?_
    refine lv_iconst (v := 0) hx hb dX1_open_51 (by decide) ?_
    refine va_put (D := (dC, dI)) (ci := 1) (v := .int 0) (ty := .int) (C := RX1) (T := TX1) (N := 13) hx hb hts (fun _ h => List.mem_cons_of_mem _ (List.mem_append_right _ h)) tyX1 tyX1_ok nmX1 hown hK hP hD hS 0 rfl rfl 3 (by decide) (hts (.fieldLink RX1 50 "FileStatusModel" "position" "I") (by decide +kernel)) (fun _ h9 => h9) rfl (by decide +kernel) rfl rfl (Nat.le_of_ble_eq_true rfl) dX1_open_52 (fun H locs hP hD hS => ?_)
    have hP : va_P (dC, dI) vwCl [(h0, .inr (1, [.int 0, .int a1, .int a2, .int 0, .int (gx_X1_told_4 (fx_X1_opened a2 a8 a10 p0)), .int (gx_X1_told_5 7), .int a6, .int (gx_X1_told_7 a7 (fx_X1_opened a2 a8 a10 p0)), .int 1, .int 0, .int a10, .int a11, .ref h1]))] H := hP
    have hD : va_D A [(h0, .inr (1, [.int 0, .int a1, .int a2, .int 0, .int (gx_X1_told_4 (fx_X1_opened a2 a8 a10 p0)), .int (gx_X1_told_5 7), .int a6, .int (gx_X1_told_7 a7 (fx_X1_opened a2 a8 a10 p0)), .int 1, .int 0, .int a10, .int a11, .ref h1]))] := hD
    refine lv_aload_n hx hb dX1_open_55 rfl (lv_at hl 2 rfl) ?_
    refine lv_iload_n hx hb dX1_open_56 rfl (lv_at hl 1 rfl) ?_
    refine lv_iconst (v := 5) hx hb dX1_open_57 (by decide) ?_
    refine lv_icmp_ne (tgt := 80) hx hb dX1_open_58 (by decide) (fun c9 => absurd c_4 c9) (fun c9 => ?_)
    refine lv_aload_n hx hb dX1_open_61 rfl (lv_at hl 2 rfl) ?_
    refine va_get (D := (dC, dI)) (ci := 1) (v := .int a2) (C := RX1) (T := TX1) (N := 13) hx hb hts (fun _ h => List.mem_cons_of_mem _ (List.mem_append_right _ h)) hown hK hP 0 rfl rfl 2 (by decide) (hts (.fieldLink RX1 27 "FileStatusModel" "mode" "I") (by decide +kernel)) (fun _ h9 => h9) rfl dX1_open_62 ?_
    refine lv_if_eq (tgt := 76) hx hb dX1_open_65 (by decide) (fun c_5 => ?_) (fun c_5 => ?_)
    · refine lv_iconst (v := 1) hx hb dX1_open_76 (by decide) ?_
      refine lv_goto (tgt := 81) hx hb dX1_open_77 (by decide) ?_
      refine va_put (D := (dC, dI)) (ci := 1) (v := .int 1) (ty := .boolean) (C := RX1) (T := TX1) (N := 13) hx hb hts (fun _ h => List.mem_cons_of_mem _ (List.mem_append_right _ h)) tyX1 tyX1_ok nmX1 hown hK hP hD hS 0 rfl rfl 11 (by decide) (hts (.fieldLink RX1 53 "FileStatusModel" "nothing" "Z") (by decide +kernel)) (fun _ h9 => h9) rfl (by decide +kernel) rfl rfl (Nat.le_of_ble_eq_true rfl) dX1_open_81 (fun H locs hP hD hS => ?_)
      have hP : va_P (dC, dI) vwCl [(h0, .inr (1, [.int 0, .int a1, .int a2, .int 0, .int (gx_X1_told_4 (fx_X1_opened a2 a8 a10 p0)), .int (gx_X1_told_5 7), .int a6, .int (gx_X1_told_7 a7 (fx_X1_opened a2 a8 a10 p0)), .int 1, .int 0, .int a10, .int 1, .ref h1]))] H := hP
      have hD : va_D A [(h0, .inr (1, [.int 0, .int a1, .int a2, .int 0, .int (gx_X1_told_4 (fx_X1_opened a2 a8 a10 p0)), .int (gx_X1_told_5 7), .int a6, .int (gx_X1_told_7 a7 (fx_X1_opened a2 a8 a10 p0)), .int 1, .int 0, .int a10, .int 1, .ref h1]))] := hD
      refine lv_iload_n hx hb dX1_open_84 rfl (lv_at hl 1 rfl) ?_
      have hP9 := hP.sub (ws' := [(h0, .inr (1, [.int 0, .int a1, .int a2, .int 0, .int (gx_X1_told_4 (fx_X1_opened a2 a8 a10 p0)), .int (gx_X1_told_5 7), .int a6, .int (gx_X1_told_7 a7 (fx_X1_opened a2 a8 a10 p0)), .int 1, .int 0, .int a10, .int 1, .ref h1]))]) [0] rfl
      have hD9 := hD.sub (ws' := [(h0, .inr (1, [.int 0, .int a1, .int a2, .int 0, .int (gx_X1_told_4 (fx_X1_opened a2 a8 a10 p0)), .int (gx_X1_told_5 7), .int a6, .int (gx_X1_told_7 a7 (fx_X1_opened a2 a8 a10 p0)), .int 1, .int 0, .int a10, .int 1, .ref h1]))]) [0] (by decide) rfl
      have hK9 := hK.sub (tys' := []) [] rfl
      have eg_0 : gx_X1_open_0 = 0 := by rfl
      have eg_3 : gx_X1_open_3 a2 a3 a8 a10 p0 = 0 := by unfold gx_X1_open_3; rw [if_neg c_3, if_pos c_4]
      have eg_4 : gx_X1_open_4 a2 a8 a10 p0 = gx_X1_told_4 (fx_X1_opened a2 a8 a10 p0) := by rfl
      have eg_5 : gx_X1_open_5 = gx_X1_told_5 7 := by rfl
      have eg_7 : gx_X1_open_7 a2 a7 a8 a10 p0 = gx_X1_told_7 a7 (fx_X1_opened a2 a8 a10 p0) := by rfl
      have eg_8 : gx_X1_open_8 a2 a8 a10 p0 = 1 := by unfold gx_X1_open_8; rw [if_neg c_3, if_pos c_4]
      have eg_9 : gx_X1_open_9 = 0 := by rfl
      have eg_11 : gx_X1_open_11 a2 a8 a10 a11 p0 = 1 := by unfold gx_X1_open_11; rw [if_neg c_3, if_pos c_4, if_pos c_5]
      have ef : fx_X1_open a2 a8 a10 p0 = fx_X1_opened a2 a8 a10 p0 := by rfl
      exact W.iret (v := fx_X1_opened a2 a8 a10 p0) hx hb hr (fun t ht hW => ⟨⟨(fx_X1_opened a2 a8 a10 p0), [(h0, .inr (1, [.int 0, .int a1, .int a2, .int 0, .int (gx_X1_told_4 (fx_X1_opened a2 a8 a10 p0)), .int (gx_X1_told_5 7), .int a6, .int (gx_X1_told_7 a7 (fx_X1_opened a2 a8 a10 p0)), .int 1, .int 0, .int a10, .int 1, .ref h1]))], rfl, ⟨ef.symm, by rw [eg_0, eg_3, eg_4, eg_5, eg_7, eg_8, eg_9, eg_11]⟩, by rw [ht]; exact hP9, va_K.moved hW.alike hK9, hD9⟩, hS.F ht⟩) hS.2.2 dX1_open_85
    refine lv_aload_n hx hb dX1_open_68 rfl (lv_at hl 2 rfl) ?_
    refine va_get (D := (dC, dI)) (ci := 1) (v := .int a2) (C := RX1) (T := TX1) (N := 13) hx hb hts (fun _ h => List.mem_cons_of_mem _ (List.mem_append_right _ h)) hown hK hP 0 rfl rfl 2 (by decide) (hts (.fieldLink RX1 27 "FileStatusModel" "mode" "I") (by decide +kernel)) (fun _ h9 => h9) rfl dX1_open_69 ?_
    refine lv_iconst (v := 2) hx hb dX1_open_72 (by decide) ?_
    refine lv_icmp_ne (tgt := 80) hx hb dX1_open_73 (by decide) (fun c_6 => ?_) (fun c_6 => ?_)
    · refine lv_iconst (v := 0) hx hb dX1_open_80 (by decide) ?_
      refine va_put (D := (dC, dI)) (ci := 1) (v := .int 0) (ty := .boolean) (C := RX1) (T := TX1) (N := 13) hx hb hts (fun _ h => List.mem_cons_of_mem _ (List.mem_append_right _ h)) tyX1 tyX1_ok nmX1 hown hK hP hD hS 0 rfl rfl 11 (by decide) (hts (.fieldLink RX1 53 "FileStatusModel" "nothing" "Z") (by decide +kernel)) (fun _ h9 => h9) rfl (by decide +kernel) rfl rfl (Nat.le_of_ble_eq_true rfl) dX1_open_81 (fun H locs hP hD hS => ?_)
      have hP : va_P (dC, dI) vwCl [(h0, .inr (1, [.int 0, .int a1, .int a2, .int 0, .int (gx_X1_told_4 (fx_X1_opened a2 a8 a10 p0)), .int (gx_X1_told_5 7), .int a6, .int (gx_X1_told_7 a7 (fx_X1_opened a2 a8 a10 p0)), .int 1, .int 0, .int a10, .int 0, .ref h1]))] H := hP
      have hD : va_D A [(h0, .inr (1, [.int 0, .int a1, .int a2, .int 0, .int (gx_X1_told_4 (fx_X1_opened a2 a8 a10 p0)), .int (gx_X1_told_5 7), .int a6, .int (gx_X1_told_7 a7 (fx_X1_opened a2 a8 a10 p0)), .int 1, .int 0, .int a10, .int 0, .ref h1]))] := hD
      refine lv_iload_n hx hb dX1_open_84 rfl (lv_at hl 1 rfl) ?_
      have hP9 := hP.sub (ws' := [(h0, .inr (1, [.int 0, .int a1, .int a2, .int 0, .int (gx_X1_told_4 (fx_X1_opened a2 a8 a10 p0)), .int (gx_X1_told_5 7), .int a6, .int (gx_X1_told_7 a7 (fx_X1_opened a2 a8 a10 p0)), .int 1, .int 0, .int a10, .int 0, .ref h1]))]) [0] rfl
      have hD9 := hD.sub (ws' := [(h0, .inr (1, [.int 0, .int a1, .int a2, .int 0, .int (gx_X1_told_4 (fx_X1_opened a2 a8 a10 p0)), .int (gx_X1_told_5 7), .int a6, .int (gx_X1_told_7 a7 (fx_X1_opened a2 a8 a10 p0)), .int 1, .int 0, .int a10, .int 0, .ref h1]))]) [0] (by decide) rfl
      have hK9 := hK.sub (tys' := []) [] rfl
      have eg_0 : gx_X1_open_0 = 0 := by rfl
      have eg_3 : gx_X1_open_3 a2 a3 a8 a10 p0 = 0 := by unfold gx_X1_open_3; rw [if_neg c_3, if_pos c_4]
      have eg_4 : gx_X1_open_4 a2 a8 a10 p0 = gx_X1_told_4 (fx_X1_opened a2 a8 a10 p0) := by rfl
      have eg_5 : gx_X1_open_5 = gx_X1_told_5 7 := by rfl
      have eg_7 : gx_X1_open_7 a2 a7 a8 a10 p0 = gx_X1_told_7 a7 (fx_X1_opened a2 a8 a10 p0) := by rfl
      have eg_8 : gx_X1_open_8 a2 a8 a10 p0 = 1 := by unfold gx_X1_open_8; rw [if_neg c_3, if_pos c_4]
      have eg_9 : gx_X1_open_9 = 0 := by rfl
      have eg_11 : gx_X1_open_11 a2 a8 a10 a11 p0 = 0 := by unfold gx_X1_open_11; rw [if_neg c_3, if_pos c_4, if_neg c_5, if_neg c_6]
      have ef : fx_X1_open a2 a8 a10 p0 = fx_X1_opened a2 a8 a10 p0 := by rfl
      exact W.iret (v := fx_X1_opened a2 a8 a10 p0) hx hb hr (fun t ht hW => ⟨⟨(fx_X1_opened a2 a8 a10 p0), [(h0, .inr (1, [.int 0, .int a1, .int a2, .int 0, .int (gx_X1_told_4 (fx_X1_opened a2 a8 a10 p0)), .int (gx_X1_told_5 7), .int a6, .int (gx_X1_told_7 a7 (fx_X1_opened a2 a8 a10 p0)), .int 1, .int 0, .int a10, .int 0, .ref h1]))], rfl, ⟨ef.symm, by rw [eg_0, eg_3, eg_4, eg_5, eg_7, eg_8, eg_9, eg_11]⟩, by rw [ht]; exact hP9, va_K.moved hW.alike hK9, hD9⟩, hS.F ht⟩) hS.2.2 dX1_open_85
    refine lv_iconst (v := 1) hx hb dX1_open_76 (by decide) ?_
    refine lv_goto (tgt := 81) hx hb dX1_open_77 (by decide) ?_
    refine va_put (D := (dC, dI)) (ci := 1) (v := .int 1) (ty := .boolean) (C := RX1) (T := TX1) (N := 13) hx hb hts (fun _ h => List.mem_cons_of_mem _ (List.mem_append_right _ h)) tyX1 tyX1_ok nmX1 hown hK hP hD hS 0 rfl rfl 11 (by decide) (hts (.fieldLink RX1 53 "FileStatusModel" "nothing" "Z") (by decide +kernel)) (fun _ h9 => h9) rfl (by decide +kernel) rfl rfl (Nat.le_of_ble_eq_true rfl) dX1_open_81 (fun H locs hP hD hS => ?_)
    have hP : va_P (dC, dI) vwCl [(h0, .inr (1, [.int 0, .int a1, .int a2, .int 0, .int (gx_X1_told_4 (fx_X1_opened a2 a8 a10 p0)), .int (gx_X1_told_5 7), .int a6, .int (gx_X1_told_7 a7 (fx_X1_opened a2 a8 a10 p0)), .int 1, .int 0, .int a10, .int 1, .ref h1]))] H := hP
    have hD : va_D A [(h0, .inr (1, [.int 0, .int a1, .int a2, .int 0, .int (gx_X1_told_4 (fx_X1_opened a2 a8 a10 p0)), .int (gx_X1_told_5 7), .int a6, .int (gx_X1_told_7 a7 (fx_X1_opened a2 a8 a10 p0)), .int 1, .int 0, .int a10, .int 1, .ref h1]))] := hD
    refine lv_iload_n hx hb dX1_open_84 rfl (lv_at hl 1 rfl) ?_
    have hP9 := hP.sub (ws' := [(h0, .inr (1, [.int 0, .int a1, .int a2, .int 0, .int (gx_X1_told_4 (fx_X1_opened a2 a8 a10 p0)), .int (gx_X1_told_5 7), .int a6, .int (gx_X1_told_7 a7 (fx_X1_opened a2 a8 a10 p0)), .int 1, .int 0, .int a10, .int 1, .ref h1]))]) [0] rfl
    have hD9 := hD.sub (ws' := [(h0, .inr (1, [.int 0, .int a1, .int a2, .int 0, .int (gx_X1_told_4 (fx_X1_opened a2 a8 a10 p0)), .int (gx_X1_told_5 7), .int a6, .int (gx_X1_told_7 a7 (fx_X1_opened a2 a8 a10 p0)), .int 1, .int 0, .int a10, .int 1, .ref h1]))]) [0] (by decide) rfl
    have hK9 := hK.sub (tys' := []) [] rfl
    have eg_0 : gx_X1_open_0 = 0 := by rfl
    have eg_3 : gx_X1_open_3 a2 a3 a8 a10 p0 = 0 := by unfold gx_X1_open_3; rw [if_neg c_3, if_pos c_4]
    have eg_4 : gx_X1_open_4 a2 a8 a10 p0 = gx_X1_told_4 (fx_X1_opened a2 a8 a10 p0) := by rfl
    have eg_5 : gx_X1_open_5 = gx_X1_told_5 7 := by rfl
    have eg_7 : gx_X1_open_7 a2 a7 a8 a10 p0 = gx_X1_told_7 a7 (fx_X1_opened a2 a8 a10 p0) := by rfl
    have eg_8 : gx_X1_open_8 a2 a8 a10 p0 = 1 := by unfold gx_X1_open_8; rw [if_neg c_3, if_pos c_4]
    have eg_9 : gx_X1_open_9 = 0 := by rfl
    have eg_11 : gx_X1_open_11 a2 a8 a10 a11 p0 = 1 := by unfold gx_X1_open_11; rw [if_neg c_3, if_pos c_4, if_neg c_5, if_pos c_6]
    have ef : fx_X1_open a2 a8 a10 p0 = fx_X1_opened a2 a8 a10 p0 := by rfl
    exact W.iret (v := fx_X1_opened a2 a8 a10 p0) hx hb hr (fun t ht hW => ⟨⟨(fx_X1_opened a2 a8 a10 p0), [(h0, .inr (1, [.int 0, .int a1, .int a2, .int 0, .int (gx_X1_told_4 (fx_X1_opened a2 a8 a10 p0)), .int (gx_X1_told_5 7), .int a6, .int (gx_X1_told_7 a7 (fx_X1_opened a2 a8 a10 p0)), .int 1, .int 0, .int a10, .int 1, .ref h1]))], rfl, ⟨ef.symm, by rw [eg_0, eg_3, eg_4, eg_5, eg_7, eg_8, eg_9, eg_11]⟩, by rw [ht]; exact hP9, va_K.moved hW.alike hK9, hD9⟩, hS.F ht⟩) hS.2.2 dX1_open_85
  refine lv_iload_n hx hb dX1_open_43 rfl (lv_at hl 1 rfl) ?_
  have hP9 := hP.sub (ws' := [(h0, .inr (1, [.int 0, .int a1, .int a2, .int a3, .int (gx_X1_told_4 (fx_X1_opened a2 a8 a10 p0)), .int (gx_X1_told_5 7), .int a6, .int (gx_X1_told_7 a7 (fx_X1_opened a2 a8 a10 p0)), .int a8, .int 0, .int a10, .int a11, .ref h1]))]) [0] rfl
  have hD9 := hD.sub (ws' := [(h0, .inr (1, [.int 0, .int a1, .int a2, .int a3, .int (gx_X1_told_4 (fx_X1_opened a2 a8 a10 p0)), .int (gx_X1_told_5 7), .int a6, .int (gx_X1_told_7 a7 (fx_X1_opened a2 a8 a10 p0)), .int a8, .int 0, .int a10, .int a11, .ref h1]))]) [0] (by decide) rfl
  have hK9 := hK.sub (tys' := []) [] rfl
  have eg_0 : gx_X1_open_0 = 0 := by rfl
  have eg_3 : gx_X1_open_3 a2 a3 a8 a10 p0 = a3 := by unfold gx_X1_open_3; rw [if_neg c_3, if_neg c_4]
  have eg_4 : gx_X1_open_4 a2 a8 a10 p0 = gx_X1_told_4 (fx_X1_opened a2 a8 a10 p0) := by rfl
  have eg_5 : gx_X1_open_5 = gx_X1_told_5 7 := by rfl
  have eg_7 : gx_X1_open_7 a2 a7 a8 a10 p0 = gx_X1_told_7 a7 (fx_X1_opened a2 a8 a10 p0) := by rfl
  have eg_8 : gx_X1_open_8 a2 a8 a10 p0 = a8 := by unfold gx_X1_open_8; rw [if_neg c_3, if_neg c_4]
  have eg_9 : gx_X1_open_9 = 0 := by rfl
  have eg_11 : gx_X1_open_11 a2 a8 a10 a11 p0 = a11 := by unfold gx_X1_open_11; rw [if_neg c_3, if_neg c_4]
  have ef : fx_X1_open a2 a8 a10 p0 = fx_X1_opened a2 a8 a10 p0 := by rfl
  exact W.iret (v := fx_X1_opened a2 a8 a10 p0) hx hb hr (fun t ht hW => ⟨⟨(fx_X1_opened a2 a8 a10 p0), [(h0, .inr (1, [.int 0, .int a1, .int a2, .int a3, .int (gx_X1_told_4 (fx_X1_opened a2 a8 a10 p0)), .int (gx_X1_told_5 7), .int a6, .int (gx_X1_told_7 a7 (fx_X1_opened a2 a8 a10 p0)), .int a8, .int 0, .int a10, .int a11, .ref h1]))], rfl, ⟨ef.symm, by rw [eg_0, eg_3, eg_4, eg_5, eg_7, eg_8, eg_9, eg_11]⟩, by rw [ht]; exact hP9, va_K.moved hW.alike hK9, hD9⟩, hS.F ht⟩) hS.2.2 dX1_open_44
