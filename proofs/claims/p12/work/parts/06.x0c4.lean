set_option maxHeartbeats 4000000 in
set_option maxRecDepth 100000 in
theorem ct_X0_act (l : Launch) (dC : Nat → ClassId) (dI : Nat → Nat → Nat) (h0 : Nat) (sz : Nat) (a0 a1 a2 a3 a4 a5 a6 a7 a8 a9 a10 a11 p0 p1 : Int32) : Met l yX0_act wsX0_act ({ frames := 4, cells := 0, slots := 0, locals := 86 }) (va_Pc [.ref h0, .int p0, .int p1] (fun U => U.heap.size = sz ∧ va_P (dC, dI) vwCl [(h0, .inr (0, [.int a0, .int a1, .int a2, .int a3, .int a4, .int a5, .int a6, .int a7, .int a8, .int a9, .int a10, .int a11]))] U.heap ∧ va_K (dC, dI) vwCl [] U ∧ va_D (fun _ => True) [(h0, .inr (0, [.int a0, .int a1, .int a2, .int a3, .int a4, .int a5, .int a6, .int a7, .int a8, .int a9, .int a10, .int a11]))])) (va_Qi (fun (r : Int32) (u : va_W) => r = fx_X0_act a0 a1 a2 a4 a5 a6 p0 p1 ∧ u = [(h0, .inr (0, [.int a0, .int a1, .int (gx_X0_act_2 a0 a1 a2 a4 a5 a6 p0 p1), .int a3, .int (gx_X0_act_4 a0 a1 a2 a4 a5 a6 p0 p1), .int (gx_X0_act_5 a5 p0), .int (gx_X0_act_6 a0 a1 a2 a4 a5 a6 p0 p1), .int (gx_X0_act_7 a0 a1 a2 a4 a5 a6 a7 p0 p1), .int (gx_X0_act_8 a8 p0), .int a9, .int (gx_X0_act_10 a0 a1 a2 a4 a5 a6 a10 p0 p1), .int (gx_X0_act_11 a0 a1 a2 a4 a5 a6 a11 p0 p1)]))]) (at_W dC dI [] (va_A [(h0, .inr (0, [.int a0, .int a1, .int a2, .int a3, .int a4, .int a5, .int a6, .int a7, .int a8, .int a9, .int a10, .int a11]))] sz)) (va_A [(h0, .inr (0, [.int a0, .int a1, .int a2, .int a3, .int a4, .int a5, .int a6, .int a7, .int a8, .int a9, .int a10, .int a11]))] sz)) 0 0 (va_A [(h0, .inr (0, [.int a0, .int a1, .int a2, .int a3, .int a4, .int a5, .int a6, .int a7, .int a8, .int a9, .int a10, .int a11]))] sz) := by
  refine Met.ofW (cc := cX0_act) (maxL := 4) (ret := (some .int)) (by decide) rfl ?_
  intro p e s m args below meth c s₁ B hml hv
  obtain ⟨rfl, hsz, hP, hK, hD0⟩ := hv
  have hx := B.exec
  have hb := B.bytes
  have hr := B.returns
  have hts := atoms_spec (ws := wsX0_act) B.pre
  have hown : s.vm.findClass RX0 = some m.cls := findClass_of_methodNamed B.named
  have hlocks := B.notSynchronized
  subst hsz
  have hD := hD0.self (sz := s.heap.size)
  generalize hAe : va_A [(h0, .inr (0, [.int a0, .int a1, .int a2, .int a3, .int a4, .int a5, .int a6, .int a7, .int a8, .int a9, .int a10, .int a11]))] s.heap.size = A at hD ⊢
  have hA : ∀ q : Nat, s.heap.size ≤ q → A q := fun q h => by rw [← hAe]; exact Or.inr h
  have hS : va_S A s.heap s.heap [] := va_S.rf
  have hP : va_P (dC, dI) vwCl [(h0, .inr (0, [.int a0, .int a1, .int a2, .int a3, .int a4, .int a5, .int a6, .int a7, .int a8, .int a9, .int a10, .int a11]))] s.heap := hP
  have hl := lv_entry ([.ref h0, .int p0, .int p1]) (n := 4) (Nat.le_of_ble_eq_true rfl)
  rw [lg_entry_eq]
  generalize (lg_sl ([.ref h0, .int p0, .int p1]) ++ List.replicate (4 - (lg_sl ([.ref h0, .int p0, .int p1])).length) Slot.unset).toArray = ls at hl ⊢
  have hl : lv_has ls 4 [(0, .ref h0), (1, .int p0), (2, .int p1)] := hl
  refine lv_iload_n hx hb dX0_act_0 rfl (lv_at hl 1 rfl) ?_
  refine lv_if_lt (tgt := 10) hx hb dX0_act_1 (by decide) (fun c_1 => ?_) (fun c_1 => ?_)
  · refine lv_bipush (v := (-4)) hx hb dX0_act_10 (by decide) ?_
    have hP9 := hP.sub (ws' := [(h0, .inr (0, [.int a0, .int a1, .int a2, .int a3, .int a4, .int a5, .int a6, .int a7, .int a8, .int a9, .int a10, .int a11]))]) [0] rfl
    have hD9 := hD.sub (ws' := [(h0, .inr (0, [.int a0, .int a1, .int a2, .int a3, .int a4, .int a5, .int a6, .int a7, .int a8, .int a9, .int a10, .int a11]))]) [0] (by decide) rfl
    have hK9 := hK.sub (tys' := []) [] rfl
    have eg_2 : gx_X0_act_2 a0 a1 a2 a4 a5 a6 p0 p1 = a2 := by unfold gx_X0_act_2; rw [if_pos c_1]
    have eg_4 : gx_X0_act_4 a0 a1 a2 a4 a5 a6 p0 p1 = a4 := by unfold gx_X0_act_4; rw [if_pos c_1]
    have eg_5 : gx_X0_act_5 a5 p0 = a5 := by unfold gx_X0_act_5; rw [if_pos c_1]
    have eg_6 : gx_X0_act_6 a0 a1 a2 a4 a5 a6 p0 p1 = a6 := by unfold gx_X0_act_6; rw [if_pos c_1]
    have eg_7 : gx_X0_act_7 a0 a1 a2 a4 a5 a6 a7 p0 p1 = a7 := by unfold gx_X0_act_7; rw [if_pos c_1]
    have eg_8 : gx_X0_act_8 a8 p0 = a8 := by unfold gx_X0_act_8; rw [if_pos c_1]
    have eg_10 : gx_X0_act_10 a0 a1 a2 a4 a5 a6 a10 p0 p1 = a10 := by unfold gx_X0_act_10; rw [if_pos c_1]
    have eg_11 : gx_X0_act_11 a0 a1 a2 a4 a5 a6 a11 p0 p1 = a11 := by unfold gx_X0_act_11; rw [if_pos c_1]
    have ef : fx_X0_act a0 a1 a2 a4 a5 a6 p0 p1 = (-4) := by unfold fx_X0_act; rw [if_pos c_1]
    exact W.iret (v := (-4)) hx hb hr (fun t ht hW => ⟨⟨(-4), [(h0, .inr (0, [.int a0, .int a1, .int a2, .int a3, .int a4, .int a5, .int a6, .int a7, .int a8, .int a9, .int a10, .int a11]))], rfl, ⟨ef.symm, by rw [eg_2, eg_4, eg_5, eg_6, eg_7, eg_8, eg_10, eg_11]⟩, by rw [ht]; exact hP9, va_K.moved hW.alike hK9, hD9⟩, hS.F ht⟩) hS.2.2 dX0_act_12
  refine lv_iload_n hx hb dX0_act_4 rfl (lv_at hl 1 rfl) ?_
  refine lv_bipush (v := 6) hx hb dX0_act_5 (by decide) ?_
  refine lv_icmp_le (tgt := 13) hx hb dX0_act_7 (by decide) (fun c_2 => ?_) (fun c_2 => ?_)
  · refine lv_aload_n hx hb dX0_act_13 rfl (lv_at hl 0 rfl) ?_
    refine lv_iload_n hx hb dX0_act_14 rfl (lv_at hl 1 rfl) ?_
    refine lv_iload_n hx hb dX0_act_15 rfl (lv_at hl 2 rfl) ?_
    have hPc := hP.sub (ws' := [(h0, .inr (0, [.int a0, .int a1, .int a2, .int a3, .int a4, .int a5, .int a6, .int a7, .int a8, .int a9, .int a10, .int a11]))]) [0] rfl
    have hDc := hD.sub (ws' := [(h0, .inr (0, [.int a0, .int a1, .int a2, .int a3, .int a4, .int a5, .int a6, .int a7, .int a8, .int a9, .int a10, .int a11]))]) [0] (by decide) rfl
    have hKc := hK.sub (tys' := []) [] rfl
    have hFc := va_free (wc := [(h0, .inr (0, [.int a0, .int a1, .int a2, .int a3, .int a4, .int a5, .int a6, .int a7, .int a8, .int a9, .int a10, .int a11]))]) hD hS hA [0] rfl
    refine va_calli (va_runV (As := [.int p0, .int p1]) (rest := []) ⟨hx, hb, hml, hown, hts⟩ (ct_X0_statusOfAct l dC dI h0 s.heap.size a0 a1 a2 a3 a4 a5 a6 a7 a8 a9 a10 a11 p0 p1) (cwV 2 hts gX0_act_X0_statusOfAct rfl rfl rfl (by decide +kernel) ⟨Nat.le_of_ble_eq_true rfl, Nat.le_of_ble_eq_true rfl⟩) ⟨fun a U g mk q => by obtain ⟨q0, q1, qP, qK, qD⟩ := q; exact ⟨q0, q1, qP, va_K.moved (u := U) (U := U.calling g mk a) (Vm.Alike.refl U.vm) qK, qD⟩, va_recv hKc hPc (ci := 0) (q0 := 0) rfl rfl, fun U hU hW => ⟨rfl, by rw [hU], by rw [hU]; exact hPc, va_K.moved hW.alike hKc, hDc.weaken (fun _ _ _ _ => trivial)⟩⟩ rfl rfl hl.1 rfl (lv_room (Nat.le_of_ble_eq_true rfl)) dX0_act_16 ⟨(Nat.zero_le _), (Nat.zero_le _)⟩) hS (fun q _ h => hFc q h) hFc (fun r_3 u t H1 locs ht hvm hw hB hz1 hk1 hS => ?_)
    obtain ⟨er, hu⟩ := hw
    subst hu
    subst er
    obtain ⟨hP1, -, hD1⟩ := hB
    rw [ht] at hP1
    obtain ⟨hP, hD⟩ := va_join (wr := []) (w1 := [(h0, .inr (0, [.int a0, .int a1, .int a2, .int a3, .int a4, .int a5, .int a6, .int a7, .int a8, .int a9, .int a10, .int a11]))]) hP hD [0] [] rfl rfl (by decide) (by decide) hk1 hFc hP1 hD1
    generalize H1 = H at hP hS ⊢
    have hP : va_P (dC, dI) vwCl [(h0, .inr (0, [.int a0, .int a1, .int a2, .int a3, .int a4, .int a5, .int a6, .int a7, .int a8, .int a9, .int a10, .int a11]))] H := hP
    have hD : va_D A [(h0, .inr (0, [.int a0, .int a1, .int a2, .int a3, .int a4, .int a5, .int a6, .int a7, .int a8, .int a9, .int a10, .int a11]))] := hD
    refine lv_istore_n (lv' := [(3, .int (fx_X0_statusOfAct a0 a1 a2 a4 a5 a6 p0 p1)), (0, .ref h0), (1, .int p0), (2, .int p1)]) hx hb dX0_act_19 rfl hl (by decide) rfl (fun ls hl => ?_)
    refine lv_iload_n hx hb dX0_act_20 rfl (lv_at hl 2 rfl) ?_
    refine lv_if_ne (tgt := 29) hx hb dX0_act_21 (by decide) (fun c_4 => ?_) (fun c_4 => ?_)
    · refine lv_aload_n hx hb dX0_act_29 rfl (lv_at hl 1 rfl) ?_
      refine lv_iload_n hx hb dX0_act_30 rfl (lv_at hl 2 rfl) ?_
      refine lv_iload_n hx hb dX0_act_31 rfl (lv_at hl 0 rfl) ?_
      have hPc := hP.sub (ws' := [(h0, .inr (0, [.int a0, .int a1, .int a2, .int a3, .int a4, .int a5, .int a6, .int a7, .int a8, .int a9, .int a10, .int a11]))]) [0] rfl
      have hDc := hD.sub (ws' := [(h0, .inr (0, [.int a0, .int a1, .int a2, .int a3, .int a4, .int a5, .int a6, .int a7, .int a8, .int a9, .int a10, .int a11]))]) [0] (by decide) rfl
      have hKc := hK.sub (tys' := []) [] rfl
      have hFc := va_free (wc := [(h0, .inr (0, [.int a0, .int a1, .int a2, .int a3, .int a4, .int a5, .int a6, .int a7, .int a8, .int a9, .int a10, .int a11]))]) hD hS hA [0] rfl
      refine va_callv (va_runV (As := [.int p0, .int (fx_X0_statusOfAct a0 a1 a2 a4 a5 a6 p0 p1)]) (rest := []) ⟨hx, hb, hml, hown, hts⟩ (ct_X0_move l dC dI h0 H.size a0 a1 a2 a3 a4 a5 a6 a7 a8 a9 a10 a11 p0 (fx_X0_statusOfAct a0 a1 a2 a4 a5 a6 p0 p1)) (cwV 2 hts gX0_act_X0_move rfl rfl rfl (by decide +kernel) ⟨Nat.le_of_ble_eq_true rfl, Nat.le_of_ble_eq_true rfl⟩) ⟨fun a U g mk q => by obtain ⟨q0, q1, qP, qK, qD⟩ := q; exact ⟨q0, q1, qP, va_K.moved (u := U) (U := U.calling g mk a) (Vm.Alike.refl U.vm) qK, qD⟩, va_recv hKc hPc (ci := 0) (q0 := 0) rfl rfl, fun U hU hW => ⟨rfl, by rw [hU], by rw [hU]; exact hPc, va_K.moved hW.alike hKc, hDc.weaken (fun _ _ _ _ => trivial)⟩⟩ rfl rfl hl.1 rfl (lv_room (Nat.le_of_ble_eq_true rfl)) dX0_act_32 ⟨(Nat.zero_le _), (Nat.zero_le _)⟩) hS (fun q _ h => hFc q h) hFc (fun u t H1 locs ht hvm hw hB hz1 hk1 hS => ?_)
      subst hw
      obtain ⟨hP1, -, hD1⟩ := hB
      rw [ht] at hP1
      obtain ⟨hP, hD⟩ := va_join (wr := []) (w1 := [(h0, .inr (0, [.int a0, .int a1, .int (gx_X0_move_2 a2 p0 (fx_X0_statusOfAct a0 a1 a2 a4 a5 a6 p0 p1)), .int a3, .int (gx_X0_move_4 a4 p0 (fx_X0_statusOfAct a0 a1 a2 a4 a5 a6 p0 p1)), .int a5, .int a6, .int a7, .int a8, .int a9, .int a10, .int a11]))]) hP hD [0] [] rfl rfl (by decide) (by decide) hk1 hFc hP1 hD1
      generalize H1 = H at hP hS ⊢
      have hP : va_P (dC, dI) vwCl [(h0, .inr (0, [.int a0, .int a1, .int (gx_X0_move_2 a2 p0 (fx_X0_statusOfAct a0 a1 a2 a4 a5 a6 p0 p1)), .int a3, .int (gx_X0_move_4 a4 p0 (fx_X0_statusOfAct a0 a1 a2 a4 a5 a6 p0 p1)), .int a5, .int a6, .int a7, .int a8, .int a9, .int a10, .int a11]))] H := hP
      have hD : va_D A [(h0, .inr (0, [.int a0, .int a1, .int (gx_X0_move_2 a2 p0 (fx_X0_statusOfAct a0 a1 a2 a4 a5 a6 p0 p1)), .int a3, .int (gx_X0_move_4 a4 p0 (fx_X0_statusOfAct a0 a1 a2 a4 a5 a6 p0 p1)), .int a5, .int a6, .int a7, .int a8, .int a9, .int a10, .int a11]))] := hD
      refine lv_aload_n hx hb dX0_act_35 rfl (lv_at hl 1 rfl) ?_
      refine lv_iload_n hx hb dX0_act_36 rfl (lv_at hl 2 rfl) ?_
      have hPc := hP.sub (ws' := []) [] rfl
      have hDc := hD.sub (ws' := []) [] (by decide) rfl
      have hKc := hK.sub (tys' := []) [] rfl
      have hFc := va_free (wc := []) hD hS hA [] rfl
      refine va_calli (va_runS (As := [.int p0]) (rest := [.ref h0]) ⟨hx, hb, hml, hown, hts⟩ (ct_X0_isRead l dC dI H.size p0) (va_cwS 1 hts gX0_act_X0_isRead rfl rfl rfl (by decide +kernel) ⟨Nat.le_of_ble_eq_true rfl, Nat.le_of_ble_eq_true rfl⟩) ⟨fun a U g mk q => by obtain ⟨q0, q1, qP, qK, qD⟩ := q; exact ⟨q0, q1, qP, va_K.moved (u := U) (U := U.calling g mk a) (Vm.Alike.refl U.vm) qK, qD⟩, fun U hU hW => ⟨rfl, by rw [hU], by rw [hU]; exact hPc, va_K.moved hW.alike hKc, hDc.weaken (fun _ _ _ _ => trivial)⟩⟩ rfl rfl hl.1 rfl (lv_room (Nat.le_of_ble_eq_true rfl)) dX0_act_37 ⟨(Nat.zero_le _), (Nat.zero_le _)⟩) hS (fun q _ h => hFc q h) hFc (fun r_6 u t H1 locs ht hvm hw hB hz1 hk1 hS => ?_)
      obtain ⟨er, hu⟩ := hw
      subst hu
      subst er
      obtain ⟨hP1, -, hD1⟩ := hB
      rw [ht] at hP1
      obtain ⟨hP, hD⟩ := va_join (wr := [(h0, .inr (0, [.int a0, .int a1, .int (gx_X0_move_2 a2 p0 (fx_X0_statusOfAct a0 a1 a2 a4 a5 a6 p0 p1)), .int a3, .int (gx_X0_move_4 a4 p0 (fx_X0_statusOfAct a0 a1 a2 a4 a5 a6 p0 p1)), .int a5, .int a6, .int a7, .int a8, .int a9, .int a10, .int a11]))]) (w1 := []) hP hD [] [0] rfl rfl (by decide) (by decide) hk1 hFc hP1 hD1
      generalize H1 = H at hP hS ⊢
      have hP : va_P (dC, dI) vwCl [(h0, .inr (0, [.int a0, .int a1, .int (gx_X0_move_2 a2 p0 (fx_X0_statusOfAct a0 a1 a2 a4 a5 a6 p0 p1)), .int a3, .int (gx_X0_move_4 a4 p0 (fx_X0_statusOfAct a0 a1 a2 a4 a5 a6 p0 p1)), .int a5, .int a6, .int a7, .int a8, .int a9, .int a10, .int a11]))] H := hP
      have hD : va_D A [(h0, .inr (0, [.int a0, .int a1, .int (gx_X0_move_2 a2 p0 (fx_X0_statusOfAct a0 a1 a2 a4 a5 a6 p0 p1)), .int a3, .int (gx_X0_move_4 a4 p0 (fx_X0_statusOfAct a0 a1 a2 a4 a5 a6 p0 p1)), .int a5, .int a6, .int a7, .int a8, .int a9, .int a10, .int a11]))] := hD
      refine lv_if_eq (tgt := 54) hx hb dX0_act_40 (by decide) (fun c_7 => ?_) (fun c_7 => ?_)
      · refine lv_iconst (v := 0) hx hb dX0_act_54 (by decide) ?_
        refine va_put (D := (dC, dI)) (ci := 0) (v := .int 0) (ty := .boolean) (C := RX0) (T := TX0) (N := 12) hx hb hts (fun _ h => List.mem_cons_of_mem _ (List.mem_append_right _ h)) tyX0 tyX0_ok nmX0 hown hK hP hD hS 0 rfl rfl 6 (by decide) (hts (.fieldLink RX0 26 "FileStatus" "permit" "Z") (by decide +kernel)) (fun _ h9 => h9) rfl (by decide +kernel) rfl rfl (Nat.le_of_ble_eq_true rfl) dX0_act_55 (fun H locs hP hD hS => ?_)
        have hP : va_P (dC, dI) vwCl [(h0, .inr (0, [.int a0, .int a1, .int (gx_X0_move_2 a2 p0 (fx_X0_statusOfAct a0 a1 a2 a4 a5 a6 p0 p1)), .int a3, .int (gx_X0_move_4 a4 p0 (fx_X0_statusOfAct a0 a1 a2 a4 a5 a6 p0 p1)), .int a5, .int 0, .int a7, .int a8, .int a9, .int a10, .int a11]))] H := hP
        have hD : va_D A [(h0, .inr (0, [.int a0, .int a1, .int (gx_X0_move_2 a2 p0 (fx_X0_statusOfAct a0 a1 a2 a4 a5 a6 p0 p1)), .int a3, .int (gx_X0_move_4 a4 p0 (fx_X0_statusOfAct a0 a1 a2 a4 a5 a6 p0 p1)), .int a5, .int 0, .int a7, .int a8, .int a9, .int a10, .int a11]))] := hD
        refine lv_aload_n hx hb dX0_act_58 rfl (lv_at hl 1 rfl) ?_
        refine lv_iload_n hx hb dX0_act_59 rfl (lv_at hl 2 rfl) ?_
        refine lv_iload_n hx hb dX0_act_60 rfl (lv_at hl 0 rfl) ?_
        have hPc := hP.sub (ws' := [(h0, .inr (0, [.int a0, .int a1, .int (gx_X0_move_2 a2 p0 (fx_X0_statusOfAct a0 a1 a2 a4 a5 a6 p0 p1)), .int a3, .int (gx_X0_move_4 a4 p0 (fx_X0_statusOfAct a0 a1 a2 a4 a5 a6 p0 p1)), .int a5, .int 0, .int a7, .int a8, .int a9, .int a10, .int a11]))]) [0] rfl
        have hDc := hD.sub (ws' := [(h0, .inr (0, [.int a0, .int a1, .int (gx_X0_move_2 a2 p0 (fx_X0_statusOfAct a0 a1 a2 a4 a5 a6 p0 p1)), .int a3, .int (gx_X0_move_4 a4 p0 (fx_X0_statusOfAct a0 a1 a2 a4 a5 a6 p0 p1)), .int a5, .int 0, .int a7, .int a8, .int a9, .int a10, .int a11]))]) [0] (by decide) rfl
        have hKc := hK.sub (tys' := []) [] rfl
        have hFc := va_free (wc := [(h0, .inr (0, [.int a0, .int a1, .int (gx_X0_move_2 a2 p0 (fx_X0_statusOfAct a0 a1 a2 a4 a5 a6 p0 p1)), .int a3, .int (gx_X0_move_4 a4 p0 (fx_X0_statusOfAct a0 a1 a2 a4 a5 a6 p0 p1)), .int a5, .int 0, .int a7, .int a8, .int a9, .int a10, .int a11]))]) hD hS hA [0] rfl
        refine va_callv (va_runV (As := [.int p0, .int (fx_X0_statusOfAct a0 a1 a2 a4 a5 a6 p0 p1)]) (rest := []) ⟨hx, hb, hml, hown, hts⟩ (ct_X0_remember l dC dI h0 H.size a0 a1 (gx_X0_move_2 a2 p0 (fx_X0_statusOfAct a0 a1 a2 a4 a5 a6 p0 p1)) a3 (gx_X0_move_4 a4 p0 (fx_X0_statusOfAct a0 a1 a2 a4 a5 a6 p0 p1)) a5 0 a7 a8 a9 a10 a11 p0 (fx_X0_statusOfAct a0 a1 a2 a4 a5 a6 p0 p1)) (cwV 2 hts gX0_act_X0_remember rfl rfl rfl (by decide +kernel) ⟨Nat.le_of_ble_eq_true rfl, Nat.le_of_ble_eq_true rfl⟩) ⟨fun a U g mk q => by obtain ⟨q0, q1, qP, qK, qD⟩ := q; exact ⟨q0, q1, qP, va_K.moved (u := U) (U := U.calling g mk a) (Vm.Alike.refl U.vm) qK, qD⟩, va_recv hKc hPc (ci := 0) (q0 := 0) rfl rfl, fun U hU hW => ⟨rfl, by rw [hU], by rw [hU]; exact hPc, va_K.moved hW.alike hKc, hDc.weaken (fun _ _ _ _ => trivial)⟩⟩ rfl rfl hl.1 rfl (lv_room (Nat.le_of_ble_eq_true rfl)) dX0_act_61 ⟨(Nat.zero_le _), (Nat.zero_le _)⟩) hS (fun q _ h => hFc q h) hFc (fun u t H1 locs ht hvm hw hB hz1 hk1 hS => ?_)
        subst hw
        obtain ⟨hP1, -, hD1⟩ := hB
        rw [ht] at hP1
        obtain ⟨hP, hD⟩ := va_join (wr := []) (w1 := [(h0, .inr (0, [.int a0, .int a1, .int (gx_X0_move_2 a2 p0 (fx_X0_statusOfAct a0 a1 a2 a4 a5 a6 p0 p1)), .int a3, .int (gx_X0_move_4 a4 p0 (fx_X0_statusOfAct a0 a1 a2 a4 a5 a6 p0 p1)), .int a5, .int 0, .int (gx_X0_remember_7 (fx_X0_statusOfAct a0 a1 a2 a4 a5 a6 p0 p1)), .int (gx_X0_remember_8 p0), .int a9, .int (gx_X0_remember_10 a10 p0 (fx_X0_statusOfAct a0 a1 a2 a4 a5 a6 p0 p1)), .int (gx_X0_remember_11 a11 (fx_X0_statusOfAct a0 a1 a2 a4 a5 a6 p0 p1))]))]) hP hD [0] [] rfl rfl (by decide) (by decide) hk1 hFc hP1 hD1
        generalize H1 = H at hP hS ⊢
        have hP : va_P (dC, dI) vwCl [(h0, .inr (0, [.int a0, .int a1, .int (gx_X0_move_2 a2 p0 (fx_X0_statusOfAct a0 a1 a2 a4 a5 a6 p0 p1)), .int a3, .int (gx_X0_move_4 a4 p0 (fx_X0_statusOfAct a0 a1 a2 a4 a5 a6 p0 p1)), .int a5, .int 0, .int (gx_X0_remember_7 (fx_X0_statusOfAct a0 a1 a2 a4 a5 a6 p0 p1)), .int (gx_X0_remember_8 p0), .int a9, .int (gx_X0_remember_10 a10 p0 (fx_X0_statusOfAct a0 a1 a2 a4 a5 a6 p0 p1)), .int (gx_X0_remember_11 a11 (fx_X0_statusOfAct a0 a1 a2 a4 a5 a6 p0 p1))]))] H := hP
        have hD : va_D A [(h0, .inr (0, [.int a0, .int a1, .int (gx_X0_move_2 a2 p0 (fx_X0_statusOfAct a0 a1 a2 a4 a5 a6 p0 p1)), .int a3, .int (gx_X0_move_4 a4 p0 (fx_X0_statusOfAct a0 a1 a2 a4 a5 a6 p0 p1)), .int a5, .int 0, .int (gx_X0_remember_7 (fx_X0_statusOfAct a0 a1 a2 a4 a5 a6 p0 p1)), .int (gx_X0_remember_8 p0), .int a9, .int (gx_X0_remember_10 a10 p0 (fx_X0_statusOfAct a0 a1 a2 a4 a5 a6 p0 p1)), .int (gx_X0_remember_11 a11 (fx_X0_statusOfAct a0 a1 a2 a4 a5 a6 p0 p1))]))] := hD
        refine lv_iload_n hx hb dX0_act_64 rfl (lv_at hl 0 rfl) ?_
        have hP9 := hP.sub (ws' := [(h0, .inr (0, [.int a0, .int a1, .int (gx_X0_move_2 a2 p0 (fx_X0_statusOfAct a0 a1 a2 a4 a5 a6 p0 p1)), .int a3, .int (gx_X0_move_4 a4 p0 (fx_X0_statusOfAct a0 a1 a2 a4 a5 a6 p0 p1)), .int a5, .int 0, .int (gx_X0_remember_7 (fx_X0_statusOfAct a0 a1 a2 a4 a5 a6 p0 p1)), .int (gx_X0_remember_8 p0), .int a9, .int (gx_X0_remember_10 a10 p0 (fx_X0_statusOfAct a0 a1 a2 a4 a5 a6 p0 p1)), .int (gx_X0_remember_11 a11 (fx_X0_statusOfAct a0 a1 a2 a4 a5 a6 p0 p1))]))]) [0] rfl
        have hD9 := hD.sub (ws' := [(h0, .inr (0, [.int a0, .int a1, .int (gx_X0_move_2 a2 p0 (fx_X0_statusOfAct a0 a1 a2 a4 a5 a6 p0 p1)), .int a3, .int (gx_X0_move_4 a4 p0 (fx_X0_statusOfAct a0 a1 a2 a4 a5 a6 p0 p1)), .int a5, .int 0, .int (gx_X0_remember_7 (fx_X0_statusOfAct a0 a1 a2 a4 a5 a6 p0 p1)), .int (gx_X0_remember_8 p0), .int a9, .int (gx_X0_remember_10 a10 p0 (fx_X0_statusOfAct a0 a1 a2 a4 a5 a6 p0 p1)), .int (gx_X0_remember_11 a11 (fx_X0_statusOfAct a0 a1 a2 a4 a5 a6 p0 p1))]))]) [0] (by decide) rfl
        have hK9 := hK.sub (tys' := []) [] rfl
        have eg_2 : gx_X0_act_2 a0 a1 a2 a4 a5 a6 p0 p1 = gx_X0_move_2 a2 p0 (fx_X0_statusOfAct a0 a1 a2 a4 a5 a6 p0 p1) := by unfold gx_X0_act_2; rw [if_neg c_1, if_pos c_2]
        have eg_4 : gx_X0_act_4 a0 a1 a2 a4 a5 a6 p0 p1 = gx_X0_move_4 a4 p0 (fx_X0_statusOfAct a0 a1 a2 a4 a5 a6 p0 p1) := by unfold gx_X0_act_4; rw [if_neg c_1, if_pos c_2]
        have eg_5 : gx_X0_act_5 a5 p0 = a5 := by unfold gx_X0_act_5; rw [if_neg c_1, if_pos c_2, if_neg c_4]
        have eg_6 : gx_X0_act_6 a0 a1 a2 a4 a5 a6 p0 p1 = 0 := by unfold gx_X0_act_6; rw [if_neg c_1, if_pos c_2, if_pos c_7]
        have eg_7 : gx_X0_act_7 a0 a1 a2 a4 a5 a6 a7 p0 p1 = gx_X0_remember_7 (fx_X0_statusOfAct a0 a1 a2 a4 a5 a6 p0 p1) := by unfold gx_X0_act_7; rw [if_neg c_1, if_pos c_2]
        have eg_8 : gx_X0_act_8 a8 p0 = gx_X0_remember_8 p0 := by unfold gx_X0_act_8; rw [if_neg c_1, if_pos c_2]
        have eg_10 : gx_X0_act_10 a0 a1 a2 a4 a5 a6 a10 p0 p1 = gx_X0_remember_10 a10 p0 (fx_X0_statusOfAct a0 a1 a2 a4 a5 a6 p0 p1) := by unfold gx_X0_act_10; rw [if_neg c_1, if_pos c_2]
        have eg_11 : gx_X0_act_11 a0 a1 a2 a4 a5 a6 a11 p0 p1 = gx_X0_remember_11 a11 (fx_X0_statusOfAct a0 a1 a2 a4 a5 a6 p0 p1) := by unfold gx_X0_act_11; rw [if_neg c_1, if_pos c_2]
        have ef : fx_X0_act a0 a1 a2 a4 a5 a6 p0 p1 = fx_X0_statusOfAct a0 a1 a2 a4 a5 a6 p0 p1 := by unfold fx_X0_act; rw [if_neg c_1, if_pos c_2]
        exact W.iret (v := fx_X0_statusOfAct a0 a1 a2 a4 a5 a6 p0 p1) hx hb hr (fun t ht hW => ⟨⟨(fx_X0_statusOfAct a0 a1 a2 a4 a5 a6 p0 p1), [(h0, .inr (0, [.int a0, .int a1, .int (gx_X0_move_2 a2 p0 (fx_X0_statusOfAct a0 a1 a2 a4 a5 a6 p0 p1)), .int a3, .int (gx_X0_move_4 a4 p0 (fx_X0_statusOfAct a0 a1 a2 a4 a5 a6 p0 p1)), .int a5, .int 0, .int (gx_X0_remember_7 (fx_X0_statusOfAct a0 a1 a2 a4 a5 a6 p0 p1)), .int (gx_X0_remember_8 p0), .int a9, .int (gx_X0_remember_10 a10 p0 (fx_X0_statusOfAct a0 a1 a2 a4 a5 a6 p0 p1)), .int (gx_X0_remember_11 a11 (fx_X0_statusOfAct a0 a1 a2 a4 a5 a6 p0 p1))]))], rfl, ⟨ef.symm, by rw [eg_2, eg_4, eg_5, eg_6, eg_7, eg_8, eg_10, eg_11]⟩, by rw [ht]; exact hP9, va_K.moved hW.alike hK9, hD9⟩, hS.F ht⟩) hS.2.2 dX0_act_65
      refine lv_iload_n hx hb dX0_act_43 rfl (lv_at hl 0 rfl) ?_
      have hPc := hP.sub (ws' := []) [] rfl
      have hDc := hD.sub (ws' := []) [] (by decide) rfl
      have hKc := hK.sub (tys' := []) [] rfl
      have hFc := va_free (wc := []) hD hS hA [] rfl
      refine va_calli (va_runS (As := [.int (fx_X0_statusOfAct a0 a1 a2 a4 a5 a6 p0 p1)]) (rest := [.ref h0]) ⟨hx, hb, hml, hown, hts⟩ (ct_X0_givesPlace l dC dI H.size (fx_X0_statusOfAct a0 a1 a2 a4 a5 a6 p0 p1)) (va_cwS 1 hts gX0_act_X0_givesPlace rfl rfl rfl (by decide +kernel) ⟨Nat.le_of_ble_eq_true rfl, Nat.le_of_ble_eq_true rfl⟩) ⟨fun a U g mk q => by obtain ⟨q0, q1, qP, qK, qD⟩ := q; exact ⟨q0, q1, qP, va_K.moved (u := U) (U := U.calling g mk a) (Vm.Alike.refl U.vm) qK, qD⟩, fun U hU hW => ⟨rfl, by rw [hU], by rw [hU]; exact hPc, va_K.moved hW.alike hKc, hDc.weaken (fun _ _ _ _ => trivial)⟩⟩ rfl rfl hl.1 rfl (lv_room (Nat.le_of_ble_eq_true rfl)) dX0_act_44 ⟨(Nat.zero_le _), (Nat.zero_le _)⟩) hS (fun q _ h => hFc q h) hFc (fun r_9 u t H1 locs ht hvm hw hB hz1 hk1 hS => ?_)
      obtain ⟨er, hu⟩ := hw
      subst hu
      subst er
      obtain ⟨hP1, -, hD1⟩ := hB
      rw [ht] at hP1
      obtain ⟨hP, hD⟩ := va_join (wr := [(h0, .inr (0, [.int a0, .int a1, .int (gx_X0_move_2 a2 p0 (fx_X0_statusOfAct a0 a1 a2 a4 a5 a6 p0 p1)), .int a3, .int (gx_X0_move_4 a4 p0 (fx_X0_statusOfAct a0 a1 a2 a4 a5 a6 p0 p1)), .int a5, .int a6, .int a7, .int a8, .int a9, .int a10, .int a11]))]) (w1 := []) hP hD [] [0] rfl rfl (by decide) (by decide) hk1 hFc hP1 hD1
      generalize H1 = H at hP hS ⊢
      have hP : va_P (dC, dI) vwCl [(h0, .inr (0, [.int a0, .int a1, .int (gx_X0_move_2 a2 p0 (fx_X0_statusOfAct a0 a1 a2 a4 a5 a6 p0 p1)), .int a3, .int (gx_X0_move_4 a4 p0 (fx_X0_statusOfAct a0 a1 a2 a4 a5 a6 p0 p1)), .int a5, .int a6, .int a7, .int a8, .int a9, .int a10, .int a11]))] H := hP
      have hD : va_D A [(h0, .inr (0, [.int a0, .int a1, .int (gx_X0_move_2 a2 p0 (fx_X0_statusOfAct a0 a1 a2 a4 a5 a6 p0 p1)), .int a3, .int (gx_X0_move_4 a4 p0 (fx_X0_statusOfAct a0 a1 a2 a4 a5 a6 p0 p1)), .int a5, .int a6, .int a7, .int a8, .int a9, .int a10, .int a11]))] := hD
      refine lv_if_eq (tgt := 54) hx hb dX0_act_47 (by decide) (fun c_10 => ?_) (fun c_10 => ?_)
      · refine lv_iconst (v := 0) hx hb dX0_act_54 (by decide) ?_
        refine va_put (D := (dC, dI)) (ci := 0) (v := .int 0) (ty := .boolean) (C := RX0) (T := TX0) (N := 12) hx hb hts (fun _ h => List.mem_cons_of_mem _ (List.mem_append_right _ h)) tyX0 tyX0_ok nmX0 hown hK hP hD hS 0 rfl rfl 6 (by decide) (hts (.fieldLink RX0 26 "FileStatus" "permit" "Z") (by decide +kernel)) (fun _ h9 => h9) rfl (by decide +kernel) rfl rfl (Nat.le_of_ble_eq_true rfl) dX0_act_55 (fun H locs hP hD hS => ?_)
        have hP : va_P (dC, dI) vwCl [(h0, .inr (0, [.int a0, .int a1, .int (gx_X0_move_2 a2 p0 (fx_X0_statusOfAct a0 a1 a2 a4 a5 a6 p0 p1)), .int a3, .int (gx_X0_move_4 a4 p0 (fx_X0_statusOfAct a0 a1 a2 a4 a5 a6 p0 p1)), .int a5, .int 0, .int a7, .int a8, .int a9, .int a10, .int a11]))] H := hP
        have hD : va_D A [(h0, .inr (0, [.int a0, .int a1, .int (gx_X0_move_2 a2 p0 (fx_X0_statusOfAct a0 a1 a2 a4 a5 a6 p0 p1)), .int a3, .int (gx_X0_move_4 a4 p0 (fx_X0_statusOfAct a0 a1 a2 a4 a5 a6 p0 p1)), .int a5, .int 0, .int a7, .int a8, .int a9, .int a10, .int a11]))] := hD
        refine lv_aload_n hx hb dX0_act_58 rfl (lv_at hl 1 rfl) ?_
        refine lv_iload_n hx hb dX0_act_59 rfl (lv_at hl 2 rfl) ?_
        refine lv_iload_n hx hb dX0_act_60 rfl (lv_at hl 0 rfl) ?_
        have hPc := hP.sub (ws' := [(h0, .inr (0, [.int a0, .int a1, .int (gx_X0_move_2 a2 p0 (fx_X0_statusOfAct a0 a1 a2 a4 a5 a6 p0 p1)), .int a3, .int (gx_X0_move_4 a4 p0 (fx_X0_statusOfAct a0 a1 a2 a4 a5 a6 p0 p1)), .int a5, .int 0, .int a7, .int a8, .int a9, .int a10, .int a11]))]) [0] rfl
        have hDc := hD.sub (ws' := [(h0, .inr (0, [.int a0, .int a1, .int (gx_X0_move_2 a2 p0 (fx_X0_statusOfAct a0 a1 a2 a4 a5 a6 p0 p1)), .int a3, .int (gx_X0_move_4 a4 p0 (fx_X0_statusOfAct a0 a1 a2 a4 a5 a6 p0 p1)), .int a5, .int 0, .int a7, .int a8, .int a9, .int a10, .int a11]))]) [0] (by decide) rfl
        have hKc := hK.sub (tys' := []) [] rfl
        have hFc := va_free (wc := [(h0, .inr (0, [.int a0, .int a1, .int (gx_X0_move_2 a2 p0 (fx_X0_statusOfAct a0 a1 a2 a4 a5 a6 p0 p1)), .int a3, .int (gx_X0_move_4 a4 p0 (fx_X0_statusOfAct a0 a1 a2 a4 a5 a6 p0 p1)), .int a5, .int 0, .int a7, .int a8, .int a9, .int a10, .int a11]))]) hD hS hA [0] rfl
        refine va_callv (va_runV (As := [.int p0, .int (fx_X0_statusOfAct a0 a1 a2 a4 a5 a6 p0 p1)]) (rest := []) ⟨hx, hb, hml, hown, hts⟩ (ct_X0_remember l dC dI h0 H.size a0 a1 (gx_X0_move_2 a2 p0 (fx_X0_statusOfAct a0 a1 a2 a4 a5 a6 p0 p1)) a3 (gx_X0_move_4 a4 p0 (fx_X0_statusOfAct a0 a1 a2 a4 a5 a6 p0 p1)) a5 0 a7 a8 a9 a10 a11 p0 (fx_X0_statusOfAct a0 a1 a2 a4 a5 a6 p0 p1)) (cwV 2 hts gX0_act_X0_remember rfl rfl rfl (by decide +kernel) ⟨Nat.le_of_ble_eq_true rfl, Nat.le_of_ble_eq_true rfl⟩) ⟨fun a U g mk q => by obtain ⟨q0, q1, qP, qK, qD⟩ := q; exact ⟨q0, q1, qP, va_K.moved (u := U) (U := U.calling g mk a) (Vm.Alike.refl U.vm) qK, qD⟩, va_recv hKc hPc (ci := 0) (q0 := 0) rfl rfl, fun U hU hW => ⟨rfl, by rw [hU], by rw [hU]; exact hPc, va_K.moved hW.alike hKc, hDc.weaken (fun _ _ _ _ => trivial)⟩⟩ rfl rfl hl.1 rfl (lv_room (Nat.le_of_ble_eq_true rfl)) dX0_act_61 ⟨(Nat.zero_le _), (Nat.zero_le _)⟩) hS (fun q _ h => hFc q h) hFc (fun u t H1 locs ht hvm hw hB hz1 hk1 hS => ?_)
        subst hw
        obtain ⟨hP1, -, hD1⟩ := hB
        rw [ht] at hP1
        obtain ⟨hP, hD⟩ := va_join (wr := []) (w1 := [(h0, .inr (0, [.int a0, .int a1, .int (gx_X0_move_2 a2 p0 (fx_X0_statusOfAct a0 a1 a2 a4 a5 a6 p0 p1)), .int a3, .int (gx_X0_move_4 a4 p0 (fx_X0_statusOfAct a0 a1 a2 a4 a5 a6 p0 p1)), .int a5, .int 0, .int (gx_X0_remember_7 (fx_X0_statusOfAct a0 a1 a2 a4 a5 a6 p0 p1)), .int (gx_X0_remember_8 p0), .int a9, .int (gx_X0_remember_10 a10 p0 (fx_X0_statusOfAct a0 a1 a2 a4 a5 a6 p0 p1)), .int (gx_X0_remember_11 a11 (fx_X0_statusOfAct a0 a1 a2 a4 a5 a6 p0 p1))]))]) hP hD [0] [] rfl rfl (by decide) (by decide) hk1 hFc hP1 hD1
        generalize H1 = H at hP hS ⊢
        have hP : va_P (dC, dI) vwCl [(h0, .inr (0, [.int a0, .int a1, .int (gx_X0_move_2 a2 p0 (fx_X0_statusOfAct a0 a1 a2 a4 a5 a6 p0 p1)), .int a3, .int (gx_X0_move_4 a4 p0 (fx_X0_statusOfAct a0 a1 a2 a4 a5 a6 p0 p1)), .int a5, .int 0, .int (gx_X0_remember_7 (fx_X0_statusOfAct a0 a1 a2 a4 a5 a6 p0 p1)), .int (gx_X0_remember_8 p0), .int a9, .int (gx_X0_remember_10 a10 p0 (fx_X0_statusOfAct a0 a1 a2 a4 a5 a6 p0 p1)), .int (gx_X0_remember_11 a11 (fx_X0_statusOfAct a0 a1 a2 a4 a5 a6 p0 p1))]))] H := hP
        have hD : va_D A [(h0, .inr (0, [.int a0, .int a1, .int (gx_X0_move_2 a2 p0 (fx_X0_statusOfAct a0 a1 a2 a4 a5 a6 p0 p1)), .int a3, .int (gx_X0_move_4 a4 p0 (fx_X0_statusOfAct a0 a1 a2 a4 a5 a6 p0 p1)), .int a5, .int 0, .int (gx_X0_remember_7 (fx_X0_statusOfAct a0 a1 a2 a4 a5 a6 p0 p1)), .int (gx_X0_remember_8 p0), .int a9, .int (gx_X0_remember_10 a10 p0 (fx_X0_statusOfAct a0 a1 a2 a4 a5 a6 p0 p1)), .int (gx_X0_remember_11 a11 (fx_X0_statusOfAct a0 a1 a2 a4 a5 a6 p0 p1))]))] := hD
        refine lv_iload_n hx hb dX0_act_64 rfl (lv_at hl 0 rfl) ?_
        have hP9 := hP.sub (ws' := [(h0, .inr (0, [.int a0, .int a1, .int (gx_X0_move_2 a2 p0 (fx_X0_statusOfAct a0 a1 a2 a4 a5 a6 p0 p1)), .int a3, .int (gx_X0_move_4 a4 p0 (fx_X0_statusOfAct a0 a1 a2 a4 a5 a6 p0 p1)), .int a5, .int 0, .int (gx_X0_remember_7 (fx_X0_statusOfAct a0 a1 a2 a4 a5 a6 p0 p1)), .int (gx_X0_remember_8 p0), .int a9, .int (gx_X0_remember_10 a10 p0 (fx_X0_statusOfAct a0 a1 a2 a4 a5 a6 p0 p1)), .int (gx_X0_remember_11 a11 (fx_X0_statusOfAct a0 a1 a2 a4 a5 a6 p0 p1))]))]) [0] rfl
        have hD9 := hD.sub (ws' := [(h0, .inr (0, [.int a0, .int a1, .int (gx_X0_move_2 a2 p0 (fx_X0_statusOfAct a0 a1 a2 a4 a5 a6 p0 p1)), .int a3, .int (gx_X0_move_4 a4 p0 (fx_X0_statusOfAct a0 a1 a2 a4 a5 a6 p0 p1)), .int a5, .int 0, .int (gx_X0_remember_7 (fx_X0_statusOfAct a0 a1 a2 a4 a5 a6 p0 p1)), .int (gx_X0_remember_8 p0), .int a9, .int (gx_X0_remember_10 a10 p0 (fx_X0_statusOfAct a0 a1 a2 a4 a5 a6 p0 p1)), .int (gx_X0_remember_11 a11 (fx_X0_statusOfAct a0 a1 a2 a4 a5 a6 p0 p1))]))]) [0] (by decide) rfl
        have hK9 := hK.sub (tys' := []) [] rfl
        have eg_2 : gx_X0_act_2 a0 a1 a2 a4 a5 a6 p0 p1 = gx_X0_move_2 a2 p0 (fx_X0_statusOfAct a0 a1 a2 a4 a5 a6 p0 p1) := by unfold gx_X0_act_2; rw [if_neg c_1, if_pos c_2]
        have eg_4 : gx_X0_act_4 a0 a1 a2 a4 a5 a6 p0 p1 = gx_X0_move_4 a4 p0 (fx_X0_statusOfAct a0 a1 a2 a4 a5 a6 p0 p1) := by unfold gx_X0_act_4; rw [if_neg c_1, if_pos c_2]
        have eg_5 : gx_X0_act_5 a5 p0 = a5 := by unfold gx_X0_act_5; rw [if_neg c_1, if_pos c_2, if_neg c_4]
        have eg_6 : gx_X0_act_6 a0 a1 a2 a4 a5 a6 p0 p1 = 0 := by unfold gx_X0_act_6; rw [if_neg c_1, if_pos c_2, if_neg c_7, if_pos c_10]
        have eg_7 : gx_X0_act_7 a0 a1 a2 a4 a5 a6 a7 p0 p1 = gx_X0_remember_7 (fx_X0_statusOfAct a0 a1 a2 a4 a5 a6 p0 p1) := by unfold gx_X0_act_7; rw [if_neg c_1, if_pos c_2]
        have eg_8 : gx_X0_act_8 a8 p0 = gx_X0_remember_8 p0 := by unfold gx_X0_act_8; rw [if_neg c_1, if_pos c_2]
        have eg_10 : gx_X0_act_10 a0 a1 a2 a4 a5 a6 a10 p0 p1 = gx_X0_remember_10 a10 p0 (fx_X0_statusOfAct a0 a1 a2 a4 a5 a6 p0 p1) := by unfold gx_X0_act_10; rw [if_neg c_1, if_pos c_2]
        have eg_11 : gx_X0_act_11 a0 a1 a2 a4 a5 a6 a11 p0 p1 = gx_X0_remember_11 a11 (fx_X0_statusOfAct a0 a1 a2 a4 a5 a6 p0 p1) := by unfold gx_X0_act_11; rw [if_neg c_1, if_pos c_2]
        have ef : fx_X0_act a0 a1 a2 a4 a5 a6 p0 p1 = fx_X0_statusOfAct a0 a1 a2 a4 a5 a6 p0 p1 := by unfold fx_X0_act; rw [if_neg c_1, if_pos c_2]
        exact W.iret (v := fx_X0_statusOfAct a0 a1 a2 a4 a5 a6 p0 p1) hx hb hr (fun t ht hW => ⟨⟨(fx_X0_statusOfAct a0 a1 a2 a4 a5 a6 p0 p1), [(h0, .inr (0, [.int a0, .int a1, .int (gx_X0_move_2 a2 p0 (fx_X0_statusOfAct a0 a1 a2 a4 a5 a6 p0 p1)), .int a3, .int (gx_X0_move_4 a4 p0 (fx_X0_statusOfAct a0 a1 a2 a4 a5 a6 p0 p1)), .int a5, .int 0, .int (gx_X0_remember_7 (fx_X0_statusOfAct a0 a1 a2 a4 a5 a6 p0 p1)), .int (gx_X0_remember_8 p0), .int a9, .int (gx_X0_remember_10 a10 p0 (fx_X0_statusOfAct a0 a1 a2 a4 a5 a6 p0 p1)), .int (gx_X0_remember_11 a11 (fx_X0_statusOfAct a0 a1 a2 a4 a5 a6 p0 p1))]))], rfl, ⟨ef.symm, by rw [eg_2, eg_4, eg_5, eg_6, eg_7, eg_8, eg_10, eg_11]⟩, by rw [ht]; exact hP9, va_K.moved hW.alike hK9, hD9⟩, hS.F ht⟩) hS.2.2 dX0_act_65
      refine lv_iconst (v := 1) hx hb dX0_act_50 (by decide) ?_
      refine lv_goto (tgt := 55) hx hb dX0_act_51 (by decide) ?_
      refine va_put (D := (dC, dI)) (ci := 0) (v := .int 1) (ty := .boolean) (C := RX0) (T := TX0) (N := 12) hx hb hts (fun _ h => List.mem_cons_of_mem _ (List.mem_append_right _ h)) tyX0 tyX0_ok nmX0 hown hK hP hD hS 0 rfl rfl 6 (by decide) (hts (.fieldLink RX0 26 "FileStatus" "permit" "Z") (by decide +kernel)) (fun _ h9 => h9) rfl (by decide +kernel) rfl rfl (Nat.le_of_ble_eq_true rfl) dX0_act_55 (fun H locs hP hD hS => ?_)
      have hP : va_P (dC, dI) vwCl [(h0, .inr (0, [.int a0, .int a1, .int (gx_X0_move_2 a2 p0 (fx_X0_statusOfAct a0 a1 a2 a4 a5 a6 p0 p1)), .int a3, .int (gx_X0_move_4 a4 p0 (fx_X0_statusOfAct a0 a1 a2 a4 a5 a6 p0 p1)), .int a5, .int 1, .int a7, .int a8, .int a9, .int a10, .int a11]))] H := hP
      have hD : va_D A [(h0, .inr (0, [.int a0, .int a1, .int (gx_X0_move_2 a2 p0 (fx_X0_statusOfAct a0 a1 a2 a4 a5 a6 p0 p1)), .int a3, .int (gx_X0_move_4 a4 p0 (fx_X0_statusOfAct a0 a1 a2 a4 a5 a6 p0 p1)), .int a5, .int 1, .int a7, .int a8, .int a9, .int a10, .int a11]))] := hD
      refine lv_aload_n hx hb dX0_act_58 rfl (lv_at hl 1 rfl) ?_
      refine lv_iload_n hx hb dX0_act_59 rfl (lv_at hl 2 rfl) ?_
      refine lv_iload_n hx hb dX0_act_60 rfl (lv_at hl 0 rfl) ?_
      have hPc := hP.sub (ws' := [(h0, .inr (0, [.int a0, .int a1, .int (gx_X0_move_2 a2 p0 (fx_X0_statusOfAct a0 a1 a2 a4 a5 a6 p0 p1)), .int a3, .int (gx_X0_move_4 a4 p0 (fx_X0_statusOfAct a0 a1 a2 a4 a5 a6 p0 p1)), .int a5, .int 1, .int a7, .int a8, .int a9, .int a10, .int a11]))]) [0] rfl
      have hDc := hD.sub (ws' := [(h0, .inr (0, [.int a0, .int a1, .int (gx_X0_move_2 a2 p0 (fx_X0_statusOfAct a0 a1 a2 a4 a5 a6 p0 p1)), .int a3, .int (gx_X0_move_4 a4 p0 (fx_X0_statusOfAct a0 a1 a2 a4 a5 a6 p0 p1)), .int a5, .int 1, .int a7, .int a8, .int a9, .int a10, .int a11]))]) [0] (by decide) rfl
      have hKc := hK.sub (tys' := []) [] rfl
      have hFc := va_free (wc := [(h0, .inr (0, [.int a0, .int a1, .int (gx_X0_move_2 a2 p0 (fx_X0_statusOfAct a0 a1 a2 a4 a5 a6 p0 p1)), .int a3, .int (gx_X0_move_4 a4 p0 (fx_X0_statusOfAct a0 a1 a2 a4 a5 a6 p0 p1)), .int a5, .int 1, .int a7, .int a8, .int a9, .int a10, .int a11]))]) hD hS hA [0] rfl
      refine va_callv (va_runV (As := [.int p0, .int (fx_X0_statusOfAct a0 a1 a2 a4 a5 a6 p0 p1)]) (rest := []) ⟨hx, hb, hml, hown, hts⟩ (ct_X0_remember l dC dI h0 H.size a0 a1 (gx_X0_move_2 a2 p0 (fx_X0_statusOfAct a0 a1 a2 a4 a5 a6 p0 p1)) a3 (gx_X0_move_4 a4 p0 (fx_X0_statusOfAct a0 a1 a2 a4 a5 a6 p0 p1)) a5 1 a7 a8 a9 a10 a11 p0 (fx_X0_statusOfAct a0 a1 a2 a4 a5 a6 p0 p1)) (cwV 2 hts gX0_act_X0_remember rfl rfl rfl (by decide +kernel) ⟨Nat.le_of_ble_eq_true rfl, Nat.le_of_ble_eq_true rfl⟩) ⟨fun a U g mk q => by obtain ⟨q0, q1, qP, qK, qD⟩ := q; exact ⟨q0, q1, qP, va_K.moved (u := U) (U := U.calling g mk a) (Vm.Alike.refl U.vm) qK, qD⟩, va_recv hKc hPc (ci := 0) (q0 := 0) rfl rfl, fun U hU hW => ⟨rfl, by rw [hU], by rw [hU]; exact hPc, va_K.moved hW.alike hKc, hDc.weaken (fun _ _ _ _ => trivial)⟩⟩ rfl rfl hl.1 rfl (lv_room (Nat.le_of_ble_eq_true rfl)) dX0_act_61 ⟨(Nat.zero_le _), (Nat.zero_le _)⟩) hS (fun q _ h => hFc q h) hFc (fun u t H1 locs ht hvm hw hB hz1 hk1 hS => ?_)
      subst hw
      obtain ⟨hP1, -, hD1⟩ := hB
      rw [ht] at hP1
      obtain ⟨hP, hD⟩ := va_join (wr := []) (w1 := [(h0, .inr (0, [.int a0, .int a1, .int (gx_X0_move_2 a2 p0 (fx_X0_statusOfAct a0 a1 a2 a4 a5 a6 p0 p1)), .int a3, .int (gx_X0_move_4 a4 p0 (fx_X0_statusOfAct a0 a1 a2 a4 a5 a6 p0 p1)), .int a5, .int 1, .int (gx_X0_remember_7 (fx_X0_statusOfAct a0 a1 a2 a4 a5 a6 p0 p1)), .int (gx_X0_remember_8 p0), .int a9, .int (gx_X0_remember_10 a10 p0 (fx_X0_statusOfAct a0 a1 a2 a4 a5 a6 p0 p1)), .int (gx_X0_remember_11 a11 (fx_X0_statusOfAct a0 a1 a2 a4 a5 a6 p0 p1))]))]) hP hD [0] [] rfl rfl (by decide) (by decide) hk1 hFc hP1 hD1
      generalize H1 = H at hP hS ⊢
      have hP : va_P (dC, dI) vwCl [(h0, .inr (0, [.int a0, .int a1, .int (gx_X0_move_2 a2 p0 (fx_X0_statusOfAct a0 a1 a2 a4 a5 a6 p0 p1)), .int a3, .int (gx_X0_move_4 a4 p0 (fx_X0_statusOfAct a0 a1 a2 a4 a5 a6 p0 p1)), .int a5, .int 1, .int (gx_X0_remember_7 (fx_X0_statusOfAct a0 a1 a2 a4 a5 a6 p0 p1)), .int (gx_X0_remember_8 p0), .int a9, .int (gx_X0_remember_10 a10 p0 (fx_X0_statusOfAct a0 a1 a2 a4 a5 a6 p0 p1)), .int (gx_X0_remember_11 a11 (fx_X0_statusOfAct a0 a1 a2 a4 a5 a6 p0 p1))]))] H := hP
      have hD : va_D A [(h0, .inr (0, [.int a0, .int a1, .int (gx_X0_move_2 a2 p0 (fx_X0_statusOfAct a0 a1 a2 a4 a5 a6 p0 p1)), .int a3, .int (gx_X0_move_4 a4 p0 (fx_X0_statusOfAct a0 a1 a2 a4 a5 a6 p0 p1)), .int a5, .int 1, .int (gx_X0_remember_7 (fx_X0_statusOfAct a0 a1 a2 a4 a5 a6 p0 p1)), .int (gx_X0_remember_8 p0), .int a9, .int (gx_X0_remember_10 a10 p0 (fx_X0_statusOfAct a0 a1 a2 a4 a5 a6 p0 p1)), .int (gx_X0_remember_11 a11 (fx_X0_statusOfAct a0 a1 a2 a4 a5 a6 p0 p1))]))] := hD
      refine lv_iload_n hx hb dX0_act_64 rfl (lv_at hl 0 rfl) ?_
      have hP9 := hP.sub (ws' := [(h0, .inr (0, [.int a0, .int a1, .int (gx_X0_move_2 a2 p0 (fx_X0_statusOfAct a0 a1 a2 a4 a5 a6 p0 p1)), .int a3, .int (gx_X0_move_4 a4 p0 (fx_X0_statusOfAct a0 a1 a2 a4 a5 a6 p0 p1)), .int a5, .int 1, .int (gx_X0_remember_7 (fx_X0_statusOfAct a0 a1 a2 a4 a5 a6 p0 p1)), .int (gx_X0_remember_8 p0), .int a9, .int (gx_X0_remember_10 a10 p0 (fx_X0_statusOfAct a0 a1 a2 a4 a5 a6 p0 p1)), .int (gx_X0_remember_11 a11 (fx_X0_statusOfAct a0 a1 a2 a4 a5 a6 p0 p1))]))]) [0] rfl
      have hD9 := hD.sub (ws' := [(h0, .inr (0, [.int a0, .int a1, .int (gx_X0_move_2 a2 p0 (fx_X0_statusOfAct a0 a1 a2 a4 a5 a6 p0 p1)), .int a3, .int (gx_X0_move_4 a4 p0 (fx_X0_statusOfAct a0 a1 a2 a4 a5 a6 p0 p1)), .int a5, .int 1, .int (gx_X0_remember_7 (fx_X0_statusOfAct a0 a1 a2 a4 a5 a6 p0 p1)), .int (gx_X0_remember_8 p0), .int a9, .int (gx_X0_remember_10 a10 p0 (fx_X0_statusOfAct a0 a1 a2 a4 a5 a6 p0 p1)), .int (gx_X0_remember_11 a11 (fx_X0_statusOfAct a0 a1 a2 a4 a5 a6 p0 p1))]))]) [0] (by decide) rfl
      have hK9 := hK.sub (tys' := []) [] rfl
      have eg_2 : gx_X0_act_2 a0 a1 a2 a4 a5 a6 p0 p1 = gx_X0_move_2 a2 p0 (fx_X0_statusOfAct a0 a1 a2 a4 a5 a6 p0 p1) := by unfold gx_X0_act_2; rw [if_neg c_1, if_pos c_2]
      have eg_4 : gx_X0_act_4 a0 a1 a2 a4 a5 a6 p0 p1 = gx_X0_move_4 a4 p0 (fx_X0_statusOfAct a0 a1 a2 a4 a5 a6 p0 p1) := by unfold gx_X0_act_4; rw [if_neg c_1, if_pos c_2]
      have eg_5 : gx_X0_act_5 a5 p0 = a5 := by unfold gx_X0_act_5; rw [if_neg c_1, if_pos c_2, if_neg c_4]
      have eg_6 : gx_X0_act_6 a0 a1 a2 a4 a5 a6 p0 p1 = 1 := by unfold gx_X0_act_6; rw [if_neg c_1, if_pos c_2, if_neg c_7, if_neg c_10]
      have eg_7 : gx_X0_act_7 a0 a1 a2 a4 a5 a6 a7 p0 p1 = gx_X0_remember_7 (fx_X0_statusOfAct a0 a1 a2 a4 a5 a6 p0 p1) := by unfold gx_X0_act_7; rw [if_neg c_1, if_pos c_2]
      have eg_8 : gx_X0_act_8 a8 p0 = gx_X0_remember_8 p0 := by unfold gx_X0_act_8; rw [if_neg c_1, if_pos c_2]
      have eg_10 : gx_X0_act_10 a0 a1 a2 a4 a5 a6 a10 p0 p1 = gx_X0_remember_10 a10 p0 (fx_X0_statusOfAct a0 a1 a2 a4 a5 a6 p0 p1) := by unfold gx_X0_act_10; rw [if_neg c_1, if_pos c_2]
      have eg_11 : gx_X0_act_11 a0 a1 a2 a4 a5 a6 a11 p0 p1 = gx_X0_remember_11 a11 (fx_X0_statusOfAct a0 a1 a2 a4 a5 a6 p0 p1) := by unfold gx_X0_act_11; rw [if_neg c_1, if_pos c_2]
      have ef : fx_X0_act a0 a1 a2 a4 a5 a6 p0 p1 = fx_X0_statusOfAct a0 a1 a2 a4 a5 a6 p0 p1 := by unfold fx_X0_act; rw [if_neg c_1, if_pos c_2]
      exact W.iret (v := fx_X0_statusOfAct a0 a1 a2 a4 a5 a6 p0 p1) hx hb hr (fun t ht hW => ⟨⟨(fx_X0_statusOfAct a0 a1 a2 a4 a5 a6 p0 p1), [(h0, .inr (0, [.int a0, .int a1, .int (gx_X0_move_2 a2 p0 (fx_X0_statusOfAct a0 a1 a2 a4 a5 a6 p0 p1)), .int a3, .int (gx_X0_move_4 a4 p0 (fx_X0_statusOfAct a0 a1 a2 a4 a5 a6 p0 p1)), .int a5, .int 1, .int (gx_X0_remember_7 (fx_X0_statusOfAct a0 a1 a2 a4 a5 a6 p0 p1)), .int (gx_X0_remember_8 p0), .int a9, .int (gx_X0_remember_10 a10 p0 (fx_X0_statusOfAct a0 a1 a2 a4 a5 a6 p0 p1)), .int (gx_X0_remember_11 a11 (fx_X0_statusOfAct a0 a1 a2 a4 a5 a6 p0 p1))]))], rfl, ⟨ef.symm, by rw [eg_2, eg_4, eg_5, eg_6, eg_7, eg_8, eg_10, eg_11]⟩, by rw [ht]; exact hP9, va_K.moved hW.alike hK9, hD9⟩, hS.F ht⟩) hS.2.2 dX0_act_65
    refine lv_aload_n hx hb dX0_act_24 rfl (lv_at hl 1 rfl) ?_
    refine lv_iconst (v := 0) hx hb dX0_act_25 (by decide) ?_
    refine va_put (D := (dC, dI)) (ci := 0) (v := .int 0) (ty := .boolean) (C := RX0) (T := TX0) (N := 12) hx hb hts (fun _ h => List.mem_cons_of_mem _ (List.mem_append_right _ h)) tyX0 tyX0_ok nmX0 hown hK hP hD hS 0 rfl rfl 5 (by decide) (hts (.fieldLink RX0 23 "FileStatus" "endIsNext" "Z") (by decide +kernel)) (fun _ h9 => h9) rfl (by decide +kernel) rfl rfl (Nat.le_of_ble_eq_true rfl) dX0_act_26 (fun H locs hP hD hS => ?_)
    have hP : va_P (dC, dI) vwCl [(h0, .inr (0, [.int a0, .int a1, .int a2, .int a3, .int a4, .int 0, .int a6, .int a7, .int a8, .int a9, .int a10, .int a11]))] H := hP
    have hD : va_D A [(h0, .inr (0, [.int a0, .int a1, .int a2, .int a3, .int a4, .int 0, .int a6, .int a7, .int a8, .int a9, .int a10, .int a11]))] := hD
    refine lv_aload_n hx hb dX0_act_29 rfl (lv_at hl 1 rfl) ?_
    refine lv_iload_n hx hb dX0_act_30 rfl (lv_at hl 2 rfl) ?_
    refine lv_iload_n hx hb dX0_act_31 rfl (lv_at hl 0 rfl) ?_
    have hPc := hP.sub (ws' := [(h0, .inr (0, [.int a0, .int a1, .int a2, .int a3, .int a4, .int 0, .int a6, .int a7, .int a8, .int a9, .int a10, .int a11]))]) [0] rfl
    have hDc := hD.sub (ws' := [(h0, .inr (0, [.int a0, .int a1, .int a2, .int a3, .int a4, .int 0, .int a6, .int a7, .int a8, .int a9, .int a10, .int a11]))]) [0] (by decide) rfl
    have hKc := hK.sub (tys' := []) [] rfl
    have hFc := va_free (wc := [(h0, .inr (0, [.int a0, .int a1, .int a2, .int a3, .int a4, .int 0, .int a6, .int a7, .int a8, .int a9, .int a10, .int a11]))]) hD hS hA [0] rfl
    refine va_callv (va_runV (As := [.int p0, .int (fx_X0_statusOfAct a0 a1 a2 a4 a5 a6 p0 p1)]) (rest := []) ⟨hx, hb, hml, hown, hts⟩ (ct_X0_move l dC dI h0 H.size a0 a1 a2 a3 a4 0 a6 a7 a8 a9 a10 a11 p0 (fx_X0_statusOfAct a0 a1 a2 a4 a5 a6 p0 p1)) (cwV 2 hts gX0_act_X0_move rfl rfl rfl (by decide +kernel) ⟨Nat.le_of_ble_eq_true rfl, Nat.le_of_ble_eq_true rfl⟩) ⟨fun a U g mk q => by obtain ⟨q0, q1, qP, qK, qD⟩ := q; exact ⟨q0, q1, qP, va_K.moved (u := U) (U := U.calling g mk a) (Vm.Alike.refl U.vm) qK, qD⟩, va_recv hKc hPc (ci := 0) (q0 := 0) rfl rfl, fun U hU hW => ⟨rfl, by rw [hU], by rw [hU]; exact hPc, va_K.moved hW.alike hKc, hDc.weaken (fun _ _ _ _ => trivial)⟩⟩ rfl rfl hl.1 rfl (lv_room (Nat.le_of_ble_eq_true rfl)) dX0_act_32 ⟨(Nat.zero_le _), (Nat.zero_le _)⟩) hS (fun q _ h => hFc q h) hFc (fun u t H1 locs ht hvm hw hB hz1 hk1 hS => ?_)
    subst hw
    obtain ⟨hP1, -, hD1⟩ := hB
    rw [ht] at hP1
    obtain ⟨hP, hD⟩ := va_join (wr := []) (w1 := [(h0, .inr (0, [.int a0, .int a1, .int (gx_X0_move_2 a2 p0 (fx_X0_statusOfAct a0 a1 a2 a4 a5 a6 p0 p1)), .int a3, .int (gx_X0_move_4 a4 p0 (fx_X0_statusOfAct a0 a1 a2 a4 a5 a6 p0 p1)), .int 0, .int a6, .int a7, .int a8, .int a9, .int a10, .int a11]))]) hP hD [0] [] rfl rfl (by decide) (by decide) hk1 hFc hP1 hD1
    generalize H1 = H at hP hS ⊢
    have hP : va_P (dC, dI) vwCl [(h0, .inr (0, [.int a0, .int a1, .int (gx_X0_move_2 a2 p0 (fx_X0_statusOfAct a0 a1 a2 a4 a5 a6 p0 p1)), .int a3, .int (gx_X0_move_4 a4 p0 (fx_X0_statusOfAct a0 a1 a2 a4 a5 a6 p0 p1)), .int 0, .int a6, .int a7, .int a8, .int a9, .int a10, .int a11]))] H := hP
    have hD : va_D A [(h0, .inr (0, [.int a0, .int a1, .int (gx_X0_move_2 a2 p0 (fx_X0_statusOfAct a0 a1 a2 a4 a5 a6 p0 p1)), .int a3, .int (gx_X0_move_4 a4 p0 (fx_X0_statusOfAct a0 a1 a2 a4 a5 a6 p0 p1)), .int 0, .int a6, .int a7, .int a8, .int a9, .int a10, .int a11]))] := hD
    refine lv_aload_n hx hb dX0_act_35 rfl (lv_at hl 1 rfl) ?_
    refine lv_iload_n hx hb dX0_act_36 rfl (lv_at hl 2 rfl) ?_
    have hPc := hP.sub (ws' := []) [] rfl
    have hDc := hD.sub (ws' := []) [] (by decide) rfl
    have hKc := hK.sub (tys' := []) [] rfl
    have hFc := va_free (wc := []) hD hS hA [] rfl
    refine va_calli (va_runS (As := [.int p0]) (rest := [.ref h0]) ⟨hx, hb, hml, hown, hts⟩ (ct_X0_isRead l dC dI H.size p0) (va_cwS 1 hts gX0_act_X0_isRead rfl rfl rfl (by decide +kernel) ⟨Nat.le_of_ble_eq_true rfl, Nat.le_of_ble_eq_true rfl⟩) ⟨fun a U g mk q => by obtain ⟨q0, q1, qP, qK, qD⟩ := q; exact ⟨q0, q1, qP, va_K.moved (u := U) (U := U.calling g mk a) (Vm.Alike.refl U.vm) qK, qD⟩, fun U hU hW => ⟨rfl, by rw [hU], by rw [hU]; exact hPc, va_K.moved hW.alike hKc, hDc.weaken (fun _ _ _ _ => trivial)⟩⟩ rfl rfl hl.1 rfl (lv_room (Nat.le_of_ble_eq_true rfl)) dX0_act_37 ⟨(Nat.zero_le _), (Nat.zero_le _)⟩) hS (fun q _ h => hFc q h) hFc (fun r_14 u t H1 locs ht hvm hw hB hz1 hk1 hS => ?_)
    obtain ⟨er, hu⟩ := hw
    subst hu
    subst er
    obtain ⟨hP1, -, hD1⟩ := hB
    rw [ht] at hP1
    obtain ⟨hP, hD⟩ := va_join (wr := [(h0, .inr (0, [.int a0, .int a1, .int (gx_X0_move_2 a2 p0 (fx_X0_statusOfAct a0 a1 a2 a4 a5 a6 p0 p1)), .int a3, .int (gx_X0_move_4 a4 p0 (fx_X0_statusOfAct a0 a1 a2 a4 a5 a6 p0 p1)), .int 0, .int a6, .int a7, .int a8, .int a9, .int a10, .int a11]))]) (w1 := []) hP hD [] [0] rfl rfl (by decide) (by decide) hk1 hFc hP1 hD1
    generalize H1 = H at hP hS ⊢
    have hP : va_P (dC, dI) vwCl [(h0, .inr (0, [.int a0, .int a1, .int (gx_X0_move_2 a2 p0 (fx_X0_statusOfAct a0 a1 a2 a4 a5 a6 p0 p1)), .int a3, .int (gx_X0_move_4 a4 p0 (fx_X0_statusOfAct a0 a1 a2 a4 a5 a6 p0 p1)), .int 0, .int a6, .int a7, .int a8, .int a9, .int a10, .int a11]))] H := hP
    have hD : va_D A [(h0, .inr (0, [.int a0, .int a1, .int (gx_X0_move_2 a2 p0 (fx_X0_statusOfAct a0 a1 a2 a4 a5 a6 p0 p1)), .int a3, .int (gx_X0_move_4 a4 p0 (fx_X0_statusOfAct a0 a1 a2 a4 a5 a6 p0 p1)), .int 0, .int a6, .int a7, .int a8, .int a9, .int a10, .int a11]))] := hD
    refine lv_if_eq (tgt := 54) hx hb dX0_act_40 (by decide) (fun c_15 => ?_) (fun c_15 => ?_)
    · refine lv_iconst (v := 0) hx hb dX0_act_54 (by decide) ?_
      refine va_put (D := (dC, dI)) (ci := 0) (v := .int 0) (ty := .boolean) (C := RX0) (T := TX0) (N := 12) hx hb hts (fun _ h => List.mem_cons_of_mem _ (List.mem_append_right _ h)) tyX0 tyX0_ok nmX0 hown hK hP hD hS 0 rfl rfl 6 (by decide) (hts (.fieldLink RX0 26 "FileStatus" "permit" "Z") (by decide +kernel)) (fun _ h9 => h9) rfl (by decide +kernel) rfl rfl (Nat.le_of_ble_eq_true rfl) dX0_act_55 (fun H locs hP hD hS => ?_)
      have hP : va_P (dC, dI) vwCl [(h0, .inr (0, [.int a0, .int a1, .int (gx_X0_move_2 a2 p0 (fx_X0_statusOfAct a0 a1 a2 a4 a5 a6 p0 p1)), .int a3, .int (gx_X0_move_4 a4 p0 (fx_X0_statusOfAct a0 a1 a2 a4 a5 a6 p0 p1)), .int 0, .int 0, .int a7, .int a8, .int a9, .int a10, .int a11]))] H := hP
      have hD : va_D A [(h0, .inr (0, [.int a0, .int a1, .int (gx_X0_move_2 a2 p0 (fx_X0_statusOfAct a0 a1 a2 a4 a5 a6 p0 p1)), .int a3, .int (gx_X0_move_4 a4 p0 (fx_X0_statusOfAct a0 a1 a2 a4 a5 a6 p0 p1)), .int 0, .int 0, .int a7, .int a8, .int a9, .int a10, .int a11]))] := hD
      refine lv_aload_n hx hb dX0_act_58 rfl (lv_at hl 1 rfl) ?_
      refine lv_iload_n hx hb dX0_act_59 rfl (lv_at hl 2 rfl) ?_
      refine lv_iload_n hx hb dX0_act_60 rfl (lv_at hl 0 rfl) ?_
      have hPc := hP.sub (ws' := [(h0, .inr (0, [.int a0, .int a1, .int (gx_X0_move_2 a2 p0 (fx_X0_statusOfAct a0 a1 a2 a4 a5 a6 p0 p1)), .int a3, .int (gx_X0_move_4 a4 p0 (fx_X0_statusOfAct a0 a1 a2 a4 a5 a6 p0 p1)), .int 0, .int 0, .int a7, .int a8, .int a9, .int a10, .int a11]))]) [0] rfl
      have hDc := hD.sub (ws' := [(h0, .inr (0, [.int a0, .int a1, .int (gx_X0_move_2 a2 p0 (fx_X0_statusOfAct a0 a1 a2 a4 a5 a6 p0 p1)), .int a3, .int (gx_X0_move_4 a4 p0 (fx_X0_statusOfAct a0 a1 a2 a4 a5 a6 p0 p1)), .int 0, .int 0, .int a7, .int a8, .int a9, .int a10, .int a11]))]) [0] (by decide) rfl
      have hKc := hK.sub (tys' := []) [] rfl
      have hFc := va_free (wc := [(h0, .inr (0, [.int a0, .int a1, .int (gx_X0_move_2 a2 p0 (fx_X0_statusOfAct a0 a1 a2 a4 a5 a6 p0 p1)), .int a3, .int (gx_X0_move_4 a4 p0 (fx_X0_statusOfAct a0 a1 a2 a4 a5 a6 p0 p1)), .int 0, .int 0, .int a7, .int a8, .int a9, .int a10, .int a11]))]) hD hS hA [0] rfl
      refine va_callv (va_runV (As := [.int p0, .int (fx_X0_statusOfAct a0 a1 a2 a4 a5 a6 p0 p1)]) (rest := []) ⟨hx, hb, hml, hown, hts⟩ (ct_X0_remember l dC dI h0 H.size a0 a1 (gx_X0_move_2 a2 p0 (fx_X0_statusOfAct a0 a1 a2 a4 a5 a6 p0 p1)) a3 (gx_X0_move_4 a4 p0 (fx_X0_statusOfAct a0 a1 a2 a4 a5 a6 p0 p1)) 0 0 a7 a8 a9 a10 a11 p0 (fx_X0_statusOfAct a0 a1 a2 a4 a5 a6 p0 p1)) (cwV 2 hts gX0_act_X0_remember rfl rfl rfl (by decide +kernel) ⟨Nat.le_of_ble_eq_true rfl, Nat.le_of_ble_eq_true rfl⟩) ⟨fun a U g mk q => by obtain ⟨q0, q1, qP, qK, qD⟩ := q; exact ⟨q0, q1, qP, va_K.moved (u := U) (U := U.calling g mk a) (Vm.Alike.refl U.vm) qK, qD⟩, va_recv hKc hPc (ci := 0) (q0 := 0) rfl rfl, fun U hU hW => ⟨rfl, by rw [hU], by rw [hU]; exact hPc, va_K.moved hW.alike hKc, hDc.weaken (fun _ _ _ _ => trivial)⟩⟩ rfl rfl hl.1 rfl (lv_room (Nat.le_of_ble_eq_true rfl)) dX0_act_61 ⟨(Nat.zero_le _), (Nat.zero_le _)⟩) hS (fun q _ h => hFc q h) hFc (fun u t H1 locs ht hvm hw hB hz1 hk1 hS => ?_)
      subst hw
      obtain ⟨hP1, -, hD1⟩ := hB
      rw [ht] at hP1
      obtain ⟨hP, hD⟩ := va_join (wr := []) (w1 := [(h0, .inr (0, [.int a0, .int a1, .int (gx_X0_move_2 a2 p0 (fx_X0_statusOfAct a0 a1 a2 a4 a5 a6 p0 p1)), .int a3, .int (gx_X0_move_4 a4 p0 (fx_X0_statusOfAct a0 a1 a2 a4 a5 a6 p0 p1)), .int 0, .int 0, .int (gx_X0_remember_7 (fx_X0_statusOfAct a0 a1 a2 a4 a5 a6 p0 p1)), .int (gx_X0_remember_8 p0), .int a9, .int (gx_X0_remember_10 a10 p0 (fx_X0_statusOfAct a0 a1 a2 a4 a5 a6 p0 p1)), .int (gx_X0_remember_11 a11 (fx_X0_statusOfAct a0 a1 a2 a4 a5 a6 p0 p1))]))]) hP hD [0] [] rfl rfl (by decide) (by decide) hk1 hFc hP1 hD1
      generalize H1 = H at hP hS ⊢
      have hP : va_P (dC, dI) vwCl [(h0, .inr (0, [.int a0, .int a1, .int (gx_X0_move_2 a2 p0 (fx_X0_statusOfAct a0 a1 a2 a4 a5 a6 p0 p1)), .int a3, .int (gx_X0_move_4 a4 p0 (fx_X0_statusOfAct a0 a1 a2 a4 a5 a6 p0 p1)), .int 0, .int 0, .int (gx_X0_remember_7 (fx_X0_statusOfAct a0 a1 a2 a4 a5 a6 p0 p1)), .int (gx_X0_remember_8 p0), .int a9, .int (gx_X0_remember_10 a10 p0 (fx_X0_statusOfAct a0 a1 a2 a4 a5 a6 p0 p1)), .int (gx_X0_remember_11 a11 (fx_X0_statusOfAct a0 a1 a2 a4 a5 a6 p0 p1))]))] H := hP
      have hD : va_D A [(h0, .inr (0, [.int a0, .int a1, .int (gx_X0_move_2 a2 p0 (fx_X0_statusOfAct a0 a1 a2 a4 a5 a6 p0 p1)), .int a3, .int (gx_X0_move_4 a4 p0 (fx_X0_statusOfAct a0 a1 a2 a4 a5 a6 p0 p1)), .int 0, .int 0, .int (gx_X0_remember_7 (fx_X0_statusOfAct a0 a1 a2 a4 a5 a6 p0 p1)), .int (gx_X0_remember_8 p0), .int a9, .int (gx_X0_remember_10 a10 p0 (fx_X0_statusOfAct a0 a1 a2 a4 a5 a6 p0 p1)), .int (gx_X0_remember_11 a11 (fx_X0_statusOfAct a0 a1 a2 a4 a5 a6 p0 p1))]))] := hD
      refine lv_iload_n hx hb dX0_act_64 rfl (lv_at hl 0 rfl) ?_
      have hP9 := hP.sub (ws' := [(h0, .inr (0, [.int a0, .int a1, .int (gx_X0_move_2 a2 p0 (fx_X0_statusOfAct a0 a1 a2 a4 a5 a6 p0 p1)), .int a3, .int (gx_X0_move_4 a4 p0 (fx_X0_statusOfAct a0 a1 a2 a4 a5 a6 p0 p1)), .int 0, .int 0, .int (gx_X0_remember_7 (fx_X0_statusOfAct a0 a1 a2 a4 a5 a6 p0 p1)), .int (gx_X0_remember_8 p0), .int a9, .int (gx_X0_remember_10 a10 p0 (fx_X0_statusOfAct a0 a1 a2 a4 a5 a6 p0 p1)), .int (gx_X0_remember_11 a11 (fx_X0_statusOfAct a0 a1 a2 a4 a5 a6 p0 p1))]))]) [0] rfl
      have hD9 := hD.sub (ws' := [(h0, .inr (0, [.int a0, .int a1, .int (gx_X0_move_2 a2 p0 (fx_X0_statusOfAct a0 a1 a2 a4 a5 a6 p0 p1)), .int a3, .int (gx_X0_move_4 a4 p0 (fx_X0_statusOfAct a0 a1 a2 a4 a5 a6 p0 p1)), .int 0, .int 0, .int (gx_X0_remember_7 (fx_X0_statusOfAct a0 a1 a2 a4 a5 a6 p0 p1)), .int (gx_X0_remember_8 p0), .int a9, .int (gx_X0_remember_10 a10 p0 (fx_X0_statusOfAct a0 a1 a2 a4 a5 a6 p0 p1)), .int (gx_X0_remember_11 a11 (fx_X0_statusOfAct a0 a1 a2 a4 a5 a6 p0 p1))]))]) [0] (by decide) rfl
      have hK9 := hK.sub (tys' := []) [] rfl
      have eg_2 : gx_X0_act_2 a0 a1 a2 a4 a5 a6 p0 p1 = gx_X0_move_2 a2 p0 (fx_X0_statusOfAct a0 a1 a2 a4 a5 a6 p0 p1) := by unfold gx_X0_act_2; rw [if_neg c_1, if_pos c_2]
      have eg_4 : gx_X0_act_4 a0 a1 a2 a4 a5 a6 p0 p1 = gx_X0_move_4 a4 p0 (fx_X0_statusOfAct a0 a1 a2 a4 a5 a6 p0 p1) := by unfold gx_X0_act_4; rw [if_neg c_1, if_pos c_2]
      have eg_5 : gx_X0_act_5 a5 p0 = 0 := by unfold gx_X0_act_5; rw [if_neg c_1, if_pos c_2, if_pos c_4]
      have eg_6 : gx_X0_act_6 a0 a1 a2 a4 a5 a6 p0 p1 = 0 := by unfold gx_X0_act_6; rw [if_neg c_1, if_pos c_2, if_pos c_15]
      have eg_7 : gx_X0_act_7 a0 a1 a2 a4 a5 a6 a7 p0 p1 = gx_X0_remember_7 (fx_X0_statusOfAct a0 a1 a2 a4 a5 a6 p0 p1) := by unfold gx_X0_act_7; rw [if_neg c_1, if_pos c_2]
      have eg_8 : gx_X0_act_8 a8 p0 = gx_X0_remember_8 p0 := by unfold gx_X0_act_8; rw [if_neg c_1, if_pos c_2]
      have eg_10 : gx_X0_act_10 a0 a1 a2 a4 a5 a6 a10 p0 p1 = gx_X0_remember_10 a10 p0 (fx_X0_statusOfAct a0 a1 a2 a4 a5 a6 p0 p1) := by unfold gx_X0_act_10; rw [if_neg c_1, if_pos c_2]
      have eg_11 : gx_X0_act_11 a0 a1 a2 a4 a5 a6 a11 p0 p1 = gx_X0_remember_11 a11 (fx_X0_statusOfAct a0 a1 a2 a4 a5 a6 p0 p1) := by unfold gx_X0_act_11; rw [if_neg c_1, if_pos c_2]
      have ef : fx_X0_act a0 a1 a2 a4 a5 a6 p0 p1 = fx_X0_statusOfAct a0 a1 a2 a4 a5 a6 p0 p1 := by unfold fx_X0_act; rw [if_neg c_1, if_pos c_2]
      exact W.iret (v := fx_X0_statusOfAct a0 a1 a2 a4 a5 a6 p0 p1) hx hb hr (fun t ht hW => ⟨⟨(fx_X0_statusOfAct a0 a1 a2 a4 a5 a6 p0 p1), [(h0, .inr (0, [.int a0, .int a1, .int (gx_X0_move_2 a2 p0 (fx_X0_statusOfAct a0 a1 a2 a4 a5 a6 p0 p1)), .int a3, .int (gx_X0_move_4 a4 p0 (fx_X0_statusOfAct a0 a1 a2 a4 a5 a6 p0 p1)), .int 0, .int 0, .int (gx_X0_remember_7 (fx_X0_statusOfAct a0 a1 a2 a4 a5 a6 p0 p1)), .int (gx_X0_remember_8 p0), .int a9, .int (gx_X0_remember_10 a10 p0 (fx_X0_statusOfAct a0 a1 a2 a4 a5 a6 p0 p1)), .int (gx_X0_remember_11 a11 (fx_X0_statusOfAct a0 a1 a2 a4 a5 a6 p0 p1))]))], rfl, ⟨ef.symm, by rw [eg_2, eg_4, eg_5, eg_6, eg_7, eg_8, eg_10, eg_11]⟩, by rw [ht]; exact hP9, va_K.moved hW.alike hK9, hD9⟩, hS.F ht⟩) hS.2.2 dX0_act_65
    refine lv_iload_n hx hb dX0_act_43 rfl (lv_at hl 0 rfl) ?_
    have hPc := hP.sub (ws' := []) [] rfl
    have hDc := hD.sub (ws' := []) [] (by decide) rfl
    have hKc := hK.sub (tys' := []) [] rfl
    have hFc := va_free (wc := []) hD hS hA [] rfl
    refine va_calli (va_runS (As := [.int (fx_X0_statusOfAct a0 a1 a2 a4 a5 a6 p0 p1)]) (rest := [.ref h0]) ⟨hx, hb, hml, hown, hts⟩ (ct_X0_givesPlace l dC dI H.size (fx_X0_statusOfAct a0 a1 a2 a4 a5 a6 p0 p1)) (va_cwS 1 hts gX0_act_X0_givesPlace rfl rfl rfl (by decide +kernel) ⟨Nat.le_of_ble_eq_true rfl, Nat.le_of_ble_eq_true rfl⟩) ⟨fun a U g mk q => by obtain ⟨q0, q1, qP, qK, qD⟩ := q; exact ⟨q0, q1, qP, va_K.moved (u := U) (U := U.calling g mk a) (Vm.Alike.refl U.vm) qK, qD⟩, fun U hU hW => ⟨rfl, by rw [hU], by rw [hU]; exact hPc, va_K.moved hW.alike hKc, hDc.weaken (fun _ _ _ _ => trivial)⟩⟩ rfl rfl hl.1 rfl (lv_room (Nat.le_of_ble_eq_true rfl)) dX0_act_44 ⟨(Nat.zero_le _), (Nat.zero_le _)⟩) hS (fun q _ h => hFc q h) hFc (fun r_17 u t H1 locs ht hvm hw hB hz1 hk1 hS => ?_)
    obtain ⟨er, hu⟩ := hw
    subst hu
    subst er
    obtain ⟨hP1, -, hD1⟩ := hB
    rw [ht] at hP1
    obtain ⟨hP, hD⟩ := va_join (wr := [(h0, .inr (0, [.int a0, .int a1, .int (gx_X0_move_2 a2 p0 (fx_X0_statusOfAct a0 a1 a2 a4 a5 a6 p0 p1)), .int a3, .int (gx_X0_move_4 a4 p0 (fx_X0_statusOfAct a0 a1 a2 a4 a5 a6 p0 p1)), .int 0, .int a6, .int a7, .int a8, .int a9, .int a10, .int a11]))]) (w1 := []) hP hD [] [0] rfl rfl (by decide) (by decide) hk1 hFc hP1 hD1
    generalize H1 = H at hP hS ⊢
    have hP : va_P (dC, dI) vwCl [(h0, .inr (0, [.int a0, .int a1, .int (gx_X0_move_2 a2 p0 (fx_X0_statusOfAct a0 a1 a2 a4 a5 a6 p0 p1)), .int a3, .int (gx_X0_move_4 a4 p0 (fx_X0_statusOfAct a0 a1 a2 a4 a5 a6 p0 p1)), .int 0, .int a6, .int a7, .int a8, .int a9, .int a10, .int a11]))] H := hP
    have hD : va_D A [(h0, .inr (0, [.int a0, .int a1, .int (gx_X0_move_2 a2 p0 (fx_X0_statusOfAct a0 a1 a2 a4 a5 a6 p0 p1)), .int a3, .int (gx_X0_move_4 a4 p0 (fx_X0_statusOfAct a0 a1 a2 a4 a5 a6 p0 p1)), .int 0, .int a6, .int a7, .int a8, .int a9, .int a10, .int a11]))] := hD
    refine lv_if_eq (tgt := 54) hx hb dX0_act_47 (by decide) (fun c_18 => ?_) (fun c_18 => ?_)
    · refine lv_iconst (v := 0) hx hb dX0_act_54 (by decide) ?_
      refine va_put (D := (dC, dI)) (ci := 0) (v := .int 0) (ty := .boolean) (C := RX0) (T := TX0) (N := 12) hx hb hts (fun _ h => List.mem_cons_of_mem _ (List.mem_append_right _ h)) tyX0 tyX0_ok nmX0 hown hK hP hD hS 0 rfl rfl 6 (by decide) (hts (.fieldLink RX0 26 "FileStatus" "permit" "Z") (by decide +kernel)) (fun _ h9 => h9) rfl (by decide +kernel) rfl rfl (Nat.le_of_ble_eq_true rfl) dX0_act_55 (fun H locs hP hD hS => ?_)
      have hP : va_P (dC, dI) vwCl [(h0, .inr (0, [.int a0, .int a1, .int (gx_X0_move_2 a2 p0 (fx_X0_statusOfAct a0 a1 a2 a4 a5 a6 p0 p1)), .int a3, .int (gx_X0_move_4 a4 p0 (fx_X0_statusOfAct a0 a1 a2 a4 a5 a6 p0 p1)), .int 0, .int 0, .int a7, .int a8, .int a9, .int a10, .int a11]))] H := hP
      have hD : va_D A [(h0, .inr (0, [.int a0, .int a1, .int (gx_X0_move_2 a2 p0 (fx_X0_statusOfAct a0 a1 a2 a4 a5 a6 p0 p1)), .int a3, .int (gx_X0_move_4 a4 p0 (fx_X0_statusOfAct a0 a1 a2 a4 a5 a6 p0 p1)), .int 0, .int 0, .int a7, .int a8, .int a9, .int a10, .int a11]))] := hD
      refine lv_aload_n hx hb dX0_act_58 rfl (lv_at hl 1 rfl) ?_
      refine lv_iload_n hx hb dX0_act_59 rfl (lv_at hl 2 rfl) ?_
      refine lv_iload_n hx hb dX0_act_60 rfl (lv_at hl 0 rfl) ?_
      have hPc := hP.sub (ws' := [(h0, .inr (0, [.int a0, .int a1, .int (gx_X0_move_2 a2 p0 (fx_X0_statusOfAct a0 a1 a2 a4 a5 a6 p0 p1)), .int a3, .int (gx_X0_move_4 a4 p0 (fx_X0_statusOfAct a0 a1 a2 a4 a5 a6 p0 p1)), .int 0, .int 0, .int a7, .int a8, .int a9, .int a10, .int a11]))]) [0] rfl
      have hDc := hD.sub (ws' := [(h0, .inr (0, [.int a0, .int a1, .int (gx_X0_move_2 a2 p0 (fx_X0_statusOfAct a0 a1 a2 a4 a5 a6 p0 p1)), .int a3, .int (gx_X0_move_4 a4 p0 (fx_X0_statusOfAct a0 a1 a2 a4 a5 a6 p0 p1)), .int 0, .int 0, .int a7, .int a8, .int a9, .int a10, .int a11]))]) [0] (by decide) rfl
      have hKc := hK.sub (tys' := []) [] rfl
      have hFc := va_free (wc := [(h0, .inr (0, [.int a0, .int a1, .int (gx_X0_move_2 a2 p0 (fx_X0_statusOfAct a0 a1 a2 a4 a5 a6 p0 p1)), .int a3, .int (gx_X0_move_4 a4 p0 (fx_X0_statusOfAct a0 a1 a2 a4 a5 a6 p0 p1)), .int 0, .int 0, .int a7, .int a8, .int a9, .int a10, .int a11]))]) hD hS hA [0] rfl
      refine va_callv (va_runV (As := [.int p0, .int (fx_X0_statusOfAct a0 a1 a2 a4 a5 a6 p0 p1)]) (rest := []) ⟨hx, hb, hml, hown, hts⟩ (ct_X0_remember l dC dI h0 H.size a0 a1 (gx_X0_move_2 a2 p0 (fx_X0_statusOfAct a0 a1 a2 a4 a5 a6 p0 p1)) a3 (gx_X0_move_4 a4 p0 (fx_X0_statusOfAct a0 a1 a2 a4 a5 a6 p0 p1)) 0 0 a7 a8 a9 a10 a11 p0 (fx_X0_statusOfAct a0 a1 a2 a4 a5 a6 p0 p1)) (cwV 2 hts gX0_act_X0_remember rfl rfl rfl (by decide +kernel) ⟨Nat.le_of_ble_eq_true rfl, Nat.le_of_ble_eq_true rfl⟩) ⟨fun a U g mk q => by obtain ⟨q0, q1, qP, qK, qD⟩ := q; exact ⟨q0, q1, qP, va_K.moved (u := U) (U := U.calling g mk a) (Vm.Alike.refl U.vm) qK, qD⟩, va_recv hKc hPc (ci := 0) (q0 := 0) rfl rfl, fun U hU hW => ⟨rfl, by rw [hU], by rw [hU]; exact hPc, va_K.moved hW.alike hKc, hDc.weaken (fun _ _ _ _ => trivial)⟩⟩ rfl rfl hl.1 rfl (lv_room (Nat.le_of_ble_eq_true rfl)) dX0_act_61 ⟨(Nat.zero_le _), (Nat.zero_le _)⟩) hS (fun q _ h => hFc q h) hFc (fun u t H1 locs ht hvm hw hB hz1 hk1 hS => ?_)
      subst hw
      obtain ⟨hP1, -, hD1⟩ := hB
      rw [ht] at hP1
      obtain ⟨hP, hD⟩ := va_join (wr := []) (w1 := [(h0, .inr (0, [.int a0, .int a1, .int (gx_X0_move_2 a2 p0 (fx_X0_statusOfAct a0 a1 a2 a4 a5 a6 p0 p1)), .int a3, .int (gx_X0_move_4 a4 p0 (fx_X0_statusOfAct a0 a1 a2 a4 a5 a6 p0 p1)), .int 0, .int 0, .int (gx_X0_remember_7 (fx_X0_statusOfAct a0 a1 a2 a4 a5 a6 p0 p1)), .int (gx_X0_remember_8 p0), .int a9, .int (gx_X0_remember_10 a10 p0 (fx_X0_statusOfAct a0 a1 a2 a4 a5 a6 p0 p1)), .int (gx_X0_remember_11 a11 (fx_X0_statusOfAct a0 a1 a2 a4 a5 a6 p0 p1))]))]) hP hD [0] [] rfl rfl (by decide) (by decide) hk1 hFc hP1 hD1
      generalize H1 = H at hP hS ⊢
      have hP : va_P (dC, dI) vwCl [(h0, .inr (0, [.int a0, .int a1, .int (gx_X0_move_2 a2 p0 (fx_X0_statusOfAct a0 a1 a2 a4 a5 a6 p0 p1)), .int a3, .int (gx_X0_move_4 a4 p0 (fx_X0_statusOfAct a0 a1 a2 a4 a5 a6 p0 p1)), .int 0, .int 0, .int (gx_X0_remember_7 (fx_X0_statusOfAct a0 a1 a2 a4 a5 a6 p0 p1)), .int (gx_X0_remember_8 p0), .int a9, .int (gx_X0_remember_10 a10 p0 (fx_X0_statusOfAct a0 a1 a2 a4 a5 a6 p0 p1)), .int (gx_X0_remember_11 a11 (fx_X0_statusOfAct a0 a1 a2 a4 a5 a6 p0 p1))]))] H := hP
      have hD : va_D A [(h0, .inr (0, [.int a0, .int a1, .int (gx_X0_move_2 a2 p0 (fx_X0_statusOfAct a0 a1 a2 a4 a5 a6 p0 p1)), .int a3, .int (gx_X0_move_4 a4 p0 (fx_X0_statusOfAct a0 a1 a2 a4 a5 a6 p0 p1)), .int 0, .int 0, .int (gx_X0_remember_7 (fx_X0_statusOfAct a0 a1 a2 a4 a5 a6 p0 p1)), .int (gx_X0_remember_8 p0), .int a9, .int (gx_X0_remember_10 a10 p0 (fx_X0_statusOfAct a0 a1 a2 a4 a5 a6 p0 p1)), .int (gx_X0_remember_11 a11 (fx_X0_statusOfAct a0 a1 a2 a4 a5 a6 p0 p1))]))] := hD
      refine lv_iload_n hx hb dX0_act_64 rfl (lv_at hl 0 rfl) ?_
      have hP9 := hP.sub (ws' := [(h0, .inr (0, [.int a0, .int a1, .int (gx_X0_move_2 a2 p0 (fx_X0_statusOfAct a0 a1 a2 a4 a5 a6 p0 p1)), .int a3, .int (gx_X0_move_4 a4 p0 (fx_X0_statusOfAct a0 a1 a2 a4 a5 a6 p0 p1)), .int 0, .int 0, .int (gx_X0_remember_7 (fx_X0_statusOfAct a0 a1 a2 a4 a5 a6 p0 p1)), .int (gx_X0_remember_8 p0), .int a9, .int (gx_X0_remember_10 a10 p0 (fx_X0_statusOfAct a0 a1 a2 a4 a5 a6 p0 p1)), .int (gx_X0_remember_11 a11 (fx_X0_statusOfAct a0 a1 a2 a4 a5 a6 p0 p1))]))]) [0] rfl
      have hD9 := hD.sub (ws' := [(h0, .inr (0, [.int a0, .int a1, .int (gx_X0_move_2 a2 p0 (fx_X0_statusOfAct a0 a1 a2 a4 a5 a6 p0 p1)), .int a3, .int (gx_X0_move_4 a4 p0 (fx_X0_statusOfAct a0 a1 a2 a4 a5 a6 p0 p1)), .int 0, .int 0, .int (gx_X0_remember_7 (fx_X0_statusOfAct a0 a1 a2 a4 a5 a6 p0 p1)), .int (gx_X0_remember_8 p0), .int a9, .int (gx_X0_remember_10 a10 p0 (fx_X0_statusOfAct a0 a1 a2 a4 a5 a6 p0 p1)), .int (gx_X0_remember_11 a11 (fx_X0_statusOfAct a0 a1 a2 a4 a5 a6 p0 p1))]))]) [0] (by decide) rfl
      have hK9 := hK.sub (tys' := []) [] rfl
      have eg_2 : gx_X0_act_2 a0 a1 a2 a4 a5 a6 p0 p1 = gx_X0_move_2 a2 p0 (fx_X0_statusOfAct a0 a1 a2 a4 a5 a6 p0 p1) := by unfold gx_X0_act_2; rw [if_neg c_1, if_pos c_2]
      have eg_4 : gx_X0_act_4 a0 a1 a2 a4 a5 a6 p0 p1 = gx_X0_move_4 a4 p0 (fx_X0_statusOfAct a0 a1 a2 a4 a5 a6 p0 p1) := by unfold gx_X0_act_4; rw [if_neg c_1, if_pos c_2]
      have eg_5 : gx_X0_act_5 a5 p0 = 0 := by unfold gx_X0_act_5; rw [if_neg c_1, if_pos c_2, if_pos c_4]
      have eg_6 : gx_X0_act_6 a0 a1 a2 a4 a5 a6 p0 p1 = 0 := by unfold gx_X0_act_6; rw [if_neg c_1, if_pos c_2, if_neg c_15, if_pos c_18]
      have eg_7 : gx_X0_act_7 a0 a1 a2 a4 a5 a6 a7 p0 p1 = gx_X0_remember_7 (fx_X0_statusOfAct a0 a1 a2 a4 a5 a6 p0 p1) := by unfold gx_X0_act_7; rw [if_neg c_1, if_pos c_2]
      have eg_8 : gx_X0_act_8 a8 p0 = gx_X0_remember_8 p0 := by unfold gx_X0_act_8; rw [if_neg c_1, if_pos c_2]
      have eg_10 : gx_X0_act_10 a0 a1 a2 a4 a5 a6 a10 p0 p1 = gx_X0_remember_10 a10 p0 (fx_X0_statusOfAct a0 a1 a2 a4 a5 a6 p0 p1) := by unfold gx_X0_act_10; rw [if_neg c_1, if_pos c_2]
      have eg_11 : gx_X0_act_11 a0 a1 a2 a4 a5 a6 a11 p0 p1 = gx_X0_remember_11 a11 (fx_X0_statusOfAct a0 a1 a2 a4 a5 a6 p0 p1) := by unfold gx_X0_act_11; rw [if_neg c_1, if_pos c_2]
      have ef : fx_X0_act a0 a1 a2 a4 a5 a6 p0 p1 = fx_X0_statusOfAct a0 a1 a2 a4 a5 a6 p0 p1 := by unfold fx_X0_act; rw [if_neg c_1, if_pos c_2]
      exact W.iret (v := fx_X0_statusOfAct a0 a1 a2 a4 a5 a6 p0 p1) hx hb hr (fun t ht hW => ⟨⟨(fx_X0_statusOfAct a0 a1 a2 a4 a5 a6 p0 p1), [(h0, .inr (0, [.int a0, .int a1, .int (gx_X0_move_2 a2 p0 (fx_X0_statusOfAct a0 a1 a2 a4 a5 a6 p0 p1)), .int a3, .int (gx_X0_move_4 a4 p0 (fx_X0_statusOfAct a0 a1 a2 a4 a5 a6 p0 p1)), .int 0, .int 0, .int (gx_X0_remember_7 (fx_X0_statusOfAct a0 a1 a2 a4 a5 a6 p0 p1)), .int (gx_X0_remember_8 p0), .int a9, .int (gx_X0_remember_10 a10 p0 (fx_X0_statusOfAct a0 a1 a2 a4 a5 a6 p0 p1)), .int (gx_X0_remember_11 a11 (fx_X0_statusOfAct a0 a1 a2 a4 a5 a6 p0 p1))]))], rfl, ⟨ef.symm, by rw [eg_2, eg_4, eg_5, eg_6, eg_7, eg_8, eg_10, eg_11]⟩, by rw [ht]; exact hP9, va_K.moved hW.alike hK9, hD9⟩, hS.F ht⟩) hS.2.2 dX0_act_65
    refine lv_iconst (v := 1) hx hb dX0_act_50 (by decide) ?_
    refine lv_goto (tgt := 55) hx hb dX0_act_51 (by decide) ?_
    refine va_put (D := (dC, dI)) (ci := 0) (v := .int 1) (ty := .boolean) (C := RX0) (T := TX0) (N := 12) hx hb hts (fun _ h => List.mem_cons_of_mem _ (List.mem_append_right _ h)) tyX0 tyX0_ok nmX0 hown hK hP hD hS 0 rfl rfl 6 (by decide) (hts (.fieldLink RX0 26 "FileStatus" "permit" "Z") (by decide +kernel)) (fun _ h9 => h9) rfl (by decide +kernel) rfl rfl (Nat.le_of_ble_eq_true rfl) dX0_act_55 (fun H locs hP hD hS => ?_)
    have hP : va_P (dC, dI) vwCl [(h0, .inr (0, [.int a0, .int a1, .int (gx_X0_move_2 a2 p0 (fx_X0_statusOfAct a0 a1 a2 a4 a5 a6 p0 p1)), .int a3, .int (gx_X0_move_4 a4 p0 (fx_X0_statusOfAct a0 a1 a2 a4 a5 a6 p0 p1)), .int 0, .int 1, .int a7, .int a8, .int a9, .int a10, .int a11]))] H := hP
    have hD : va_D A [(h0, .inr (0, [.int a0, .int a1, .int (gx_X0_move_2 a2 p0 (fx_X0_statusOfAct a0 a1 a2 a4 a5 a6 p0 p1)), .int a3, .int (gx_X0_move_4 a4 p0 (fx_X0_statusOfAct a0 a1 a2 a4 a5 a6 p0 p1)), .int 0, .int 1, .int a7, .int a8, .int a9, .int a10, .int a11]))] := hD
    refine lv_aload_n hx hb dX0_act_58 rfl (lv_at hl 1 rfl) ?_
    refine lv_iload_n hx hb dX0_act_59 rfl (lv_at hl 2 rfl) ?_
    refine lv_iload_n hx hb dX0_act_60 rfl (lv_at hl 0 rfl) ?_
    have hPc := hP.sub (ws' := [(h0, .inr (0, [.int a0, .int a1, .int (gx_X0_move_2 a2 p0 (fx_X0_statusOfAct a0 a1 a2 a4 a5 a6 p0 p1)), .int a3, .int (gx_X0_move_4 a4 p0 (fx_X0_statusOfAct a0 a1 a2 a4 a5 a6 p0 p1)), .int 0, .int 1, .int a7, .int a8, .int a9, .int a10, .int a11]))]) [0] rfl
    have hDc := hD.sub (ws' := [(h0, .inr (0, [.int a0, .int a1, .int (gx_X0_move_2 a2 p0 (fx_X0_statusOfAct a0 a1 a2 a4 a5 a6 p0 p1)), .int a3, .int (gx_X0_move_4 a4 p0 (fx_X0_statusOfAct a0 a1 a2 a4 a5 a6 p0 p1)), .int 0, .int 1, .int a7, .int a8, .int a9, .int a10, .int a11]))]) [0] (by decide) rfl
    have hKc := hK.sub (tys' := []) [] rfl
    have hFc := va_free (wc := [(h0, .inr (0, [.int a0, .int a1, .int (gx_X0_move_2 a2 p0 (fx_X0_statusOfAct a0 a1 a2 a4 a5 a6 p0 p1)), .int a3, .int (gx_X0_move_4 a4 p0 (fx_X0_statusOfAct a0 a1 a2 a4 a5 a6 p0 p1)), .int 0, .int 1, .int a7, .int a8, .int a9, .int a10, .int a11]))]) hD hS hA [0] rfl
    refine va_callv (va_runV (As := [.int p0, .int (fx_X0_statusOfAct a0 a1 a2 a4 a5 a6 p0 p1)]) (rest := []) ⟨hx, hb, hml, hown, hts⟩ (ct_X0_remember l dC dI h0 H.size a0 a1 (gx_X0_move_2 a2 p0 (fx_X0_statusOfAct a0 a1 a2 a4 a5 a6 p0 p1)) a3 (gx_X0_move_4 a4 p0 (fx_X0_statusOfAct a0 a1 a2 a4 a5 a6 p0 p1)) 0 1 a7 a8 a9 a10 a11 p0 (fx_X0_statusOfAct a0 a1 a2 a4 a5 a6 p0 p1)) (cwV 2 hts gX0_act_X0_remember rfl rfl rfl (by decide +kernel) ⟨Nat.le_of_ble_eq_true rfl, Nat.le_of_ble_eq_true rfl⟩) ⟨fun a U g mk q => by obtain ⟨q0, q1, qP, qK, qD⟩ := q; exact ⟨q0, q1, qP, va_K.moved (u := U) (U := U.calling g mk a) (Vm.Alike.refl U.vm) qK, qD⟩, va_recv hKc hPc (ci := 0) (q0 := 0) rfl rfl, fun U hU hW => ⟨rfl, by rw [hU], by rw [hU]; exact hPc, va_K.moved hW.alike hKc, hDc.weaken (fun _ _ _ _ => trivial)⟩⟩ rfl rfl hl.1 rfl (lv_room (Nat.le_of_ble_eq_true rfl)) dX0_act_61 ⟨(Nat.zero_le _), (Nat.zero_le _)⟩) hS (fun q _ h => hFc q h) hFc (fun u t H1 locs ht hvm hw hB hz1 hk1 hS => ?_)
    subst hw
    obtain ⟨hP1, -, hD1⟩ := hB
    rw [ht] at hP1
    obtain ⟨hP, hD⟩ := va_join (wr := []) (w1 := [(h0, .inr (0, [.int a0, .int a1, .int (gx_X0_move_2 a2 p0 (fx_X0_statusOfAct a0 a1 a2 a4 a5 a6 p0 p1)), .int a3, .int (gx_X0_move_4 a4 p0 (fx_X0_statusOfAct a0 a1 a2 a4 a5 a6 p0 p1)), .int 0, .int 1, .int (gx_X0_remember_7 (fx_X0_statusOfAct a0 a1 a2 a4 a5 a6 p0 p1)), .int (gx_X0_remember_8 p0), .int a9, .int (gx_X0_remember_10 a10 p0 (fx_X0_statusOfAct a0 a1 a2 a4 a5 a6 p0 p1)), .int (gx_X0_remember_11 a11 (fx_X0_statusOfAct a0 a1 a2 a4 a5 a6 p0 p1))]))]) hP hD [0] [] rfl rfl (by decide) (by decide) hk1 hFc hP1 hD1
    generalize H1 = H at hP hS ⊢
    have hP : va_P (dC, dI) vwCl [(h0, .inr (0, [.int a0, .int a1, .int (gx_X0_move_2 a2 p0 (fx_X0_statusOfAct a0 a1 a2 a4 a5 a6 p0 p1)), .int a3, .int (gx_X0_move_4 a4 p0 (fx_X0_statusOfAct a0 a1 a2 a4 a5 a6 p0 p1)), .int 0, .int 1, .int (gx_X0_remember_7 (fx_X0_statusOfAct a0 a1 a2 a4 a5 a6 p0 p1)), .int (gx_X0_remember_8 p0), .int a9, .int (gx_X0_remember_10 a10 p0 (fx_X0_statusOfAct a0 a1 a2 a4 a5 a6 p0 p1)), .int (gx_X0_remember_11 a11 (fx_X0_statusOfAct a0 a1 a2 a4 a5 a6 p0 p1))]))] H := hP
    have hD : va_D A [(h0, .inr (0, [.int a0, .int a1, .int (gx_X0_move_2 a2 p0 (fx_X0_statusOfAct a0 a1 a2 a4 a5 a6 p0 p1)), .int a3, .int (gx_X0_move_4 a4 p0 (fx_X0_statusOfAct a0 a1 a2 a4 a5 a6 p0 p1)), .int 0, .int 1, .int (gx_X0_remember_7 (fx_X0_statusOfAct a0 a1 a2 a4 a5 a6 p0 p1)), .int (gx_X0_remember_8 p0), .int a9, .int (gx_X0_remember_10 a10 p0 (fx_X0_statusOfAct a0 a1 a2 a4 a5 a6 p0 p1)), .int (gx_X0_remember_11 a11 (fx_X0_statusOfAct a0 a1 a2 a4 a5 a6 p0 p1))]))] := hD
    refine lv_iload_n hx hb dX0_act_64 rfl (lv_at hl 0 rfl) ?_
    have hP9 := hP.sub (ws' := [(h0, .inr (0, [.int a0, .int a1, .int (gx_X0_move_2 a2 p0 (fx_X0_statusOfAct a0 a1 a2 a4 a5 a6 p0 p1)), .int a3, .int (gx_X0_move_4 a4 p0 (fx_X0_statusOfAct a0 a1 a2 a4 a5 a6 p0 p1)), .int 0, .int 1, .int (gx_X0_remember_7 (fx_X0_statusOfAct a0 a1 a2 a4 a5 a6 p0 p1)), .int (gx_X0_remember_8 p0), .int a9, .int (gx_X0_remember_10 a10 p0 (fx_X0_statusOfAct a0 a1 a2 a4 a5 a6 p0 p1)), .int (gx_X0_remember_11 a11 (fx_X0_statusOfAct a0 a1 a2 a4 a5 a6 p0 p1))]))]) [0] rfl
    have hD9 := hD.sub (ws' := [(h0, .inr (0, [.int a0, .int a1, .int (gx_X0_move_2 a2 p0 (fx_X0_statusOfAct a0 a1 a2 a4 a5 a6 p0 p1)), .int a3, .int (gx_X0_move_4 a4 p0 (fx_X0_statusOfAct a0 a1 a2 a4 a5 a6 p0 p1)), .int 0, .int 1, .int (gx_X0_remember_7 (fx_X0_statusOfAct a0 a1 a2 a4 a5 a6 p0 p1)), .int (gx_X0_remember_8 p0), .int a9, .int (gx_X0_remember_10 a10 p0 (fx_X0_statusOfAct a0 a1 a2 a4 a5 a6 p0 p1)), .int (gx_X0_remember_11 a11 (fx_X0_statusOfAct a0 a1 a2 a4 a5 a6 p0 p1))]))]) [0] (by decide) rfl
    have hK9 := hK.sub (tys' := []) [] rfl
    have eg_2 : gx_X0_act_2 a0 a1 a2 a4 a5 a6 p0 p1 = gx_X0_move_2 a2 p0 (fx_X0_statusOfAct a0 a1 a2 a4 a5 a6 p0 p1) := by unfold gx_X0_act_2; rw [if_neg c_1, if_pos c_2]
    have eg_4 : gx_X0_act_4 a0 a1 a2 a4 a5 a6 p0 p1 = gx_X0_move_4 a4 p0 (fx_X0_statusOfAct a0 a1 a2 a4 a5 a6 p0 p1) := by unfold gx_X0_act_4; rw [if_neg c_1, if_pos c_2]
    have eg_5 : gx_X0_act_5 a5 p0 = 0 := by unfold gx_X0_act_5; rw [if_neg c_1, if_pos c_2, if_pos c_4]
    have eg_6 : gx_X0_act_6 a0 a1 a2 a4 a5 a6 p0 p1 = 1 := by unfold gx_X0_act_6; rw [if_neg c_1, if_pos c_2, if_neg c_15, if_neg c_18]
    have eg_7 : gx_X0_act_7 a0 a1 a2 a4 a5 a6 a7 p0 p1 = gx_X0_remember_7 (fx_X0_statusOfAct a0 a1 a2 a4 a5 a6 p0 p1) := by unfold gx_X0_act_7; rw [if_neg c_1, if_pos c_2]
    have eg_8 : gx_X0_act_8 a8 p0 = gx_X0_remember_8 p0 := by unfold gx_X0_act_8; rw [if_neg c_1, if_pos c_2]
    have eg_10 : gx_X0_act_10 a0 a1 a2 a4 a5 a6 a10 p0 p1 = gx_X0_remember_10 a10 p0 (fx_X0_statusOfAct a0 a1 a2 a4 a5 a6 p0 p1) := by unfold gx_X0_act_10; rw [if_neg c_1, if_pos c_2]
    have eg_11 : gx_X0_act_11 a0 a1 a2 a4 a5 a6 a11 p0 p1 = gx_X0_remember_11 a11 (fx_X0_statusOfAct a0 a1 a2 a4 a5 a6 p0 p1) := by unfold gx_X0_act_11; rw [if_neg c_1, if_pos c_2]
    have ef : fx_X0_act a0 a1 a2 a4 a5 a6 p0 p1 = fx_X0_statusOfAct a0 a1 a2 a4 a5 a6 p0 p1 := by unfold fx_X0_act; rw [if_neg c_1, if_pos c_2]
    exact W.iret (v := fx_X0_statusOfAct a0 a1 a2 a4 a5 a6 p0 p1) hx hb hr (fun t ht hW => ⟨⟨(fx_X0_statusOfAct a0 a1 a2 a4 a5 a6 p0 p1), [(h0, .inr (0, [.int a0, .int a1, .int (gx_X0_move_2 a2 p0 (fx_X0_statusOfAct a0 a1 a2 a4 a5 a6 p0 p1)), .int a3, .int (gx_X0_move_4 a4 p0 (fx_X0_statusOfAct a0 a1 a2 a4 a5 a6 p0 p1)), .int 0, .int 1, .int (gx_X0_remember_7 (fx_X0_statusOfAct a0 a1 a2 a4 a5 a6 p0 p1)), .int (gx_X0_remember_8 p0), .int a9, .int (gx_X0_remember_10 a10 p0 (fx_X0_statusOfAct a0 a1 a2 a4 a5 a6 p0 p1)), .int (gx_X0_remember_11 a11 (fx_X0_statusOfAct a0 a1 a2 a4 a5 a6 p0 p1))]))], rfl, ⟨ef.symm, by rw [eg_2, eg_4, eg_5, eg_6, eg_7, eg_8, eg_10, eg_11]⟩, by rw [ht]; exact hP9, va_K.moved hW.alike hK9, hD9⟩, hS.F ht⟩) hS.2.2 dX0_act_65
  refine lv_bipush (v := (-4)) hx hb dX0_act_10 (by decide) ?_
  have hP9 := hP.sub (ws' := [(h0, .inr (0, [.int a0, .int a1, .int a2, .int a3, .int a4, .int a5, .int a6, .int a7, .int a8, .int a9, .int a10, .int a11]))]) [0] rfl
  have hD9 := hD.sub (ws' := [(h0, .inr (0, [.int a0, .int a1, .int a2, .int a3, .int a4, .int a5, .int a6, .int a7, .int a8, .int a9, .int a10, .int a11]))]) [0] (by decide) rfl
  have hK9 := hK.sub (tys' := []) [] rfl
  have eg_2 : gx_X0_act_2 a0 a1 a2 a4 a5 a6 p0 p1 = a2 := by unfold gx_X0_act_2; rw [if_neg c_1, if_neg c_2]
  have eg_4 : gx_X0_act_4 a0 a1 a2 a4 a5 a6 p0 p1 = a4 := by unfold gx_X0_act_4; rw [if_neg c_1, if_neg c_2]
  have eg_5 : gx_X0_act_5 a5 p0 = a5 := by unfold gx_X0_act_5; rw [if_neg c_1, if_neg c_2]
  have eg_6 : gx_X0_act_6 a0 a1 a2 a4 a5 a6 p0 p1 = a6 := by unfold gx_X0_act_6; rw [if_neg c_1, if_neg c_2]
  have eg_7 : gx_X0_act_7 a0 a1 a2 a4 a5 a6 a7 p0 p1 = a7 := by unfold gx_X0_act_7; rw [if_neg c_1, if_neg c_2]
  have eg_8 : gx_X0_act_8 a8 p0 = a8 := by unfold gx_X0_act_8; rw [if_neg c_1, if_neg c_2]
  have eg_10 : gx_X0_act_10 a0 a1 a2 a4 a5 a6 a10 p0 p1 = a10 := by unfold gx_X0_act_10; rw [if_neg c_1, if_neg c_2]
  have eg_11 : gx_X0_act_11 a0 a1 a2 a4 a5 a6 a11 p0 p1 = a11 := by unfold gx_X0_act_11; rw [if_neg c_1, if_neg c_2]
  have ef : fx_X0_act a0 a1 a2 a4 a5 a6 p0 p1 = (-4) := by unfold fx_X0_act; rw [if_neg c_1, if_neg c_2]
  exact W.iret (v := (-4)) hx hb hr (fun t ht hW => ⟨⟨(-4), [(h0, .inr (0, [.int a0, .int a1, .int a2, .int a3, .int a4, .int a5, .int a6, .int a7, .int a8, .int a9, .int a10, .int a11]))], rfl, ⟨ef.symm, by rw [eg_2, eg_4, eg_5, eg_6, eg_7, eg_8, eg_10, eg_11]⟩, by rw [ht]; exact hP9, va_K.moved hW.alike hK9, hD9⟩, hS.F ht⟩) hS.2.2 dX0_act_12
