set_option maxHeartbeats 4000000 in
set_option maxRecDepth 100000 in
theorem ct_X1_act (l : Launch) (dC : Nat → ClassId) (dI : Nat → Nat → Nat) (h0 : Nat) (h1 : Nat) (sz : Nat) (a0 a1 a2 a3 a4 a5 a6 a7 a8 a9 a10 a11 p0 p1 : Int32) : Met l yX1_act wsX1_act ({ frames := 2, cells := 0, slots := 0, locals := 41 }) (va_Pc [.ref h0, .int p0, .int p1] (fun U => U.heap.size = sz ∧ va_P (dC, dI) vwCl [(h0, .inr (1, [.int a0, .int a1, .int a2, .int a3, .int a4, .int a5, .int a6, .int a7, .int a8, .int a9, .int a10, .int a11, .ref h1]))] U.heap ∧ va_K (dC, dI) vwCl [] U ∧ va_D (fun _ => True) [(h0, .inr (1, [.int a0, .int a1, .int a2, .int a3, .int a4, .int a5, .int a6, .int a7, .int a8, .int a9, .int a10, .int a11, .ref h1]))])) (va_Qi (fun (r : Int32) (u : va_W) => r = fx_X1_act a1 a2 a3 a8 a9 a11 p0 p1 ∧ u = [(h0, .inr (1, [.int gx_X1_act_0, .int a1, .int a2, .int (gx_X1_act_3 a1 a2 a3 a8 a9 a11 p0 p1), .int (gx_X1_act_4 a1 a2 a3 a4 a8 a9 a11 p0 p1), .int (gx_X1_act_5 a5 p0), .int (gx_X1_act_6 a1 a2 a3 a6 a8 a9 a11 p0 p1), .int (gx_X1_act_7 a1 a2 a3 a7 a8 a9 a11 p0 p1), .int (gx_X1_act_8 a1 a2 a3 a8 a9 p0 p1), .int (gx_X1_act_9 a1 a2 a3 a8 a9 a11 p0 p1), .int a10, .int (gx_X1_act_11 a1 a2 a3 a8 a9 a11 p0 p1), .ref h1]))]) (at_W dC dI [] (va_A [(h0, .inr (1, [.int a0, .int a1, .int a2, .int a3, .int a4, .int a5, .int a6, .int a7, .int a8, .int a9, .int a10, .int a11, .ref h1]))] sz)) (va_A [(h0, .inr (1, [.int a0, .int a1, .int a2, .int a3, .int a4, .int a5, .int a6, .int a7, .int a8, .int a9, .int a10, .int a11, .ref h1]))] sz)) 0 0 (va_A [(h0, .inr (1, [.int a0, .int a1, .int a2, .int a3, .int a4, .int a5, .int a6, .int a7, .int a8, .int a9, .int a10, .int a11, .ref h1]))] sz) := by
  refine Met.ofW (cc := cX1_act) (maxL := 6) (ret := (some .int)) (by decide) rfl ?_
  intro p e s m args below meth c s₁ B hml hv
  obtain ⟨rfl, hsz, hP, hK, hD0⟩ := hv
  have hx := B.exec
  have hb := B.bytes
  have hr := B.returns
  have hts := atoms_spec (ws := wsX1_act) B.pre
  have hown : s.vm.findClass RX1 = some m.cls := findClass_of_methodNamed B.named
  have hlocks := B.notSynchronized
  subst hsz
  have hD := hD0.self (sz := s.heap.size)
  generalize hAe : va_A [(h0, .inr (1, [.int a0, .int a1, .int a2, .int a3, .int a4, .int a5, .int a6, .int a7, .int a8, .int a9, .int a10, .int a11, .ref h1]))] s.heap.size = A at hD ⊢
  have hA : ∀ q : Nat, s.heap.size ≤ q → A q := fun q h => by rw [← hAe]; exact Or.inr h
  have hS : va_S A s.heap s.heap [] := va_S.rf
  have hP : va_P (dC, dI) vwCl [(h0, .inr (1, [.int a0, .int a1, .int a2, .int a3, .int a4, .int a5, .int a6, .int a7, .int a8, .int a9, .int a10, .int a11, .ref h1]))] s.heap := hP
  have hl := lv_entry ([.ref h0, .int p0, .int p1]) (n := 6) (Nat.le_of_ble_eq_true rfl)
  rw [lg_entry_eq]
  generalize (lg_sl ([.ref h0, .int p0, .int p1]) ++ List.replicate (6 - (lg_sl ([.ref h0, .int p0, .int p1])).length) Slot.unset).toArray = ls at hl ⊢
  have hl : lv_has ls 6 [(0, .ref h0), (1, .int p0), (2, .int p1)] := hl
  refine lv_aload_n hx hb dX1_act_0 rfl (lv_at hl 0 rfl) ?_
  refine lv_iconst (v := 0) hx hb dX1_act_1 (by decide) ?_
  refine va_put (D := (dC, dI)) (ci := 1) (v := .int 0) (ty := .int) (C := RX1) (T := TX1) (N := 13) hx hb hts (fun _ h => List.mem_cons_of_mem _ (List.mem_append_right _ h)) tyX1 tyX1_ok nmX1 hown hK hP hD hS 0 rfl rfl 0 (by decide) (hts (.fieldLink RX1 20 "FileStatusModel" "code" "I") (by decide +kernel)) (fun _ h9 => h9) rfl (by decide +kernel) rfl rfl (Nat.le_of_ble_eq_true rfl) dX1_act_2 (fun H locs hP hD hS => ?_)
  have hP : va_P (dC, dI) vwCl [(h0, .inr (1, [.int 0, .int a1, .int a2, .int a3, .int a4, .int a5, .int a6, .int a7, .int a8, .int a9, .int a10, .int a11, .ref h1]))] H := hP
  have hD : va_D A [(h0, .inr (1, [.int 0, .int a1, .int a2, .int a3, .int a4, .int a5, .int a6, .int a7, .int a8, .int a9, .int a10, .int a11, .ref h1]))] := hD
  refine lv_iload_n hx hb dX1_act_5 rfl (lv_at hl 1 rfl) ?_
  refine lv_if_lt (tgt := 15) hx hb dX1_act_6 (by decide) (fun c_1 => ?_) (fun c_1 => ?_)
  · refine lv_bipush (v := (-4)) hx hb dX1_act_15 (by decide) ?_
    have hP9 := hP.sub (ws' := [(h0, .inr (1, [.int 0, .int a1, .int a2, .int a3, .int a4, .int a5, .int a6, .int a7, .int a8, .int a9, .int a10, .int a11, .ref h1]))]) [0] rfl
    have hD9 := hD.sub (ws' := [(h0, .inr (1, [.int 0, .int a1, .int a2, .int a3, .int a4, .int a5, .int a6, .int a7, .int a8, .int a9, .int a10, .int a11, .ref h1]))]) [0] (by decide) rfl
    have hK9 := hK.sub (tys' := []) [] rfl
    have eg_0 : gx_X1_act_0 = 0 := by rfl
    have eg_3 : gx_X1_act_3 a1 a2 a3 a8 a9 a11 p0 p1 = a3 := by unfold gx_X1_act_3; rw [if_pos c_1]
    have eg_4 : gx_X1_act_4 a1 a2 a3 a4 a8 a9 a11 p0 p1 = a4 := by unfold gx_X1_act_4; rw [if_pos c_1]
    have eg_5 : gx_X1_act_5 a5 p0 = a5 := by unfold gx_X1_act_5; rw [if_pos c_1]
    have eg_6 : gx_X1_act_6 a1 a2 a3 a6 a8 a9 a11 p0 p1 = a6 := by unfold gx_X1_act_6; rw [if_pos c_1]
    have eg_7 : gx_X1_act_7 a1 a2 a3 a7 a8 a9 a11 p0 p1 = a7 := by unfold gx_X1_act_7; rw [if_pos c_1]
    have eg_8 : gx_X1_act_8 a1 a2 a3 a8 a9 p0 p1 = a8 := by unfold gx_X1_act_8; rw [if_pos c_1]
    have eg_9 : gx_X1_act_9 a1 a2 a3 a8 a9 a11 p0 p1 = a9 := by unfold gx_X1_act_9; rw [if_pos c_1]
    have eg_11 : gx_X1_act_11 a1 a2 a3 a8 a9 a11 p0 p1 = a11 := by unfold gx_X1_act_11; rw [if_pos c_1]
    have ef : fx_X1_act a1 a2 a3 a8 a9 a11 p0 p1 = (-4) := by unfold fx_X1_act; rw [if_pos c_1]
    exact W.iret (v := (-4)) hx hb hr (fun t ht hW => ⟨⟨(-4), [(h0, .inr (1, [.int 0, .int a1, .int a2, .int a3, .int a4, .int a5, .int a6, .int a7, .int a8, .int a9, .int a10, .int a11, .ref h1]))], rfl, ⟨ef.symm, by rw [eg_0, eg_3, eg_4, eg_5, eg_6, eg_7, eg_8, eg_9, eg_11]⟩, by rw [ht]; exact hP9, va_K.moved hW.alike hK9, hD9⟩, hS.F ht⟩) hS.2.2 dX1_act_17
  refine lv_iload_n hx hb dX1_act_9 rfl (lv_at hl 1 rfl) ?_
  refine lv_bipush (v := 6) hx hb dX1_act_10 (by decide) ?_
  refine lv_icmp_le (tgt := 18) hx hb dX1_act_12 (by decide) (fun c_2 => ?_) (fun c_2 => ?_)
  · refine lv_aload_n hx hb dX1_act_18 rfl (lv_at hl 0 rfl) ?_
    refine lv_iload_n hx hb dX1_act_19 rfl (lv_at hl 1 rfl) ?_
    have hPc := hP.sub (ws' := [(h0, .inr (1, [.int 0, .int a1, .int a2, .int a3, .int a4, .int a5, .int a6, .int a7, .int a8, .int a9, .int a10, .int a11, .ref h1]))]) [0] rfl
    have hDc := hD.sub (ws' := [(h0, .inr (1, [.int 0, .int a1, .int a2, .int a3, .int a4, .int a5, .int a6, .int a7, .int a8, .int a9, .int a10, .int a11, .ref h1]))]) [0] (by decide) rfl
    have hKc := hK.sub (tys' := []) [] rfl
    have hFc := va_free (wc := [(h0, .inr (1, [.int 0, .int a1, .int a2, .int a3, .int a4, .int a5, .int a6, .int a7, .int a8, .int a9, .int a10, .int a11, .ref h1]))]) hD hS hA [0] rfl
    refine va_calli (va_runV (As := [.int p0]) (rest := []) ⟨hx, hb, hml, hown, hts⟩ (ct_X1_ahead l dC dI h0 h1 H.size 0 a1 a2 a3 a4 a5 a6 a7 a8 a9 a10 a11 p0) (cwV 1 hts gX1_act_X1_ahead rfl rfl rfl (by decide +kernel) ⟨Nat.le_of_ble_eq_true rfl, Nat.le_of_ble_eq_true rfl⟩) ⟨fun a U g mk q => by obtain ⟨q0, q1, qP, qK, qD⟩ := q; exact ⟨q0, q1, qP, va_K.moved (u := U) (U := U.calling g mk a) (Vm.Alike.refl U.vm) qK, qD⟩, va_recv hKc hPc (ci := 1) (q0 := 0) rfl rfl, fun U hU hW => ⟨rfl, by rw [hU], by rw [hU]; exact hPc, va_K.moved hW.alike hKc, hDc.weaken (fun _ _ _ _ => trivial)⟩⟩ rfl rfl hl.1 rfl (lv_room (Nat.le_of_ble_eq_true rfl)) dX1_act_20 ⟨(Nat.zero_le _), (Nat.zero_le _)⟩) hS (fun q _ h => hFc q h) hFc (fun r_3 u t H1 locs ht hvm hw hB hz1 hk1 hS => ?_)
    obtain ⟨er, hu⟩ := hw
    subst hu
    subst er
    obtain ⟨hP1, -, hD1⟩ := hB
    rw [ht] at hP1
    obtain ⟨hP, hD⟩ := va_join (wr := []) (w1 := [(h0, .inr (1, [.int 0, .int a1, .int a2, .int a3, .int a4, .int a5, .int a6, .int a7, .int a8, .int a9, .int a10, .int a11, .ref h1]))]) hP hD [0] [] rfl rfl (by decide) (by decide) hk1 hFc hP1 hD1
    generalize H1 = H at hP hS ⊢
    have hP : va_P (dC, dI) vwCl [(h0, .inr (1, [.int 0, .int a1, .int a2, .int a3, .int a4, .int a5, .int a6, .int a7, .int a8, .int a9, .int a10, .int a11, .ref h1]))] H := hP
    have hD : va_D A [(h0, .inr (1, [.int 0, .int a1, .int a2, .int a3, .int a4, .int a5, .int a6, .int a7, .int a8, .int a9, .int a10, .int a11, .ref h1]))] := hD
    refine lv_istore_n (lv' := [(3, .int (fx_X1_ahead a1 a2 a3 a8 a9 p0)), (0, .ref h0), (1, .int p0), (2, .int p1)]) hx hb dX1_act_23 rfl hl (by decide) rfl (fun ls hl => ?_)
    refine lv_iload_n hx hb dX1_act_24 rfl (lv_at hl 0 rfl) ?_
    refine lv_if_ne (tgt := 51) hx hb dX1_act_25 (by decide) (fun c_4 => ?_) (fun c_4 => ?_)
    · refine lv_aload_n hx hb dX1_act_51 rfl (lv_at hl 1 rfl) ?_
      refine lv_iload_n hx hb dX1_act_52 rfl (lv_at hl 0 rfl) ?_
      refine lv_iload_n hx hb dX1_act_53 rfl (lv_at hl 2 rfl) ?_
      have hPc := hP.sub (ws' := [(h0, .inr (1, [.int 0, .int a1, .int a2, .int a3, .int a4, .int a5, .int a6, .int a7, .int a8, .int a9, .int a10, .int a11, .ref h1]))]) [0] rfl
      have hDc := hD.sub (ws' := [(h0, .inr (1, [.int 0, .int a1, .int a2, .int a3, .int a4, .int a5, .int a6, .int a7, .int a8, .int a9, .int a10, .int a11, .ref h1]))]) [0] (by decide) rfl
      have hKc := hK.sub (tys' := []) [] rfl
      have hFc := va_free (wc := [(h0, .inr (1, [.int 0, .int a1, .int a2, .int a3, .int a4, .int a5, .int a6, .int a7, .int a8, .int a9, .int a10, .int a11, .ref h1]))]) hD hS hA [0] rfl
      refine va_calli (va_runV (As := [.int (fx_X1_ahead a1 a2 a3 a8 a9 p0), .int p0]) (rest := []) ⟨hx, hb, hml, hown, hts⟩ (ct_X1_told l dC dI h0 h1 H.size 0 a1 a2 a3 a4 a5 a6 a7 a8 a9 a10 a11 (fx_X1_ahead a1 a2 a3 a8 a9 p0) p0) (cwV 2 hts gX1_act_X1_told rfl rfl rfl (by decide +kernel) ⟨Nat.le_of_ble_eq_true rfl, Nat.le_of_ble_eq_true rfl⟩) ⟨fun a U g mk q => by obtain ⟨q0, q1, qP, qK, qD⟩ := q; exact ⟨q0, q1, qP, va_K.moved (u := U) (U := U.calling g mk a) (Vm.Alike.refl U.vm) qK, qD⟩, va_recv hKc hPc (ci := 1) (q0 := 0) rfl rfl, fun U hU hW => ⟨rfl, by rw [hU], by rw [hU]; exact hPc, va_K.moved hW.alike hKc, hDc.weaken (fun _ _ _ _ => trivial)⟩⟩ rfl rfl hl.1 rfl (lv_room (Nat.le_of_ble_eq_true rfl)) dX1_act_54 ⟨(Nat.zero_le _), (Nat.zero_le _)⟩) hS (fun q _ h => hFc q h) hFc (fun r_5 u t H1 locs ht hvm hw hB hz1 hk1 hS => ?_)
      obtain ⟨er, hu⟩ := hw
      subst hu
      subst er
      obtain ⟨hP1, -, hD1⟩ := hB
      rw [ht] at hP1
      obtain ⟨hP, hD⟩ := va_join (wr := []) (w1 := [(h0, .inr (1, [.int 0, .int a1, .int a2, .int a3, .int (gx_X1_told_4 (fx_X1_ahead a1 a2 a3 a8 a9 p0)), .int (gx_X1_told_5 p0), .int (gx_X1_told_6 a6 (fx_X1_ahead a1 a2 a3 a8 a9 p0)), .int (gx_X1_told_7 a7 (fx_X1_ahead a1 a2 a3 a8 a9 p0)), .int a8, .int a9, .int a10, .int a11, .ref h1]))]) hP hD [0] [] rfl rfl (by decide) (by decide) hk1 hFc hP1 hD1
      generalize H1 = H at hP hS ⊢
      have hP : va_P (dC, dI) vwCl [(h0, .inr (1, [.int 0, .int a1, .int a2, .int a3, .int (gx_X1_told_4 (fx_X1_ahead a1 a2 a3 a8 a9 p0)), .int (gx_X1_told_5 p0), .int (gx_X1_told_6 a6 (fx_X1_ahead a1 a2 a3 a8 a9 p0)), .int (gx_X1_told_7 a7 (fx_X1_ahead a1 a2 a3 a8 a9 p0)), .int a8, .int a9, .int a10, .int a11, .ref h1]))] H := hP
      have hD : va_D A [(h0, .inr (1, [.int 0, .int a1, .int a2, .int a3, .int (gx_X1_told_4 (fx_X1_ahead a1 a2 a3 a8 a9 p0)), .int (gx_X1_told_5 p0), .int (gx_X1_told_6 a6 (fx_X1_ahead a1 a2 a3 a8 a9 p0)), .int (gx_X1_told_7 a7 (fx_X1_ahead a1 a2 a3 a8 a9 p0)), .int a8, .int a9, .int a10, .int a11, .ref h1]))] := hD
      refine lv_pop hx hb dX1_act_57 rfl ?_
      refine lv_aload_n hx hb dX1_act_58 rfl (lv_at hl 1 rfl) ?_
      refine lv_iload_n hx hb dX1_act_59 rfl (lv_at hl 2 rfl) ?_
      refine lv_if_eq (tgt := 68) hx hb dX1_act_60 (by decide) (fun c_6 => ?_) (fun c_6 => ?_)
      · refine lv_iload_n hx hb dX1_act_68 rfl (lv_at hl 0 rfl) ?_
        refine lv_if_eq (tgt := 82) hx hb dX1_act_69 (by decide) (fun c9 => absurd c9 c_4) (fun c9 => ?_)
        refine lv_iload_n hx hb dX1_act_72 rfl (lv_at hl 0 rfl) ?_
        refine lv_iconst (v := 2) hx hb dX1_act_73 (by decide) ?_
        refine lv_icmp_eq (tgt := 82) hx hb dX1_act_74 (by decide) (fun c_7 => ?_) (fun c_7 => ?_)
        · refine lv_iconst (v := 1) hx hb dX1_act_82 (by decide) ?_
          refine lv_goto (tgt := 87) hx hb dX1_act_83 (by decide) ?_
          refine va_put (D := (dC, dI)) (ci := 1) (v := .int 1) (ty := .boolean) (C := RX1) (T := TX1) (N := 13) hx hb hts (fun _ h => List.mem_cons_of_mem _ (List.mem_append_right _ h)) tyX1 tyX1_ok nmX1 hown hK hP hD hS 0 rfl rfl 9 (by decide) (hts (.fieldLink RX1 47 "FileStatusModel" "permit" "Z") (by decide +kernel)) (fun _ h9 => h9) rfl (by decide +kernel) rfl rfl (Nat.le_of_ble_eq_true rfl) dX1_act_87 (fun H locs hP hD hS => ?_)
          have hP : va_P (dC, dI) vwCl [(h0, .inr (1, [.int 0, .int a1, .int a2, .int a3, .int (gx_X1_told_4 (fx_X1_ahead a1 a2 a3 a8 a9 p0)), .int (gx_X1_told_5 p0), .int (gx_X1_told_6 a6 (fx_X1_ahead a1 a2 a3 a8 a9 p0)), .int (gx_X1_told_7 a7 (fx_X1_ahead a1 a2 a3 a8 a9 p0)), .int a8, .int 1, .int a10, .int a11, .ref h1]))] H := hP
          have hD : va_D A [(h0, .inr (1, [.int 0, .int a1, .int a2, .int a3, .int (gx_X1_told_4 (fx_X1_ahead a1 a2 a3 a8 a9 p0)), .int (gx_X1_told_5 p0), .int (gx_X1_told_6 a6 (fx_X1_ahead a1 a2 a3 a8 a9 p0)), .int (gx_X1_told_7 a7 (fx_X1_ahead a1 a2 a3 a8 a9 p0)), .int a8, .int 1, .int a10, .int a11, .ref h1]))] := hD
          refine lv_iload_n hx hb dX1_act_90 rfl (lv_at hl 2 rfl) ?_
          refine lv_if_ne (tgt := 119) hx hb dX1_act_91 (by decide) (fun c9 => absurd c_6 c9) (fun c9 => ?_)
          refine lv_aload_n hx hb dX1_act_94 rfl (lv_at hl 1 rfl) ?_
          refine va_get (D := (dC, dI)) (ci := 1) (v := .int a8) (C := RX1) (T := TX1) (N := 13) hx hb hts (fun _ h => List.mem_cons_of_mem _ (List.mem_append_right _ h)) hown hK hP 0 rfl rfl 8 (by decide) (hts (.fieldLink RX1 23 "FileStatusModel" "isOpen" "Z") (by decide +kernel)) (fun _ h9 => h9) rfl dX1_act_95 ?_
          refine lv_if_eq (tgt := 119) hx hb dX1_act_98 (by decide) (fun c_8 => ?_) (fun c_8 => ?_)
          · refine lv_iload_n hx hb dX1_act_119 rfl (lv_at hl 2 rfl) ?_
            refine lv_if_eq (tgt := 133) hx hb dX1_act_120 (by decide) (fun c9 => ?_) (fun c9 => absurd c_6 c9)
            refine lv_iconst (v := 1) hx hb dX1_act_133 (by decide) ?_
            refine lv_goto (tgt := 138) hx hb dX1_act_134 (by decide) ?_
            refine lv_istore (lv' := [(4, .int 1), (3, .int (fx_X1_ahead a1 a2 a3 a8 a9 p0)), (0, .ref h0), (1, .int p0), (2, .int p1)]) hx hb dX1_act_138 hl (by decide) rfl (fun ls hl => ?_)
            refine lv_iload hx hb dX1_act_140 (lv_at hl 0 rfl) ?_
            refine lv_if_eq (tgt := 152) hx hb dX1_act_142 (by decide) (fun c9 => absurd c9 (by decide)) (fun c9 => ?_)
            refine lv_iload_n hx hb dX1_act_145 rfl (lv_at hl 1 rfl) ?_
            have hPc := hP.sub (ws' := []) [] rfl
            have hDc := hD.sub (ws' := []) [] (by decide) rfl
            have hKc := hK.sub (tys' := []) [] rfl
            have hFc := va_free (wc := []) hD hS hA [] rfl
            refine va_calli (va_runS (As := [.int (fx_X1_ahead a1 a2 a3 a8 a9 p0)]) (rest := []) ⟨hx, hb, hml, hown, hts⟩ (ct_X1_moved l dC dI H.size (fx_X1_ahead a1 a2 a3 a8 a9 p0)) (va_cwS 1 hts gX1_act_X1_moved rfl rfl rfl (by decide +kernel) ⟨Nat.le_of_ble_eq_true rfl, Nat.le_of_ble_eq_true rfl⟩) ⟨fun a U g mk q => by obtain ⟨q0, q1, qP, qK, qD⟩ := q; exact ⟨q0, q1, qP, va_K.moved (u := U) (U := U.calling g mk a) (Vm.Alike.refl U.vm) qK, qD⟩, fun U hU hW => ⟨rfl, by rw [hU], by rw [hU]; exact hPc, va_K.moved hW.alike hKc, hDc.weaken (fun _ _ _ _ => trivial)⟩⟩ rfl rfl hl.1 rfl (lv_room (Nat.le_of_ble_eq_true rfl)) dX1_act_146 ⟨(Nat.zero_le _), (Nat.zero_le _)⟩) hS (fun q _ h => hFc q h) hFc (fun r_9 u t H1 locs ht hvm hw hB hz1 hk1 hS => ?_)
            obtain ⟨er, hu⟩ := hw
            subst hu
            subst er
            obtain ⟨hP1, -, hD1⟩ := hB
            rw [ht] at hP1
            obtain ⟨hP, hD⟩ := va_join (wr := [(h0, .inr (1, [.int 0, .int a1, .int a2, .int a3, .int (gx_X1_told_4 (fx_X1_ahead a1 a2 a3 a8 a9 p0)), .int (gx_X1_told_5 p0), .int (gx_X1_told_6 a6 (fx_X1_ahead a1 a2 a3 a8 a9 p0)), .int (gx_X1_told_7 a7 (fx_X1_ahead a1 a2 a3 a8 a9 p0)), .int a8, .int 1, .int a10, .int a11, .ref h1]))]) (w1 := []) hP hD [] [0] rfl rfl (by decide) (by decide) hk1 hFc hP1 hD1
            generalize H1 = H at hP hS ⊢
            have hP : va_P (dC, dI) vwCl [(h0, .inr (1, [.int 0, .int a1, .int a2, .int a3, .int (gx_X1_told_4 (fx_X1_ahead a1 a2 a3 a8 a9 p0)), .int (gx_X1_told_5 p0), .int (gx_X1_told_6 a6 (fx_X1_ahead a1 a2 a3 a8 a9 p0)), .int (gx_X1_told_7 a7 (fx_X1_ahead a1 a2 a3 a8 a9 p0)), .int a8, .int 1, .int a10, .int a11, .ref h1]))] H := hP
            have hD : va_D A [(h0, .inr (1, [.int 0, .int a1, .int a2, .int a3, .int (gx_X1_told_4 (fx_X1_ahead a1 a2 a3 a8 a9 p0)), .int (gx_X1_told_5 p0), .int (gx_X1_told_6 a6 (fx_X1_ahead a1 a2 a3 a8 a9 p0)), .int (gx_X1_told_7 a7 (fx_X1_ahead a1 a2 a3 a8 a9 p0)), .int a8, .int 1, .int a10, .int a11, .ref h1]))] := hD
            refine lv_goto (tgt := 153) hx hb dX1_act_149 (by decide) ?_
            refine lv_istore (lv' := [(5, .int (fx_X1_moved (fx_X1_ahead a1 a2 a3 a8 a9 p0))), (4, .int 1), (3, .int (fx_X1_ahead a1 a2 a3 a8 a9 p0)), (0, .ref h0), (1, .int p0), (2, .int p1)]) hx hb dX1_act_153 hl (by decide) rfl (fun ls hl => ?_)
            refine lv_aload_n hx hb dX1_act_155 rfl (lv_at hl 3 rfl) ?_
            refine lv_iload hx hb dX1_act_156 (lv_at hl 0 rfl) ?_
            refine lv_if_eq (tgt := 168) hx hb dX1_act_158 (by decide) (fun c_10 => ?_) (fun c_10 => ?_)
            · refine lv_aload_n hx hb dX1_act_168 rfl (lv_at hl 3 rfl) ?_
              refine va_get (D := (dC, dI)) (ci := 1) (v := .int a3) (C := RX1) (T := TX1) (N := 13) hx hb hts (fun _ h => List.mem_cons_of_mem _ (List.mem_append_right _ h)) hown hK hP 0 rfl rfl 3 (by decide) (hts (.fieldLink RX1 50 "FileStatusModel" "position" "I") (by decide +kernel)) (fun _ h9 => h9) rfl dX1_act_169 ?_
              refine lv_goto (tgt := 177) hx hb dX1_act_172 (by decide) ?_
              refine va_put (D := (dC, dI)) (ci := 1) (v := .int a3) (ty := .int) (C := RX1) (T := TX1) (N := 13) hx hb hts (fun _ h => List.mem_cons_of_mem _ (List.mem_append_right _ h)) tyX1 tyX1_ok nmX1 hown hK hP hD hS 0 rfl rfl 3 (by decide) (hts (.fieldLink RX1 50 "FileStatusModel" "position" "I") (by decide +kernel)) (fun _ h9 => h9) rfl (by decide +kernel) rfl rfl (Nat.le_of_ble_eq_true rfl) dX1_act_177 (fun H locs hP hD hS => ?_)
              have hP : va_P (dC, dI) vwCl [(h0, .inr (1, [.int 0, .int a1, .int a2, .int a3, .int (gx_X1_told_4 (fx_X1_ahead a1 a2 a3 a8 a9 p0)), .int (gx_X1_told_5 p0), .int (gx_X1_told_6 a6 (fx_X1_ahead a1 a2 a3 a8 a9 p0)), .int (gx_X1_told_7 a7 (fx_X1_ahead a1 a2 a3 a8 a9 p0)), .int a8, .int 1, .int a10, .int a11, .ref h1]))] H := hP
              have hD : va_D A [(h0, .inr (1, [.int 0, .int a1, .int a2, .int a3, .int (gx_X1_told_4 (fx_X1_ahead a1 a2 a3 a8 a9 p0)), .int (gx_X1_told_5 p0), .int (gx_X1_told_6 a6 (fx_X1_ahead a1 a2 a3 a8 a9 p0)), .int (gx_X1_told_7 a7 (fx_X1_ahead a1 a2 a3 a8 a9 p0)), .int a8, .int 1, .int a10, .int a11, .ref h1]))] := hD
              refine lv_iload_n hx hb dX1_act_180 rfl (lv_at hl 4 rfl) ?_
              refine lv_bipush (v := 6) hx hb dX1_act_181 (by decide) ?_
              refine lv_icmp_ne (tgt := 195) hx hb dX1_act_183 (by decide) (fun c9 => ?_) (fun c9 => absurd (c_6.symm.trans c9) (by decide))
              refine lv_iload_n hx hb dX1_act_195 rfl (lv_at hl 2 rfl) ?_
              have hP9 := hP.sub (ws' := [(h0, .inr (1, [.int 0, .int a1, .int a2, .int a3, .int (gx_X1_told_4 (fx_X1_ahead a1 a2 a3 a8 a9 p0)), .int (gx_X1_told_5 p0), .int (gx_X1_told_6 a6 (fx_X1_ahead a1 a2 a3 a8 a9 p0)), .int (gx_X1_told_7 a7 (fx_X1_ahead a1 a2 a3 a8 a9 p0)), .int a8, .int 1, .int a10, .int a11, .ref h1]))]) [0] rfl
              have hD9 := hD.sub (ws' := [(h0, .inr (1, [.int 0, .int a1, .int a2, .int a3, .int (gx_X1_told_4 (fx_X1_ahead a1 a2 a3 a8 a9 p0)), .int (gx_X1_told_5 p0), .int (gx_X1_told_6 a6 (fx_X1_ahead a1 a2 a3 a8 a9 p0)), .int (gx_X1_told_7 a7 (fx_X1_ahead a1 a2 a3 a8 a9 p0)), .int a8, .int 1, .int a10, .int a11, .ref h1]))]) [0] (by decide) rfl
              have hK9 := hK.sub (tys' := []) [] rfl
              have eg_0 : gx_X1_act_0 = 0 := by rfl
              have eg_3 : gx_X1_act_3 a1 a2 a3 a8 a9 a11 p0 p1 = a3 := by unfold gx_X1_act_3; rw [if_neg c_1, if_pos c_2, if_neg c_4, if_pos c_6, if_pos c_8]
              have eg_4 : gx_X1_act_4 a1 a2 a3 a4 a8 a9 a11 p0 p1 = gx_X1_told_4 (fx_X1_ahead a1 a2 a3 a8 a9 p0) := by unfold gx_X1_act_4; rw [if_neg c_1, if_pos c_2, if_neg c_4]
              have eg_5 : gx_X1_act_5 a5 p0 = gx_X1_told_5 p0 := by unfold gx_X1_act_5; rw [if_neg c_1, if_pos c_2]
              have eg_6 : gx_X1_act_6 a1 a2 a3 a6 a8 a9 a11 p0 p1 = gx_X1_told_6 a6 (fx_X1_ahead a1 a2 a3 a8 a9 p0) := by unfold gx_X1_act_6; rw [if_neg c_1, if_pos c_2, if_neg c_4]
              have eg_7 : gx_X1_act_7 a1 a2 a3 a7 a8 a9 a11 p0 p1 = gx_X1_told_7 a7 (fx_X1_ahead a1 a2 a3 a8 a9 p0) := by unfold gx_X1_act_7; rw [if_neg c_1, if_pos c_2, if_neg c_4]
              have eg_8 : gx_X1_act_8 a1 a2 a3 a8 a9 p0 p1 = a8 := by unfold gx_X1_act_8; rw [if_neg c_1, if_pos c_2, if_neg c_4]
              have eg_9 : gx_X1_act_9 a1 a2 a3 a8 a9 a11 p0 p1 = 1 := by unfold gx_X1_act_9; rw [if_neg c_1, if_pos c_2, if_neg c_4, if_pos c_6, if_pos c_7]
              have eg_11 : gx_X1_act_11 a1 a2 a3 a8 a9 a11 p0 p1 = a11 := by unfold gx_X1_act_11; rw [if_neg c_1, if_pos c_2, if_neg c_4, if_pos c_6, if_pos c_7]
              have ef : fx_X1_act a1 a2 a3 a8 a9 a11 p0 p1 = fx_X1_ahead a1 a2 a3 a8 a9 p0 := by unfold fx_X1_act; rw [if_neg c_1, if_pos c_2, if_neg c_4]
              exact W.iret (v := fx_X1_ahead a1 a2 a3 a8 a9 p0) hx hb hr (fun t ht hW => ⟨⟨(fx_X1_ahead a1 a2 a3 a8 a9 p0), [(h0, .inr (1, [.int 0, .int a1, .int a2, .int a3, .int (gx_X1_told_4 (fx_X1_ahead a1 a2 a3 a8 a9 p0)), .int (gx_X1_told_5 p0), .int (gx_X1_told_6 a6 (fx_X1_ahead a1 a2 a3 a8 a9 p0)), .int (gx_X1_told_7 a7 (fx_X1_ahead a1 a2 a3 a8 a9 p0)), .int a8, .int 1, .int a10, .int a11, .ref h1]))], rfl, ⟨ef.symm, by rw [eg_0, eg_3, eg_4, eg_5, eg_6, eg_7, eg_8, eg_9, eg_11]⟩, by rw [ht]; exact hP9, va_K.moved hW.alike hK9, hD9⟩, hS.F ht⟩) hS.2.2 dX1_act_196
            refine lv_aload_n hx hb dX1_act_161 rfl (lv_at hl 3 rfl) ?_
            refine va_get (D := (dC, dI)) (ci := 1) (v := .int a8) (C := RX1) (T := TX1) (N := 13) hx hb hts (fun _ h => List.mem_cons_of_mem _ (List.mem_append_right _ h)) hown hK hP 0 rfl rfl 8 (by decide) (hts (.fieldLink RX1 23 "FileStatusModel" "isOpen" "Z") (by decide +kernel)) (fun _ h9 => h9) rfl dX1_act_162 ?_
            refine lv_if_ne (tgt := 175) hx hb dX1_act_165 (by decide) (fun c9 => absurd c_8 c9) (fun c9 => ?_)
            refine lv_aload_n hx hb dX1_act_168 rfl (lv_at hl 3 rfl) ?_
            refine va_get (D := (dC, dI)) (ci := 1) (v := .int a3) (C := RX1) (T := TX1) (N := 13) hx hb hts (fun _ h => List.mem_cons_of_mem _ (List.mem_append_right _ h)) hown hK hP 0 rfl rfl 3 (by decide) (hts (.fieldLink RX1 50 "FileStatusModel" "position" "I") (by decide +kernel)) (fun _ h9 => h9) rfl dX1_act_169 ?_
            refine lv_goto (tgt := 177) hx hb dX1_act_172 (by decide) ?_
            refine va_put (D := (dC, dI)) (ci := 1) (v := .int a3) (ty := .int) (C := RX1) (T := TX1) (N := 13) hx hb hts (fun _ h => List.mem_cons_of_mem _ (List.mem_append_right _ h)) tyX1 tyX1_ok nmX1 hown hK hP hD hS 0 rfl rfl 3 (by decide) (hts (.fieldLink RX1 50 "FileStatusModel" "position" "I") (by decide +kernel)) (fun _ h9 => h9) rfl (by decide +kernel) rfl rfl (Nat.le_of_ble_eq_true rfl) dX1_act_177 (fun H locs hP hD hS => ?_)
            have hP : va_P (dC, dI) vwCl [(h0, .inr (1, [.int 0, .int a1, .int a2, .int a3, .int (gx_X1_told_4 (fx_X1_ahead a1 a2 a3 a8 a9 p0)), .int (gx_X1_told_5 p0), .int (gx_X1_told_6 a6 (fx_X1_ahead a1 a2 a3 a8 a9 p0)), .int (gx_X1_told_7 a7 (fx_X1_ahead a1 a2 a3 a8 a9 p0)), .int a8, .int 1, .int a10, .int a11, .ref h1]))] H := hP
            have hD : va_D A [(h0, .inr (1, [.int 0, .int a1, .int a2, .int a3, .int (gx_X1_told_4 (fx_X1_ahead a1 a2 a3 a8 a9 p0)), .int (gx_X1_told_5 p0), .int (gx_X1_told_6 a6 (fx_X1_ahead a1 a2 a3 a8 a9 p0)), .int (gx_X1_told_7 a7 (fx_X1_ahead a1 a2 a3 a8 a9 p0)), .int a8, .int 1, .int a10, .int a11, .ref h1]))] := hD
            refine lv_iload_n hx hb dX1_act_180 rfl (lv_at hl 4 rfl) ?_
            refine lv_bipush (v := 6) hx hb dX1_act_181 (by decide) ?_
            refine lv_icmp_ne (tgt := 195) hx hb dX1_act_183 (by decide) (fun c9 => ?_) (fun c9 => absurd (c_6.symm.trans c9) (by decide))
            refine lv_iload_n hx hb dX1_act_195 rfl (lv_at hl 2 rfl) ?_
            have hP9 := hP.sub (ws' := [(h0, .inr (1, [.int 0, .int a1, .int a2, .int a3, .int (gx_X1_told_4 (fx_X1_ahead a1 a2 a3 a8 a9 p0)), .int (gx_X1_told_5 p0), .int (gx_X1_told_6 a6 (fx_X1_ahead a1 a2 a3 a8 a9 p0)), .int (gx_X1_told_7 a7 (fx_X1_ahead a1 a2 a3 a8 a9 p0)), .int a8, .int 1, .int a10, .int a11, .ref h1]))]) [0] rfl
            have hD9 := hD.sub (ws' := [(h0, .inr (1, [.int 0, .int a1, .int a2, .int a3, .int (gx_X1_told_4 (fx_X1_ahead a1 a2 a3 a8 a9 p0)), .int (gx_X1_told_5 p0), .int (gx_X1_told_6 a6 (fx_X1_ahead a1 a2 a3 a8 a9 p0)), .int (gx_X1_told_7 a7 (fx_X1_ahead a1 a2 a3 a8 a9 p0)), .int a8, .int 1, .int a10, .int a11, .ref h1]))]) [0] (by decide) rfl
            have hK9 := hK.sub (tys' := []) [] rfl
            have eg_0 : gx_X1_act_0 = 0 := by rfl
            have eg_3 : gx_X1_act_3 a1 a2 a3 a8 a9 a11 p0 p1 = a3 := by unfold gx_X1_act_3; rw [if_neg c_1, if_pos c_2, if_neg c_4, if_pos c_6, if_pos c_8]
            have eg_4 : gx_X1_act_4 a1 a2 a3 a4 a8 a9 a11 p0 p1 = gx_X1_told_4 (fx_X1_ahead a1 a2 a3 a8 a9 p0) := by unfold gx_X1_act_4; rw [if_neg c_1, if_pos c_2, if_neg c_4]
            have eg_5 : gx_X1_act_5 a5 p0 = gx_X1_told_5 p0 := by unfold gx_X1_act_5; rw [if_neg c_1, if_pos c_2]
            have eg_6 : gx_X1_act_6 a1 a2 a3 a6 a8 a9 a11 p0 p1 = gx_X1_told_6 a6 (fx_X1_ahead a1 a2 a3 a8 a9 p0) := by unfold gx_X1_act_6; rw [if_neg c_1, if_pos c_2, if_neg c_4]
            have eg_7 : gx_X1_act_7 a1 a2 a3 a7 a8 a9 a11 p0 p1 = gx_X1_told_7 a7 (fx_X1_ahead a1 a2 a3 a8 a9 p0) := by unfold gx_X1_act_7; rw [if_neg c_1, if_pos c_2, if_neg c_4]
            have eg_8 : gx_X1_act_8 a1 a2 a3 a8 a9 p0 p1 = a8 := by unfold gx_X1_act_8; rw [if_neg c_1, if_pos c_2, if_neg c_4]
            have eg_9 : gx_X1_act_9 a1 a2 a3 a8 a9 a11 p0 p1 = 1 := by unfold gx_X1_act_9; rw [if_neg c_1, if_pos c_2, if_neg c_4, if_pos c_6, if_pos c_7]
            have eg_11 : gx_X1_act_11 a1 a2 a3 a8 a9 a11 p0 p1 = a11 := by unfold gx_X1_act_11; rw [if_neg c_1, if_pos c_2, if_neg c_4, if_pos c_6, if_pos c_7]
            have ef : fx_X1_act a1 a2 a3 a8 a9 a11 p0 p1 = fx_X1_ahead a1 a2 a3 a8 a9 p0 := by unfold fx_X1_act; rw [if_neg c_1, if_pos c_2, if_neg c_4]
            exact W.iret (v := fx_X1_ahead a1 a2 a3 a8 a9 p0) hx hb hr (fun t ht hW => ⟨⟨(fx_X1_ahead a1 a2 a3 a8 a9 p0), [(h0, .inr (1, [.int 0, .int a1, .int a2, .int a3, .int (gx_X1_told_4 (fx_X1_ahead a1 a2 a3 a8 a9 p0)), .int (gx_X1_told_5 p0), .int (gx_X1_told_6 a6 (fx_X1_ahead a1 a2 a3 a8 a9 p0)), .int (gx_X1_told_7 a7 (fx_X1_ahead a1 a2 a3 a8 a9 p0)), .int a8, .int 1, .int a10, .int a11, .ref h1]))], rfl, ⟨ef.symm, by rw [eg_0, eg_3, eg_4, eg_5, eg_6, eg_7, eg_8, eg_9, eg_11]⟩, by rw [ht]; exact hP9, va_K.moved hW.alike hK9, hD9⟩, hS.F ht⟩) hS.2.2 dX1_act_196
          refine lv_aload_n hx hb dX1_act_101 rfl (lv_at hl 1 rfl) ?_
          have hPc := hP.sub (ws' := [(h0, .inr (1, [.int 0, .int a1, .int a2, .int a3, .int (gx_X1_told_4 (fx_X1_ahead a1 a2 a3 a8 a9 p0)), .int (gx_X1_told_5 p0), .int (gx_X1_told_6 a6 (fx_X1_ahead a1 a2 a3 a8 a9 p0)), .int (gx_X1_told_7 a7 (fx_X1_ahead a1 a2 a3 a8 a9 p0)), .int a8, .int 1, .int a10, .int a11, .ref h1]))]) [0] rfl
          have hDc := hD.sub (ws' := [(h0, .inr (1, [.int 0, .int a1, .int a2, .int a3, .int (gx_X1_told_4 (fx_X1_ahead a1 a2 a3 a8 a9 p0)), .int (gx_X1_told_5 p0), .int (gx_X1_told_6 a6 (fx_X1_ahead a1 a2 a3 a8 a9 p0)), .int (gx_X1_told_7 a7 (fx_X1_ahead a1 a2 a3 a8 a9 p0)), .int a8, .int 1, .int a10, .int a11, .ref h1]))]) [0] (by decide) rfl
          have hKc := hK.sub (tys' := []) [] rfl
          have hFc := va_free (wc := [(h0, .inr (1, [.int 0, .int a1, .int a2, .int a3, .int (gx_X1_told_4 (fx_X1_ahead a1 a2 a3 a8 a9 p0)), .int (gx_X1_told_5 p0), .int (gx_X1_told_6 a6 (fx_X1_ahead a1 a2 a3 a8 a9 p0)), .int (gx_X1_told_7 a7 (fx_X1_ahead a1 a2 a3 a8 a9 p0)), .int a8, .int 1, .int a10, .int a11, .ref h1]))]) hD hS hA [0] rfl
          refine va_calli (va_runV (As := []) (rest := []) ⟨hx, hb, hml, hown, hts⟩ (ct_X1_reads l dC dI h0 h1 H.size 0 a1 a2 a3 (gx_X1_told_4 (fx_X1_ahead a1 a2 a3 a8 a9 p0)) (gx_X1_told_5 p0) (gx_X1_told_6 a6 (fx_X1_ahead a1 a2 a3 a8 a9 p0)) (gx_X1_told_7 a7 (fx_X1_ahead a1 a2 a3 a8 a9 p0)) a8 1 a10 a11) (cwV 0 hts gX1_act_X1_reads rfl rfl rfl (by decide +kernel) ⟨Nat.le_of_ble_eq_true rfl, Nat.le_of_ble_eq_true rfl⟩) ⟨fun a U g mk q => by obtain ⟨q0, q1, qP, qK, qD⟩ := q; exact ⟨q0, q1, qP, va_K.moved (u := U) (U := U.calling g mk a) (Vm.Alike.refl U.vm) qK, qD⟩, va_recv hKc hPc (ci := 1) (q0 := 0) rfl rfl, fun U hU hW => ⟨rfl, by rw [hU], by rw [hU]; exact hPc, va_K.moved hW.alike hKc, hDc.weaken (fun _ _ _ _ => trivial)⟩⟩ rfl rfl hl.1 rfl (lv_room (Nat.le_of_ble_eq_true rfl)) dX1_act_102 ⟨(Nat.zero_le _), (Nat.zero_le _)⟩) hS (fun q _ h => hFc q h) hFc (fun r_11 u t H1 locs ht hvm hw hB hz1 hk1 hS => ?_)
          obtain ⟨er, hu⟩ := hw
          subst hu
          subst er
          obtain ⟨hP1, -, hD1⟩ := hB
          rw [ht] at hP1
          obtain ⟨hP, hD⟩ := va_join (wr := []) (w1 := [(h0, .inr (1, [.int 0, .int a1, .int a2, .int a3, .int (gx_X1_told_4 (fx_X1_ahead a1 a2 a3 a8 a9 p0)), .int (gx_X1_told_5 p0), .int (gx_X1_told_6 a6 (fx_X1_ahead a1 a2 a3 a8 a9 p0)), .int (gx_X1_told_7 a7 (fx_X1_ahead a1 a2 a3 a8 a9 p0)), .int a8, .int 1, .int a10, .int a11, .ref h1]))]) hP hD [0] [] rfl rfl (by decide) (by decide) hk1 hFc hP1 hD1
          generalize H1 = H at hP hS ⊢
          have hP : va_P (dC, dI) vwCl [(h0, .inr (1, [.int 0, .int a1, .int a2, .int a3, .int (gx_X1_told_4 (fx_X1_ahead a1 a2 a3 a8 a9 p0)), .int (gx_X1_told_5 p0), .int (gx_X1_told_6 a6 (fx_X1_ahead a1 a2 a3 a8 a9 p0)), .int (gx_X1_told_7 a7 (fx_X1_ahead a1 a2 a3 a8 a9 p0)), .int a8, .int 1, .int a10, .int a11, .ref h1]))] H := hP
          have hD : va_D A [(h0, .inr (1, [.int 0, .int a1, .int a2, .int a3, .int (gx_X1_told_4 (fx_X1_ahead a1 a2 a3 a8 a9 p0)), .int (gx_X1_told_5 p0), .int (gx_X1_told_6 a6 (fx_X1_ahead a1 a2 a3 a8 a9 p0)), .int (gx_X1_told_7 a7 (fx_X1_ahead a1 a2 a3 a8 a9 p0)), .int a8, .int 1, .int a10, .int a11, .ref h1]))] := hD
          refine lv_if_eq (tgt := 119) hx hb dX1_act_105 (by decide) (fun c_12 => ?_) (fun c_12 => ?_)
          · refine lv_iload_n hx hb dX1_act_119 rfl (lv_at hl 2 rfl) ?_
            refine lv_if_eq (tgt := 133) hx hb dX1_act_120 (by decide) (fun c9 => ?_) (fun c9 => absurd c_6 c9)
            refine lv_iconst (v := 1) hx hb dX1_act_133 (by decide) ?_
            refine lv_goto (tgt := 138) hx hb dX1_act_134 (by decide) ?_
            refine lv_istore (lv' := [(4, .int 1), (3, .int (fx_X1_ahead a1 a2 a3 a8 a9 p0)), (0, .ref h0), (1, .int p0), (2, .int p1)]) hx hb dX1_act_138 hl (by decide) rfl (fun ls hl => ?_)
            refine lv_iload hx hb dX1_act_140 (lv_at hl 0 rfl) ?_
            refine lv_if_eq (tgt := 152) hx hb dX1_act_142 (by decide) (fun c9 => absurd c9 (by decide)) (fun c9 => ?_)
            refine lv_iload_n hx hb dX1_act_145 rfl (lv_at hl 1 rfl) ?_
            have hPc := hP.sub (ws' := []) [] rfl
            have hDc := hD.sub (ws' := []) [] (by decide) rfl
            have hKc := hK.sub (tys' := []) [] rfl
            have hFc := va_free (wc := []) hD hS hA [] rfl
            refine va_calli (va_runS (As := [.int (fx_X1_ahead a1 a2 a3 a8 a9 p0)]) (rest := []) ⟨hx, hb, hml, hown, hts⟩ (ct_X1_moved l dC dI H.size (fx_X1_ahead a1 a2 a3 a8 a9 p0)) (va_cwS 1 hts gX1_act_X1_moved rfl rfl rfl (by decide +kernel) ⟨Nat.le_of_ble_eq_true rfl, Nat.le_of_ble_eq_true rfl⟩) ⟨fun a U g mk q => by obtain ⟨q0, q1, qP, qK, qD⟩ := q; exact ⟨q0, q1, qP, va_K.moved (u := U) (U := U.calling g mk a) (Vm.Alike.refl U.vm) qK, qD⟩, fun U hU hW => ⟨rfl, by rw [hU], by rw [hU]; exact hPc, va_K.moved hW.alike hKc, hDc.weaken (fun _ _ _ _ => trivial)⟩⟩ rfl rfl hl.1 rfl (lv_room (Nat.le_of_ble_eq_true rfl)) dX1_act_146 ⟨(Nat.zero_le _), (Nat.zero_le _)⟩) hS (fun q _ h => hFc q h) hFc (fun r_13 u t H1 locs ht hvm hw hB hz1 hk1 hS => ?_)
            obtain ⟨er, hu⟩ := hw
            subst hu
            subst er
            obtain ⟨hP1, -, hD1⟩ := hB
            rw [ht] at hP1
            obtain ⟨hP, hD⟩ := va_join (wr := [(h0, .inr (1, [.int 0, .int a1, .int a2, .int a3, .int (gx_X1_told_4 (fx_X1_ahead a1 a2 a3 a8 a9 p0)), .int (gx_X1_told_5 p0), .int (gx_X1_told_6 a6 (fx_X1_ahead a1 a2 a3 a8 a9 p0)), .int (gx_X1_told_7 a7 (fx_X1_ahead a1 a2 a3 a8 a9 p0)), .int a8, .int 1, .int a10, .int a11, .ref h1]))]) (w1 := []) hP hD [] [0] rfl rfl (by decide) (by decide) hk1 hFc hP1 hD1
            generalize H1 = H at hP hS ⊢
            have hP : va_P (dC, dI) vwCl [(h0, .inr (1, [.int 0, .int a1, .int a2, .int a3, .int (gx_X1_told_4 (fx_X1_ahead a1 a2 a3 a8 a9 p0)), .int (gx_X1_told_5 p0), .int (gx_X1_told_6 a6 (fx_X1_ahead a1 a2 a3 a8 a9 p0)), .int (gx_X1_told_7 a7 (fx_X1_ahead a1 a2 a3 a8 a9 p0)), .int a8, .int 1, .int a10, .int a11, .ref h1]))] H := hP
            have hD : va_D A [(h0, .inr (1, [.int 0, .int a1, .int a2, .int a3, .int (gx_X1_told_4 (fx_X1_ahead a1 a2 a3 a8 a9 p0)), .int (gx_X1_told_5 p0), .int (gx_X1_told_6 a6 (fx_X1_ahead a1 a2 a3 a8 a9 p0)), .int (gx_X1_told_7 a7 (fx_X1_ahead a1 a2 a3 a8 a9 p0)), .int a8, .int 1, .int a10, .int a11, .ref h1]))] := hD
            refine lv_goto (tgt := 153) hx hb dX1_act_149 (by decide) ?_
            refine lv_istore (lv' := [(5, .int (fx_X1_moved (fx_X1_ahead a1 a2 a3 a8 a9 p0))), (4, .int 1), (3, .int (fx_X1_ahead a1 a2 a3 a8 a9 p0)), (0, .ref h0), (1, .int p0), (2, .int p1)]) hx hb dX1_act_153 hl (by decide) rfl (fun ls hl => ?_)
            refine lv_aload_n hx hb dX1_act_155 rfl (lv_at hl 3 rfl) ?_
            refine lv_iload hx hb dX1_act_156 (lv_at hl 0 rfl) ?_
            refine lv_if_eq (tgt := 168) hx hb dX1_act_158 (by decide) (fun c_14 => ?_) (fun c_14 => ?_)
            · refine lv_aload_n hx hb dX1_act_168 rfl (lv_at hl 3 rfl) ?_
              refine va_get (D := (dC, dI)) (ci := 1) (v := .int a3) (C := RX1) (T := TX1) (N := 13) hx hb hts (fun _ h => List.mem_cons_of_mem _ (List.mem_append_right _ h)) hown hK hP 0 rfl rfl 3 (by decide) (hts (.fieldLink RX1 50 "FileStatusModel" "position" "I") (by decide +kernel)) (fun _ h9 => h9) rfl dX1_act_169 ?_
              refine lv_goto (tgt := 177) hx hb dX1_act_172 (by decide) ?_
              refine va_put (D := (dC, dI)) (ci := 1) (v := .int a3) (ty := .int) (C := RX1) (T := TX1) (N := 13) hx hb hts (fun _ h => List.mem_cons_of_mem _ (List.mem_append_right _ h)) tyX1 tyX1_ok nmX1 hown hK hP hD hS 0 rfl rfl 3 (by decide) (hts (.fieldLink RX1 50 "FileStatusModel" "position" "I") (by decide +kernel)) (fun _ h9 => h9) rfl (by decide +kernel) rfl rfl (Nat.le_of_ble_eq_true rfl) dX1_act_177 (fun H locs hP hD hS => ?_)
              have hP : va_P (dC, dI) vwCl [(h0, .inr (1, [.int 0, .int a1, .int a2, .int a3, .int (gx_X1_told_4 (fx_X1_ahead a1 a2 a3 a8 a9 p0)), .int (gx_X1_told_5 p0), .int (gx_X1_told_6 a6 (fx_X1_ahead a1 a2 a3 a8 a9 p0)), .int (gx_X1_told_7 a7 (fx_X1_ahead a1 a2 a3 a8 a9 p0)), .int a8, .int 1, .int a10, .int a11, .ref h1]))] H := hP
              have hD : va_D A [(h0, .inr (1, [.int 0, .int a1, .int a2, .int a3, .int (gx_X1_told_4 (fx_X1_ahead a1 a2 a3 a8 a9 p0)), .int (gx_X1_told_5 p0), .int (gx_X1_told_6 a6 (fx_X1_ahead a1 a2 a3 a8 a9 p0)), .int (gx_X1_told_7 a7 (fx_X1_ahead a1 a2 a3 a8 a9 p0)), .int a8, .int 1, .int a10, .int a11, .ref h1]))] := hD
              refine lv_iload_n hx hb dX1_act_180 rfl (lv_at hl 4 rfl) ?_
              refine lv_bipush (v := 6) hx hb dX1_act_181 (by decide) ?_
              refine lv_icmp_ne (tgt := 195) hx hb dX1_act_183 (by decide) (fun c9 => ?_) (fun c9 => absurd (c_6.symm.trans c9) (by decide))
              refine lv_iload_n hx hb dX1_act_195 rfl (lv_at hl 2 rfl) ?_
              have hP9 := hP.sub (ws' := [(h0, .inr (1, [.int 0, .int a1, .int a2, .int a3, .int (gx_X1_told_4 (fx_X1_ahead a1 a2 a3 a8 a9 p0)), .int (gx_X1_told_5 p0), .int (gx_X1_told_6 a6 (fx_X1_ahead a1 a2 a3 a8 a9 p0)), .int (gx_X1_told_7 a7 (fx_X1_ahead a1 a2 a3 a8 a9 p0)), .int a8, .int 1, .int a10, .int a11, .ref h1]))]) [0] rfl
              have hD9 := hD.sub (ws' := [(h0, .inr (1, [.int 0, .int a1, .int a2, .int a3, .int (gx_X1_told_4 (fx_X1_ahead a1 a2 a3 a8 a9 p0)), .int (gx_X1_told_5 p0), .int (gx_X1_told_6 a6 (fx_X1_ahead a1 a2 a3 a8 a9 p0)), .int (gx_X1_told_7 a7 (fx_X1_ahead a1 a2 a3 a8 a9 p0)), .int a8, .int 1, .int a10, .int a11, .ref h1]))]) [0] (by decide) rfl
              have hK9 := hK.sub (tys' := []) [] rfl
              have eg_0 : gx_X1_act_0 = 0 := by rfl
              have eg_3 : gx_X1_act_3 a1 a2 a3 a8 a9 a11 p0 p1 = a3 := by unfold gx_X1_act_3; rw [if_neg c_1, if_pos c_2, if_neg c_4, if_pos c_6, if_neg c_8, if_pos c_14]
              have eg_4 : gx_X1_act_4 a1 a2 a3 a4 a8 a9 a11 p0 p1 = gx_X1_told_4 (fx_X1_ahead a1 a2 a3 a8 a9 p0) := by unfold gx_X1_act_4; rw [if_neg c_1, if_pos c_2, if_neg c_4]
              have eg_5 : gx_X1_act_5 a5 p0 = gx_X1_told_5 p0 := by unfold gx_X1_act_5; rw [if_neg c_1, if_pos c_2]
              have eg_6 : gx_X1_act_6 a1 a2 a3 a6 a8 a9 a11 p0 p1 = gx_X1_told_6 a6 (fx_X1_ahead a1 a2 a3 a8 a9 p0) := by unfold gx_X1_act_6; rw [if_neg c_1, if_pos c_2, if_neg c_4]
              have eg_7 : gx_X1_act_7 a1 a2 a3 a7 a8 a9 a11 p0 p1 = gx_X1_told_7 a7 (fx_X1_ahead a1 a2 a3 a8 a9 p0) := by unfold gx_X1_act_7; rw [if_neg c_1, if_pos c_2, if_neg c_4]
              have eg_8 : gx_X1_act_8 a1 a2 a3 a8 a9 p0 p1 = a8 := by unfold gx_X1_act_8; rw [if_neg c_1, if_pos c_2, if_neg c_4]
              have eg_9 : gx_X1_act_9 a1 a2 a3 a8 a9 a11 p0 p1 = 1 := by unfold gx_X1_act_9; rw [if_neg c_1, if_pos c_2, if_neg c_4, if_pos c_6, if_pos c_7]
              have eg_11 : gx_X1_act_11 a1 a2 a3 a8 a9 a11 p0 p1 = a11 := by unfold gx_X1_act_11; rw [if_neg c_1, if_pos c_2, if_neg c_4, if_pos c_6, if_pos c_7]
              have ef : fx_X1_act a1 a2 a3 a8 a9 a11 p0 p1 = fx_X1_ahead a1 a2 a3 a8 a9 p0 := by unfold fx_X1_act; rw [if_neg c_1, if_pos c_2, if_neg c_4]
              exact W.iret (v := fx_X1_ahead a1 a2 a3 a8 a9 p0) hx hb hr (fun t ht hW => ⟨⟨(fx_X1_ahead a1 a2 a3 a8 a9 p0), [(h0, .inr (1, [.int 0, .int a1, .int a2, .int a3, .int (gx_X1_told_4 (fx_X1_ahead a1 a2 a3 a8 a9 p0)), .int (gx_X1_told_5 p0), .int (gx_X1_told_6 a6 (fx_X1_ahead a1 a2 a3 a8 a9 p0)), .int (gx_X1_told_7 a7 (fx_X1_ahead a1 a2 a3 a8 a9 p0)), .int a8, .int 1, .int a10, .int a11, .ref h1]))], rfl, ⟨ef.symm, by rw [eg_0, eg_3, eg_4, eg_5, eg_6, eg_7, eg_8, eg_9, eg_11]⟩, by rw [ht]; exact hP9, va_K.moved hW.alike hK9, hD9⟩, hS.F ht⟩) hS.2.2 dX1_act_196
            refine lv_aload_n hx hb dX1_act_161 rfl (lv_at hl 3 rfl) ?_
            refine va_get (D := (dC, dI)) (ci := 1) (v := .int a8) (C := RX1) (T := TX1) (N := 13) hx hb hts (fun _ h => List.mem_cons_of_mem _ (List.mem_append_right _ h)) hown hK hP 0 rfl rfl 8 (by decide) (hts (.fieldLink RX1 23 "FileStatusModel" "isOpen" "Z") (by decide +kernel)) (fun _ h9 => h9) rfl dX1_act_162 ?_
            refine lv_if_ne (tgt := 175) hx hb dX1_act_165 (by decide) (fun c9 => ?_) (fun c9 => absurd c9 c_8)
            refine lv_iload hx hb dX1_act_175 (lv_at hl 0 rfl) ?_
            refine va_put (D := (dC, dI)) (ci := 1) (v := .int (fx_X1_moved (fx_X1_ahead a1 a2 a3 a8 a9 p0))) (ty := .int) (C := RX1) (T := TX1) (N := 13) hx hb hts (fun _ h => List.mem_cons_of_mem _ (List.mem_append_right _ h)) tyX1 tyX1_ok nmX1 hown hK hP hD hS 0 rfl rfl 3 (by decide) (hts (.fieldLink RX1 50 "FileStatusModel" "position" "I") (by decide +kernel)) (fun _ h9 => h9) rfl (by decide +kernel) rfl rfl (Nat.le_of_ble_eq_true rfl) dX1_act_177 (fun H locs hP hD hS => ?_)
            have hP : va_P (dC, dI) vwCl [(h0, .inr (1, [.int 0, .int a1, .int a2, .int (fx_X1_moved (fx_X1_ahead a1 a2 a3 a8 a9 p0)), .int (gx_X1_told_4 (fx_X1_ahead a1 a2 a3 a8 a9 p0)), .int (gx_X1_told_5 p0), .int (gx_X1_told_6 a6 (fx_X1_ahead a1 a2 a3 a8 a9 p0)), .int (gx_X1_told_7 a7 (fx_X1_ahead a1 a2 a3 a8 a9 p0)), .int a8, .int 1, .int a10, .int a11, .ref h1]))] H := hP
            have hD : va_D A [(h0, .inr (1, [.int 0, .int a1, .int a2, .int (fx_X1_moved (fx_X1_ahead a1 a2 a3 a8 a9 p0)), .int (gx_X1_told_4 (fx_X1_ahead a1 a2 a3 a8 a9 p0)), .int (gx_X1_told_5 p0), .int (gx_X1_told_6 a6 (fx_X1_ahead a1 a2 a3 a8 a9 p0)), .int (gx_X1_told_7 a7 (fx_X1_ahead a1 a2 a3 a8 a9 p0)), .int a8, .int 1, .int a10, .int a11, .ref h1]))] := hD
            refine lv_iload_n hx hb dX1_act_180 rfl (lv_at hl 4 rfl) ?_
            refine lv_bipush (v := 6) hx hb dX1_act_181 (by decide) ?_
            refine lv_icmp_ne (tgt := 195) hx hb dX1_act_183 (by decide) (fun c9 => ?_) (fun c9 => absurd (c_6.symm.trans c9) (by decide))
            refine lv_iload_n hx hb dX1_act_195 rfl (lv_at hl 2 rfl) ?_
            have hP9 := hP.sub (ws' := [(h0, .inr (1, [.int 0, .int a1, .int a2, .int (fx_X1_moved (fx_X1_ahead a1 a2 a3 a8 a9 p0)), .int (gx_X1_told_4 (fx_X1_ahead a1 a2 a3 a8 a9 p0)), .int (gx_X1_told_5 p0), .int (gx_X1_told_6 a6 (fx_X1_ahead a1 a2 a3 a8 a9 p0)), .int (gx_X1_told_7 a7 (fx_X1_ahead a1 a2 a3 a8 a9 p0)), .int a8, .int 1, .int a10, .int a11, .ref h1]))]) [0] rfl
            have hD9 := hD.sub (ws' := [(h0, .inr (1, [.int 0, .int a1, .int a2, .int (fx_X1_moved (fx_X1_ahead a1 a2 a3 a8 a9 p0)), .int (gx_X1_told_4 (fx_X1_ahead a1 a2 a3 a8 a9 p0)), .int (gx_X1_told_5 p0), .int (gx_X1_told_6 a6 (fx_X1_ahead a1 a2 a3 a8 a9 p0)), .int (gx_X1_told_7 a7 (fx_X1_ahead a1 a2 a3 a8 a9 p0)), .int a8, .int 1, .int a10, .int a11, .ref h1]))]) [0] (by decide) rfl
            have hK9 := hK.sub (tys' := []) [] rfl
            have eg_0 : gx_X1_act_0 = 0 := by rfl
            have eg_3 : gx_X1_act_3 a1 a2 a3 a8 a9 a11 p0 p1 = fx_X1_moved (fx_X1_ahead a1 a2 a3 a8 a9 p0) := by unfold gx_X1_act_3; rw [if_neg c_1, if_pos c_2, if_neg c_4, if_pos c_6, if_neg c_8, if_neg c_14]
            have eg_4 : gx_X1_act_4 a1 a2 a3 a4 a8 a9 a11 p0 p1 = gx_X1_told_4 (fx_X1_ahead a1 a2 a3 a8 a9 p0) := by unfold gx_X1_act_4; rw [if_neg c_1, if_pos c_2, if_neg c_4]
            have eg_5 : gx_X1_act_5 a5 p0 = gx_X1_told_5 p0 := by unfold gx_X1_act_5; rw [if_neg c_1, if_pos c_2]
            have eg_6 : gx_X1_act_6 a1 a2 a3 a6 a8 a9 a11 p0 p1 = gx_X1_told_6 a6 (fx_X1_ahead a1 a2 a3 a8 a9 p0) := by unfold gx_X1_act_6; rw [if_neg c_1, if_pos c_2, if_neg c_4]
            have eg_7 : gx_X1_act_7 a1 a2 a3 a7 a8 a9 a11 p0 p1 = gx_X1_told_7 a7 (fx_X1_ahead a1 a2 a3 a8 a9 p0) := by unfold gx_X1_act_7; rw [if_neg c_1, if_pos c_2, if_neg c_4]
            have eg_8 : gx_X1_act_8 a1 a2 a3 a8 a9 p0 p1 = a8 := by unfold gx_X1_act_8; rw [if_neg c_1, if_pos c_2, if_neg c_4]
            have eg_9 : gx_X1_act_9 a1 a2 a3 a8 a9 a11 p0 p1 = 1 := by unfold gx_X1_act_9; rw [if_neg c_1, if_pos c_2, if_neg c_4, if_pos c_6, if_pos c_7]
            have eg_11 : gx_X1_act_11 a1 a2 a3 a8 a9 a11 p0 p1 = a11 := by unfold gx_X1_act_11; rw [if_neg c_1, if_pos c_2, if_neg c_4, if_pos c_6, if_pos c_7]
            have ef : fx_X1_act a1 a2 a3 a8 a9 a11 p0 p1 = fx_X1_ahead a1 a2 a3 a8 a9 p0 := by unfold fx_X1_act; rw [if_neg c_1, if_pos c_2, if_neg c_4]
            exact W.iret (v := fx_X1_ahead a1 a2 a3 a8 a9 p0) hx hb hr (fun t ht hW => ⟨⟨(fx_X1_ahead a1 a2 a3 a8 a9 p0), [(h0, .inr (1, [.int 0, .int a1, .int a2, .int (fx_X1_moved (fx_X1_ahead a1 a2 a3 a8 a9 p0)), .int (gx_X1_told_4 (fx_X1_ahead a1 a2 a3 a8 a9 p0)), .int (gx_X1_told_5 p0), .int (gx_X1_told_6 a6 (fx_X1_ahead a1 a2 a3 a8 a9 p0)), .int (gx_X1_told_7 a7 (fx_X1_ahead a1 a2 a3 a8 a9 p0)), .int a8, .int 1, .int a10, .int a11, .ref h1]))], rfl, ⟨ef.symm, by rw [eg_0, eg_3, eg_4, eg_5, eg_6, eg_7, eg_8, eg_9, eg_11]⟩, by rw [ht]; exact hP9, va_K.moved hW.alike hK9, hD9⟩, hS.F ht⟩) hS.2.2 dX1_act_196
          refine lv_iload_n hx hb dX1_act_108 rfl (lv_at hl 0 rfl) ?_
          refine lv_bipush (v := 10) hx hb dX1_act_109 (by decide) ?_
          refine lv_icmp_ne (tgt := 119) hx hb dX1_act_111 (by decide) (fun c9 => ?_) (fun c9 => absurd (c_7.symm.trans c9) (by decide))
          refine lv_iload_n hx hb dX1_act_119 rfl (lv_at hl 2 rfl) ?_
          refine lv_if_eq (tgt := 133) hx hb dX1_act_120 (by decide) (fun c9 => ?_) (fun c9 => absurd c_6 c9)
          refine lv_iconst (v := 1) hx hb dX1_act_133 (by decide) ?_
          refine lv_goto (tgt := 138) hx hb dX1_act_134 (by decide) ?_
          refine lv_istore (lv' := [(4, .int 1), (3, .int (fx_X1_ahead a1 a2 a3 a8 a9 p0)), (0, .ref h0), (1, .int p0), (2, .int p1)]) hx hb dX1_act_138 hl (by decide) rfl (fun ls hl => ?_)
          refine lv_iload hx hb dX1_act_140 (lv_at hl 0 rfl) ?_
          refine lv_if_eq (tgt := 152) hx hb dX1_act_142 (by decide) (fun c9 => absurd c9 (by decide)) (fun c9 => ?_)
          refine lv_iload_n hx hb dX1_act_145 rfl (lv_at hl 1 rfl) ?_
          have hPc := hP.sub (ws' := []) [] rfl
          have hDc := hD.sub (ws' := []) [] (by decide) rfl
          have hKc := hK.sub (tys' := []) [] rfl
          have hFc := va_free (wc := []) hD hS hA [] rfl
          refine va_calli (va_runS (As := [.int (fx_X1_ahead a1 a2 a3 a8 a9 p0)]) (rest := []) ⟨hx, hb, hml, hown, hts⟩ (ct_X1_moved l dC dI H.size (fx_X1_ahead a1 a2 a3 a8 a9 p0)) (va_cwS 1 hts gX1_act_X1_moved rfl rfl rfl (by decide +kernel) ⟨Nat.le_of_ble_eq_true rfl, Nat.le_of_ble_eq_true rfl⟩) ⟨fun a U g mk q => by obtain ⟨q0, q1, qP, qK, qD⟩ := q; exact ⟨q0, q1, qP, va_K.moved (u := U) (U := U.calling g mk a) (Vm.Alike.refl U.vm) qK, qD⟩, fun U hU hW => ⟨rfl, by rw [hU], by rw [hU]; exact hPc, va_K.moved hW.alike hKc, hDc.weaken (fun _ _ _ _ => trivial)⟩⟩ rfl rfl hl.1 rfl (lv_room (Nat.le_of_ble_eq_true rfl)) dX1_act_146 ⟨(Nat.zero_le _), (Nat.zero_le _)⟩) hS (fun q _ h => hFc q h) hFc (fun r_15 u t H1 locs ht hvm hw hB hz1 hk1 hS => ?_)
          obtain ⟨er, hu⟩ := hw
          subst hu
          subst er
          obtain ⟨hP1, -, hD1⟩ := hB
          rw [ht] at hP1
          obtain ⟨hP, hD⟩ := va_join (wr := [(h0, .inr (1, [.int 0, .int a1, .int a2, .int a3, .int (gx_X1_told_4 (fx_X1_ahead a1 a2 a3 a8 a9 p0)), .int (gx_X1_told_5 p0), .int (gx_X1_told_6 a6 (fx_X1_ahead a1 a2 a3 a8 a9 p0)), .int (gx_X1_told_7 a7 (fx_X1_ahead a1 a2 a3 a8 a9 p0)), .int a8, .int 1, .int a10, .int a11, .ref h1]))]) (w1 := []) hP hD [] [0] rfl rfl (by decide) (by decide) hk1 hFc hP1 hD1
          generalize H1 = H at hP hS ⊢
          have hP : va_P (dC, dI) vwCl [(h0, .inr (1, [.int 0, .int a1, .int a2, .int a3, .int (gx_X1_told_4 (fx_X1_ahead a1 a2 a3 a8 a9 p0)), .int (gx_X1_told_5 p0), .int (gx_X1_told_6 a6 (fx_X1_ahead a1 a2 a3 a8 a9 p0)), .int (gx_X1_told_7 a7 (fx_X1_ahead a1 a2 a3 a8 a9 p0)), .int a8, .int 1, .int a10, .int a11, .ref h1]))] H := hP
          have hD : va_D A [(h0, .inr (1, [.int 0, .int a1, .int a2, .int a3, .int (gx_X1_told_4 (fx_X1_ahead a1 a2 a3 a8 a9 p0)), .int (gx_X1_told_5 p0), .int (gx_X1_told_6 a6 (fx_X1_ahead a1 a2 a3 a8 a9 p0)), .int (gx_X1_told_7 a7 (fx_X1_ahead a1 a2 a3 a8 a9 p0)), .int a8, .int 1, .int a10, .int a11, .ref h1]))] := hD
          refine lv_goto (tgt := 153) hx hb dX1_act_149 (by decide) ?_
          refine lv_istore (lv' := [(5, .int (fx_X1_moved (fx_X1_ahead a1 a2 a3 a8 a9 p0))), (4, .int 1), (3, .int (fx_X1_ahead a1 a2 a3 a8 a9 p0)), (0, .ref h0), (1, .int p0), (2, .int p1)]) hx hb dX1_act_153 hl (by decide) rfl (fun ls hl => ?_)
          refine lv_aload_n hx hb dX1_act_155 rfl (lv_at hl 3 rfl) ?_
          refine lv_iload hx hb dX1_act_156 (lv_at hl 0 rfl) ?_
          refine lv_if_eq (tgt := 168) hx hb dX1_act_158 (by decide) (fun c_16 => ?_) (fun c_16 => ?_)
          · refine lv_aload_n hx hb dX1_act_168 rfl (lv_at hl 3 rfl) ?_
            refine va_get (D := (dC, dI)) (ci := 1) (v := .int a3) (C := RX1) (T := TX1) (N := 13) hx hb hts (fun _ h => List.mem_cons_of_mem _ (List.mem_append_right _ h)) hown hK hP 0 rfl rfl 3 (by decide) (hts (.fieldLink RX1 50 "FileStatusModel" "position" "I") (by decide +kernel)) (fun _ h9 => h9) rfl dX1_act_169 ?_
            refine lv_goto (tgt := 177) hx hb dX1_act_172 (by decide) ?_
            refine va_put (D := (dC, dI)) (ci := 1) (v := .int a3) (ty := .int) (C := RX1) (T := TX1) (N := 13) hx hb hts (fun _ h => List.mem_cons_of_mem _ (List.mem_append_right _ h)) tyX1 tyX1_ok nmX1 hown hK hP hD hS 0 rfl rfl 3 (by decide) (hts (.fieldLink RX1 50 "FileStatusModel" "position" "I") (by decide +kernel)) (fun _ h9 => h9) rfl (by decide +kernel) rfl rfl (Nat.le_of_ble_eq_true rfl) dX1_act_177 (fun H locs hP hD hS => ?_)
            have hP : va_P (dC, dI) vwCl [(h0, .inr (1, [.int 0, .int a1, .int a2, .int a3, .int (gx_X1_told_4 (fx_X1_ahead a1 a2 a3 a8 a9 p0)), .int (gx_X1_told_5 p0), .int (gx_X1_told_6 a6 (fx_X1_ahead a1 a2 a3 a8 a9 p0)), .int (gx_X1_told_7 a7 (fx_X1_ahead a1 a2 a3 a8 a9 p0)), .int a8, .int 1, .int a10, .int a11, .ref h1]))] H := hP
            have hD : va_D A [(h0, .inr (1, [.int 0, .int a1, .int a2, .int a3, .int (gx_X1_told_4 (fx_X1_ahead a1 a2 a3 a8 a9 p0)), .int (gx_X1_told_5 p0), .int (gx_X1_told_6 a6 (fx_X1_ahead a1 a2 a3 a8 a9 p0)), .int (gx_X1_told_7 a7 (fx_X1_ahead a1 a2 a3 a8 a9 p0)), .int a8, .int 1, .int a10, .int a11, .ref h1]))] := hD
            refine lv_iload_n hx hb dX1_act_180 rfl (lv_at hl 4 rfl) ?_
            refine lv_bipush (v := 6) hx hb dX1_act_181 (by decide) ?_
            refine lv_icmp_ne (tgt := 195) hx hb dX1_act_183 (by decide) (fun c9 => ?_) (fun c9 => absurd (c_6.symm.trans c9) (by decide))
            refine lv_iload_n hx hb dX1_act_195 rfl (lv_at hl 2 rfl) ?_
            have hP9 := hP.sub (ws' := [(h0, .inr (1, [.int 0, .int a1, .int a2, .int a3, .int (gx_X1_told_4 (fx_X1_ahead a1 a2 a3 a8 a9 p0)), .int (gx_X1_told_5 p0), .int (gx_X1_told_6 a6 (fx_X1_ahead a1 a2 a3 a8 a9 p0)), .int (gx_X1_told_7 a7 (fx_X1_ahead a1 a2 a3 a8 a9 p0)), .int a8, .int 1, .int a10, .int a11, .ref h1]))]) [0] rfl
            have hD9 := hD.sub (ws' := [(h0, .inr (1, [.int 0, .int a1, .int a2, .int a3, .int (gx_X1_told_4 (fx_X1_ahead a1 a2 a3 a8 a9 p0)), .int (gx_X1_told_5 p0), .int (gx_X1_told_6 a6 (fx_X1_ahead a1 a2 a3 a8 a9 p0)), .int (gx_X1_told_7 a7 (fx_X1_ahead a1 a2 a3 a8 a9 p0)), .int a8, .int 1, .int a10, .int a11, .ref h1]))]) [0] (by decide) rfl
            have hK9 := hK.sub (tys' := []) [] rfl
            have eg_0 : gx_X1_act_0 = 0 := by rfl
            have eg_3 : gx_X1_act_3 a1 a2 a3 a8 a9 a11 p0 p1 = a3 := by unfold gx_X1_act_3; rw [if_neg c_1, if_pos c_2, if_neg c_4, if_pos c_6, if_neg c_8, if_pos c_16]
            have eg_4 : gx_X1_act_4 a1 a2 a3 a4 a8 a9 a11 p0 p1 = gx_X1_told_4 (fx_X1_ahead a1 a2 a3 a8 a9 p0) := by unfold gx_X1_act_4; rw [if_neg c_1, if_pos c_2, if_neg c_4]
            have eg_5 : gx_X1_act_5 a5 p0 = gx_X1_told_5 p0 := by unfold gx_X1_act_5; rw [if_neg c_1, if_pos c_2]
            have eg_6 : gx_X1_act_6 a1 a2 a3 a6 a8 a9 a11 p0 p1 = gx_X1_told_6 a6 (fx_X1_ahead a1 a2 a3 a8 a9 p0) := by unfold gx_X1_act_6; rw [if_neg c_1, if_pos c_2, if_neg c_4]
            have eg_7 : gx_X1_act_7 a1 a2 a3 a7 a8 a9 a11 p0 p1 = gx_X1_told_7 a7 (fx_X1_ahead a1 a2 a3 a8 a9 p0) := by unfold gx_X1_act_7; rw [if_neg c_1, if_pos c_2, if_neg c_4]
            have eg_8 : gx_X1_act_8 a1 a2 a3 a8 a9 p0 p1 = a8 := by unfold gx_X1_act_8; rw [if_neg c_1, if_pos c_2, if_neg c_4]
            have eg_9 : gx_X1_act_9 a1 a2 a3 a8 a9 a11 p0 p1 = 1 := by unfold gx_X1_act_9; rw [if_neg c_1, if_pos c_2, if_neg c_4, if_pos c_6, if_pos c_7]
            have eg_11 : gx_X1_act_11 a1 a2 a3 a8 a9 a11 p0 p1 = a11 := by unfold gx_X1_act_11; rw [if_neg c_1, if_pos c_2, if_neg c_4, if_pos c_6, if_pos c_7]
            have ef : fx_X1_act a1 a2 a3 a8 a9 a11 p0 p1 = fx_X1_ahead a1 a2 a3 a8 a9 p0 := by unfold fx_X1_act; rw [if_neg c_1, if_pos c_2, if_neg c_4]
            exact W.iret (v := fx_X1_ahead a1 a2 a3 a8 a9 p0) hx hb hr (fun t ht hW => ⟨⟨(fx_X1_ahead a1 a2 a3 a8 a9 p0), [(h0, .inr (1, [.int 0, .int a1, .int a2, .int a3, .int (gx_X1_told_4 (fx_X1_ahead a1 a2 a3 a8 a9 p0)), .int (gx_X1_told_5 p0), .int (gx_X1_told_6 a6 (fx_X1_ahead a1 a2 a3 a8 a9 p0)), .int (gx_X1_told_7 a7 (fx_X1_ahead a1 a2 a3 a8 a9 p0)), .int a8, .int 1, .int a10, .int a11, .ref h1]))], rfl, ⟨ef.symm, by rw [eg_0, eg_3, eg_4, eg_5, eg_6, eg_7, eg_8, eg_9, eg_11]⟩, by rw [ht]; exact hP9, va_K.moved hW.alike hK9, hD9⟩, hS.F ht⟩) hS.2.2 dX1_act_196
          refine lv_aload_n hx hb dX1_act_161 rfl (lv_at hl 3 rfl) ?_
          refine va_get (D := (dC, dI)) (ci := 1) (v := .int a8) (C := RX1) (T := TX1) (N := 13) hx hb hts (fun _ h => List.mem_cons_of_mem _ (List.mem_append_right _ h)) hown hK hP 0 rfl rfl 8 (by decide) (hts (.fieldLink RX1 23 "FileStatusModel" "isOpen" "Z") (by decide +kernel)) (fun _ h9 => h9) rfl dX1_act_162 ?_
          refine lv_if_ne (tgt := 175) hx hb dX1_act_165 (by decide) (fun c9 => ?_) (fun c9 => absurd c9 c_8)
          refine lv_iload hx hb dX1_act_175 (lv_at hl 0 rfl) ?_
          refine va_put (D := (dC, dI)) (ci := 1) (v := .int (fx_X1_moved (fx_X1_ahead a1 a2 a3 a8 a9 p0))) (ty := .int) (C := RX1) (T := TX1) (N := 13) hx hb hts (fun _ h => List.mem_cons_of_mem _ (List.mem_append_right _ h)) tyX1 tyX1_ok nmX1 hown hK hP hD hS 0 rfl rfl 3 (by decide) (hts (.fieldLink RX1 50 "FileStatusModel" "position" "I") (by decide +kernel)) (fun _ h9 => h9) rfl (by decide +kernel) rfl rfl (Nat.le_of_ble_eq_true rfl) dX1_act_177 (fun H locs hP hD hS => ?_)
          have hP : va_P (dC, dI) vwCl [(h0, .inr (1, [.int 0, .int a1, .int a2, .int (fx_X1_moved (fx_X1_ahead a1 a2 a3 a8 a9 p0)), .int (gx_X1_told_4 (fx_X1_ahead a1 a2 a3 a8 a9 p0)), .int (gx_X1_told_5 p0), .int (gx_X1_told_6 a6 (fx_X1_ahead a1 a2 a3 a8 a9 p0)), .int (gx_X1_told_7 a7 (fx_X1_ahead a1 a2 a3 a8 a9 p0)), .int a8, .int 1, .int a10, .int a11, .ref h1]))] H := hP
          have hD : va_D A [(h0, .inr (1, [.int 0, .int a1, .int a2, .int (fx_X1_moved (fx_X1_ahead a1 a2 a3 a8 a9 p0)), .int (gx_X1_told_4 (fx_X1_ahead a1 a2 a3 a8 a9 p0)), .int (gx_X1_told_5 p0), .int (gx_X1_told_6 a6 (fx_X1_ahead a1 a2 a3 a8 a9 p0)), .int (gx_X1_told_7 a7 (fx_X1_ahead a1 a2 a3 a8 a9 p0)), .int a8, .int 1, .int a10, .int a11, .ref h1]))] := hD
          refine lv_iload_n hx hb dX1_act_180 rfl (lv_at hl 4 rfl) ?_
          refine lv_bipush (v := 6) hx hb dX1_act_181 (by decide) ?_
          refine lv_icmp_ne (tgt := 195) hx hb dX1_act_183 (by decide) (fun c9 => ?_) (fun c9 => absurd (c_6.symm.trans c9) (by decide))
          refine lv_iload_n hx hb dX1_act_195 rfl (lv_at hl 2 rfl) ?_
          have hP9 := hP.sub (ws' := [(h0, .inr (1, [.int 0, .int a1, .int a2, .int (fx_X1_moved (fx_X1_ahead a1 a2 a3 a8 a9 p0)), .int (gx_X1_told_4 (fx_X1_ahead a1 a2 a3 a8 a9 p0)), .int (gx_X1_told_5 p0), .int (gx_X1_told_6 a6 (fx_X1_ahead a1 a2 a3 a8 a9 p0)), .int (gx_X1_told_7 a7 (fx_X1_ahead a1 a2 a3 a8 a9 p0)), .int a8, .int 1, .int a10, .int a11, .ref h1]))]) [0] rfl
          have hD9 := hD.sub (ws' := [(h0, .inr (1, [.int 0, .int a1, .int a2, .int (fx_X1_moved (fx_X1_ahead a1 a2 a3 a8 a9 p0)), .int (gx_X1_told_4 (fx_X1_ahead a1 a2 a3 a8 a9 p0)), .int (gx_X1_told_5 p0), .int (gx_X1_told_6 a6 (fx_X1_ahead a1 a2 a3 a8 a9 p0)), .int (gx_X1_told_7 a7 (fx_X1_ahead a1 a2 a3 a8 a9 p0)), .int a8, .int 1, .int a10, .int a11, .ref h1]))]) [0] (by decide) rfl
          have hK9 := hK.sub (tys' := []) [] rfl
          have eg_0 : gx_X1_act_0 = 0 := by rfl
          have eg_3 : gx_X1_act_3 a1 a2 a3 a8 a9 a11 p0 p1 = fx_X1_moved (fx_X1_ahead a1 a2 a3 a8 a9 p0) := by unfold gx_X1_act_3; rw [if_neg c_1, if_pos c_2, if_neg c_4, if_pos c_6, if_neg c_8, if_neg c_16]
          have eg_4 : gx_X1_act_4 a1 a2 a3 a4 a8 a9 a11 p0 p1 = gx_X1_told_4 (fx_X1_ahead a1 a2 a3 a8 a9 p0) := by unfold gx_X1_act_4; rw [if_neg c_1, if_pos c_2, if_neg c_4]
          have eg_5 : gx_X1_act_5 a5 p0 = gx_X1_told_5 p0 := by unfold gx_X1_act_5; rw [if_neg c_1, if_pos c_2]
          have eg_6 : gx_X1_act_6 a1 a2 a3 a6 a8 a9 a11 p0 p1 = gx_X1_told_6 a6 (fx_X1_ahead a1 a2 a3 a8 a9 p0) := by unfold gx_X1_act_6; rw [if_neg c_1, if_pos c_2, if_neg c_4]
          have eg_7 : gx_X1_act_7 a1 a2 a3 a7 a8 a9 a11 p0 p1 = gx_X1_told_7 a7 (fx_X1_ahead a1 a2 a3 a8 a9 p0) := by unfold gx_X1_act_7; rw [if_neg c_1, if_pos c_2, if_neg c_4]
          have eg_8 : gx_X1_act_8 a1 a2 a3 a8 a9 p0 p1 = a8 := by unfold gx_X1_act_8; rw [if_neg c_1, if_pos c_2, if_neg c_4]
          have eg_9 : gx_X1_act_9 a1 a2 a3 a8 a9 a11 p0 p1 = 1 := by unfold gx_X1_act_9; rw [if_neg c_1, if_pos c_2, if_neg c_4, if_pos c_6, if_pos c_7]
          have eg_11 : gx_X1_act_11 a1 a2 a3 a8 a9 a11 p0 p1 = a11 := by unfold gx_X1_act_11; rw [if_neg c_1, if_pos c_2, if_neg c_4, if_pos c_6, if_pos c_7]
          have ef : fx_X1_act a1 a2 a3 a8 a9 a11 p0 p1 = fx_X1_ahead a1 a2 a3 a8 a9 p0 := by unfold fx_X1_act; rw [if_neg c_1, if_pos c_2, if_neg c_4]
          exact W.iret (v := fx_X1_ahead a1 a2 a3 a8 a9 p0) hx hb hr (fun t ht hW => ⟨⟨(fx_X1_ahead a1 a2 a3 a8 a9 p0), [(h0, .inr (1, [.int 0, .int a1, .int a2, .int (fx_X1_moved (fx_X1_ahead a1 a2 a3 a8 a9 p0)), .int (gx_X1_told_4 (fx_X1_ahead a1 a2 a3 a8 a9 p0)), .int (gx_X1_told_5 p0), .int (gx_X1_told_6 a6 (fx_X1_ahead a1 a2 a3 a8 a9 p0)), .int (gx_X1_told_7 a7 (fx_X1_ahead a1 a2 a3 a8 a9 p0)), .int a8, .int 1, .int a10, .int a11, .ref h1]))], rfl, ⟨ef.symm, by rw [eg_0, eg_3, eg_4, eg_5, eg_6, eg_7, eg_8, eg_9, eg_11]⟩, by rw [ht]; exact hP9, va_K.moved hW.alike hK9, hD9⟩, hS.F ht⟩) hS.2.2 dX1_act_196
        refine lv_iload_n hx hb dX1_act_77 rfl (lv_at hl 0 rfl) ?_
        refine lv_iconst (v := 4) hx hb dX1_act_78 (by decide) ?_
        refine lv_icmp_ne (tgt := 86) hx hb dX1_act_79 (by decide) (fun c_17 => ?_) (fun c_17 => ?_)
        · refine lv_iconst (v := 0) hx hb dX1_act_86 (by decide) ?_
          refine va_put (D := (dC, dI)) (ci := 1) (v := .int 0) (ty := .boolean) (C := RX1) (T := TX1) (N := 13) hx hb hts (fun _ h => List.mem_cons_of_mem _ (List.mem_append_right _ h)) tyX1 tyX1_ok nmX1 hown hK hP hD hS 0 rfl rfl 9 (by decide) (hts (.fieldLink RX1 47 "FileStatusModel" "permit" "Z") (by decide +kernel)) (fun _ h9 => h9) rfl (by decide +kernel) rfl rfl (Nat.le_of_ble_eq_true rfl) dX1_act_87 (fun H locs hP hD hS => ?_)
          have hP : va_P (dC, dI) vwCl [(h0, .inr (1, [.int 0, .int a1, .int a2, .int a3, .int (gx_X1_told_4 (fx_X1_ahead a1 a2 a3 a8 a9 p0)), .int (gx_X1_told_5 p0), .int (gx_X1_told_6 a6 (fx_X1_ahead a1 a2 a3 a8 a9 p0)), .int (gx_X1_told_7 a7 (fx_X1_ahead a1 a2 a3 a8 a9 p0)), .int a8, .int 0, .int a10, .int a11, .ref h1]))] H := hP
          have hD : va_D A [(h0, .inr (1, [.int 0, .int a1, .int a2, .int a3, .int (gx_X1_told_4 (fx_X1_ahead a1 a2 a3 a8 a9 p0)), .int (gx_X1_told_5 p0), .int (gx_X1_told_6 a6 (fx_X1_ahead a1 a2 a3 a8 a9 p0)), .int (gx_X1_told_7 a7 (fx_X1_ahead a1 a2 a3 a8 a9 p0)), .int a8, .int 0, .int a10, .int a11, .ref h1]))] := hD
          refine lv_iload_n hx hb dX1_act_90 rfl (lv_at hl 2 rfl) ?_
          refine lv_if_ne (tgt := 119) hx hb dX1_act_91 (by decide) (fun c9 => absurd c_6 c9) (fun c9 => ?_)
          refine lv_aload_n hx hb dX1_act_94 rfl (lv_at hl 1 rfl) ?_
          refine va_get (D := (dC, dI)) (ci := 1) (v := .int a8) (C := RX1) (T := TX1) (N := 13) hx hb hts (fun _ h => List.mem_cons_of_mem _ (List.mem_append_right _ h)) hown hK hP 0 rfl rfl 8 (by decide) (hts (.fieldLink RX1 23 "FileStatusModel" "isOpen" "Z") (by decide +kernel)) (fun _ h9 => h9) rfl dX1_act_95 ?_
          refine lv_if_eq (tgt := 119) hx hb dX1_act_98 (by decide) (fun c_18 => ?_) (fun c_18 => ?_)
          · refine lv_iload_n hx hb dX1_act_119 rfl (lv_at hl 2 rfl) ?_
            refine lv_if_eq (tgt := 133) hx hb dX1_act_120 (by decide) (fun c9 => ?_) (fun c9 => absurd c_6 c9)
            refine lv_iconst (v := 1) hx hb dX1_act_133 (by decide) ?_
            refine lv_goto (tgt := 138) hx hb dX1_act_134 (by decide) ?_
            refine lv_istore (lv' := [(4, .int 1), (3, .int (fx_X1_ahead a1 a2 a3 a8 a9 p0)), (0, .ref h0), (1, .int p0), (2, .int p1)]) hx hb dX1_act_138 hl (by decide) rfl (fun ls hl => ?_)
            refine lv_iload hx hb dX1_act_140 (lv_at hl 0 rfl) ?_
            refine lv_if_eq (tgt := 152) hx hb dX1_act_142 (by decide) (fun c9 => absurd c9 (by decide)) (fun c9 => ?_)
            refine lv_iload_n hx hb dX1_act_145 rfl (lv_at hl 1 rfl) ?_
            have hPc := hP.sub (ws' := []) [] rfl
            have hDc := hD.sub (ws' := []) [] (by decide) rfl
            have hKc := hK.sub (tys' := []) [] rfl
            have hFc := va_free (wc := []) hD hS hA [] rfl
            refine va_calli (va_runS (As := [.int (fx_X1_ahead a1 a2 a3 a8 a9 p0)]) (rest := []) ⟨hx, hb, hml, hown, hts⟩ (ct_X1_moved l dC dI H.size (fx_X1_ahead a1 a2 a3 a8 a9 p0)) (va_cwS 1 hts gX1_act_X1_moved rfl rfl rfl (by decide +kernel) ⟨Nat.le_of_ble_eq_true rfl, Nat.le_of_ble_eq_true rfl⟩) ⟨fun a U g mk q => by obtain ⟨q0, q1, qP, qK, qD⟩ := q; exact ⟨q0, q1, qP, va_K.moved (u := U) (U := U.calling g mk a) (Vm.Alike.refl U.vm) qK, qD⟩, fun U hU hW => ⟨rfl, by rw [hU], by rw [hU]; exact hPc, va_K.moved hW.alike hKc, hDc.weaken (fun _ _ _ _ => trivial)⟩⟩ rfl rfl hl.1 rfl (lv_room (Nat.le_of_ble_eq_true rfl)) dX1_act_146 ⟨(Nat.zero_le _), (Nat.zero_le _)⟩) hS (fun q _ h => hFc q h) hFc (fun r_19 u t H1 locs ht hvm hw hB hz1 hk1 hS => ?_)
            obtain ⟨er, hu⟩ := hw
            subst hu
            subst er
            obtain ⟨hP1, -, hD1⟩ := hB
            rw [ht] at hP1
            obtain ⟨hP, hD⟩ := va_join (wr := [(h0, .inr (1, [.int 0, .int a1, .int a2, .int a3, .int (gx_X1_told_4 (fx_X1_ahead a1 a2 a3 a8 a9 p0)), .int (gx_X1_told_5 p0), .int (gx_X1_told_6 a6 (fx_X1_ahead a1 a2 a3 a8 a9 p0)), .int (gx_X1_told_7 a7 (fx_X1_ahead a1 a2 a3 a8 a9 p0)), .int a8, .int 0, .int a10, .int a11, .ref h1]))]) (w1 := []) hP hD [] [0] rfl rfl (by decide) (by decide) hk1 hFc hP1 hD1
            generalize H1 = H at hP hS ⊢
            have hP : va_P (dC, dI) vwCl [(h0, .inr (1, [.int 0, .int a1, .int a2, .int a3, .int (gx_X1_told_4 (fx_X1_ahead a1 a2 a3 a8 a9 p0)), .int (gx_X1_told_5 p0), .int (gx_X1_told_6 a6 (fx_X1_ahead a1 a2 a3 a8 a9 p0)), .int (gx_X1_told_7 a7 (fx_X1_ahead a1 a2 a3 a8 a9 p0)), .int a8, .int 0, .int a10, .int a11, .ref h1]))] H := hP
            have hD : va_D A [(h0, .inr (1, [.int 0, .int a1, .int a2, .int a3, .int (gx_X1_told_4 (fx_X1_ahead a1 a2 a3 a8 a9 p0)), .int (gx_X1_told_5 p0), .int (gx_X1_told_6 a6 (fx_X1_ahead a1 a2 a3 a8 a9 p0)), .int (gx_X1_told_7 a7 (fx_X1_ahead a1 a2 a3 a8 a9 p0)), .int a8, .int 0, .int a10, .int a11, .ref h1]))] := hD
            refine lv_goto (tgt := 153) hx hb dX1_act_149 (by decide) ?_
            refine lv_istore (lv' := [(5, .int (fx_X1_moved (fx_X1_ahead a1 a2 a3 a8 a9 p0))), (4, .int 1), (3, .int (fx_X1_ahead a1 a2 a3 a8 a9 p0)), (0, .ref h0), (1, .int p0), (2, .int p1)]) hx hb dX1_act_153 hl (by decide) rfl (fun ls hl => ?_)
            refine lv_aload_n hx hb dX1_act_155 rfl (lv_at hl 3 rfl) ?_
            refine lv_iload hx hb dX1_act_156 (lv_at hl 0 rfl) ?_
            refine lv_if_eq (tgt := 168) hx hb dX1_act_158 (by decide) (fun c_20 => ?_) (fun c_20 => ?_)
            · refine lv_aload_n hx hb dX1_act_168 rfl (lv_at hl 3 rfl) ?_
              refine va_get (D := (dC, dI)) (ci := 1) (v := .int a3) (C := RX1) (T := TX1) (N := 13) hx hb hts (fun _ h => List.mem_cons_of_mem _ (List.mem_append_right _ h)) hown hK hP 0 rfl rfl 3 (by decide) (hts (.fieldLink RX1 50 "FileStatusModel" "position" "I") (by decide +kernel)) (fun _ h9 => h9) rfl dX1_act_169 ?_
              refine lv_goto (tgt := 177) hx hb dX1_act_172 (by decide) ?_
              refine va_put (D := (dC, dI)) (ci := 1) (v := .int a3) (ty := .int) (C := RX1) (T := TX1) (N := 13) hx hb hts (fun _ h => List.mem_cons_of_mem _ (List.mem_append_right _ h)) tyX1 tyX1_ok nmX1 hown hK hP hD hS 0 rfl rfl 3 (by decide) (hts (.fieldLink RX1 50 "FileStatusModel" "position" "I") (by decide +kernel)) (fun _ h9 => h9) rfl (by decide +kernel) rfl rfl (Nat.le_of_ble_eq_true rfl) dX1_act_177 (fun H locs hP hD hS => ?_)
              have hP : va_P (dC, dI) vwCl [(h0, .inr (1, [.int 0, .int a1, .int a2, .int a3, .int (gx_X1_told_4 (fx_X1_ahead a1 a2 a3 a8 a9 p0)), .int (gx_X1_told_5 p0), .int (gx_X1_told_6 a6 (fx_X1_ahead a1 a2 a3 a8 a9 p0)), .int (gx_X1_told_7 a7 (fx_X1_ahead a1 a2 a3 a8 a9 p0)), .int a8, .int 0, .int a10, .int a11, .ref h1]))] H := hP
              have hD : va_D A [(h0, .inr (1, [.int 0, .int a1, .int a2, .int a3, .int (gx_X1_told_4 (fx_X1_ahead a1 a2 a3 a8 a9 p0)), .int (gx_X1_told_5 p0), .int (gx_X1_told_6 a6 (fx_X1_ahead a1 a2 a3 a8 a9 p0)), .int (gx_X1_told_7 a7 (fx_X1_ahead a1 a2 a3 a8 a9 p0)), .int a8, .int 0, .int a10, .int a11, .ref h1]))] := hD
              refine lv_iload_n hx hb dX1_act_180 rfl (lv_at hl 4 rfl) ?_
              refine lv_bipush (v := 6) hx hb dX1_act_181 (by decide) ?_
              refine lv_icmp_ne (tgt := 195) hx hb dX1_act_183 (by decide) (fun c9 => ?_) (fun c9 => absurd (c_6.symm.trans c9) (by decide))
              refine lv_iload_n hx hb dX1_act_195 rfl (lv_at hl 2 rfl) ?_
              have hP9 := hP.sub (ws' := [(h0, .inr (1, [.int 0, .int a1, .int a2, .int a3, .int (gx_X1_told_4 (fx_X1_ahead a1 a2 a3 a8 a9 p0)), .int (gx_X1_told_5 p0), .int (gx_X1_told_6 a6 (fx_X1_ahead a1 a2 a3 a8 a9 p0)), .int (gx_X1_told_7 a7 (fx_X1_ahead a1 a2 a3 a8 a9 p0)), .int a8, .int 0, .int a10, .int a11, .ref h1]))]) [0] rfl
              have hD9 := hD.sub (ws' := [(h0, .inr (1, [.int 0, .int a1, .int a2, .int a3, .int (gx_X1_told_4 (fx_X1_ahead a1 a2 a3 a8 a9 p0)), .int (gx_X1_told_5 p0), .int (gx_X1_told_6 a6 (fx_X1_ahead a1 a2 a3 a8 a9 p0)), .int (gx_X1_told_7 a7 (fx_X1_ahead a1 a2 a3 a8 a9 p0)), .int a8, .int 0, .int a10, .int a11, .ref h1]))]) [0] (by decide) rfl
              have hK9 := hK.sub (tys' := []) [] rfl
              have eg_0 : gx_X1_act_0 = 0 := by rfl
              have eg_3 : gx_X1_act_3 a1 a2 a3 a8 a9 a11 p0 p1 = a3 := by unfold gx_X1_act_3; rw [if_neg c_1, if_pos c_2, if_neg c_4, if_pos c_6, if_pos c_18]
              have eg_4 : gx_X1_act_4 a1 a2 a3 a4 a8 a9 a11 p0 p1 = gx_X1_told_4 (fx_X1_ahead a1 a2 a3 a8 a9 p0) := by unfold gx_X1_act_4; rw [if_neg c_1, if_pos c_2, if_neg c_4]
              have eg_5 : gx_X1_act_5 a5 p0 = gx_X1_told_5 p0 := by unfold gx_X1_act_5; rw [if_neg c_1, if_pos c_2]
              have eg_6 : gx_X1_act_6 a1 a2 a3 a6 a8 a9 a11 p0 p1 = gx_X1_told_6 a6 (fx_X1_ahead a1 a2 a3 a8 a9 p0) := by unfold gx_X1_act_6; rw [if_neg c_1, if_pos c_2, if_neg c_4]
              have eg_7 : gx_X1_act_7 a1 a2 a3 a7 a8 a9 a11 p0 p1 = gx_X1_told_7 a7 (fx_X1_ahead a1 a2 a3 a8 a9 p0) := by unfold gx_X1_act_7; rw [if_neg c_1, if_pos c_2, if_neg c_4]
              have eg_8 : gx_X1_act_8 a1 a2 a3 a8 a9 p0 p1 = a8 := by unfold gx_X1_act_8; rw [if_neg c_1, if_pos c_2, if_neg c_4]
              have eg_9 : gx_X1_act_9 a1 a2 a3 a8 a9 a11 p0 p1 = 0 := by unfold gx_X1_act_9; rw [if_neg c_1, if_pos c_2, if_neg c_4, if_pos c_6, if_neg c_7, if_neg c_17]
              have eg_11 : gx_X1_act_11 a1 a2 a3 a8 a9 a11 p0 p1 = a11 := by unfold gx_X1_act_11; rw [if_neg c_1, if_pos c_2, if_neg c_4, if_pos c_6, if_neg c_7, if_neg c_17, if_pos c_18]
              have ef : fx_X1_act a1 a2 a3 a8 a9 a11 p0 p1 = fx_X1_ahead a1 a2 a3 a8 a9 p0 := by unfold fx_X1_act; rw [if_neg c_1, if_pos c_2, if_neg c_4]
              exact W.iret (v := fx_X1_ahead a1 a2 a3 a8 a9 p0) hx hb hr (fun t ht hW => ⟨⟨(fx_X1_ahead a1 a2 a3 a8 a9 p0), [(h0, .inr (1, [.int 0, .int a1, .int a2, .int a3, .int (gx_X1_told_4 (fx_X1_ahead a1 a2 a3 a8 a9 p0)), .int (gx_X1_told_5 p0), .int (gx_X1_told_6 a6 (fx_X1_ahead a1 a2 a3 a8 a9 p0)), .int (gx_X1_told_7 a7 (fx_X1_ahead a1 a2 a3 a8 a9 p0)), .int a8, .int 0, .int a10, .int a11, .ref h1]))], rfl, ⟨ef.symm, by rw [eg_0, eg_3, eg_4, eg_5, eg_6, eg_7, eg_8, eg_9, eg_11]⟩, by rw [ht]; exact hP9, va_K.moved hW.alike hK9, hD9⟩, hS.F ht⟩) hS.2.2 dX1_act_196
            refine lv_aload_n hx hb dX1_act_161 rfl (lv_at hl 3 rfl) ?_
            refine va_get (D := (dC, dI)) (ci := 1) (v := .int a8) (C := RX1) (T := TX1) (N := 13) hx hb hts (fun _ h => List.mem_cons_of_mem _ (List.mem_append_right _ h)) hown hK hP 0 rfl rfl 8 (by decide) (hts (.fieldLink RX1 23 "FileStatusModel" "isOpen" "Z") (by decide +kernel)) (fun _ h9 => h9) rfl dX1_act_162 ?_
            refine lv_if_ne (tgt := 175) hx hb dX1_act_165 (by decide) (fun c9 => absurd c_18 c9) (fun c9 => ?_)
            refine lv_aload_n hx hb dX1_act_168 rfl (lv_at hl 3 rfl) ?_
            refine va_get (D := (dC, dI)) (ci := 1) (v := .int a3) (C := RX1) (T := TX1) (N := 13) hx hb hts (fun _ h => List.mem_cons_of_mem _ (List.mem_append_right _ h)) hown hK hP 0 rfl rfl 3 (by decide) (hts (.fieldLink RX1 50 "FileStatusModel" "position" "I") (by decide +kernel)) (fun _ h9 => h9) rfl dX1_act_169 ?_
            refine lv_goto (tgt := 177) hx hb dX1_act_172 (by decide) ?_
            refine va_put (D := (dC, dI)) (ci := 1) (v := .int a3) (ty := .int) (C := RX1) (T := TX1) (N := 13) hx hb hts (fun _ h => List.mem_cons_of_mem _ (List.mem_append_right _ h)) tyX1 tyX1_ok nmX1 hown hK hP hD hS 0 rfl rfl 3 (by decide) (hts (.fieldLink RX1 50 "FileStatusModel" "position" "I") (by decide +kernel)) (fun _ h9 => h9) rfl (by decide +kernel) rfl rfl (Nat.le_of_ble_eq_true rfl) dX1_act_177 (fun H locs hP hD hS => ?_)
            have hP : va_P (dC, dI) vwCl [(h0, .inr (1, [.int 0, .int a1, .int a2, .int a3, .int (gx_X1_told_4 (fx_X1_ahead a1 a2 a3 a8 a9 p0)), .int (gx_X1_told_5 p0), .int (gx_X1_told_6 a6 (fx_X1_ahead a1 a2 a3 a8 a9 p0)), .int (gx_X1_told_7 a7 (fx_X1_ahead a1 a2 a3 a8 a9 p0)), .int a8, .int 0, .int a10, .int a11, .ref h1]))] H := hP
            have hD : va_D A [(h0, .inr (1, [.int 0, .int a1, .int a2, .int a3, .int (gx_X1_told_4 (fx_X1_ahead a1 a2 a3 a8 a9 p0)), .int (gx_X1_told_5 p0), .int (gx_X1_told_6 a6 (fx_X1_ahead a1 a2 a3 a8 a9 p0)), .int (gx_X1_told_7 a7 (fx_X1_ahead a1 a2 a3 a8 a9 p0)), .int a8, .int 0, .int a10, .int a11, .ref h1]))] := hD
            refine lv_iload_n hx hb dX1_act_180 rfl (lv_at hl 4 rfl) ?_
            refine lv_bipush (v := 6) hx hb dX1_act_181 (by decide) ?_
            refine lv_icmp_ne (tgt := 195) hx hb dX1_act_183 (by decide) (fun c9 => ?_) (fun c9 => absurd (c_6.symm.trans c9) (by decide))
            refine lv_iload_n hx hb dX1_act_195 rfl (lv_at hl 2 rfl) ?_
            have hP9 := hP.sub (ws' := [(h0, .inr (1, [.int 0, .int a1, .int a2, .int a3, .int (gx_X1_told_4 (fx_X1_ahead a1 a2 a3 a8 a9 p0)), .int (gx_X1_told_5 p0), .int (gx_X1_told_6 a6 (fx_X1_ahead a1 a2 a3 a8 a9 p0)), .int (gx_X1_told_7 a7 (fx_X1_ahead a1 a2 a3 a8 a9 p0)), .int a8, .int 0, .int a10, .int a11, .ref h1]))]) [0] rfl
            have hD9 := hD.sub (ws' := [(h0, .inr (1, [.int 0, .int a1, .int a2, .int a3, .int (gx_X1_told_4 (fx_X1_ahead a1 a2 a3 a8 a9 p0)), .int (gx_X1_told_5 p0), .int (gx_X1_told_6 a6 (fx_X1_ahead a1 a2 a3 a8 a9 p0)), .int (gx_X1_told_7 a7 (fx_X1_ahead a1 a2 a3 a8 a9 p0)), .int a8, .int 0, .int a10, .int a11, .ref h1]))]) [0] (by decide) rfl
            have hK9 := hK.sub (tys' := []) [] rfl
            have eg_0 : gx_X1_act_0 = 0 := by rfl
            have eg_3 : gx_X1_act_3 a1 a2 a3 a8 a9 a11 p0 p1 = a3 := by unfold gx_X1_act_3; rw [if_neg c_1, if_pos c_2, if_neg c_4, if_pos c_6, if_pos c_18]
            have eg_4 : gx_X1_act_4 a1 a2 a3 a4 a8 a9 a11 p0 p1 = gx_X1_told_4 (fx_X1_ahead a1 a2 a3 a8 a9 p0) := by unfold gx_X1_act_4; rw [if_neg c_1, if_pos c_2, if_neg c_4]
            have eg_5 : gx_X1_act_5 a5 p0 = gx_X1_told_5 p0 := by unfold gx_X1_act_5; rw [if_neg c_1, if_pos c_2]
            have eg_6 : gx_X1_act_6 a1 a2 a3 a6 a8 a9 a11 p0 p1 = gx_X1_told_6 a6 (fx_X1_ahead a1 a2 a3 a8 a9 p0) := by unfold gx_X1_act_6; rw [if_neg c_1, if_pos c_2, if_neg c_4]
            have eg_7 : gx_X1_act_7 a1 a2 a3 a7 a8 a9 a11 p0 p1 = gx_X1_told_7 a7 (fx_X1_ahead a1 a2 a3 a8 a9 p0) := by unfold gx_X1_act_7; rw [if_neg c_1, if_pos c_2, if_neg c_4]
            have eg_8 : gx_X1_act_8 a1 a2 a3 a8 a9 p0 p1 = a8 := by unfold gx_X1_act_8; rw [if_neg c_1, if_pos c_2, if_neg c_4]
            have eg_9 : gx_X1_act_9 a1 a2 a3 a8 a9 a11 p0 p1 = 0 := by unfold gx_X1_act_9; rw [if_neg c_1, if_pos c_2, if_neg c_4, if_pos c_6, if_neg c_7, if_neg c_17]
            have eg_11 : gx_X1_act_11 a1 a2 a3 a8 a9 a11 p0 p1 = a11 := by unfold gx_X1_act_11; rw [if_neg c_1, if_pos c_2, if_neg c_4, if_pos c_6, if_neg c_7, if_neg c_17, if_pos c_18]
            have ef : fx_X1_act a1 a2 a3 a8 a9 a11 p0 p1 = fx_X1_ahead a1 a2 a3 a8 a9 p0 := by unfold fx_X1_act; rw [if_neg c_1, if_pos c_2, if_neg c_4]
            exact W.iret (v := fx_X1_ahead a1 a2 a3 a8 a9 p0) hx hb hr (fun t ht hW => ⟨⟨(fx_X1_ahead a1 a2 a3 a8 a9 p0), [(h0, .inr (1, [.int 0, .int a1, .int a2, .int a3, .int (gx_X1_told_4 (fx_X1_ahead a1 a2 a3 a8 a9 p0)), .int (gx_X1_told_5 p0), .int (gx_X1_told_6 a6 (fx_X1_ahead a1 a2 a3 a8 a9 p0)), .int (gx_X1_told_7 a7 (fx_X1_ahead a1 a2 a3 a8 a9 p0)), .int a8, .int 0, .int a10, .int a11, .ref h1]))], rfl, ⟨ef.symm, by rw [eg_0, eg_3, eg_4, eg_5, eg_6, eg_7, eg_8, eg_9, eg_11]⟩, by rw [ht]; exact hP9, va_K.moved hW.alike hK9, hD9⟩, hS.F ht⟩) hS.2.2 dX1_act_196
          refine lv_aload_n hx hb dX1_act_101 rfl (lv_at hl 1 rfl) ?_
          have hPc := hP.sub (ws' := [(h0, .inr (1, [.int 0, .int a1, .int a2, .int a3, .int (gx_X1_told_4 (fx_X1_ahead a1 a2 a3 a8 a9 p0)), .int (gx_X1_told_5 p0), .int (gx_X1_told_6 a6 (fx_X1_ahead a1 a2 a3 a8 a9 p0)), .int (gx_X1_told_7 a7 (fx_X1_ahead a1 a2 a3 a8 a9 p0)), .int a8, .int 0, .int a10, .int a11, .ref h1]))]) [0] rfl
          have hDc := hD.sub (ws' := [(h0, .inr (1, [.int 0, .int a1, .int a2, .int a3, .int (gx_X1_told_4 (fx_X1_ahead a1 a2 a3 a8 a9 p0)), .int (gx_X1_told_5 p0), .int (gx_X1_told_6 a6 (fx_X1_ahead a1 a2 a3 a8 a9 p0)), .int (gx_X1_told_7 a7 (fx_X1_ahead a1 a2 a3 a8 a9 p0)), .int a8, .int 0, .int a10, .int a11, .ref h1]))]) [0] (by decide) rfl
          have hKc := hK.sub (tys' := []) [] rfl
          have hFc := va_free (wc := [(h0, .inr (1, [.int 0, .int a1, .int a2, .int a3, .int (gx_X1_told_4 (fx_X1_ahead a1 a2 a3 a8 a9 p0)), .int (gx_X1_told_5 p0), .int (gx_X1_told_6 a6 (fx_X1_ahead a1 a2 a3 a8 a9 p0)), .int (gx_X1_told_7 a7 (fx_X1_ahead a1 a2 a3 a8 a9 p0)), .int a8, .int 0, .int a10, .int a11, .ref h1]))]) hD hS hA [0] rfl
          refine va_calli (va_runV (As := []) (rest := []) ⟨hx, hb, hml, hown, hts⟩ (ct_X1_reads l dC dI h0 h1 H.size 0 a1 a2 a3 (gx_X1_told_4 (fx_X1_ahead a1 a2 a3 a8 a9 p0)) (gx_X1_told_5 p0) (gx_X1_told_6 a6 (fx_X1_ahead a1 a2 a3 a8 a9 p0)) (gx_X1_told_7 a7 (fx_X1_ahead a1 a2 a3 a8 a9 p0)) a8 0 a10 a11) (cwV 0 hts gX1_act_X1_reads rfl rfl rfl (by decide +kernel) ⟨Nat.le_of_ble_eq_true rfl, Nat.le_of_ble_eq_true rfl⟩) ⟨fun a U g mk q => by obtain ⟨q0, q1, qP, qK, qD⟩ := q; exact ⟨q0, q1, qP, va_K.moved (u := U) (U := U.calling g mk a) (Vm.Alike.refl U.vm) qK, qD⟩, va_recv hKc hPc (ci := 1) (q0 := 0) rfl rfl, fun U hU hW => ⟨rfl, by rw [hU], by rw [hU]; exact hPc, va_K.moved hW.alike hKc, hDc.weaken (fun _ _ _ _ => trivial)⟩⟩ rfl rfl hl.1 rfl (lv_room (Nat.le_of_ble_eq_true rfl)) dX1_act_102 ⟨(Nat.zero_le _), (Nat.zero_le _)⟩) hS (fun q _ h => hFc q h) hFc (fun r_21 u t H1 locs ht hvm hw hB hz1 hk1 hS => ?_)
          obtain ⟨er, hu⟩ := hw
          subst hu
          subst er
          obtain ⟨hP1, -, hD1⟩ := hB
          rw [ht] at hP1
          obtain ⟨hP, hD⟩ := va_join (wr := []) (w1 := [(h0, .inr (1, [.int 0, .int a1, .int a2, .int a3, .int (gx_X1_told_4 (fx_X1_ahead a1 a2 a3 a8 a9 p0)), .int (gx_X1_told_5 p0), .int (gx_X1_told_6 a6 (fx_X1_ahead a1 a2 a3 a8 a9 p0)), .int (gx_X1_told_7 a7 (fx_X1_ahead a1 a2 a3 a8 a9 p0)), .int a8, .int 0, .int a10, .int a11, .ref h1]))]) hP hD [0] [] rfl rfl (by decide) (by decide) hk1 hFc hP1 hD1
          generalize H1 = H at hP hS ⊢
          have hP : va_P (dC, dI) vwCl [(h0, .inr (1, [.int 0, .int a1, .int a2, .int a3, .int (gx_X1_told_4 (fx_X1_ahead a1 a2 a3 a8 a9 p0)), .int (gx_X1_told_5 p0), .int (gx_X1_told_6 a6 (fx_X1_ahead a1 a2 a3 a8 a9 p0)), .int (gx_X1_told_7 a7 (fx_X1_ahead a1 a2 a3 a8 a9 p0)), .int a8, .int 0, .int a10, .int a11, .ref h1]))] H := hP
          have hD : va_D A [(h0, .inr (1, [.int 0, .int a1, .int a2, .int a3, .int (gx_X1_told_4 (fx_X1_ahead a1 a2 a3 a8 a9 p0)), .int (gx_X1_told_5 p0), .int (gx_X1_told_6 a6 (fx_X1_ahead a1 a2 a3 a8 a9 p0)), .int (gx_X1_told_7 a7 (fx_X1_ahead a1 a2 a3 a8 a9 p0)), .int a8, .int 0, .int a10, .int a11, .ref h1]))] := hD
          refine lv_if_eq (tgt := 119) hx hb dX1_act_105 (by decide) (fun c_22 => ?_) (fun c_22 => ?_)
          · refine lv_iload_n hx hb dX1_act_119 rfl (lv_at hl 2 rfl) ?_
            refine lv_if_eq (tgt := 133) hx hb dX1_act_120 (by decide) (fun c9 => ?_) (fun c9 => absurd c_6 c9)
            refine lv_iconst (v := 1) hx hb dX1_act_133 (by decide) ?_
            refine lv_goto (tgt := 138) hx hb dX1_act_134 (by decide) ?_
            refine lv_istore (lv' := [(4, .int 1), (3, .int (fx_X1_ahead a1 a2 a3 a8 a9 p0)), (0, .ref h0), (1, .int p0), (2, .int p1)]) hx hb dX1_act_138 hl (by decide) rfl (fun ls hl => ?_)
            refine lv_iload hx hb dX1_act_140 (lv_at hl 0 rfl) ?_
            refine lv_if_eq (tgt := 152) hx hb dX1_act_142 (by decide) (fun c9 => absurd c9 (by decide)) (fun c9 => ?_)
            refine lv_iload_n hx hb dX1_act_145 rfl (lv_at hl 1 rfl) ?_
            have hPc := hP.sub (ws' := []) [] rfl
            have hDc := hD.sub (ws' := []) [] (by decide) rfl
            have hKc := hK.sub (tys' := []) [] rfl
            have hFc := va_free (wc := []) hD hS hA [] rfl
            refine va_calli (va_runS (As := [.int (fx_X1_ahead a1 a2 a3 a8 a9 p0)]) (rest := []) ⟨hx, hb, hml, hown, hts⟩ (ct_X1_moved l dC dI H.size (fx_X1_ahead a1 a2 a3 a8 a9 p0)) (va_cwS 1 hts gX1_act_X1_moved rfl rfl rfl (by decide +kernel) ⟨Nat.le_of_ble_eq_true rfl, Nat.le_of_ble_eq_true rfl⟩) ⟨fun a U g mk q => by obtain ⟨q0, q1, qP, qK, qD⟩ := q; exact ⟨q0, q1, qP, va_K.moved (u := U) (U := U.calling g mk a) (Vm.Alike.refl U.vm) qK, qD⟩, fun U hU hW => ⟨rfl, by rw [hU], by rw [hU]; exact hPc, va_K.moved hW.alike hKc, hDc.weaken (fun _ _ _ _ => trivial)⟩⟩ rfl rfl hl.1 rfl (lv_room (Nat.le_of_ble_eq_true rfl)) dX1_act_146 ⟨(Nat.zero_le _), (Nat.zero_le _)⟩) hS (fun q _ h => hFc q h) hFc (fun r_23 u t H1 locs ht hvm hw hB hz1 hk1 hS => ?_)
            obtain ⟨er, hu⟩ := hw
            subst hu
            subst er
            obtain ⟨hP1, -, hD1⟩ := hB
            rw [ht] at hP1
            obtain ⟨hP, hD⟩ := va_join (wr := [(h0, .inr (1, [.int 0, .int a1, .int a2, .int a3, .int (gx_X1_told_4 (fx_X1_ahead a1 a2 a3 a8 a9 p0)), .int (gx_X1_told_5 p0), .int (gx_X1_told_6 a6 (fx_X1_ahead a1 a2 a3 a8 a9 p0)), .int (gx_X1_told_7 a7 (fx_X1_ahead a1 a2 a3 a8 a9 p0)), .int a8, .int 0, .int a10, .int a11, .ref h1]))]) (w1 := []) hP hD [] [0] rfl rfl (by decide) (by decide) hk1 hFc hP1 hD1
            generalize H1 = H at hP hS ⊢
            have hP : va_P (dC, dI) vwCl [(h0, .inr (1, [.int 0, .int a1, .int a2, .int a3, .int (gx_X1_told_4 (fx_X1_ahead a1 a2 a3 a8 a9 p0)), .int (gx_X1_told_5 p0), .int (gx_X1_told_6 a6 (fx_X1_ahead a1 a2 a3 a8 a9 p0)), .int (gx_X1_told_7 a7 (fx_X1_ahead a1 a2 a3 a8 a9 p0)), .int a8, .int 0, .int a10, .int a11, .ref h1]))] H := hP
            have hD : va_D A [(h0, .inr (1, [.int 0, .int a1, .int a2, .int a3, .int (gx_X1_told_4 (fx_X1_ahead a1 a2 a3 a8 a9 p0)), .int (gx_X1_told_5 p0), .int (gx_X1_told_6 a6 (fx_X1_ahead a1 a2 a3 a8 a9 p0)), .int (gx_X1_told_7 a7 (fx_X1_ahead a1 a2 a3 a8 a9 p0)), .int a8, .int 0, .int a10, .int a11, .ref h1]))] := hD
            refine lv_goto (tgt := 153) hx hb dX1_act_149 (by decide) ?_
            refine lv_istore (lv' := [(5, .int (fx_X1_moved (fx_X1_ahead a1 a2 a3 a8 a9 p0))), (4, .int 1), (3, .int (fx_X1_ahead a1 a2 a3 a8 a9 p0)), (0, .ref h0), (1, .int p0), (2, .int p1)]) hx hb dX1_act_153 hl (by decide) rfl (fun ls hl => ?_)
            refine lv_aload_n hx hb dX1_act_155 rfl (lv_at hl 3 rfl) ?_
            refine lv_iload hx hb dX1_act_156 (lv_at hl 0 rfl) ?_
            refine lv_if_eq (tgt := 168) hx hb dX1_act_158 (by decide) (fun c_24 => ?_) (fun c_24 => ?_)
            · refine lv_aload_n hx hb dX1_act_168 rfl (lv_at hl 3 rfl) ?_
              refine va_get (D := (dC, dI)) (ci := 1) (v := .int a3) (C := RX1) (T := TX1) (N := 13) hx hb hts (fun _ h => List.mem_cons_of_mem _ (List.mem_append_right _ h)) hown hK hP 0 rfl rfl 3 (by decide) (hts (.fieldLink RX1 50 "FileStatusModel" "position" "I") (by decide +kernel)) (fun _ h9 => h9) rfl dX1_act_169 ?_
              refine lv_goto (tgt := 177) hx hb dX1_act_172 (by decide) ?_
              refine va_put (D := (dC, dI)) (ci := 1) (v := .int a3) (ty := .int) (C := RX1) (T := TX1) (N := 13) hx hb hts (fun _ h => List.mem_cons_of_mem _ (List.mem_append_right _ h)) tyX1 tyX1_ok nmX1 hown hK hP hD hS 0 rfl rfl 3 (by decide) (hts (.fieldLink RX1 50 "FileStatusModel" "position" "I") (by decide +kernel)) (fun _ h9 => h9) rfl (by decide +kernel) rfl rfl (Nat.le_of_ble_eq_true rfl) dX1_act_177 (fun H locs hP hD hS => ?_)
              have hP : va_P (dC, dI) vwCl [(h0, .inr (1, [.int 0, .int a1, .int a2, .int a3, .int (gx_X1_told_4 (fx_X1_ahead a1 a2 a3 a8 a9 p0)), .int (gx_X1_told_5 p0), .int (gx_X1_told_6 a6 (fx_X1_ahead a1 a2 a3 a8 a9 p0)), .int (gx_X1_told_7 a7 (fx_X1_ahead a1 a2 a3 a8 a9 p0)), .int a8, .int 0, .int a10, .int a11, .ref h1]))] H := hP
              have hD : va_D A [(h0, .inr (1, [.int 0, .int a1, .int a2, .int a3, .int (gx_X1_told_4 (fx_X1_ahead a1 a2 a3 a8 a9 p0)), .int (gx_X1_told_5 p0), .int (gx_X1_told_6 a6 (fx_X1_ahead a1 a2 a3 a8 a9 p0)), .int (gx_X1_told_7 a7 (fx_X1_ahead a1 a2 a3 a8 a9 p0)), .int a8, .int 0, .int a10, .int a11, .ref h1]))] := hD
              refine lv_iload_n hx hb dX1_act_180 rfl (lv_at hl 4 rfl) ?_
              refine lv_bipush (v := 6) hx hb dX1_act_181 (by decide) ?_
              refine lv_icmp_ne (tgt := 195) hx hb dX1_act_183 (by decide) (fun c9 => ?_) (fun c9 => absurd (c_6.symm.trans c9) (by decide))
              refine lv_iload_n hx hb dX1_act_195 rfl (lv_at hl 2 rfl) ?_
              have hP9 := hP.sub (ws' := [(h0, .inr (1, [.int 0, .int a1, .int a2, .int a3, .int (gx_X1_told_4 (fx_X1_ahead a1 a2 a3 a8 a9 p0)), .int (gx_X1_told_5 p0), .int (gx_X1_told_6 a6 (fx_X1_ahead a1 a2 a3 a8 a9 p0)), .int (gx_X1_told_7 a7 (fx_X1_ahead a1 a2 a3 a8 a9 p0)), .int a8, .int 0, .int a10, .int a11, .ref h1]))]) [0] rfl
              have hD9 := hD.sub (ws' := [(h0, .inr (1, [.int 0, .int a1, .int a2, .int a3, .int (gx_X1_told_4 (fx_X1_ahead a1 a2 a3 a8 a9 p0)), .int (gx_X1_told_5 p0), .int (gx_X1_told_6 a6 (fx_X1_ahead a1 a2 a3 a8 a9 p0)), .int (gx_X1_told_7 a7 (fx_X1_ahead a1 a2 a3 a8 a9 p0)), .int a8, .int 0, .int a10, .int a11, .ref h1]))]) [0] (by decide) rfl
              have hK9 := hK.sub (tys' := []) [] rfl
              have eg_0 : gx_X1_act_0 = 0 := by rfl
              have eg_3 : gx_X1_act_3 a1 a2 a3 a8 a9 a11 p0 p1 = a3 := by unfold gx_X1_act_3; rw [if_neg c_1, if_pos c_2, if_neg c_4, if_pos c_6, if_neg c_18, if_pos c_24]
              have eg_4 : gx_X1_act_4 a1 a2 a3 a4 a8 a9 a11 p0 p1 = gx_X1_told_4 (fx_X1_ahead a1 a2 a3 a8 a9 p0) := by unfold gx_X1_act_4; rw [if_neg c_1, if_pos c_2, if_neg c_4]
              have eg_5 : gx_X1_act_5 a5 p0 = gx_X1_told_5 p0 := by unfold gx_X1_act_5; rw [if_neg c_1, if_pos c_2]
              have eg_6 : gx_X1_act_6 a1 a2 a3 a6 a8 a9 a11 p0 p1 = gx_X1_told_6 a6 (fx_X1_ahead a1 a2 a3 a8 a9 p0) := by unfold gx_X1_act_6; rw [if_neg c_1, if_pos c_2, if_neg c_4]
              have eg_7 : gx_X1_act_7 a1 a2 a3 a7 a8 a9 a11 p0 p1 = gx_X1_told_7 a7 (fx_X1_ahead a1 a2 a3 a8 a9 p0) := by unfold gx_X1_act_7; rw [if_neg c_1, if_pos c_2, if_neg c_4]
              have eg_8 : gx_X1_act_8 a1 a2 a3 a8 a9 p0 p1 = a8 := by unfold gx_X1_act_8; rw [if_neg c_1, if_pos c_2, if_neg c_4]
              have eg_9 : gx_X1_act_9 a1 a2 a3 a8 a9 a11 p0 p1 = 0 := by unfold gx_X1_act_9; rw [if_neg c_1, if_pos c_2, if_neg c_4, if_pos c_6, if_neg c_7, if_neg c_17]
              have eg_11 : gx_X1_act_11 a1 a2 a3 a8 a9 a11 p0 p1 = a11 := by unfold gx_X1_act_11; rw [if_neg c_1, if_pos c_2, if_neg c_4, if_pos c_6, if_neg c_7, if_neg c_17, if_neg c_18, if_pos c_22]
              have ef : fx_X1_act a1 a2 a3 a8 a9 a11 p0 p1 = fx_X1_ahead a1 a2 a3 a8 a9 p0 := by unfold fx_X1_act; rw [if_neg c_1, if_pos c_2, if_neg c_4]
              exact W.iret (v := fx_X1_ahead a1 a2 a3 a8 a9 p0) hx hb hr (fun t ht hW => ⟨⟨(fx_X1_ahead a1 a2 a3 a8 a9 p0), [(h0, .inr (1, [.int 0, .int a1, .int a2, .int a3, .int (gx_X1_told_4 (fx_X1_ahead a1 a2 a3 a8 a9 p0)), .int (gx_X1_told_5 p0), .int (gx_X1_told_6 a6 (fx_X1_ahead a1 a2 a3 a8 a9 p0)), .int (gx_X1_told_7 a7 (fx_X1_ahead a1 a2 a3 a8 a9 p0)), .int a8, .int 0, .int a10, .int a11, .ref h1]))], rfl, ⟨ef.symm, by rw [eg_0, eg_3, eg_4, eg_5, eg_6, eg_7, eg_8, eg_9, eg_11]⟩, by rw [ht]; exact hP9, va_K.moved hW.alike hK9, hD9⟩, hS.F ht⟩) hS.2.2 dX1_act_196
            refine lv_aload_n hx hb dX1_act_161 rfl (lv_at hl 3 rfl) ?_
            refine va_get (D := (dC, dI)) (ci := 1) (v := .int a8) (C := RX1) (T := TX1) (N := 13) hx hb hts (fun _ h => List.mem_cons_of_mem _ (List.mem_append_right _ h)) hown hK hP 0 rfl rfl 8 (by decide) (hts (.fieldLink RX1 23 "FileStatusModel" "isOpen" "Z") (by decide +kernel)) (fun _ h9 => h9) rfl dX1_act_162 ?_
            refine lv_if_ne (tgt := 175) hx hb dX1_act_165 (by decide) (fun c9 => ?_) (fun c9 => absurd c9 c_18)
            refine lv_iload hx hb dX1_act_175 (lv_at hl 0 rfl) ?_
            refine va_put (D := (dC, dI)) (ci := 1) (v := .int (fx_X1_moved (fx_X1_ahead a1 a2 a3 a8 a9 p0))) (ty := .int) (C := RX1) (T := TX1) (N := 13) hx hb hts (fun _ h => List.mem_cons_of_mem _ (List.mem_append_right _ h)) tyX1 tyX1_ok nmX1 hown hK hP hD hS 0 rfl rfl 3 (by decide) (hts (.fieldLink RX1 50 "FileStatusModel" "position" "I") (by decide +kernel)) (fun _ h9 => h9) rfl (by decide +kernel) rfl rfl (Nat.le_of_ble_eq_true rfl) dX1_act_177 (fun H locs hP hD hS => ?_)
            have hP : va_P (dC, dI) vwCl [(h0, .inr (1, [.int 0, .int a1, .int a2, .int (fx_X1_moved (fx_X1_ahead a1 a2 a3 a8 a9 p0)), .int (gx_X1_told_4 (fx_X1_ahead a1 a2 a3 a8 a9 p0)), .int (gx_X1_told_5 p0), .int (gx_X1_told_6 a6 (fx_X1_ahead a1 a2 a3 a8 a9 p0)), .int (gx_X1_told_7 a7 (fx_X1_ahead a1 a2 a3 a8 a9 p0)), .int a8, .int 0, .int a10, .int a11, .ref h1]))] H := hP
            have hD : va_D A [(h0, .inr (1, [.int 0, .int a1, .int a2, .int (fx_X1_moved (fx_X1_ahead a1 a2 a3 a8 a9 p0)), .int (gx_X1_told_4 (fx_X1_ahead a1 a2 a3 a8 a9 p0)), .int (gx_X1_told_5 p0), .int (gx_X1_told_6 a6 (fx_X1_ahead a1 a2 a3 a8 a9 p0)), .int (gx_X1_told_7 a7 (fx_X1_ahead a1 a2 a3 a8 a9 p0)), .int a8, .int 0, .int a10, .int a11, .ref h1]))] := hD
            refine lv_iload_n hx hb dX1_act_180 rfl (lv_at hl 4 rfl) ?_
            refine lv_bipush (v := 6) hx hb dX1_act_181 (by decide) ?_
            refine lv_icmp_ne (tgt := 195) hx hb dX1_act_183 (by decide) (fun c9 => ?_) (fun c9 => absurd (c_6.symm.trans c9) (by decide))
            refine lv_iload_n hx hb dX1_act_195 rfl (lv_at hl 2 rfl) ?_
            have hP9 := hP.sub (ws' := [(h0, .inr (1, [.int 0, .int a1, .int a2, .int (fx_X1_moved (fx_X1_ahead a1 a2 a3 a8 a9 p0)), .int (gx_X1_told_4 (fx_X1_ahead a1 a2 a3 a8 a9 p0)), .int (gx_X1_told_5 p0), .int (gx_X1_told_6 a6 (fx_X1_ahead a1 a2 a3 a8 a9 p0)), .int (gx_X1_told_7 a7 (fx_X1_ahead a1 a2 a3 a8 a9 p0)), .int a8, .int 0, .int a10, .int a11, .ref h1]))]) [0] rfl
            have hD9 := hD.sub (ws' := [(h0, .inr (1, [.int 0, .int a1, .int a2, .int (fx_X1_moved (fx_X1_ahead a1 a2 a3 a8 a9 p0)), .int (gx_X1_told_4 (fx_X1_ahead a1 a2 a3 a8 a9 p0)), .int (gx_X1_told_5 p0), .int (gx_X1_told_6 a6 (fx_X1_ahead a1 a2 a3 a8 a9 p0)), .int (gx_X1_told_7 a7 (fx_X1_ahead a1 a2 a3 a8 a9 p0)), .int a8, .int 0, .int a10, .int a11, .ref h1]))]) [0] (by decide) rfl
            have hK9 := hK.sub (tys' := []) [] rfl
            have eg_0 : gx_X1_act_0 = 0 := by rfl
            have eg_3 : gx_X1_act_3 a1 a2 a3 a8 a9 a11 p0 p1 = fx_X1_moved (fx_X1_ahead a1 a2 a3 a8 a9 p0) := by unfold gx_X1_act_3; rw [if_neg c_1, if_pos c_2, if_neg c_4, if_pos c_6, if_neg c_18, if_neg c_24]
            have eg_4 : gx_X1_act_4 a1 a2 a3 a4 a8 a9 a11 p0 p1 = gx_X1_told_4 (fx_X1_ahead a1 a2 a3 a8 a9 p0) := by unfold gx_X1_act_4; rw [if_neg c_1, if_pos c_2, if_neg c_4]
            have eg_5 : gx_X1_act_5 a5 p0 = gx_X1_told_5 p0 := by unfold gx_X1_act_5; rw [if_neg c_1, if_pos c_2]
            have eg_6 : gx_X1_act_6 a1 a2 a3 a6 a8 a9 a11 p0 p1 = gx_X1_told_6 a6 (fx_X1_ahead a1 a2 a3 a8 a9 p0) := by unfold gx_X1_act_6; rw [if_neg c_1, if_pos c_2, if_neg c_4]
            have eg_7 : gx_X1_act_7 a1 a2 a3 a7 a8 a9 a11 p0 p1 = gx_X1_told_7 a7 (fx_X1_ahead a1 a2 a3 a8 a9 p0) := by unfold gx_X1_act_7; rw [if_neg c_1, if_pos c_2, if_neg c_4]
            have eg_8 : gx_X1_act_8 a1 a2 a3 a8 a9 p0 p1 = a8 := by unfold gx_X1_act_8; rw [if_neg c_1, if_pos c_2, if_neg c_4]
            have eg_9 : gx_X1_act_9 a1 a2 a3 a8 a9 a11 p0 p1 = 0 := by unfold gx_X1_act_9; rw [if_neg c_1, if_pos c_2, if_neg c_4, if_pos c_6, if_neg c_7, if_neg c_17]
            have eg_11 : gx_X1_act_11 a1 a2 a3 a8 a9 a11 p0 p1 = a11 := by unfold gx_X1_act_11; rw [if_neg c_1, if_pos c_2, if_neg c_4, if_pos c_6, if_neg c_7, if_neg c_17, if_neg c_18, if_pos c_22]
            have ef : fx_X1_act a1 a2 a3 a8 a9 a11 p0 p1 = fx_X1_ahead a1 a2 a3 a8 a9 p0 := by unfold fx_X1_act; rw [if_neg c_1, if_pos c_2, if_neg c_4]
            exact W.iret (v := fx_X1_ahead a1 a2 a3 a8 a9 p0) hx hb hr (fun t ht hW => ⟨⟨(fx_X1_ahead a1 a2 a3 a8 a9 p0), [(h0, .inr (1, [.int 0, .int a1, .int a2, .int (fx_X1_moved (fx_X1_ahead a1 a2 a3 a8 a9 p0)), .int (gx_X1_told_4 (fx_X1_ahead a1 a2 a3 a8 a9 p0)), .int (gx_X1_told_5 p0), .int (gx_X1_told_6 a6 (fx_X1_ahead a1 a2 a3 a8 a9 p0)), .int (gx_X1_told_7 a7 (fx_X1_ahead a1 a2 a3 a8 a9 p0)), .int a8, .int 0, .int a10, .int a11, .ref h1]))], rfl, ⟨ef.symm, by rw [eg_0, eg_3, eg_4, eg_5, eg_6, eg_7, eg_8, eg_9, eg_11]⟩, by rw [ht]; exact hP9, va_K.moved hW.alike hK9, hD9⟩, hS.F ht⟩) hS.2.2 dX1_act_196
          refine lv_iload_n hx hb dX1_act_108 rfl (lv_at hl 0 rfl) ?_
          refine lv_bipush (v := 10) hx hb dX1_act_109 (by decide) ?_
          refine lv_icmp_ne (tgt := 119) hx hb dX1_act_111 (by decide) (fun c_25 => ?_) (fun c_25 => ?_)
          · refine lv_iload_n hx hb dX1_act_119 rfl (lv_at hl 2 rfl) ?_
            refine lv_if_eq (tgt := 133) hx hb dX1_act_120 (by decide) (fun c9 => ?_) (fun c9 => absurd c_6 c9)
            refine lv_iconst (v := 1) hx hb dX1_act_133 (by decide) ?_
            refine lv_goto (tgt := 138) hx hb dX1_act_134 (by decide) ?_
            refine lv_istore (lv' := [(4, .int 1), (3, .int (fx_X1_ahead a1 a2 a3 a8 a9 p0)), (0, .ref h0), (1, .int p0), (2, .int p1)]) hx hb dX1_act_138 hl (by decide) rfl (fun ls hl => ?_)
            refine lv_iload hx hb dX1_act_140 (lv_at hl 0 rfl) ?_
            refine lv_if_eq (tgt := 152) hx hb dX1_act_142 (by decide) (fun c9 => absurd c9 (by decide)) (fun c9 => ?_)
            refine lv_iload_n hx hb dX1_act_145 rfl (lv_at hl 1 rfl) ?_
            have hPc := hP.sub (ws' := []) [] rfl
            have hDc := hD.sub (ws' := []) [] (by decide) rfl
            have hKc := hK.sub (tys' := []) [] rfl
            have hFc := va_free (wc := []) hD hS hA [] rfl
            refine va_calli (va_runS (As := [.int (fx_X1_ahead a1 a2 a3 a8 a9 p0)]) (rest := []) ⟨hx, hb, hml, hown, hts⟩ (ct_X1_moved l dC dI H.size (fx_X1_ahead a1 a2 a3 a8 a9 p0)) (va_cwS 1 hts gX1_act_X1_moved rfl rfl rfl (by decide +kernel) ⟨Nat.le_of_ble_eq_true rfl, Nat.le_of_ble_eq_true rfl⟩) ⟨fun a U g mk q => by obtain ⟨q0, q1, qP, qK, qD⟩ := q; exact ⟨q0, q1, qP, va_K.moved (u := U) (U := U.calling g mk a) (Vm.Alike.refl U.vm) qK, qD⟩, fun U hU hW => ⟨rfl, by rw [hU], by rw [hU]; exact hPc, va_K.moved hW.alike hKc, hDc.weaken (fun _ _ _ _ => trivial)⟩⟩ rfl rfl hl.1 rfl (lv_room (Nat.le_of_ble_eq_true rfl)) dX1_act_146 ⟨(Nat.zero_le _), (Nat.zero_le _)⟩) hS (fun q _ h => hFc q h) hFc (fun r_26 u t H1 locs ht hvm hw hB hz1 hk1 hS => ?_)
            obtain ⟨er, hu⟩ := hw
            subst hu
            subst er
            obtain ⟨hP1, -, hD1⟩ := hB
            rw [ht] at hP1
            obtain ⟨hP, hD⟩ := va_join (wr := [(h0, .inr (1, [.int 0, .int a1, .int a2, .int a3, .int (gx_X1_told_4 (fx_X1_ahead a1 a2 a3 a8 a9 p0)), .int (gx_X1_told_5 p0), .int (gx_X1_told_6 a6 (fx_X1_ahead a1 a2 a3 a8 a9 p0)), .int (gx_X1_told_7 a7 (fx_X1_ahead a1 a2 a3 a8 a9 p0)), .int a8, .int 0, .int a10, .int a11, .ref h1]))]) (w1 := []) hP hD [] [0] rfl rfl (by decide) (by decide) hk1 hFc hP1 hD1
            generalize H1 = H at hP hS ⊢
            have hP : va_P (dC, dI) vwCl [(h0, .inr (1, [.int 0, .int a1, .int a2, .int a3, .int (gx_X1_told_4 (fx_X1_ahead a1 a2 a3 a8 a9 p0)), .int (gx_X1_told_5 p0), .int (gx_X1_told_6 a6 (fx_X1_ahead a1 a2 a3 a8 a9 p0)), .int (gx_X1_told_7 a7 (fx_X1_ahead a1 a2 a3 a8 a9 p0)), .int a8, .int 0, .int a10, .int a11, .ref h1]))] H := hP
            have hD : va_D A [(h0, .inr (1, [.int 0, .int a1, .int a2, .int a3, .int (gx_X1_told_4 (fx_X1_ahead a1 a2 a3 a8 a9 p0)), .int (gx_X1_told_5 p0), .int (gx_X1_told_6 a6 (fx_X1_ahead a1 a2 a3 a8 a9 p0)), .int (gx_X1_told_7 a7 (fx_X1_ahead a1 a2 a3 a8 a9 p0)), .int a8, .int 0, .int a10, .int a11, .ref h1]))] := hD
            refine lv_goto (tgt := 153) hx hb dX1_act_149 (by decide) ?_
            refine lv_istore (lv' := [(5, .int (fx_X1_moved (fx_X1_ahead a1 a2 a3 a8 a9 p0))), (4, .int 1), (3, .int (fx_X1_ahead a1 a2 a3 a8 a9 p0)), (0, .ref h0), (1, .int p0), (2, .int p1)]) hx hb dX1_act_153 hl (by decide) rfl (fun ls hl => ?_)
            refine lv_aload_n hx hb dX1_act_155 rfl (lv_at hl 3 rfl) ?_
            refine lv_iload hx hb dX1_act_156 (lv_at hl 0 rfl) ?_
            refine lv_if_eq (tgt := 168) hx hb dX1_act_158 (by decide) (fun c_27 => ?_) (fun c_27 => ?_)
            · refine lv_aload_n hx hb dX1_act_168 rfl (lv_at hl 3 rfl) ?_
              refine va_get (D := (dC, dI)) (ci := 1) (v := .int a3) (C := RX1) (T := TX1) (N := 13) hx hb hts (fun _ h => List.mem_cons_of_mem _ (List.mem_append_right _ h)) hown hK hP 0 rfl rfl 3 (by decide) (hts (.fieldLink RX1 50 "FileStatusModel" "position" "I") (by decide +kernel)) (fun _ h9 => h9) rfl dX1_act_169 ?_
              refine lv_goto (tgt := 177) hx hb dX1_act_172 (by decide) ?_
              refine va_put (D := (dC, dI)) (ci := 1) (v := .int a3) (ty := .int) (C := RX1) (T := TX1) (N := 13) hx hb hts (fun _ h => List.mem_cons_of_mem _ (List.mem_append_right _ h)) tyX1 tyX1_ok nmX1 hown hK hP hD hS 0 rfl rfl 3 (by decide) (hts (.fieldLink RX1 50 "FileStatusModel" "position" "I") (by decide +kernel)) (fun _ h9 => h9) rfl (by decide +kernel) rfl rfl (Nat.le_of_ble_eq_true rfl) dX1_act_177 (fun H locs hP hD hS => ?_)
              have hP : va_P (dC, dI) vwCl [(h0, .inr (1, [.int 0, .int a1, .int a2, .int a3, .int (gx_X1_told_4 (fx_X1_ahead a1 a2 a3 a8 a9 p0)), .int (gx_X1_told_5 p0), .int (gx_X1_told_6 a6 (fx_X1_ahead a1 a2 a3 a8 a9 p0)), .int (gx_X1_told_7 a7 (fx_X1_ahead a1 a2 a3 a8 a9 p0)), .int a8, .int 0, .int a10, .int a11, .ref h1]))] H := hP
              have hD : va_D A [(h0, .inr (1, [.int 0, .int a1, .int a2, .int a3, .int (gx_X1_told_4 (fx_X1_ahead a1 a2 a3 a8 a9 p0)), .int (gx_X1_told_5 p0), .int (gx_X1_told_6 a6 (fx_X1_ahead a1 a2 a3 a8 a9 p0)), .int (gx_X1_told_7 a7 (fx_X1_ahead a1 a2 a3 a8 a9 p0)), .int a8, .int 0, .int a10, .int a11, .ref h1]))] := hD
              refine lv_iload_n hx hb dX1_act_180 rfl (lv_at hl 4 rfl) ?_
              refine lv_bipush (v := 6) hx hb dX1_act_181 (by decide) ?_
              refine lv_icmp_ne (tgt := 195) hx hb dX1_act_183 (by decide) (fun c9 => ?_) (fun c9 => absurd (c_6.symm.trans c9) (by decide))
              refine lv_iload_n hx hb dX1_act_195 rfl (lv_at hl 2 rfl) ?_
              have hP9 := hP.sub (ws' := [(h0, .inr (1, [.int 0, .int a1, .int a2, .int a3, .int (gx_X1_told_4 (fx_X1_ahead a1 a2 a3 a8 a9 p0)), .int (gx_X1_told_5 p0), .int (gx_X1_told_6 a6 (fx_X1_ahead a1 a2 a3 a8 a9 p0)), .int (gx_X1_told_7 a7 (fx_X1_ahead a1 a2 a3 a8 a9 p0)), .int a8, .int 0, .int a10, .int a11, .ref h1]))]) [0] rfl
              have hD9 := hD.sub (ws' := [(h0, .inr (1, [.int 0, .int a1, .int a2, .int a3, .int (gx_X1_told_4 (fx_X1_ahead a1 a2 a3 a8 a9 p0)), .int (gx_X1_told_5 p0), .int (gx_X1_told_6 a6 (fx_X1_ahead a1 a2 a3 a8 a9 p0)), .int (gx_X1_told_7 a7 (fx_X1_ahead a1 a2 a3 a8 a9 p0)), .int a8, .int 0, .int a10, .int a11, .ref h1]))]) [0] (by decide) rfl
              have hK9 := hK.sub (tys' := []) [] rfl
              have eg_0 : gx_X1_act_0 = 0 := by rfl
              have eg_3 : gx_X1_act_3 a1 a2 a3 a8 a9 a11 p0 p1 = a3 := by unfold gx_X1_act_3; rw [if_neg c_1, if_pos c_2, if_neg c_4, if_pos c_6, if_neg c_18, if_pos c_27]
              have eg_4 : gx_X1_act_4 a1 a2 a3 a4 a8 a9 a11 p0 p1 = gx_X1_told_4 (fx_X1_ahead a1 a2 a3 a8 a9 p0) := by unfold gx_X1_act_4; rw [if_neg c_1, if_pos c_2, if_neg c_4]
              have eg_5 : gx_X1_act_5 a5 p0 = gx_X1_told_5 p0 := by unfold gx_X1_act_5; rw [if_neg c_1, if_pos c_2]
              have eg_6 : gx_X1_act_6 a1 a2 a3 a6 a8 a9 a11 p0 p1 = gx_X1_told_6 a6 (fx_X1_ahead a1 a2 a3 a8 a9 p0) := by unfold gx_X1_act_6; rw [if_neg c_1, if_pos c_2, if_neg c_4]
              have eg_7 : gx_X1_act_7 a1 a2 a3 a7 a8 a9 a11 p0 p1 = gx_X1_told_7 a7 (fx_X1_ahead a1 a2 a3 a8 a9 p0) := by unfold gx_X1_act_7; rw [if_neg c_1, if_pos c_2, if_neg c_4]
              have eg_8 : gx_X1_act_8 a1 a2 a3 a8 a9 p0 p1 = a8 := by unfold gx_X1_act_8; rw [if_neg c_1, if_pos c_2, if_neg c_4]
              have eg_9 : gx_X1_act_9 a1 a2 a3 a8 a9 a11 p0 p1 = 0 := by unfold gx_X1_act_9; rw [if_neg c_1, if_pos c_2, if_neg c_4, if_pos c_6, if_neg c_7, if_neg c_17]
              have eg_11 : gx_X1_act_11 a1 a2 a3 a8 a9 a11 p0 p1 = a11 := by unfold gx_X1_act_11; rw [if_neg c_1, if_pos c_2, if_neg c_4, if_pos c_6, if_neg c_7, if_neg c_17, if_neg c_18, if_neg c_22, if_neg c_25]
              have ef : fx_X1_act a1 a2 a3 a8 a9 a11 p0 p1 = fx_X1_ahead a1 a2 a3 a8 a9 p0 := by unfold fx_X1_act; rw [if_neg c_1, if_pos c_2, if_neg c_4]
              exact W.iret (v := fx_X1_ahead a1 a2 a3 a8 a9 p0) hx hb hr (fun t ht hW => ⟨⟨(fx_X1_ahead a1 a2 a3 a8 a9 p0), [(h0, .inr (1, [.int 0, .int a1, .int a2, .int a3, .int (gx_X1_told_4 (fx_X1_ahead a1 a2 a3 a8 a9 p0)), .int (gx_X1_told_5 p0), .int (gx_X1_told_6 a6 (fx_X1_ahead a1 a2 a3 a8 a9 p0)), .int (gx_X1_told_7 a7 (fx_X1_ahead a1 a2 a3 a8 a9 p0)), .int a8, .int 0, .int a10, .int a11, .ref h1]))], rfl, ⟨ef.symm, by rw [eg_0, eg_3, eg_4, eg_5, eg_6, eg_7, eg_8, eg_9, eg_11]⟩, by rw [ht]; exact hP9, va_K.moved hW.alike hK9, hD9⟩, hS.F ht⟩) hS.2.2 dX1_act_196
            refine lv_aload_n hx hb dX1_act_161 rfl (lv_at hl 3 rfl) ?_
            refine va_get (D := (dC, dI)) (ci := 1) (v := .int a8) (C := RX1) (T := TX1) (N := 13) hx hb hts (fun _ h => List.mem_cons_of_mem _ (List.mem_append_right _ h)) hown hK hP 0 rfl rfl 8 (by decide) (hts (.fieldLink RX1 23 "FileStatusModel" "isOpen" "Z") (by decide +kernel)) (fun _ h9 => h9) rfl dX1_act_162 ?_
            refine lv_if_ne (tgt := 175) hx hb dX1_act_165 (by decide) (fun c9 => ?_) (fun c9 => absurd c9 c_18)
            refine lv_iload hx hb dX1_act_175 (lv_at hl 0 rfl) ?_
            refine va_put (D := (dC, dI)) (ci := 1) (v := .int (fx_X1_moved (fx_X1_ahead a1 a2 a3 a8 a9 p0))) (ty := .int) (C := RX1) (T := TX1) (N := 13) hx hb hts (fun _ h => List.mem_cons_of_mem _ (List.mem_append_right _ h)) tyX1 tyX1_ok nmX1 hown hK hP hD hS 0 rfl rfl 3 (by decide) (hts (.fieldLink RX1 50 "FileStatusModel" "position" "I") (by decide +kernel)) (fun _ h9 => h9) rfl (by decide +kernel) rfl rfl (Nat.le_of_ble_eq_true rfl) dX1_act_177 (fun H locs hP hD hS => ?_)
            have hP : va_P (dC, dI) vwCl [(h0, .inr (1, [.int 0, .int a1, .int a2, .int (fx_X1_moved (fx_X1_ahead a1 a2 a3 a8 a9 p0)), .int (gx_X1_told_4 (fx_X1_ahead a1 a2 a3 a8 a9 p0)), .int (gx_X1_told_5 p0), .int (gx_X1_told_6 a6 (fx_X1_ahead a1 a2 a3 a8 a9 p0)), .int (gx_X1_told_7 a7 (fx_X1_ahead a1 a2 a3 a8 a9 p0)), .int a8, .int 0, .int a10, .int a11, .ref h1]))] H := hP
            have hD : va_D A [(h0, .inr (1, [.int 0, .int a1, .int a2, .int (fx_X1_moved (fx_X1_ahead a1 a2 a3 a8 a9 p0)), .int (gx_X1_told_4 (fx_X1_ahead a1 a2 a3 a8 a9 p0)), .int (gx_X1_told_5 p0), .int (gx_X1_told_6 a6 (fx_X1_ahead a1 a2 a3 a8 a9 p0)), .int (gx_X1_told_7 a7 (fx_X1_ahead a1 a2 a3 a8 a9 p0)), .int a8, .int 0, .int a10, .int a11, .ref h1]))] := hD
            refine lv_iload_n hx hb dX1_act_180 rfl (lv_at hl 4 rfl) ?_
            refine lv_bipush (v := 6) hx hb dX1_act_181 (by decide) ?_
            refine lv_icmp_ne (tgt := 195) hx hb dX1_act_183 (by decide) (fun c9 => ?_) (fun c9 => absurd (c_6.symm.trans c9) (by decide))
            refine lv_iload_n hx hb dX1_act_195 rfl (lv_at hl 2 rfl) ?_
            have hP9 := hP.sub (ws' := [(h0, .inr (1, [.int 0, .int a1, .int a2, .int (fx_X1_moved (fx_X1_ahead a1 a2 a3 a8 a9 p0)), .int (gx_X1_told_4 (fx_X1_ahead a1 a2 a3 a8 a9 p0)), .int (gx_X1_told_5 p0), .int (gx_X1_told_6 a6 (fx_X1_ahead a1 a2 a3 a8 a9 p0)), .int (gx_X1_told_7 a7 (fx_X1_ahead a1 a2 a3 a8 a9 p0)), .int a8, .int 0, .int a10, .int a11, .ref h1]))]) [0] rfl
            have hD9 := hD.sub (ws' := [(h0, .inr (1, [.int 0, .int a1, .int a2, .int (fx_X1_moved (fx_X1_ahead a1 a2 a3 a8 a9 p0)), .int (gx_X1_told_4 (fx_X1_ahead a1 a2 a3 a8 a9 p0)), .int (gx_X1_told_5 p0), .int (gx_X1_told_6 a6 (fx_X1_ahead a1 a2 a3 a8 a9 p0)), .int (gx_X1_told_7 a7 (fx_X1_ahead a1 a2 a3 a8 a9 p0)), .int a8, .int 0, .int a10, .int a11, .ref h1]))]) [0] (by decide) rfl
            have hK9 := hK.sub (tys' := []) [] rfl
            have eg_0 : gx_X1_act_0 = 0 := by rfl
            have eg_3 : gx_X1_act_3 a1 a2 a3 a8 a9 a11 p0 p1 = fx_X1_moved (fx_X1_ahead a1 a2 a3 a8 a9 p0) := by unfold gx_X1_act_3; rw [if_neg c_1, if_pos c_2, if_neg c_4, if_pos c_6, if_neg c_18, if_neg c_27]
            have eg_4 : gx_X1_act_4 a1 a2 a3 a4 a8 a9 a11 p0 p1 = gx_X1_told_4 (fx_X1_ahead a1 a2 a3 a8 a9 p0) := by unfold gx_X1_act_4; rw [if_neg c_1, if_pos c_2, if_neg c_4]
            have eg_5 : gx_X1_act_5 a5 p0 = gx_X1_told_5 p0 := by unfold gx_X1_act_5; rw [if_neg c_1, if_pos c_2]
            have eg_6 : gx_X1_act_6 a1 a2 a3 a6 a8 a9 a11 p0 p1 = gx_X1_told_6 a6 (fx_X1_ahead a1 a2 a3 a8 a9 p0) := by unfold gx_X1_act_6; rw [if_neg c_1, if_pos c_2, if_neg c_4]
            have eg_7 : gx_X1_act_7 a1 a2 a3 a7 a8 a9 a11 p0 p1 = gx_X1_told_7 a7 (fx_X1_ahead a1 a2 a3 a8 a9 p0) := by unfold gx_X1_act_7; rw [if_neg c_1, if_pos c_2, if_neg c_4]
            have eg_8 : gx_X1_act_8 a1 a2 a3 a8 a9 p0 p1 = a8 := by unfold gx_X1_act_8; rw [if_neg c_1, if_pos c_2, if_neg c_4]
            have eg_9 : gx_X1_act_9 a1 a2 a3 a8 a9 a11 p0 p1 = 0 := by unfold gx_X1_act_9; rw [if_neg c_1, if_pos c_2, if_neg c_4, if_pos c_6, if_neg c_7, if_neg c_17]
            have eg_11 : gx_X1_act_11 a1 a2 a3 a8 a9 a11 p0 p1 = a11 := by unfold gx_X1_act_11; rw [if_neg c_1, if_pos c_2, if_neg c_4, if_pos c_6, if_neg c_7, if_neg c_17, if_neg c_18, if_neg c_22, if_neg c_25]
            have ef : fx_X1_act a1 a2 a3 a8 a9 a11 p0 p1 = fx_X1_ahead a1 a2 a3 a8 a9 p0 := by unfold fx_X1_act; rw [if_neg c_1, if_pos c_2, if_neg c_4]
            exact W.iret (v := fx_X1_ahead a1 a2 a3 a8 a9 p0) hx hb hr (fun t ht hW => ⟨⟨(fx_X1_ahead a1 a2 a3 a8 a9 p0), [(h0, .inr (1, [.int 0, .int a1, .int a2, .int (fx_X1_moved (fx_X1_ahead a1 a2 a3 a8 a9 p0)), .int (gx_X1_told_4 (fx_X1_ahead a1 a2 a3 a8 a9 p0)), .int (gx_X1_told_5 p0), .int (gx_X1_told_6 a6 (fx_X1_ahead a1 a2 a3 a8 a9 p0)), .int (gx_X1_told_7 a7 (fx_X1_ahead a1 a2 a3 a8 a9 p0)), .int a8, .int 0, .int a10, .int a11, .ref h1]))], rfl, ⟨ef.symm, by rw [eg_0, eg_3, eg_4, eg_5, eg_6, eg_7, eg_8, eg_9, eg_11]⟩, by rw [ht]; exact hP9, va_K.moved hW.alike hK9, hD9⟩, hS.F ht⟩) hS.2.2 dX1_act_196
          refine lv_aload_n hx hb dX1_act_114 rfl (lv_at hl 1 rfl) ?_
          refine lv_iconst (v := 0) hx hb dX1_act_115 (by decide) ?_
          refine va_put (D := (dC, dI)) (ci := 1) (v := .int 0) (ty := .boolean) (C := RX1) (T := TX1) (N := 13) hx hb hts (fun _ h => List.mem_cons_of_mem _ (List.mem_append_right _ h)) tyX1 tyX1_ok nmX1 hown hK hP hD hS 0 rfl rfl 11 (by decide) (hts (.fieldLink RX1 53 "FileStatusModel" "nothing" "Z") (by decide +kernel)) (fun _ h9 => h9) rfl (by decide +kernel) rfl rfl (Nat.le_of_ble_eq_true rfl) dX1_act_116 (fun H locs hP hD hS => ?_)
          have hP : va_P (dC, dI) vwCl [(h0, .inr (1, [.int 0, .int a1, .int a2, .int a3, .int (gx_X1_told_4 (fx_X1_ahead a1 a2 a3 a8 a9 p0)), .int (gx_X1_told_5 p0), .int (gx_X1_told_6 a6 (fx_X1_ahead a1 a2 a3 a8 a9 p0)), .int (gx_X1_told_7 a7 (fx_X1_ahead a1 a2 a3 a8 a9 p0)), .int a8, .int 0, .int a10, .int 0, .ref h1]))] H := hP
          have hD : va_D A [(h0, .inr (1, [.int 0, .int a1, .int a2, .int a3, .int (gx_X1_told_4 (fx_X1_ahead a1 a2 a3 a8 a9 p0)), .int (gx_X1_told_5 p0), .int (gx_X1_told_6 a6 (fx_X1_ahead a1 a2 a3 a8 a9 p0)), .int (gx_X1_told_7 a7 (fx_X1_ahead a1 a2 a3 a8 a9 p0)), .int a8, .int 0, .int a10, .int 0, .ref h1]))] := hD
          refine lv_iload_n hx hb dX1_act_119 rfl (lv_at hl 2 rfl) ?_
          refine lv_if_eq (tgt := 133) hx hb dX1_act_120 (by decide) (fun c9 => ?_) (fun c9 => absurd c_6 c9)
          refine lv_iconst (v := 1) hx hb dX1_act_133 (by decide) ?_
          refine lv_goto (tgt := 138) hx hb dX1_act_134 (by decide) ?_
          refine lv_istore (lv' := [(4, .int 1), (3, .int (fx_X1_ahead a1 a2 a3 a8 a9 p0)), (0, .ref h0), (1, .int p0), (2, .int p1)]) hx hb dX1_act_138 hl (by decide) rfl (fun ls hl => ?_)
          refine lv_iload hx hb dX1_act_140 (lv_at hl 0 rfl) ?_
          refine lv_if_eq (tgt := 152) hx hb dX1_act_142 (by decide) (fun c9 => absurd c9 (by decide)) (fun c9 => ?_)
          refine lv_iload_n hx hb dX1_act_145 rfl (lv_at hl 1 rfl) ?_
          have hPc := hP.sub (ws' := []) [] rfl
          have hDc := hD.sub (ws' := []) [] (by decide) rfl
          have hKc := hK.sub (tys' := []) [] rfl
          have hFc := va_free (wc := []) hD hS hA [] rfl
          refine va_calli (va_runS (As := [.int (fx_X1_ahead a1 a2 a3 a8 a9 p0)]) (rest := []) ⟨hx, hb, hml, hown, hts⟩ (ct_X1_moved l dC dI H.size (fx_X1_ahead a1 a2 a3 a8 a9 p0)) (va_cwS 1 hts gX1_act_X1_moved rfl rfl rfl (by decide +kernel) ⟨Nat.le_of_ble_eq_true rfl, Nat.le_of_ble_eq_true rfl⟩) ⟨fun a U g mk q => by obtain ⟨q0, q1, qP, qK, qD⟩ := q; exact ⟨q0, q1, qP, va_K.moved (u := U) (U := U.calling g mk a) (Vm.Alike.refl U.vm) qK, qD⟩, fun U hU hW => ⟨rfl, by rw [hU], by rw [hU]; exact hPc, va_K.moved hW.alike hKc, hDc.weaken (fun _ _ _ _ => trivial)⟩⟩ rfl rfl hl.1 rfl (lv_room (Nat.le_of_ble_eq_true rfl)) dX1_act_146 ⟨(Nat.zero_le _), (Nat.zero_le _)⟩) hS (fun q _ h => hFc q h) hFc (fun r_28 u t H1 locs ht hvm hw hB hz1 hk1 hS => ?_)
          obtain ⟨er, hu⟩ := hw
          subst hu
          subst er
          obtain ⟨hP1, -, hD1⟩ := hB
          rw [ht] at hP1
          obtain ⟨hP, hD⟩ := va_join (wr := [(h0, .inr (1, [.int 0, .int a1, .int a2, .int a3, .int (gx_X1_told_4 (fx_X1_ahead a1 a2 a3 a8 a9 p0)), .int (gx_X1_told_5 p0), .int (gx_X1_told_6 a6 (fx_X1_ahead a1 a2 a3 a8 a9 p0)), .int (gx_X1_told_7 a7 (fx_X1_ahead a1 a2 a3 a8 a9 p0)), .int a8, .int 0, .int a10, .int 0, .ref h1]))]) (w1 := []) hP hD [] [0] rfl rfl (by decide) (by decide) hk1 hFc hP1 hD1
          generalize H1 = H at hP hS ⊢
          have hP : va_P (dC, dI) vwCl [(h0, .inr (1, [.int 0, .int a1, .int a2, .int a3, .int (gx_X1_told_4 (fx_X1_ahead a1 a2 a3 a8 a9 p0)), .int (gx_X1_told_5 p0), .int (gx_X1_told_6 a6 (fx_X1_ahead a1 a2 a3 a8 a9 p0)), .int (gx_X1_told_7 a7 (fx_X1_ahead a1 a2 a3 a8 a9 p0)), .int a8, .int 0, .int a10, .int 0, .ref h1]))] H := hP
          have hD : va_D A [(h0, .inr (1, [.int 0, .int a1, .int a2, .int a3, .int (gx_X1_told_4 (fx_X1_ahead a1 a2 a3 a8 a9 p0)), .int (gx_X1_told_5 p0), .int (gx_X1_told_6 a6 (fx_X1_ahead a1 a2 a3 a8 a9 p0)), .int (gx_X1_told_7 a7 (fx_X1_ahead a1 a2 a3 a8 a9 p0)), .int a8, .int 0, .int a10, .int 0, .ref h1]))] := hD
          refine lv_goto (tgt := 153) hx hb dX1_act_149 (by decide) ?_
          refine lv_istore (lv' := [(5, .int (fx_X1_moved (fx_X1_ahead a1 a2 a3 a8 a9 p0))), (4, .int 1), (3, .int (fx_X1_ahead a1 a2 a3 a8 a9 p0)), (0, .ref h0), (1, .int p0), (2, .int p1)]) hx hb dX1_act_153 hl (by decide) rfl (fun ls hl => ?_)
          refine lv_aload_n hx hb dX1_act_155 rfl (lv_at hl 3 rfl) ?_
          refine lv_iload hx hb dX1_act_156 (lv_at hl 0 rfl) ?_
          refine lv_if_eq (tgt := 168) hx hb dX1_act_158 (by decide) (fun c_29 => ?_) (fun c_29 => ?_)
          · refine lv_aload_n hx hb dX1_act_168 rfl (lv_at hl 3 rfl) ?_
            refine va_get (D := (dC, dI)) (ci := 1) (v := .int a3) (C := RX1) (T := TX1) (N := 13) hx hb hts (fun _ h => List.mem_cons_of_mem _ (List.mem_append_right _ h)) hown hK hP 0 rfl rfl 3 (by decide) (hts (.fieldLink RX1 50 "FileStatusModel" "position" "I") (by decide +kernel)) (fun _ h9 => h9) rfl dX1_act_169 ?_
            refine lv_goto (tgt := 177) hx hb dX1_act_172 (by decide) ?_
            refine va_put (D := (dC, dI)) (ci := 1) (v := .int a3) (ty := .int) (C := RX1) (T := TX1) (N := 13) hx hb hts (fun _ h => List.mem_cons_of_mem _ (List.mem_append_right _ h)) tyX1 tyX1_ok nmX1 hown hK hP hD hS 0 rfl rfl 3 (by decide) (hts (.fieldLink RX1 50 "FileStatusModel" "position" "I") (by decide +kernel)) (fun _ h9 => h9) rfl (by decide +kernel) rfl rfl (Nat.le_of_ble_eq_true rfl) dX1_act_177 (fun H locs hP hD hS => ?_)
            have hP : va_P (dC, dI) vwCl [(h0, .inr (1, [.int 0, .int a1, .int a2, .int a3, .int (gx_X1_told_4 (fx_X1_ahead a1 a2 a3 a8 a9 p0)), .int (gx_X1_told_5 p0), .int (gx_X1_told_6 a6 (fx_X1_ahead a1 a2 a3 a8 a9 p0)), .int (gx_X1_told_7 a7 (fx_X1_ahead a1 a2 a3 a8 a9 p0)), .int a8, .int 0, .int a10, .int 0, .ref h1]))] H := hP
            have hD : va_D A [(h0, .inr (1, [.int 0, .int a1, .int a2, .int a3, .int (gx_X1_told_4 (fx_X1_ahead a1 a2 a3 a8 a9 p0)), .int (gx_X1_told_5 p0), .int (gx_X1_told_6 a6 (fx_X1_ahead a1 a2 a3 a8 a9 p0)), .int (gx_X1_told_7 a7 (fx_X1_ahead a1 a2 a3 a8 a9 p0)), .int a8, .int 0, .int a10, .int 0, .ref h1]))] := hD
            refine lv_iload_n hx hb dX1_act_180 rfl (lv_at hl 4 rfl) ?_
            refine lv_bipush (v := 6) hx hb dX1_act_181 (by decide) ?_
            refine lv_icmp_ne (tgt := 195) hx hb dX1_act_183 (by decide) (fun c9 => ?_) (fun c9 => absurd (c_6.symm.trans c9) (by decide))
            refine lv_iload_n hx hb dX1_act_195 rfl (lv_at hl 2 rfl) ?_
            have hP9 := hP.sub (ws' := [(h0, .inr (1, [.int 0, .int a1, .int a2, .int a3, .int (gx_X1_told_4 (fx_X1_ahead a1 a2 a3 a8 a9 p0)), .int (gx_X1_told_5 p0), .int (gx_X1_told_6 a6 (fx_X1_ahead a1 a2 a3 a8 a9 p0)), .int (gx_X1_told_7 a7 (fx_X1_ahead a1 a2 a3 a8 a9 p0)), .int a8, .int 0, .int a10, .int 0, .ref h1]))]) [0] rfl
            have hD9 := hD.sub (ws' := [(h0, .inr (1, [.int 0, .int a1, .int a2, .int a3, .int (gx_X1_told_4 (fx_X1_ahead a1 a2 a3 a8 a9 p0)), .int (gx_X1_told_5 p0), .int (gx_X1_told_6 a6 (fx_X1_ahead a1 a2 a3 a8 a9 p0)), .int (gx_X1_told_7 a7 (fx_X1_ahead a1 a2 a3 a8 a9 p0)), .int a8, .int 0, .int a10, .int 0, .ref h1]))]) [0] (by decide) rfl
            have hK9 := hK.sub (tys' := []) [] rfl
            have eg_0 : gx_X1_act_0 = 0 := by rfl
            have eg_3 : gx_X1_act_3 a1 a2 a3 a8 a9 a11 p0 p1 = a3 := by unfold gx_X1_act_3; rw [if_neg c_1, if_pos c_2, if_neg c_4, if_pos c_6, if_neg c_18, if_pos c_29]
            have eg_4 : gx_X1_act_4 a1 a2 a3 a4 a8 a9 a11 p0 p1 = gx_X1_told_4 (fx_X1_ahead a1 a2 a3 a8 a9 p0) := by unfold gx_X1_act_4; rw [if_neg c_1, if_pos c_2, if_neg c_4]
            have eg_5 : gx_X1_act_5 a5 p0 = gx_X1_told_5 p0 := by unfold gx_X1_act_5; rw [if_neg c_1, if_pos c_2]
            have eg_6 : gx_X1_act_6 a1 a2 a3 a6 a8 a9 a11 p0 p1 = gx_X1_told_6 a6 (fx_X1_ahead a1 a2 a3 a8 a9 p0) := by unfold gx_X1_act_6; rw [if_neg c_1, if_pos c_2, if_neg c_4]
            have eg_7 : gx_X1_act_7 a1 a2 a3 a7 a8 a9 a11 p0 p1 = gx_X1_told_7 a7 (fx_X1_ahead a1 a2 a3 a8 a9 p0) := by unfold gx_X1_act_7; rw [if_neg c_1, if_pos c_2, if_neg c_4]
            have eg_8 : gx_X1_act_8 a1 a2 a3 a8 a9 p0 p1 = a8 := by unfold gx_X1_act_8; rw [if_neg c_1, if_pos c_2, if_neg c_4]
            have eg_9 : gx_X1_act_9 a1 a2 a3 a8 a9 a11 p0 p1 = 0 := by unfold gx_X1_act_9; rw [if_neg c_1, if_pos c_2, if_neg c_4, if_pos c_6, if_neg c_7, if_neg c_17]
            have eg_11 : gx_X1_act_11 a1 a2 a3 a8 a9 a11 p0 p1 = 0 := by unfold gx_X1_act_11; rw [if_neg c_1, if_pos c_2, if_neg c_4, if_pos c_6, if_neg c_7, if_neg c_17, if_neg c_18, if_neg c_22, if_pos c_25]
            have ef : fx_X1_act a1 a2 a3 a8 a9 a11 p0 p1 = fx_X1_ahead a1 a2 a3 a8 a9 p0 := by unfold fx_X1_act; rw [if_neg c_1, if_pos c_2, if_neg c_4]
            exact W.iret (v := fx_X1_ahead a1 a2 a3 a8 a9 p0) hx hb hr (fun t ht hW => ⟨⟨(fx_X1_ahead a1 a2 a3 a8 a9 p0), [(h0, .inr (1, [.int 0, .int a1, .int a2, .int a3, .int (gx_X1_told_4 (fx_X1_ahead a1 a2 a3 a8 a9 p0)), .int (gx_X1_told_5 p0), .int (gx_X1_told_6 a6 (fx_X1_ahead a1 a2 a3 a8 a9 p0)), .int (gx_X1_told_7 a7 (fx_X1_ahead a1 a2 a3 a8 a9 p0)), .int a8, .int 0, .int a10, .int 0, .ref h1]))], rfl, ⟨ef.symm, by rw [eg_0, eg_3, eg_4, eg_5, eg_6, eg_7, eg_8, eg_9, eg_11]⟩, by rw [ht]; exact hP9, va_K.moved hW.alike hK9, hD9⟩, hS.F ht⟩) hS.2.2 dX1_act_196
          refine lv_aload_n hx hb dX1_act_161 rfl (lv_at hl 3 rfl) ?_
          refine va_get (D := (dC, dI)) (ci := 1) (v := .int a8) (C := RX1) (T := TX1) (N := 13) hx hb hts (fun _ h => List.mem_cons_of_mem _ (List.mem_append_right _ h)) hown hK hP 0 rfl rfl 8 (by decide) (hts (.fieldLink RX1 23 "FileStatusModel" "isOpen" "Z") (by decide +kernel)) (fun _ h9 => h9) rfl dX1_act_162 ?_
          refine lv_if_ne (tgt := 175) hx hb dX1_act_165 (by decide) (fun c9 => ?_) (fun c9 => absurd c9 c_18)
          refine lv_iload hx hb dX1_act_175 (lv_at hl 0 rfl) ?_
          refine va_put (D := (dC, dI)) (ci := 1) (v := .int (fx_X1_moved (fx_X1_ahead a1 a2 a3 a8 a9 p0))) (ty := .int) (C := RX1) (T := TX1) (N := 13) hx hb hts (fun _ h => List.mem_cons_of_mem _ (List.mem_append_right _ h)) tyX1 tyX1_ok nmX1 hown hK hP hD hS 0 rfl rfl 3 (by decide) (hts (.fieldLink RX1 50 "FileStatusModel" "position" "I") (by decide +kernel)) (fun _ h9 => h9) rfl (by decide +kernel) rfl rfl (Nat.le_of_ble_eq_true rfl) dX1_act_177 (fun H locs hP hD hS => ?_)
          have hP : va_P (dC, dI) vwCl [(h0, .inr (1, [.int 0, .int a1, .int a2, .int (fx_X1_moved (fx_X1_ahead a1 a2 a3 a8 a9 p0)), .int (gx_X1_told_4 (fx_X1_ahead a1 a2 a3 a8 a9 p0)), .int (gx_X1_told_5 p0), .int (gx_X1_told_6 a6 (fx_X1_ahead a1 a2 a3 a8 a9 p0)), .int (gx_X1_told_7 a7 (fx_X1_ahead a1 a2 a3 a8 a9 p0)), .int a8, .int 0, .int a10, .int 0, .ref h1]))] H := hP
          have hD : va_D A [(h0, .inr (1, [.int 0, .int a1, .int a2, .int (fx_X1_moved (fx_X1_ahead a1 a2 a3 a8 a9 p0)), .int (gx_X1_told_4 (fx_X1_ahead a1 a2 a3 a8 a9 p0)), .int (gx_X1_told_5 p0), .int (gx_X1_told_6 a6 (fx_X1_ahead a1 a2 a3 a8 a9 p0)), .int (gx_X1_told_7 a7 (fx_X1_ahead a1 a2 a3 a8 a9 p0)), .int a8, .int 0, .int a10, .int 0, .ref h1]))] := hD
          refine lv_iload_n hx hb dX1_act_180 rfl (lv_at hl 4 rfl) ?_
          refine lv_bipush (v := 6) hx hb dX1_act_181 (by decide) ?_
          refine lv_icmp_ne (tgt := 195) hx hb dX1_act_183 (by decide) (fun c9 => ?_) (fun c9 => absurd (c_6.symm.trans c9) (by decide))
          refine lv_iload_n hx hb dX1_act_195 rfl (lv_at hl 2 rfl) ?_
          have hP9 := hP.sub (ws' := [(h0, .inr (1, [.int 0, .int a1, .int a2, .int (fx_X1_moved (fx_X1_ahead a1 a2 a3 a8 a9 p0)), .int (gx_X1_told_4 (fx_X1_ahead a1 a2 a3 a8 a9 p0)), .int (gx_X1_told_5 p0), .int (gx_X1_told_6 a6 (fx_X1_ahead a1 a2 a3 a8 a9 p0)), .int (gx_X1_told_7 a7 (fx_X1_ahead a1 a2 a3 a8 a9 p0)), .int a8, .int 0, .int a10, .int 0, .ref h1]))]) [0] rfl
          have hD9 := hD.sub (ws' := [(h0, .inr (1, [.int 0, .int a1, .int a2, .int (fx_X1_moved (fx_X1_ahead a1 a2 a3 a8 a9 p0)), .int (gx_X1_told_4 (fx_X1_ahead a1 a2 a3 a8 a9 p0)), .int (gx_X1_told_5 p0), .int (gx_X1_told_6 a6 (fx_X1_ahead a1 a2 a3 a8 a9 p0)), .int (gx_X1_told_7 a7 (fx_X1_ahead a1 a2 a3 a8 a9 p0)), .int a8, .int 0, .int a10, .int 0, .ref h1]))]) [0] (by decide) rfl
          have hK9 := hK.sub (tys' := []) [] rfl
          have eg_0 : gx_X1_act_0 = 0 := by rfl
          have eg_3 : gx_X1_act_3 a1 a2 a3 a8 a9 a11 p0 p1 = fx_X1_moved (fx_X1_ahead a1 a2 a3 a8 a9 p0) := by unfold gx_X1_act_3; rw [if_neg c_1, if_pos c_2, if_neg c_4, if_pos c_6, if_neg c_18, if_neg c_29]
          have eg_4 : gx_X1_act_4 a1 a2 a3 a4 a8 a9 a11 p0 p1 = gx_X1_told_4 (fx_X1_ahead a1 a2 a3 a8 a9 p0) := by unfold gx_X1_act_4; rw [if_neg c_1, if_pos c_2, if_neg c_4]
          have eg_5 : gx_X1_act_5 a5 p0 = gx_X1_told_5 p0 := by unfold gx_X1_act_5; rw [if_neg c_1, if_pos c_2]
          have eg_6 : gx_X1_act_6 a1 a2 a3 a6 a8 a9 a11 p0 p1 = gx_X1_told_6 a6 (fx_X1_ahead a1 a2 a3 a8 a9 p0) := by unfold gx_X1_act_6; rw [if_neg c_1, if_pos c_2, if_neg c_4]
          have eg_7 : gx_X1_act_7 a1 a2 a3 a7 a8 a9 a11 p0 p1 = gx_X1_told_7 a7 (fx_X1_ahead a1 a2 a3 a8 a9 p0) := by unfold gx_X1_act_7; rw [if_neg c_1, if_pos c_2, if_neg c_4]
          have eg_8 : gx_X1_act_8 a1 a2 a3 a8 a9 p0 p1 = a8 := by unfold gx_X1_act_8; rw [if_neg c_1, if_pos c_2, if_neg c_4]
          have eg_9 : gx_X1_act_9 a1 a2 a3 a8 a9 a11 p0 p1 = 0 := by unfold gx_X1_act_9; rw [if_neg c_1, if_pos c_2, if_neg c_4, if_pos c_6, if_neg c_7, if_neg c_17]
          have eg_11 : gx_X1_act_11 a1 a2 a3 a8 a9 a11 p0 p1 = 0 := by unfold gx_X1_act_11; rw [if_neg c_1, if_pos c_2, if_neg c_4, if_pos c_6, if_neg c_7, if_neg c_17, if_neg c_18, if_neg c_22, if_pos c_25]
          have ef : fx_X1_act a1 a2 a3 a8 a9 a11 p0 p1 = fx_X1_ahead a1 a2 a3 a8 a9 p0 := by unfold fx_X1_act; rw [if_neg c_1, if_pos c_2, if_neg c_4]
          exact W.iret (v := fx_X1_ahead a1 a2 a3 a8 a9 p0) hx hb hr (fun t ht hW => ⟨⟨(fx_X1_ahead a1 a2 a3 a8 a9 p0), [(h0, .inr (1, [.int 0, .int a1, .int a2, .int (fx_X1_moved (fx_X1_ahead a1 a2 a3 a8 a9 p0)), .int (gx_X1_told_4 (fx_X1_ahead a1 a2 a3 a8 a9 p0)), .int (gx_X1_told_5 p0), .int (gx_X1_told_6 a6 (fx_X1_ahead a1 a2 a3 a8 a9 p0)), .int (gx_X1_told_7 a7 (fx_X1_ahead a1 a2 a3 a8 a9 p0)), .int a8, .int 0, .int a10, .int 0, .ref h1]))], rfl, ⟨ef.symm, by rw [eg_0, eg_3, eg_4, eg_5, eg_6, eg_7, eg_8, eg_9, eg_11]⟩, by rw [ht]; exact hP9, va_K.moved hW.alike hK9, hD9⟩, hS.F ht⟩) hS.2.2 dX1_act_196
        refine lv_iconst (v := 1) hx hb dX1_act_82 (by decide) ?_
        refine lv_goto (tgt := 87) hx hb dX1_act_83 (by decide) ?_
        refine va_put (D := (dC, dI)) (ci := 1) (v := .int 1) (ty := .boolean) (C := RX1) (T := TX1) (N := 13) hx hb hts (fun _ h => List.mem_cons_of_mem _ (List.mem_append_right _ h)) tyX1 tyX1_ok nmX1 hown hK hP hD hS 0 rfl rfl 9 (by decide) (hts (.fieldLink RX1 47 "FileStatusModel" "permit" "Z") (by decide +kernel)) (fun _ h9 => h9) rfl (by decide +kernel) rfl rfl (Nat.le_of_ble_eq_true rfl) dX1_act_87 (fun H locs hP hD hS => ?_)
        have hP : va_P (dC, dI) vwCl [(h0, .inr (1, [.int 0, .int a1, .int a2, .int a3, .int (gx_X1_told_4 (fx_X1_ahead a1 a2 a3 a8 a9 p0)), .int (gx_X1_told_5 p0), .int (gx_X1_told_6 a6 (fx_X1_ahead a1 a2 a3 a8 a9 p0)), .int (gx_X1_told_7 a7 (fx_X1_ahead a1 a2 a3 a8 a9 p0)), .int a8, .int 1, .int a10, .int a11, .ref h1]))] H := hP
        have hD : va_D A [(h0, .inr (1, [.int 0, .int a1, .int a2, .int a3, .int (gx_X1_told_4 (fx_X1_ahead a1 a2 a3 a8 a9 p0)), .int (gx_X1_told_5 p0), .int (gx_X1_told_6 a6 (fx_X1_ahead a1 a2 a3 a8 a9 p0)), .int (gx_X1_told_7 a7 (fx_X1_ahead a1 a2 a3 a8 a9 p0)), .int a8, .int 1, .int a10, .int a11, .ref h1]))] := hD
        refine lv_iload_n hx hb dX1_act_90 rfl (lv_at hl 2 rfl) ?_
        refine lv_if_ne (tgt := 119) hx hb dX1_act_91 (by decide) (fun c9 => absurd c_6 c9) (fun c9 => ?_)
        refine lv_aload_n hx hb dX1_act_94 rfl (lv_at hl 1 rfl) ?_
        refine va_get (D := (dC, dI)) (ci := 1) (v := .int a8) (C := RX1) (T := TX1) (N := 13) hx hb hts (fun _ h => List.mem_cons_of_mem _ (List.mem_append_right _ h)) hown hK hP 0 rfl rfl 8 (by decide) (hts (.fieldLink RX1 23 "FileStatusModel" "isOpen" "Z") (by decide +kernel)) (fun _ h9 => h9) rfl dX1_act_95 ?_
        refine lv_if_eq (tgt := 119) hx hb dX1_act_98 (by decide) (fun c_30 => ?_) (fun c_30 => ?_)
        · refine lv_iload_n hx hb dX1_act_119 rfl (lv_at hl 2 rfl) ?_
          refine lv_if_eq (tgt := 133) hx hb dX1_act_120 (by decide) (fun c9 => ?_) (fun c9 => absurd c_6 c9)
          refine lv_iconst (v := 1) hx hb dX1_act_133 (by decide) ?_
          refine lv_goto (tgt := 138) hx hb dX1_act_134 (by decide) ?_
          refine lv_istore (lv' := [(4, .int 1), (3, .int (fx_X1_ahead a1 a2 a3 a8 a9 p0)), (0, .ref h0), (1, .int p0), (2, .int p1)]) hx hb dX1_act_138 hl (by decide) rfl (fun ls hl => ?_)
          refine lv_iload hx hb dX1_act_140 (lv_at hl 0 rfl) ?_
          refine lv_if_eq (tgt := 152) hx hb dX1_act_142 (by decide) (fun c9 => absurd c9 (by decide)) (fun c9 => ?_)
          refine lv_iload_n hx hb dX1_act_145 rfl (lv_at hl 1 rfl) ?_
          have hPc := hP.sub (ws' := []) [] rfl
          have hDc := hD.sub (ws' := []) [] (by decide) rfl
          have hKc := hK.sub (tys' := []) [] rfl
          have hFc := va_free (wc := []) hD hS hA [] rfl
          refine va_calli (va_runS (As := [.int (fx_X1_ahead a1 a2 a3 a8 a9 p0)]) (rest := []) ⟨hx, hb, hml, hown, hts⟩ (ct_X1_moved l dC dI H.size (fx_X1_ahead a1 a2 a3 a8 a9 p0)) (va_cwS 1 hts gX1_act_X1_moved rfl rfl rfl (by decide +kernel) ⟨Nat.le_of_ble_eq_true rfl, Nat.le_of_ble_eq_true rfl⟩) ⟨fun a U g mk q => by obtain ⟨q0, q1, qP, qK, qD⟩ := q; exact ⟨q0, q1, qP, va_K.moved (u := U) (U := U.calling g mk a) (Vm.Alike.refl U.vm) qK, qD⟩, fun U hU hW => ⟨rfl, by rw [hU], by rw [hU]; exact hPc, va_K.moved hW.alike hKc, hDc.weaken (fun _ _ _ _ => trivial)⟩⟩ rfl rfl hl.1 rfl (lv_room (Nat.le_of_ble_eq_true rfl)) dX1_act_146 ⟨(Nat.zero_le _), (Nat.zero_le _)⟩) hS (fun q _ h => hFc q h) hFc (fun r_31 u t H1 locs ht hvm hw hB hz1 hk1 hS => ?_)
          obtain ⟨er, hu⟩ := hw
          subst hu
          subst er
          obtain ⟨hP1, -, hD1⟩ := hB
          rw [ht] at hP1
          obtain ⟨hP, hD⟩ := va_join (wr := [(h0, .inr (1, [.int 0, .int a1, .int a2, .int a3, .int (gx_X1_told_4 (fx_X1_ahead a1 a2 a3 a8 a9 p0)), .int (gx_X1_told_5 p0), .int (gx_X1_told_6 a6 (fx_X1_ahead a1 a2 a3 a8 a9 p0)), .int (gx_X1_told_7 a7 (fx_X1_ahead a1 a2 a3 a8 a9 p0)), .int a8, .int 1, .int a10, .int a11, .ref h1]))]) (w1 := []) hP hD [] [0] rfl rfl (by decide) (by decide) hk1 hFc hP1 hD1
          generalize H1 = H at hP hS ⊢
          have hP : va_P (dC, dI) vwCl [(h0, .inr (1, [.int 0, .int a1, .int a2, .int a3, .int (gx_X1_told_4 (fx_X1_ahead a1 a2 a3 a8 a9 p0)), .int (gx_X1_told_5 p0), .int (gx_X1_told_6 a6 (fx_X1_ahead a1 a2 a3 a8 a9 p0)), .int (gx_X1_told_7 a7 (fx_X1_ahead a1 a2 a3 a8 a9 p0)), .int a8, .int 1, .int a10, .int a11, .ref h1]))] H := hP
          have hD : va_D A [(h0, .inr (1, [.int 0, .int a1, .int a2, .int a3, .int (gx_X1_told_4 (fx_X1_ahead a1 a2 a3 a8 a9 p0)), .int (gx_X1_told_5 p0), .int (gx_X1_told_6 a6 (fx_X1_ahead a1 a2 a3 a8 a9 p0)), .int (gx_X1_told_7 a7 (fx_X1_ahead a1 a2 a3 a8 a9 p0)), .int a8, .int 1, .int a10, .int a11, .ref h1]))] := hD
          refine lv_goto (tgt := 153) hx hb dX1_act_149 (by decide) ?_
          refine lv_istore (lv' := [(5, .int (fx_X1_moved (fx_X1_ahead a1 a2 a3 a8 a9 p0))), (4, .int 1), (3, .int (fx_X1_ahead a1 a2 a3 a8 a9 p0)), (0, .ref h0), (1, .int p0), (2, .int p1)]) hx hb dX1_act_153 hl (by decide) rfl (fun ls hl => ?_)
          refine lv_aload_n hx hb dX1_act_155 rfl (lv_at hl 3 rfl) ?_
          refine lv_iload hx hb dX1_act_156 (lv_at hl 0 rfl) ?_
          refine lv_if_eq (tgt := 168) hx hb dX1_act_158 (by decide) (fun c_32 => ?_) (fun c_32 => ?_)
          · refine lv_aload_n hx hb dX1_act_168 rfl (lv_at hl 3 rfl) ?_
            refine va_get (D := (dC, dI)) (ci := 1) (v := .int a3) (C := RX1) (T := TX1) (N := 13) hx hb hts (fun _ h => List.mem_cons_of_mem _ (List.mem_append_right _ h)) hown hK hP 0 rfl rfl 3 (by decide) (hts (.fieldLink RX1 50 "FileStatusModel" "position" "I") (by decide +kernel)) (fun _ h9 => h9) rfl dX1_act_169 ?_
            refine lv_goto (tgt := 177) hx hb dX1_act_172 (by decide) ?_
            refine va_put (D := (dC, dI)) (ci := 1) (v := .int a3) (ty := .int) (C := RX1) (T := TX1) (N := 13) hx hb hts (fun _ h => List.mem_cons_of_mem _ (List.mem_append_right _ h)) tyX1 tyX1_ok nmX1 hown hK hP hD hS 0 rfl rfl 3 (by decide) (hts (.fieldLink RX1 50 "FileStatusModel" "position" "I") (by decide +kernel)) (fun _ h9 => h9) rfl (by decide +kernel) rfl rfl (Nat.le_of_ble_eq_true rfl) dX1_act_177 (fun H locs hP hD hS => ?_)
            have hP : va_P (dC, dI) vwCl [(h0, .inr (1, [.int 0, .int a1, .int a2, .int a3, .int (gx_X1_told_4 (fx_X1_ahead a1 a2 a3 a8 a9 p0)), .int (gx_X1_told_5 p0), .int (gx_X1_told_6 a6 (fx_X1_ahead a1 a2 a3 a8 a9 p0)), .int (gx_X1_told_7 a7 (fx_X1_ahead a1 a2 a3 a8 a9 p0)), .int a8, .int 1, .int a10, .int a11, .ref h1]))] H := hP
            have hD : va_D A [(h0, .inr (1, [.int 0, .int a1, .int a2, .int a3, .int (gx_X1_told_4 (fx_X1_ahead a1 a2 a3 a8 a9 p0)), .int (gx_X1_told_5 p0), .int (gx_X1_told_6 a6 (fx_X1_ahead a1 a2 a3 a8 a9 p0)), .int (gx_X1_told_7 a7 (fx_X1_ahead a1 a2 a3 a8 a9 p0)), .int a8, .int 1, .int a10, .int a11, .ref h1]))] := hD
            refine lv_iload_n hx hb dX1_act_180 rfl (lv_at hl 4 rfl) ?_
            refine lv_bipush (v := 6) hx hb dX1_act_181 (by decide) ?_
            refine lv_icmp_ne (tgt := 195) hx hb dX1_act_183 (by decide) (fun c9 => ?_) (fun c9 => absurd (c_6.symm.trans c9) (by decide))
            refine lv_iload_n hx hb dX1_act_195 rfl (lv_at hl 2 rfl) ?_
            have hP9 := hP.sub (ws' := [(h0, .inr (1, [.int 0, .int a1, .int a2, .int a3, .int (gx_X1_told_4 (fx_X1_ahead a1 a2 a3 a8 a9 p0)), .int (gx_X1_told_5 p0), .int (gx_X1_told_6 a6 (fx_X1_ahead a1 a2 a3 a8 a9 p0)), .int (gx_X1_told_7 a7 (fx_X1_ahead a1 a2 a3 a8 a9 p0)), .int a8, .int 1, .int a10, .int a11, .ref h1]))]) [0] rfl
            have hD9 := hD.sub (ws' := [(h0, .inr (1, [.int 0, .int a1, .int a2, .int a3, .int (gx_X1_told_4 (fx_X1_ahead a1 a2 a3 a8 a9 p0)), .int (gx_X1_told_5 p0), .int (gx_X1_told_6 a6 (fx_X1_ahead a1 a2 a3 a8 a9 p0)), .int (gx_X1_told_7 a7 (fx_X1_ahead a1 a2 a3 a8 a9 p0)), .int a8, .int 1, .int a10, .int a11, .ref h1]))]) [0] (by decide) rfl
            have hK9 := hK.sub (tys' := []) [] rfl
            have eg_0 : gx_X1_act_0 = 0 := by rfl
            have eg_3 : gx_X1_act_3 a1 a2 a3 a8 a9 a11 p0 p1 = a3 := by unfold gx_X1_act_3; rw [if_neg c_1, if_pos c_2, if_neg c_4, if_pos c_6, if_pos c_30]
            have eg_4 : gx_X1_act_4 a1 a2 a3 a4 a8 a9 a11 p0 p1 = gx_X1_told_4 (fx_X1_ahead a1 a2 a3 a8 a9 p0) := by unfold gx_X1_act_4; rw [if_neg c_1, if_pos c_2, if_neg c_4]
            have eg_5 : gx_X1_act_5 a5 p0 = gx_X1_told_5 p0 := by unfold gx_X1_act_5; rw [if_neg c_1, if_pos c_2]
            have eg_6 : gx_X1_act_6 a1 a2 a3 a6 a8 a9 a11 p0 p1 = gx_X1_told_6 a6 (fx_X1_ahead a1 a2 a3 a8 a9 p0) := by unfold gx_X1_act_6; rw [if_neg c_1, if_pos c_2, if_neg c_4]
            have eg_7 : gx_X1_act_7 a1 a2 a3 a7 a8 a9 a11 p0 p1 = gx_X1_told_7 a7 (fx_X1_ahead a1 a2 a3 a8 a9 p0) := by unfold gx_X1_act_7; rw [if_neg c_1, if_pos c_2, if_neg c_4]
            have eg_8 : gx_X1_act_8 a1 a2 a3 a8 a9 p0 p1 = a8 := by unfold gx_X1_act_8; rw [if_neg c_1, if_pos c_2, if_neg c_4]
            have eg_9 : gx_X1_act_9 a1 a2 a3 a8 a9 a11 p0 p1 = 1 := by unfold gx_X1_act_9; rw [if_neg c_1, if_pos c_2, if_neg c_4, if_pos c_6, if_neg c_7, if_pos c_17]
            have eg_11 : gx_X1_act_11 a1 a2 a3 a8 a9 a11 p0 p1 = a11 := by unfold gx_X1_act_11; rw [if_neg c_1, if_pos c_2, if_neg c_4, if_pos c_6, if_neg c_7, if_pos c_17]
            have ef : fx_X1_act a1 a2 a3 a8 a9 a11 p0 p1 = fx_X1_ahead a1 a2 a3 a8 a9 p0 := by unfold fx_X1_act; rw [if_neg c_1, if_pos c_2, if_neg c_4]
            exact W.iret (v := fx_X1_ahead a1 a2 a3 a8 a9 p0) hx hb hr (fun t ht hW => ⟨⟨(fx_X1_ahead a1 a2 a3 a8 a9 p0), [(h0, .inr (1, [.int 0, .int a1, .int a2, .int a3, .int (gx_X1_told_4 (fx_X1_ahead a1 a2 a3 a8 a9 p0)), .int (gx_X1_told_5 p0), .int (gx_X1_told_6 a6 (fx_X1_ahead a1 a2 a3 a8 a9 p0)), .int (gx_X1_told_7 a7 (fx_X1_ahead a1 a2 a3 a8 a9 p0)), .int a8, .int 1, .int a10, .int a11, .ref h1]))], rfl, ⟨ef.symm, by rw [eg_0, eg_3, eg_4, eg_5, eg_6, eg_7, eg_8, eg_9, eg_11]⟩, by rw [ht]; exact hP9, va_K.moved hW.alike hK9, hD9⟩, hS.F ht⟩) hS.2.2 dX1_act_196
          refine lv_aload_n hx hb dX1_act_161 rfl (lv_at hl 3 rfl) ?_
          refine va_get (D := (dC, dI)) (ci := 1) (v := .int a8) (C := RX1) (T := TX1) (N := 13) hx hb hts (fun _ h => List.mem_cons_of_mem _ (List.mem_append_right _ h)) hown hK hP 0 rfl rfl 8 (by decide) (hts (.fieldLink RX1 23 "FileStatusModel" "isOpen" "Z") (by decide +kernel)) (fun _ h9 => h9) rfl dX1_act_162 ?_
          refine lv_if_ne (tgt := 175) hx hb dX1_act_165 (by decide) (fun c9 => absurd c_30 c9) (fun c9 => ?_)
          refine lv_aload_n hx hb dX1_act_168 rfl (lv_at hl 3 rfl) ?_
          refine va_get (D := (dC, dI)) (ci := 1) (v := .int a3) (C := RX1) (T := TX1) (N := 13) hx hb hts (fun _ h => List.mem_cons_of_mem _ (List.mem_append_right _ h)) hown hK hP 0 rfl rfl 3 (by decide) (hts (.fieldLink RX1 50 "FileStatusModel" "position" "I") (by decide +kernel)) (fun _ h9 => h9) rfl dX1_act_169 ?_
          refine lv_goto (tgt := 177) hx hb dX1_act_172 (by decide) ?_
          refine va_put (D := (dC, dI)) (ci := 1) (v := .int a3) (ty := .int) (C := RX1) (T := TX1) (N := 13) hx hb hts (fun _ h => List.mem_cons_of_mem _ (List.mem_append_right _ h)) tyX1 tyX1_ok nmX1 hown hK hP hD hS 0 rfl rfl 3 (by decide) (hts (.fieldLink RX1 50 "FileStatusModel" "position" "I") (by decide +kernel)) (fun _ h9 => h9) rfl (by decide +kernel) rfl rfl (Nat.le_of_ble_eq_true rfl) dX1_act_177 (fun H locs hP hD hS => ?_)
          have hP : va_P (dC, dI) vwCl [(h0, .inr (1, [.int 0, .int a1, .int a2, .int a3, .int (gx_X1_told_4 (fx_X1_ahead a1 a2 a3 a8 a9 p0)), .int (gx_X1_told_5 p0), .int (gx_X1_told_6 a6 (fx_X1_ahead a1 a2 a3 a8 a9 p0)), .int (gx_X1_told_7 a7 (fx_X1_ahead a1 a2 a3 a8 a9 p0)), .int a8, .int 1, .int a10, .int a11, .ref h1]))] H := hP
          have hD : va_D A [(h0, .inr (1, [.int 0, .int a1, .int a2, .int a3, .int (gx_X1_told_4 (fx_X1_ahead a1 a2 a3 a8 a9 p0)), .int (gx_X1_told_5 p0), .int (gx_X1_told_6 a6 (fx_X1_ahead a1 a2 a3 a8 a9 p0)), .int (gx_X1_told_7 a7 (fx_X1_ahead a1 a2 a3 a8 a9 p0)), .int a8, .int 1, .int a10, .int a11, .ref h1]))] := hD
          refine lv_iload_n hx hb dX1_act_180 rfl (lv_at hl 4 rfl) ?_
          refine lv_bipush (v := 6) hx hb dX1_act_181 (by decide) ?_
          refine lv_icmp_ne (tgt := 195) hx hb dX1_act_183 (by decide) (fun c9 => ?_) (fun c9 => absurd (c_6.symm.trans c9) (by decide))
          refine lv_iload_n hx hb dX1_act_195 rfl (lv_at hl 2 rfl) ?_
          have hP9 := hP.sub (ws' := [(h0, .inr (1, [.int 0, .int a1, .int a2, .int a3, .int (gx_X1_told_4 (fx_X1_ahead a1 a2 a3 a8 a9 p0)), .int (gx_X1_told_5 p0), .int (gx_X1_told_6 a6 (fx_X1_ahead a1 a2 a3 a8 a9 p0)), .int (gx_X1_told_7 a7 (fx_X1_ahead a1 a2 a3 a8 a9 p0)), .int a8, .int 1, .int a10, .int a11, .ref h1]))]) [0] rfl
          have hD9 := hD.sub (ws' := [(h0, .inr (1, [.int 0, .int a1, .int a2, .int a3, .int (gx_X1_told_4 (fx_X1_ahead a1 a2 a3 a8 a9 p0)), .int (gx_X1_told_5 p0), .int (gx_X1_told_6 a6 (fx_X1_ahead a1 a2 a3 a8 a9 p0)), .int (gx_X1_told_7 a7 (fx_X1_ahead a1 a2 a3 a8 a9 p0)), .int a8, .int 1, .int a10, .int a11, .ref h1]))]) [0] (by decide) rfl
          have hK9 := hK.sub (tys' := []) [] rfl
          have eg_0 : gx_X1_act_0 = 0 := by rfl
          have eg_3 : gx_X1_act_3 a1 a2 a3 a8 a9 a11 p0 p1 = a3 := by unfold gx_X1_act_3; rw [if_neg c_1, if_pos c_2, if_neg c_4, if_pos c_6, if_pos c_30]
          have eg_4 : gx_X1_act_4 a1 a2 a3 a4 a8 a9 a11 p0 p1 = gx_X1_told_4 (fx_X1_ahead a1 a2 a3 a8 a9 p0) := by unfold gx_X1_act_4; rw [if_neg c_1, if_pos c_2, if_neg c_4]
          have eg_5 : gx_X1_act_5 a5 p0 = gx_X1_told_5 p0 := by unfold gx_X1_act_5; rw [if_neg c_1, if_pos c_2]
          have eg_6 : gx_X1_act_6 a1 a2 a3 a6 a8 a9 a11 p0 p1 = gx_X1_told_6 a6 (fx_X1_ahead a1 a2 a3 a8 a9 p0) := by unfold gx_X1_act_6; rw [if_neg c_1, if_pos c_2, if_neg c_4]
          have eg_7 : gx_X1_act_7 a1 a2 a3 a7 a8 a9 a11 p0 p1 = gx_X1_told_7 a7 (fx_X1_ahead a1 a2 a3 a8 a9 p0) := by unfold gx_X1_act_7; rw [if_neg c_1, if_pos c_2, if_neg c_4]
          have eg_8 : gx_X1_act_8 a1 a2 a3 a8 a9 p0 p1 = a8 := by unfold gx_X1_act_8; rw [if_neg c_1, if_pos c_2, if_neg c_4]
          have eg_9 : gx_X1_act_9 a1 a2 a3 a8 a9 a11 p0 p1 = 1 := by unfold gx_X1_act_9; rw [if_neg c_1, if_pos c_2, if_neg c_4, if_pos c_6, if_neg c_7, if_pos c_17]
          have eg_11 : gx_X1_act_11 a1 a2 a3 a8 a9 a11 p0 p1 = a11 := by unfold gx_X1_act_11; rw [if_neg c_1, if_pos c_2, if_neg c_4, if_pos c_6, if_neg c_7, if_pos c_17]
          have ef : fx_X1_act a1 a2 a3 a8 a9 a11 p0 p1 = fx_X1_ahead a1 a2 a3 a8 a9 p0 := by unfold fx_X1_act; rw [if_neg c_1, if_pos c_2, if_neg c_4]
          exact W.iret (v := fx_X1_ahead a1 a2 a3 a8 a9 p0) hx hb hr (fun t ht hW => ⟨⟨(fx_X1_ahead a1 a2 a3 a8 a9 p0), [(h0, .inr (1, [.int 0, .int a1, .int a2, .int a3, .int (gx_X1_told_4 (fx_X1_ahead a1 a2 a3 a8 a9 p0)), .int (gx_X1_told_5 p0), .int (gx_X1_told_6 a6 (fx_X1_ahead a1 a2 a3 a8 a9 p0)), .int (gx_X1_told_7 a7 (fx_X1_ahead a1 a2 a3 a8 a9 p0)), .int a8, .int 1, .int a10, .int a11, .ref h1]))], rfl, ⟨ef.symm, by rw [eg_0, eg_3, eg_4, eg_5, eg_6, eg_7, eg_8, eg_9, eg_11]⟩, by rw [ht]; exact hP9, va_K.moved hW.alike hK9, hD9⟩, hS.F ht⟩) hS.2.2 dX1_act_196
        refine lv_aload_n hx hb dX1_act_101 rfl (lv_at hl 1 rfl) ?_
        have hPc := hP.sub (ws' := [(h0, .inr (1, [.int 0, .int a1, .int a2, .int a3, .int (gx_X1_told_4 (fx_X1_ahead a1 a2 a3 a8 a9 p0)), .int (gx_X1_told_5 p0), .int (gx_X1_told_6 a6 (fx_X1_ahead a1 a2 a3 a8 a9 p0)), .int (gx_X1_told_7 a7 (fx_X1_ahead a1 a2 a3 a8 a9 p0)), .int a8, .int 1, .int a10, .int a11, .ref h1]))]) [0] rfl
        have hDc := hD.sub (ws' := [(h0, .inr (1, [.int 0, .int a1, .int a2, .int a3, .int (gx_X1_told_4 (fx_X1_ahead a1 a2 a3 a8 a9 p0)), .int (gx_X1_told_5 p0), .int (gx_X1_told_6 a6 (fx_X1_ahead a1 a2 a3 a8 a9 p0)), .int (gx_X1_told_7 a7 (fx_X1_ahead a1 a2 a3 a8 a9 p0)), .int a8, .int 1, .int a10, .int a11, .ref h1]))]) [0] (by decide) rfl
        have hKc := hK.sub (tys' := []) [] rfl
        have hFc := va_free (wc := [(h0, .inr (1, [.int 0, .int a1, .int a2, .int a3, .int (gx_X1_told_4 (fx_X1_ahead a1 a2 a3 a8 a9 p0)), .int (gx_X1_told_5 p0), .int (gx_X1_told_6 a6 (fx_X1_ahead a1 a2 a3 a8 a9 p0)), .int (gx_X1_told_7 a7 (fx_X1_ahead a1 a2 a3 a8 a9 p0)), .int a8, .int 1, .int a10, .int a11, .ref h1]))]) hD hS hA [0] rfl
        refine va_calli (va_runV (As := []) (rest := []) ⟨hx, hb, hml, hown, hts⟩ (ct_X1_reads l dC dI h0 h1 H.size 0 a1 a2 a3 (gx_X1_told_4 (fx_X1_ahead a1 a2 a3 a8 a9 p0)) (gx_X1_told_5 p0) (gx_X1_told_6 a6 (fx_X1_ahead a1 a2 a3 a8 a9 p0)) (gx_X1_told_7 a7 (fx_X1_ahead a1 a2 a3 a8 a9 p0)) a8 1 a10 a11) (cwV 0 hts gX1_act_X1_reads rfl rfl rfl (by decide +kernel) ⟨Nat.le_of_ble_eq_true rfl, Nat.le_of_ble_eq_true rfl⟩) ⟨fun a U g mk q => by obtain ⟨q0, q1, qP, qK, qD⟩ := q; exact ⟨q0, q1, qP, va_K.moved (u := U) (U := U.calling g mk a) (Vm.Alike.refl U.vm) qK, qD⟩, va_recv hKc hPc (ci := 1) (q0 := 0) rfl rfl, fun U hU hW => ⟨rfl, by rw [hU], by rw [hU]; exact hPc, va_K.moved hW.alike hKc, hDc.weaken (fun _ _ _ _ => trivial)⟩⟩ rfl rfl hl.1 rfl (lv_room (Nat.le_of_ble_eq_true rfl)) dX1_act_102 ⟨(Nat.zero_le _), (Nat.zero_le _)⟩) hS (fun q _ h => hFc q h) hFc (fun r_33 u t H1 locs ht hvm hw hB hz1 hk1 hS => ?_)
        obtain ⟨er, hu⟩ := hw
        subst hu
        subst er
        obtain ⟨hP1, -, hD1⟩ := hB
        rw [ht] at hP1
        obtain ⟨hP, hD⟩ := va_join (wr := []) (w1 := [(h0, .inr (1, [.int 0, .int a1, .int a2, .int a3, .int (gx_X1_told_4 (fx_X1_ahead a1 a2 a3 a8 a9 p0)), .int (gx_X1_told_5 p0), .int (gx_X1_told_6 a6 (fx_X1_ahead a1 a2 a3 a8 a9 p0)), .int (gx_X1_told_7 a7 (fx_X1_ahead a1 a2 a3 a8 a9 p0)), .int a8, .int 1, .int a10, .int a11, .ref h1]))]) hP hD [0] [] rfl rfl (by decide) (by decide) hk1 hFc hP1 hD1
        generalize H1 = H at hP hS ⊢
        have hP : va_P (dC, dI) vwCl [(h0, .inr (1, [.int 0, .int a1, .int a2, .int a3, .int (gx_X1_told_4 (fx_X1_ahead a1 a2 a3 a8 a9 p0)), .int (gx_X1_told_5 p0), .int (gx_X1_told_6 a6 (fx_X1_ahead a1 a2 a3 a8 a9 p0)), .int (gx_X1_told_7 a7 (fx_X1_ahead a1 a2 a3 a8 a9 p0)), .int a8, .int 1, .int a10, .int a11, .ref h1]))] H := hP
        have hD : va_D A [(h0, .inr (1, [.int 0, .int a1, .int a2, .int a3, .int (gx_X1_told_4 (fx_X1_ahead a1 a2 a3 a8 a9 p0)), .int (gx_X1_told_5 p0), .int (gx_X1_told_6 a6 (fx_X1_ahead a1 a2 a3 a8 a9 p0)), .int (gx_X1_told_7 a7 (fx_X1_ahead a1 a2 a3 a8 a9 p0)), .int a8, .int 1, .int a10, .int a11, .ref h1]))] := hD
        refine lv_if_eq (tgt := 119) hx hb dX1_act_105 (by decide) (fun c_34 => ?_) (fun c_34 => ?_)
        · refine lv_iload_n hx hb dX1_act_119 rfl (lv_at hl 2 rfl) ?_
          refine lv_if_eq (tgt := 133) hx hb dX1_act_120 (by decide) (fun c9 => ?_) (fun c9 => absurd c_6 c9)
          refine lv_iconst (v := 1) hx hb dX1_act_133 (by decide) ?_
          refine lv_goto (tgt := 138) hx hb dX1_act_134 (by decide) ?_
          refine lv_istore (lv' := [(4, .int 1), (3, .int (fx_X1_ahead a1 a2 a3 a8 a9 p0)), (0, .ref h0), (1, .int p0), (2, .int p1)]) hx hb dX1_act_138 hl (by decide) rfl (fun ls hl => ?_)
          refine lv_iload hx hb dX1_act_140 (lv_at hl 0 rfl) ?_
          refine lv_if_eq (tgt := 152) hx hb dX1_act_142 (by decide) (fun c9 => absurd c9 (by decide)) (fun c9 => ?_)
          refine lv_iload_n hx hb dX1_act_145 rfl (lv_at hl 1 rfl) ?_
          have hPc := hP.sub (ws' := []) [] rfl
          have hDc := hD.sub (ws' := []) [] (by decide) rfl
          have hKc := hK.sub (tys' := []) [] rfl
          have hFc := va_free (wc := []) hD hS hA [] rfl
          refine va_calli (va_runS (As := [.int (fx_X1_ahead a1 a2 a3 a8 a9 p0)]) (rest := []) ⟨hx, hb, hml, hown, hts⟩ (ct_X1_moved l dC dI H.size (fx_X1_ahead a1 a2 a3 a8 a9 p0)) (va_cwS 1 hts gX1_act_X1_moved rfl rfl rfl (by decide +kernel) ⟨Nat.le_of_ble_eq_true rfl, Nat.le_of_ble_eq_true rfl⟩) ⟨fun a U g mk q => by obtain ⟨q0, q1, qP, qK, qD⟩ := q; exact ⟨q0, q1, qP, va_K.moved (u := U) (U := U.calling g mk a) (Vm.Alike.refl U.vm) qK, qD⟩, fun U hU hW => ⟨rfl, by rw [hU], by rw [hU]; exact hPc, va_K.moved hW.alike hKc, hDc.weaken (fun _ _ _ _ => trivial)⟩⟩ rfl rfl hl.1 rfl (lv_room (Nat.le_of_ble_eq_true rfl)) dX1_act_146 ⟨(Nat.zero_le _), (Nat.zero_le _)⟩) hS (fun q _ h => hFc q h) hFc (fun r_35 u t H1 locs ht hvm hw hB hz1 hk1 hS => ?_)
          obtain ⟨er, hu⟩ := hw
          subst hu
          subst er
          obtain ⟨hP1, -, hD1⟩ := hB
          rw [ht] at hP1
          obtain ⟨hP, hD⟩ := va_join (wr := [(h0, .inr (1, [.int 0, .int a1, .int a2, .int a3, .int (gx_X1_told_4 (fx_X1_ahead a1 a2 a3 a8 a9 p0)), .int (gx_X1_told_5 p0), .int (gx_X1_told_6 a6 (fx_X1_ahead a1 a2 a3 a8 a9 p0)), .int (gx_X1_told_7 a7 (fx_X1_ahead a1 a2 a3 a8 a9 p0)), .int a8, .int 1, .int a10, .int a11, .ref h1]))]) (w1 := []) hP hD [] [0] rfl rfl (by decide) (by decide) hk1 hFc hP1 hD1
          generalize H1 = H at hP hS ⊢
          have hP : va_P (dC, dI) vwCl [(h0, .inr (1, [.int 0, .int a1, .int a2, .int a3, .int (gx_X1_told_4 (fx_X1_ahead a1 a2 a3 a8 a9 p0)), .int (gx_X1_told_5 p0), .int (gx_X1_told_6 a6 (fx_X1_ahead a1 a2 a3 a8 a9 p0)), .int (gx_X1_told_7 a7 (fx_X1_ahead a1 a2 a3 a8 a9 p0)), .int a8, .int 1, .int a10, .int a11, .ref h1]))] H := hP
          have hD : va_D A [(h0, .inr (1, [.int 0, .int a1, .int a2, .int a3, .int (gx_X1_told_4 (fx_X1_ahead a1 a2 a3 a8 a9 p0)), .int (gx_X1_told_5 p0), .int (gx_X1_told_6 a6 (fx_X1_ahead a1 a2 a3 a8 a9 p0)), .int (gx_X1_told_7 a7 (fx_X1_ahead a1 a2 a3 a8 a9 p0)), .int a8, .int 1, .int a10, .int a11, .ref h1]))] := hD
          refine lv_goto (tgt := 153) hx hb dX1_act_149 (by decide) ?_
          refine lv_istore (lv' := [(5, .int (fx_X1_moved (fx_X1_ahead a1 a2 a3 a8 a9 p0))), (4, .int 1), (3, .int (fx_X1_ahead a1 a2 a3 a8 a9 p0)), (0, .ref h0), (1, .int p0), (2, .int p1)]) hx hb dX1_act_153 hl (by decide) rfl (fun ls hl => ?_)
          refine lv_aload_n hx hb dX1_act_155 rfl (lv_at hl 3 rfl) ?_
          refine lv_iload hx hb dX1_act_156 (lv_at hl 0 rfl) ?_
          refine lv_if_eq (tgt := 168) hx hb dX1_act_158 (by decide) (fun c_36 => ?_) (fun c_36 => ?_)
          · refine lv_aload_n hx hb dX1_act_168 rfl (lv_at hl 3 rfl) ?_
            refine va_get (D := (dC, dI)) (ci := 1) (v := .int a3) (C := RX1) (T := TX1) (N := 13) hx hb hts (fun _ h => List.mem_cons_of_mem _ (List.mem_append_right _ h)) hown hK hP 0 rfl rfl 3 (by decide) (hts (.fieldLink RX1 50 "FileStatusModel" "position" "I") (by decide +kernel)) (fun _ h9 => h9) rfl dX1_act_169 ?_
            refine lv_goto (tgt := 177) hx hb dX1_act_172 (by decide) ?_
            refine va_put (D := (dC, dI)) (ci := 1) (v := .int a3) (ty := .int) (C := RX1) (T := TX1) (N := 13) hx hb hts (fun _ h => List.mem_cons_of_mem _ (List.mem_append_right _ h)) tyX1 tyX1_ok nmX1 hown hK hP hD hS 0 rfl rfl 3 (by decide) (hts (.fieldLink RX1 50 "FileStatusModel" "position" "I") (by decide +kernel)) (fun _ h9 => h9) rfl (by decide +kernel) rfl rfl (Nat.le_of_ble_eq_true rfl) dX1_act_177 (fun H locs hP hD hS => ?_)
            have hP : va_P (dC, dI) vwCl [(h0, .inr (1, [.int 0, .int a1, .int a2, .int a3, .int (gx_X1_told_4 (fx_X1_ahead a1 a2 a3 a8 a9 p0)), .int (gx_X1_told_5 p0), .int (gx_X1_told_6 a6 (fx_X1_ahead a1 a2 a3 a8 a9 p0)), .int (gx_X1_told_7 a7 (fx_X1_ahead a1 a2 a3 a8 a9 p0)), .int a8, .int 1, .int a10, .int a11, .ref h1]))] H := hP
            have hD : va_D A [(h0, .inr (1, [.int 0, .int a1, .int a2, .int a3, .int (gx_X1_told_4 (fx_X1_ahead a1 a2 a3 a8 a9 p0)), .int (gx_X1_told_5 p0), .int (gx_X1_told_6 a6 (fx_X1_ahead a1 a2 a3 a8 a9 p0)), .int (gx_X1_told_7 a7 (fx_X1_ahead a1 a2 a3 a8 a9 p0)), .int a8, .int 1, .int a10, .int a11, .ref h1]))] := hD
            refine lv_iload_n hx hb dX1_act_180 rfl (lv_at hl 4 rfl) ?_
            refine lv_bipush (v := 6) hx hb dX1_act_181 (by decide) ?_
            refine lv_icmp_ne (tgt := 195) hx hb dX1_act_183 (by decide) (fun c9 => ?_) (fun c9 => absurd (c_6.symm.trans c9) (by decide))
            refine lv_iload_n hx hb dX1_act_195 rfl (lv_at hl 2 rfl) ?_
            have hP9 := hP.sub (ws' := [(h0, .inr (1, [.int 0, .int a1, .int a2, .int a3, .int (gx_X1_told_4 (fx_X1_ahead a1 a2 a3 a8 a9 p0)), .int (gx_X1_told_5 p0), .int (gx_X1_told_6 a6 (fx_X1_ahead a1 a2 a3 a8 a9 p0)), .int (gx_X1_told_7 a7 (fx_X1_ahead a1 a2 a3 a8 a9 p0)), .int a8, .int 1, .int a10, .int a11, .ref h1]))]) [0] rfl
            have hD9 := hD.sub (ws' := [(h0, .inr (1, [.int 0, .int a1, .int a2, .int a3, .int (gx_X1_told_4 (fx_X1_ahead a1 a2 a3 a8 a9 p0)), .int (gx_X1_told_5 p0), .int (gx_X1_told_6 a6 (fx_X1_ahead a1 a2 a3 a8 a9 p0)), .int (gx_X1_told_7 a7 (fx_X1_ahead a1 a2 a3 a8 a9 p0)), .int a8, .int 1, .int a10, .int a11, .ref h1]))]) [0] (by decide) rfl
            have hK9 := hK.sub (tys' := []) [] rfl
            have eg_0 : gx_X1_act_0 = 0 := by rfl
            have eg_3 : gx_X1_act_3 a1 a2 a3 a8 a9 a11 p0 p1 = a3 := by unfold gx_X1_act_3; rw [if_neg c_1, if_pos c_2, if_neg c_4, if_pos c_6, if_neg c_30, if_pos c_36]
            have eg_4 : gx_X1_act_4 a1 a2 a3 a4 a8 a9 a11 p0 p1 = gx_X1_told_4 (fx_X1_ahead a1 a2 a3 a8 a9 p0) := by unfold gx_X1_act_4; rw [if_neg c_1, if_pos c_2, if_neg c_4]
            have eg_5 : gx_X1_act_5 a5 p0 = gx_X1_told_5 p0 := by unfold gx_X1_act_5; rw [if_neg c_1, if_pos c_2]
            have eg_6 : gx_X1_act_6 a1 a2 a3 a6 a8 a9 a11 p0 p1 = gx_X1_told_6 a6 (fx_X1_ahead a1 a2 a3 a8 a9 p0) := by unfold gx_X1_act_6; rw [if_neg c_1, if_pos c_2, if_neg c_4]
            have eg_7 : gx_X1_act_7 a1 a2 a3 a7 a8 a9 a11 p0 p1 = gx_X1_told_7 a7 (fx_X1_ahead a1 a2 a3 a8 a9 p0) := by unfold gx_X1_act_7; rw [if_neg c_1, if_pos c_2, if_neg c_4]
            have eg_8 : gx_X1_act_8 a1 a2 a3 a8 a9 p0 p1 = a8 := by unfold gx_X1_act_8; rw [if_neg c_1, if_pos c_2, if_neg c_4]
            have eg_9 : gx_X1_act_9 a1 a2 a3 a8 a9 a11 p0 p1 = 1 := by unfold gx_X1_act_9; rw [if_neg c_1, if_pos c_2, if_neg c_4, if_pos c_6, if_neg c_7, if_pos c_17]
            have eg_11 : gx_X1_act_11 a1 a2 a3 a8 a9 a11 p0 p1 = a11 := by unfold gx_X1_act_11; rw [if_neg c_1, if_pos c_2, if_neg c_4, if_pos c_6, if_neg c_7, if_pos c_17]
            have ef : fx_X1_act a1 a2 a3 a8 a9 a11 p0 p1 = fx_X1_ahead a1 a2 a3 a8 a9 p0 := by unfold fx_X1_act; rw [if_neg c_1, if_pos c_2, if_neg c_4]
            exact W.iret (v := fx_X1_ahead a1 a2 a3 a8 a9 p0) hx hb hr (fun t ht hW => ⟨⟨(fx_X1_ahead a1 a2 a3 a8 a9 p0), [(h0, .inr (1, [.int 0, .int a1, .int a2, .int a3, .int (gx_X1_told_4 (fx_X1_ahead a1 a2 a3 a8 a9 p0)), .int (gx_X1_told_5 p0), .int (gx_X1_told_6 a6 (fx_X1_ahead a1 a2 a3 a8 a9 p0)), .int (gx_X1_told_7 a7 (fx_X1_ahead a1 a2 a3 a8 a9 p0)), .int a8, .int 1, .int a10, .int a11, .ref h1]))], rfl, ⟨ef.symm, by rw [eg_0, eg_3, eg_4, eg_5, eg_6, eg_7, eg_8, eg_9, eg_11]⟩, by rw [ht]; exact hP9, va_K.moved hW.alike hK9, hD9⟩, hS.F ht⟩) hS.2.2 dX1_act_196
          refine lv_aload_n hx hb dX1_act_161 rfl (lv_at hl 3 rfl) ?_
          refine va_get (D := (dC, dI)) (ci := 1) (v := .int a8) (C := RX1) (T := TX1) (N := 13) hx hb hts (fun _ h => List.mem_cons_of_mem _ (List.mem_append_right _ h)) hown hK hP 0 rfl rfl 8 (by decide) (hts (.fieldLink RX1 23 "FileStatusModel" "isOpen" "Z") (by decide +kernel)) (fun _ h9 => h9) rfl dX1_act_162 ?_
          refine lv_if_ne (tgt := 175) hx hb dX1_act_165 (by decide) (fun c9 => ?_) (fun c9 => absurd c9 c_30)
          refine lv_iload hx hb dX1_act_175 (lv_at hl 0 rfl) ?_
          refine va_put (D := (dC, dI)) (ci := 1) (v := .int (fx_X1_moved (fx_X1_ahead a1 a2 a3 a8 a9 p0))) (ty := .int) (C := RX1) (T := TX1) (N := 13) hx hb hts (fun _ h => List.mem_cons_of_mem _ (List.mem_append_right _ h)) tyX1 tyX1_ok nmX1 hown hK hP hD hS 0 rfl rfl 3 (by decide) (hts (.fieldLink RX1 50 "FileStatusModel" "position" "I") (by decide +kernel)) (fun _ h9 => h9) rfl (by decide +kernel) rfl rfl (Nat.le_of_ble_eq_true rfl) dX1_act_177 (fun H locs hP hD hS => ?_)
          have hP : va_P (dC, dI) vwCl [(h0, .inr (1, [.int 0, .int a1, .int a2, .int (fx_X1_moved (fx_X1_ahead a1 a2 a3 a8 a9 p0)), .int (gx_X1_told_4 (fx_X1_ahead a1 a2 a3 a8 a9 p0)), .int (gx_X1_told_5 p0), .int (gx_X1_told_6 a6 (fx_X1_ahead a1 a2 a3 a8 a9 p0)), .int (gx_X1_told_7 a7 (fx_X1_ahead a1 a2 a3 a8 a9 p0)), .int a8, .int 1, .int a10, .int a11, .ref h1]))] H := hP
          have hD : va_D A [(h0, .inr (1, [.int 0, .int a1, .int a2, .int (fx_X1_moved (fx_X1_ahead a1 a2 a3 a8 a9 p0)), .int (gx_X1_told_4 (fx_X1_ahead a1 a2 a3 a8 a9 p0)), .int (gx_X1_told_5 p0), .int (gx_X1_told_6 a6 (fx_X1_ahead a1 a2 a3 a8 a9 p0)), .int (gx_X1_told_7 a7 (fx_X1_ahead a1 a2 a3 a8 a9 p0)), .int a8, .int 1, .int a10, .int a11, .ref h1]))] := hD
          refine lv_iload_n hx hb dX1_act_180 rfl (lv_at hl 4 rfl) ?_
          refine lv_bipush (v := 6) hx hb dX1_act_181 (by decide) ?_
          refine lv_icmp_ne (tgt := 195) hx hb dX1_act_183 (by decide) (fun c9 => ?_) (fun c9 => absurd (c_6.symm.trans c9) (by decide))
          refine lv_iload_n hx hb dX1_act_195 rfl (lv_at hl 2 rfl) ?_
          have hP9 := hP.sub (ws' := [(h0, .inr (1, [.int 0, .int a1, .int a2, .int (fx_X1_moved (fx_X1_ahead a1 a2 a3 a8 a9 p0)), .int (gx_X1_told_4 (fx_X1_ahead a1 a2 a3 a8 a9 p0)), .int (gx_X1_told_5 p0), .int (gx_X1_told_6 a6 (fx_X1_ahead a1 a2 a3 a8 a9 p0)), .int (gx_X1_told_7 a7 (fx_X1_ahead a1 a2 a3 a8 a9 p0)), .int a8, .int 1, .int a10, .int a11, .ref h1]))]) [0] rfl
          have hD9 := hD.sub (ws' := [(h0, .inr (1, [.int 0, .int a1, .int a2, .int (fx_X1_moved (fx_X1_ahead a1 a2 a3 a8 a9 p0)), .int (gx_X1_told_4 (fx_X1_ahead a1 a2 a3 a8 a9 p0)), .int (gx_X1_told_5 p0), .int (gx_X1_told_6 a6 (fx_X1_ahead a1 a2 a3 a8 a9 p0)), .int (gx_X1_told_7 a7 (fx_X1_ahead a1 a2 a3 a8 a9 p0)), .int a8, .int 1, .int a10, .int a11, .ref h1]))]) [0] (by decide) rfl
          have hK9 := hK.sub (tys' := []) [] rfl
          have eg_0 : gx_X1_act_0 = 0 := by rfl
          have eg_3 : gx_X1_act_3 a1 a2 a3 a8 a9 a11 p0 p1 = fx_X1_moved (fx_X1_ahead a1 a2 a3 a8 a9 p0) := by unfold gx_X1_act_3; rw [if_neg c_1, if_pos c_2, if_neg c_4, if_pos c_6, if_neg c_30, if_neg c_36]
          have eg_4 : gx_X1_act_4 a1 a2 a3 a4 a8 a9 a11 p0 p1 = gx_X1_told_4 (fx_X1_ahead a1 a2 a3 a8 a9 p0) := by unfold gx_X1_act_4; rw [if_neg c_1, if_pos c_2, if_neg c_4]
          have eg_5 : gx_X1_act_5 a5 p0 = gx_X1_told_5 p0 := by unfold gx_X1_act_5; rw [if_neg c_1, if_pos c_2]
          have eg_6 : gx_X1_act_6 a1 a2 a3 a6 a8 a9 a11 p0 p1 = gx_X1_told_6 a6 (fx_X1_ahead a1 a2 a3 a8 a9 p0) := by unfold gx_X1_act_6; rw [if_neg c_1, if_pos c_2, if_neg c_4]
          have eg_7 : gx_X1_act_7 a1 a2 a3 a7 a8 a9 a11 p0 p1 = gx_X1_told_7 a7 (fx_X1_ahead a1 a2 a3 a8 a9 p0) := by unfold gx_X1_act_7; rw [if_neg c_1, if_pos c_2, if_neg c_4]
          have eg_8 : gx_X1_act_8 a1 a2 a3 a8 a9 p0 p1 = a8 := by unfold gx_X1_act_8; rw [if_neg c_1, if_pos c_2, if_neg c_4]
          have eg_9 : gx_X1_act_9 a1 a2 a3 a8 a9 a11 p0 p1 = 1 := by unfold gx_X1_act_9; rw [if_neg c_1, if_pos c_2, if_neg c_4, if_pos c_6, if_neg c_7, if_pos c_17]
          have eg_11 : gx_X1_act_11 a1 a2 a3 a8 a9 a11 p0 p1 = a11 := by unfold gx_X1_act_11; rw [if_neg c_1, if_pos c_2, if_neg c_4, if_pos c_6, if_neg c_7, if_pos c_17]
          have ef : fx_X1_act a1 a2 a3 a8 a9 a11 p0 p1 = fx_X1_ahead a1 a2 a3 a8 a9 p0 := by unfold fx_X1_act; rw [if_neg c_1, if_pos c_2, if_neg c_4]
          exact W.iret (v := fx_X1_ahead a1 a2 a3 a8 a9 p0) hx hb hr (fun t ht hW => ⟨⟨(fx_X1_ahead a1 a2 a3 a8 a9 p0), [(h0, .inr (1, [.int 0, .int a1, .int a2, .int (fx_X1_moved (fx_X1_ahead a1 a2 a3 a8 a9 p0)), .int (gx_X1_told_4 (fx_X1_ahead a1 a2 a3 a8 a9 p0)), .int (gx_X1_told_5 p0), .int (gx_X1_told_6 a6 (fx_X1_ahead a1 a2 a3 a8 a9 p0)), .int (gx_X1_told_7 a7 (fx_X1_ahead a1 a2 a3 a8 a9 p0)), .int a8, .int 1, .int a10, .int a11, .ref h1]))], rfl, ⟨ef.symm, by rw [eg_0, eg_3, eg_4, eg_5, eg_6, eg_7, eg_8, eg_9, eg_11]⟩, by rw [ht]; exact hP9, va_K.moved hW.alike hK9, hD9⟩, hS.F ht⟩) hS.2.2 dX1_act_196
        refine lv_iload_n hx hb dX1_act_108 rfl (lv_at hl 0 rfl) ?_
        refine lv_bipush (v := 10) hx hb dX1_act_109 (by decide) ?_
        refine lv_icmp_ne (tgt := 119) hx hb dX1_act_111 (by decide) (fun c9 => ?_) (fun c9 => absurd (c_17.symm.trans c9) (by decide))
        refine lv_iload_n hx hb dX1_act_119 rfl (lv_at hl 2 rfl) ?_
        refine lv_if_eq (tgt := 133) hx hb dX1_act_120 (by decide) (fun c9 => ?_) (fun c9 => absurd c_6 c9)
        refine lv_iconst (v := 1) hx hb dX1_act_133 (by decide) ?_
        refine lv_goto (tgt := 138) hx hb dX1_act_134 (by decide) ?_
        refine lv_istore (lv' := [(4, .int 1), (3, .int (fx_X1_ahead a1 a2 a3 a8 a9 p0)), (0, .ref h0), (1, .int p0), (2, .int p1)]) hx hb dX1_act_138 hl (by decide) rfl (fun ls hl => ?_)
        refine lv_iload hx hb dX1_act_140 (lv_at hl 0 rfl) ?_
        refine lv_if_eq (tgt := 152) hx hb dX1_act_142 (by decide) (fun c9 => absurd c9 (by decide)) (fun c9 => ?_)
        refine lv_iload_n hx hb dX1_act_145 rfl (lv_at hl 1 rfl) ?_
        have hPc := hP.sub (ws' := []) [] rfl
        have hDc := hD.sub (ws' := []) [] (by decide) rfl
        have hKc := hK.sub (tys' := []) [] rfl
        have hFc := va_free (wc := []) hD hS hA [] rfl
        refine va_calli (va_runS (As := [.int (fx_X1_ahead a1 a2 a3 a8 a9 p0)]) (rest := []) ⟨hx, hb, hml, hown, hts⟩ (ct_X1_moved l dC dI H.size (fx_X1_ahead a1 a2 a3 a8 a9 p0)) (va_cwS 1 hts gX1_act_X1_moved rfl rfl rfl (by decide +kernel) ⟨Nat.le_of_ble_eq_true rfl, Nat.le_of_ble_eq_true rfl⟩) ⟨fun a U g mk q => by obtain ⟨q0, q1, qP, qK, qD⟩ := q; exact ⟨q0, q1, qP, va_K.moved (u := U) (U := U.calling g mk a) (Vm.Alike.refl U.vm) qK, qD⟩, fun U hU hW => ⟨rfl, by rw [hU], by rw [hU]; exact hPc, va_K.moved hW.alike hKc, hDc.weaken (fun _ _ _ _ => trivial)⟩⟩ rfl rfl hl.1 rfl (lv_room (Nat.le_of_ble_eq_true rfl)) dX1_act_146 ⟨(Nat.zero_le _), (Nat.zero_le _)⟩) hS (fun q _ h => hFc q h) hFc (fun r_37 u t H1 locs ht hvm hw hB hz1 hk1 hS => ?_)
        obtain ⟨er, hu⟩ := hw
        subst hu
        subst er
        obtain ⟨hP1, -, hD1⟩ := hB
        rw [ht] at hP1
        obtain ⟨hP, hD⟩ := va_join (wr := [(h0, .inr (1, [.int 0, .int a1, .int a2, .int a3, .int (gx_X1_told_4 (fx_X1_ahead a1 a2 a3 a8 a9 p0)), .int (gx_X1_told_5 p0), .int (gx_X1_told_6 a6 (fx_X1_ahead a1 a2 a3 a8 a9 p0)), .int (gx_X1_told_7 a7 (fx_X1_ahead a1 a2 a3 a8 a9 p0)), .int a8, .int 1, .int a10, .int a11, .ref h1]))]) (w1 := []) hP hD [] [0] rfl rfl (by decide) (by decide) hk1 hFc hP1 hD1
        generalize H1 = H at hP hS ⊢
        have hP : va_P (dC, dI) vwCl [(h0, .inr (1, [.int 0, .int a1, .int a2, .int a3, .int (gx_X1_told_4 (fx_X1_ahead a1 a2 a3 a8 a9 p0)), .int (gx_X1_told_5 p0), .int (gx_X1_told_6 a6 (fx_X1_ahead a1 a2 a3 a8 a9 p0)), .int (gx_X1_told_7 a7 (fx_X1_ahead a1 a2 a3 a8 a9 p0)), .int a8, .int 1, .int a10, .int a11, .ref h1]))] H := hP
        have hD : va_D A [(h0, .inr (1, [.int 0, .int a1, .int a2, .int a3, .int (gx_X1_told_4 (fx_X1_ahead a1 a2 a3 a8 a9 p0)), .int (gx_X1_told_5 p0), .int (gx_X1_told_6 a6 (fx_X1_ahead a1 a2 a3 a8 a9 p0)), .int (gx_X1_told_7 a7 (fx_X1_ahead a1 a2 a3 a8 a9 p0)), .int a8, .int 1, .int a10, .int a11, .ref h1]))] := hD
        refine lv_goto (tgt := 153) hx hb dX1_act_149 (by decide) ?_
        refine lv_istore (lv' := [(5, .int (fx_X1_moved (fx_X1_ahead a1 a2 a3 a8 a9 p0))), (4, .int 1), (3, .int (fx_X1_ahead a1 a2 a3 a8 a9 p0)), (0, .ref h0), (1, .int p0), (2, .int p1)]) hx hb dX1_act_153 hl (by decide) rfl (fun ls hl => ?_)
        refine lv_aload_n hx hb dX1_act_155 rfl (lv_at hl 3 rfl) ?_
        refine lv_iload hx hb dX1_act_156 (lv_at hl 0 rfl) ?_
        refine lv_if_eq (tgt := 168) hx hb dX1_act_158 (by decide) (fun c_38 => ?_) (fun c_38 => ?_)
        · refine lv_aload_n hx hb dX1_act_168 rfl (lv_at hl 3 rfl) ?_
          refine va_get (D := (dC, dI)) (ci := 1) (v := .int a3) (C := RX1) (T := TX1) (N := 13) hx hb hts (fun _ h => List.mem_cons_of_mem _ (List.mem_append_right _ h)) hown hK hP 0 rfl rfl 3 (by decide) (hts (.fieldLink RX1 50 "FileStatusModel" "position" "I") (by decide +kernel)) (fun _ h9 => h9) rfl dX1_act_169 ?_
          refine lv_goto (tgt := 177) hx hb dX1_act_172 (by decide) ?_
          refine va_put (D := (dC, dI)) (ci := 1) (v := .int a3) (ty := .int) (C := RX1) (T := TX1) (N := 13) hx hb hts (fun _ h => List.mem_cons_of_mem _ (List.mem_append_right _ h)) tyX1 tyX1_ok nmX1 hown hK hP hD hS 0 rfl rfl 3 (by decide) (hts (.fieldLink RX1 50 "FileStatusModel" "position" "I") (by decide +kernel)) (fun _ h9 => h9) rfl (by decide +kernel) rfl rfl (Nat.le_of_ble_eq_true rfl) dX1_act_177 (fun H locs hP hD hS => ?_)
          have hP : va_P (dC, dI) vwCl [(h0, .inr (1, [.int 0, .int a1, .int a2, .int a3, .int (gx_X1_told_4 (fx_X1_ahead a1 a2 a3 a8 a9 p0)), .int (gx_X1_told_5 p0), .int (gx_X1_told_6 a6 (fx_X1_ahead a1 a2 a3 a8 a9 p0)), .int (gx_X1_told_7 a7 (fx_X1_ahead a1 a2 a3 a8 a9 p0)), .int a8, .int 1, .int a10, .int a11, .ref h1]))] H := hP
          have hD : va_D A [(h0, .inr (1, [.int 0, .int a1, .int a2, .int a3, .int (gx_X1_told_4 (fx_X1_ahead a1 a2 a3 a8 a9 p0)), .int (gx_X1_told_5 p0), .int (gx_X1_told_6 a6 (fx_X1_ahead a1 a2 a3 a8 a9 p0)), .int (gx_X1_told_7 a7 (fx_X1_ahead a1 a2 a3 a8 a9 p0)), .int a8, .int 1, .int a10, .int a11, .ref h1]))] := hD
          refine lv_iload_n hx hb dX1_act_180 rfl (lv_at hl 4 rfl) ?_
          refine lv_bipush (v := 6) hx hb dX1_act_181 (by decide) ?_
          refine lv_icmp_ne (tgt := 195) hx hb dX1_act_183 (by decide) (fun c9 => ?_) (fun c9 => absurd (c_6.symm.trans c9) (by decide))
          refine lv_iload_n hx hb dX1_act_195 rfl (lv_at hl 2 rfl) ?_
          have hP9 := hP.sub (ws' := [(h0, .inr (1, [.int 0, .int a1, .int a2, .int a3, .int (gx_X1_told_4 (fx_X1_ahead a1 a2 a3 a8 a9 p0)), .int (gx_X1_told_5 p0), .int (gx_X1_told_6 a6 (fx_X1_ahead a1 a2 a3 a8 a9 p0)), .int (gx_X1_told_7 a7 (fx_X1_ahead a1 a2 a3 a8 a9 p0)), .int a8, .int 1, .int a10, .int a11, .ref h1]))]) [0] rfl
          have hD9 := hD.sub (ws' := [(h0, .inr (1, [.int 0, .int a1, .int a2, .int a3, .int (gx_X1_told_4 (fx_X1_ahead a1 a2 a3 a8 a9 p0)), .int (gx_X1_told_5 p0), .int (gx_X1_told_6 a6 (fx_X1_ahead a1 a2 a3 a8 a9 p0)), .int (gx_X1_told_7 a7 (fx_X1_ahead a1 a2 a3 a8 a9 p0)), .int a8, .int 1, .int a10, .int a11, .ref h1]))]) [0] (by decide) rfl
          have hK9 := hK.sub (tys' := []) [] rfl
          have eg_0 : gx_X1_act_0 = 0 := by rfl
          have eg_3 : gx_X1_act_3 a1 a2 a3 a8 a9 a11 p0 p1 = a3 := by unfold gx_X1_act_3; rw [if_neg c_1, if_pos c_2, if_neg c_4, if_pos c_6, if_neg c_30, if_pos c_38]
          have eg_4 : gx_X1_act_4 a1 a2 a3 a4 a8 a9 a11 p0 p1 = gx_X1_told_4 (fx_X1_ahead a1 a2 a3 a8 a9 p0) := by unfold gx_X1_act_4; rw [if_neg c_1, if_pos c_2, if_neg c_4]
          have eg_5 : gx_X1_act_5 a5 p0 = gx_X1_told_5 p0 := by unfold gx_X1_act_5; rw [if_neg c_1, if_pos c_2]
          have eg_6 : gx_X1_act_6 a1 a2 a3 a6 a8 a9 a11 p0 p1 = gx_X1_told_6 a6 (fx_X1_ahead a1 a2 a3 a8 a9 p0) := by unfold gx_X1_act_6; rw [if_neg c_1, if_pos c_2, if_neg c_4]
          have eg_7 : gx_X1_act_7 a1 a2 a3 a7 a8 a9 a11 p0 p1 = gx_X1_told_7 a7 (fx_X1_ahead a1 a2 a3 a8 a9 p0) := by unfold gx_X1_act_7; rw [if_neg c_1, if_pos c_2, if_neg c_4]
          have eg_8 : gx_X1_act_8 a1 a2 a3 a8 a9 p0 p1 = a8 := by unfold gx_X1_act_8; rw [if_neg c_1, if_pos c_2, if_neg c_4]
          have eg_9 : gx_X1_act_9 a1 a2 a3 a8 a9 a11 p0 p1 = 1 := by unfold gx_X1_act_9; rw [if_neg c_1, if_pos c_2, if_neg c_4, if_pos c_6, if_neg c_7, if_pos c_17]
          have eg_11 : gx_X1_act_11 a1 a2 a3 a8 a9 a11 p0 p1 = a11 := by unfold gx_X1_act_11; rw [if_neg c_1, if_pos c_2, if_neg c_4, if_pos c_6, if_neg c_7, if_pos c_17]
          have ef : fx_X1_act a1 a2 a3 a8 a9 a11 p0 p1 = fx_X1_ahead a1 a2 a3 a8 a9 p0 := by unfold fx_X1_act; rw [if_neg c_1, if_pos c_2, if_neg c_4]
          exact W.iret (v := fx_X1_ahead a1 a2 a3 a8 a9 p0) hx hb hr (fun t ht hW => ⟨⟨(fx_X1_ahead a1 a2 a3 a8 a9 p0), [(h0, .inr (1, [.int 0, .int a1, .int a2, .int a3, .int (gx_X1_told_4 (fx_X1_ahead a1 a2 a3 a8 a9 p0)), .int (gx_X1_told_5 p0), .int (gx_X1_told_6 a6 (fx_X1_ahead a1 a2 a3 a8 a9 p0)), .int (gx_X1_told_7 a7 (fx_X1_ahead a1 a2 a3 a8 a9 p0)), .int a8, .int 1, .int a10, .int a11, .ref h1]))], rfl, ⟨ef.symm, by rw [eg_0, eg_3, eg_4, eg_5, eg_6, eg_7, eg_8, eg_9, eg_11]⟩, by rw [ht]; exact hP9, va_K.moved hW.alike hK9, hD9⟩, hS.F ht⟩) hS.2.2 dX1_act_196
        refine lv_aload_n hx hb dX1_act_161 rfl (lv_at hl 3 rfl) ?_
        refine va_get (D := (dC, dI)) (ci := 1) (v := .int a8) (C := RX1) (T := TX1) (N := 13) hx hb hts (fun _ h => List.mem_cons_of_mem _ (List.mem_append_right _ h)) hown hK hP 0 rfl rfl 8 (by decide) (hts (.fieldLink RX1 23 "FileStatusModel" "isOpen" "Z") (by decide +kernel)) (fun _ h9 => h9) rfl dX1_act_162 ?_
        refine lv_if_ne (tgt := 175) hx hb dX1_act_165 (by decide) (fun c9 => ?_) (fun c9 => absurd c9 c_30)
        refine lv_iload hx hb dX1_act_175 (lv_at hl 0 rfl) ?_
        refine va_put (D := (dC, dI)) (ci := 1) (v := .int (fx_X1_moved (fx_X1_ahead a1 a2 a3 a8 a9 p0))) (ty := .int) (C := RX1) (T := TX1) (N := 13) hx hb hts (fun _ h => List.mem_cons_of_mem _ (List.mem_append_right _ h)) tyX1 tyX1_ok nmX1 hown hK hP hD hS 0 rfl rfl 3 (by decide) (hts (.fieldLink RX1 50 "FileStatusModel" "position" "I") (by decide +kernel)) (fun _ h9 => h9) rfl (by decide +kernel) rfl rfl (Nat.le_of_ble_eq_true rfl) dX1_act_177 (fun H locs hP hD hS => ?_)
        have hP : va_P (dC, dI) vwCl [(h0, .inr (1, [.int 0, .int a1, .int a2, .int (fx_X1_moved (fx_X1_ahead a1 a2 a3 a8 a9 p0)), .int (gx_X1_told_4 (fx_X1_ahead a1 a2 a3 a8 a9 p0)), .int (gx_X1_told_5 p0), .int (gx_X1_told_6 a6 (fx_X1_ahead a1 a2 a3 a8 a9 p0)), .int (gx_X1_told_7 a7 (fx_X1_ahead a1 a2 a3 a8 a9 p0)), .int a8, .int 1, .int a10, .int a11, .ref h1]))] H := hP
        have hD : va_D A [(h0, .inr (1, [.int 0, .int a1, .int a2, .int (fx_X1_moved (fx_X1_ahead a1 a2 a3 a8 a9 p0)), .int (gx_X1_told_4 (fx_X1_ahead a1 a2 a3 a8 a9 p0)), .int (gx_X1_told_5 p0), .int (gx_X1_told_6 a6 (fx_X1_ahead a1 a2 a3 a8 a9 p0)), .int (gx_X1_told_7 a7 (fx_X1_ahead a1 a2 a3 a8 a9 p0)), .int a8, .int 1, .int a10, .int a11, .ref h1]))] := hD
        refine lv_iload_n hx hb dX1_act_180 rfl (lv_at hl 4 rfl) ?_
        refine lv_bipush (v := 6) hx hb dX1_act_181 (by decide) ?_
        refine lv_icmp_ne (tgt := 195) hx hb dX1_act_183 (by decide) (fun c9 => ?_) (fun c9 => absurd (c_6.symm.trans c9) (by decide))
        refine lv_iload_n hx hb dX1_act_195 rfl (lv_at hl 2 rfl) ?_
        have hP9 := hP.sub (ws' := [(h0, .inr (1, [.int 0, .int a1, .int a2, .int (fx_X1_moved (fx_X1_ahead a1 a2 a3 a8 a9 p0)), .int (gx_X1_told_4 (fx_X1_ahead a1 a2 a3 a8 a9 p0)), .int (gx_X1_told_5 p0), .int (gx_X1_told_6 a6 (fx_X1_ahead a1 a2 a3 a8 a9 p0)), .int (gx_X1_told_7 a7 (fx_X1_ahead a1 a2 a3 a8 a9 p0)), .int a8, .int 1, .int a10, .int a11, .ref h1]))]) [0] rfl
        have hD9 := hD.sub (ws' := [(h0, .inr (1, [.int 0, .int a1, .int a2, .int (fx_X1_moved (fx_X1_ahead a1 a2 a3 a8 a9 p0)), .int (gx_X1_told_4 (fx_X1_ahead a1 a2 a3 a8 a9 p0)), .int (gx_X1_told_5 p0), .int (gx_X1_told_6 a6 (fx_X1_ahead a1 a2 a3 a8 a9 p0)), .int (gx_X1_told_7 a7 (fx_X1_ahead a1 a2 a3 a8 a9 p0)), .int a8, .int 1, .int a10, .int a11, .ref h1]))]) [0] (by decide) rfl
        have hK9 := hK.sub (tys' := []) [] rfl
        have eg_0 : gx_X1_act_0 = 0 := by rfl
        have eg_3 : gx_X1_act_3 a1 a2 a3 a8 a9 a11 p0 p1 = fx_X1_moved (fx_X1_ahead a1 a2 a3 a8 a9 p0) := by unfold gx_X1_act_3; rw [if_neg c_1, if_pos c_2, if_neg c_4, if_pos c_6, if_neg c_30, if_neg c_38]
        have eg_4 : gx_X1_act_4 a1 a2 a3 a4 a8 a9 a11 p0 p1 = gx_X1_told_4 (fx_X1_ahead a1 a2 a3 a8 a9 p0) := by unfold gx_X1_act_4; rw [if_neg c_1, if_pos c_2, if_neg c_4]
        have eg_5 : gx_X1_act_5 a5 p0 = gx_X1_told_5 p0 := by unfold gx_X1_act_5; rw [if_neg c_1, if_pos c_2]
        have eg_6 : gx_X1_act_6 a1 a2 a3 a6 a8 a9 a11 p0 p1 = gx_X1_told_6 a6 (fx_X1_ahead a1 a2 a3 a8 a9 p0) := by unfold gx_X1_act_6; rw [if_neg c_1, if_pos c_2, if_neg c_4]
        have eg_7 : gx_X1_act_7 a1 a2 a3 a7 a8 a9 a11 p0 p1 = gx_X1_told_7 a7 (fx_X1_ahead a1 a2 a3 a8 a9 p0) := by unfold gx_X1_act_7; rw [if_neg c_1, if_pos c_2, if_neg c_4]
        have eg_8 : gx_X1_act_8 a1 a2 a3 a8 a9 p0 p1 = a8 := by unfold gx_X1_act_8; rw [if_neg c_1, if_pos c_2, if_neg c_4]
        have eg_9 : gx_X1_act_9 a1 a2 a3 a8 a9 a11 p0 p1 = 1 := by unfold gx_X1_act_9; rw [if_neg c_1, if_pos c_2, if_neg c_4, if_pos c_6, if_neg c_7, if_pos c_17]
        have eg_11 : gx_X1_act_11 a1 a2 a3 a8 a9 a11 p0 p1 = a11 := by unfold gx_X1_act_11; rw [if_neg c_1, if_pos c_2, if_neg c_4, if_pos c_6, if_neg c_7, if_pos c_17]
        have ef : fx_X1_act a1 a2 a3 a8 a9 a11 p0 p1 = fx_X1_ahead a1 a2 a3 a8 a9 p0 := by unfold fx_X1_act; rw [if_neg c_1, if_pos c_2, if_neg c_4]
        exact W.iret (v := fx_X1_ahead a1 a2 a3 a8 a9 p0) hx hb hr (fun t ht hW => ⟨⟨(fx_X1_ahead a1 a2 a3 a8 a9 p0), [(h0, .inr (1, [.int 0, .int a1, .int a2, .int (fx_X1_moved (fx_X1_ahead a1 a2 a3 a8 a9 p0)), .int (gx_X1_told_4 (fx_X1_ahead a1 a2 a3 a8 a9 p0)), .int (gx_X1_told_5 p0), .int (gx_X1_told_6 a6 (fx_X1_ahead a1 a2 a3 a8 a9 p0)), .int (gx_X1_told_7 a7 (fx_X1_ahead a1 a2 a3 a8 a9 p0)), .int a8, .int 1, .int a10, .int a11, .ref h1]))], rfl, ⟨ef.symm, by rw [eg_0, eg_3, eg_4, eg_5, eg_6, eg_7, eg_8, eg_9, eg_11]⟩, by rw [ht]; exact hP9, va_K.moved hW.alike hK9, hD9⟩, hS.F ht⟩) hS.2.2 dX1_act_196
      refine lv_iload_n hx hb dX1_act_63 rfl (lv_at hl 2 rfl) ?_
      refine lv_iconst (v := 1) hx hb dX1_act_64 (by decide) ?_
      refine lv_icmp_ne (tgt := 86) hx hb dX1_act_65 (by decide) (fun c_39 => ?_) (fun c_39 => ?_)
      · refine lv_iconst (v := 0) hx hb dX1_act_86 (by decide) ?_
        refine va_put (D := (dC, dI)) (ci := 1) (v := .int 0) (ty := .boolean) (C := RX1) (T := TX1) (N := 13) hx hb hts (fun _ h => List.mem_cons_of_mem _ (List.mem_append_right _ h)) tyX1 tyX1_ok nmX1 hown hK hP hD hS 0 rfl rfl 9 (by decide) (hts (.fieldLink RX1 47 "FileStatusModel" "permit" "Z") (by decide +kernel)) (fun _ h9 => h9) rfl (by decide +kernel) rfl rfl (Nat.le_of_ble_eq_true rfl) dX1_act_87 (fun H locs hP hD hS => ?_)
        have hP : va_P (dC, dI) vwCl [(h0, .inr (1, [.int 0, .int a1, .int a2, .int a3, .int (gx_X1_told_4 (fx_X1_ahead a1 a2 a3 a8 a9 p0)), .int (gx_X1_told_5 p0), .int (gx_X1_told_6 a6 (fx_X1_ahead a1 a2 a3 a8 a9 p0)), .int (gx_X1_told_7 a7 (fx_X1_ahead a1 a2 a3 a8 a9 p0)), .int a8, .int 0, .int a10, .int a11, .ref h1]))] H := hP
        have hD : va_D A [(h0, .inr (1, [.int 0, .int a1, .int a2, .int a3, .int (gx_X1_told_4 (fx_X1_ahead a1 a2 a3 a8 a9 p0)), .int (gx_X1_told_5 p0), .int (gx_X1_told_6 a6 (fx_X1_ahead a1 a2 a3 a8 a9 p0)), .int (gx_X1_told_7 a7 (fx_X1_ahead a1 a2 a3 a8 a9 p0)), .int a8, .int 0, .int a10, .int a11, .ref h1]))] := hD
        refine lv_iload_n hx hb dX1_act_90 rfl (lv_at hl 2 rfl) ?_
        refine lv_if_ne (tgt := 119) hx hb dX1_act_91 (by decide) (fun c9 => ?_) (fun c9 => absurd c9 c_6)
        refine lv_iload_n hx hb dX1_act_119 rfl (lv_at hl 2 rfl) ?_
        refine lv_if_eq (tgt := 133) hx hb dX1_act_120 (by decide) (fun c9 => absurd c9 c_6) (fun c9 => ?_)
        refine lv_iload_n hx hb dX1_act_123 rfl (lv_at hl 2 rfl) ?_
        refine lv_iconst (v := 1) hx hb dX1_act_124 (by decide) ?_
        refine lv_icmp_eq (tgt := 133) hx hb dX1_act_125 (by decide) (fun c9 => absurd c9 c_39) (fun c9 => ?_)
        refine lv_iload_n hx hb dX1_act_128 rfl (lv_at hl 2 rfl) ?_
        refine lv_iconst (v := 5) hx hb dX1_act_129 (by decide) ?_
        refine lv_icmp_ne (tgt := 137) hx hb dX1_act_130 (by decide) (fun c_40 => ?_) (fun c_40 => ?_)
        · refine lv_iconst (v := 0) hx hb dX1_act_137 (by decide) ?_
          refine lv_istore (lv' := [(4, .int 0), (3, .int (fx_X1_ahead a1 a2 a3 a8 a9 p0)), (0, .ref h0), (1, .int p0), (2, .int p1)]) hx hb dX1_act_138 hl (by decide) rfl (fun ls hl => ?_)
          refine lv_iload hx hb dX1_act_140 (lv_at hl 0 rfl) ?_
          refine lv_if_eq (tgt := 152) hx hb dX1_act_142 (by decide) (fun c9 => ?_) (fun c9 => absurd c9 (by decide))
          refine lv_iconst (v := 0) hx hb dX1_act_152 (by decide) ?_
          refine lv_istore (lv' := [(5, .int 0), (4, .int 0), (3, .int (fx_X1_ahead a1 a2 a3 a8 a9 p0)), (0, .ref h0), (1, .int p0), (2, .int p1)]) hx hb dX1_act_153 hl (by decide) rfl (fun ls hl => ?_)
          refine lv_aload_n hx hb dX1_act_155 rfl (lv_at hl 3 rfl) ?_
          refine lv_iload hx hb dX1_act_156 (lv_at hl 0 rfl) ?_
          refine lv_if_eq (tgt := 168) hx hb dX1_act_158 (by decide) (fun c9 => ?_) (fun c9 => absurd c9 (by decide))
          refine lv_aload_n hx hb dX1_act_168 rfl (lv_at hl 3 rfl) ?_
          refine va_get (D := (dC, dI)) (ci := 1) (v := .int a3) (C := RX1) (T := TX1) (N := 13) hx hb hts (fun _ h => List.mem_cons_of_mem _ (List.mem_append_right _ h)) hown hK hP 0 rfl rfl 3 (by decide) (hts (.fieldLink RX1 50 "FileStatusModel" "position" "I") (by decide +kernel)) (fun _ h9 => h9) rfl dX1_act_169 ?_
          refine lv_goto (tgt := 177) hx hb dX1_act_172 (by decide) ?_
          refine va_put (D := (dC, dI)) (ci := 1) (v := .int a3) (ty := .int) (C := RX1) (T := TX1) (N := 13) hx hb hts (fun _ h => List.mem_cons_of_mem _ (List.mem_append_right _ h)) tyX1 tyX1_ok nmX1 hown hK hP hD hS 0 rfl rfl 3 (by decide) (hts (.fieldLink RX1 50 "FileStatusModel" "position" "I") (by decide +kernel)) (fun _ h9 => h9) rfl (by decide +kernel) rfl rfl (Nat.le_of_ble_eq_true rfl) dX1_act_177 (fun H locs hP hD hS => ?_)
          have hP : va_P (dC, dI) vwCl [(h0, .inr (1, [.int 0, .int a1, .int a2, .int a3, .int (gx_X1_told_4 (fx_X1_ahead a1 a2 a3 a8 a9 p0)), .int (gx_X1_told_5 p0), .int (gx_X1_told_6 a6 (fx_X1_ahead a1 a2 a3 a8 a9 p0)), .int (gx_X1_told_7 a7 (fx_X1_ahead a1 a2 a3 a8 a9 p0)), .int a8, .int 0, .int a10, .int a11, .ref h1]))] H := hP
          have hD : va_D A [(h0, .inr (1, [.int 0, .int a1, .int a2, .int a3, .int (gx_X1_told_4 (fx_X1_ahead a1 a2 a3 a8 a9 p0)), .int (gx_X1_told_5 p0), .int (gx_X1_told_6 a6 (fx_X1_ahead a1 a2 a3 a8 a9 p0)), .int (gx_X1_told_7 a7 (fx_X1_ahead a1 a2 a3 a8 a9 p0)), .int a8, .int 0, .int a10, .int a11, .ref h1]))] := hD
          refine lv_iload_n hx hb dX1_act_180 rfl (lv_at hl 4 rfl) ?_
          refine lv_bipush (v := 6) hx hb dX1_act_181 (by decide) ?_
          refine lv_icmp_ne (tgt := 195) hx hb dX1_act_183 (by decide) (fun c_41 => ?_) (fun c_41 => ?_)
          · refine lv_iload_n hx hb dX1_act_195 rfl (lv_at hl 2 rfl) ?_
            have hP9 := hP.sub (ws' := [(h0, .inr (1, [.int 0, .int a1, .int a2, .int a3, .int (gx_X1_told_4 (fx_X1_ahead a1 a2 a3 a8 a9 p0)), .int (gx_X1_told_5 p0), .int (gx_X1_told_6 a6 (fx_X1_ahead a1 a2 a3 a8 a9 p0)), .int (gx_X1_told_7 a7 (fx_X1_ahead a1 a2 a3 a8 a9 p0)), .int a8, .int 0, .int a10, .int a11, .ref h1]))]) [0] rfl
            have hD9 := hD.sub (ws' := [(h0, .inr (1, [.int 0, .int a1, .int a2, .int a3, .int (gx_X1_told_4 (fx_X1_ahead a1 a2 a3 a8 a9 p0)), .int (gx_X1_told_5 p0), .int (gx_X1_told_6 a6 (fx_X1_ahead a1 a2 a3 a8 a9 p0)), .int (gx_X1_told_7 a7 (fx_X1_ahead a1 a2 a3 a8 a9 p0)), .int a8, .int 0, .int a10, .int a11, .ref h1]))]) [0] (by decide) rfl
            have hK9 := hK.sub (tys' := []) [] rfl
            have eg_0 : gx_X1_act_0 = 0 := by rfl
            have eg_3 : gx_X1_act_3 a1 a2 a3 a8 a9 a11 p0 p1 = a3 := by unfold gx_X1_act_3; rw [if_neg c_1, if_pos c_2, if_neg c_4, if_neg c_6, if_neg c_39, if_neg c_40]
            have eg_4 : gx_X1_act_4 a1 a2 a3 a4 a8 a9 a11 p0 p1 = gx_X1_told_4 (fx_X1_ahead a1 a2 a3 a8 a9 p0) := by unfold gx_X1_act_4; rw [if_neg c_1, if_pos c_2, if_neg c_4]
            have eg_5 : gx_X1_act_5 a5 p0 = gx_X1_told_5 p0 := by unfold gx_X1_act_5; rw [if_neg c_1, if_pos c_2]
            have eg_6 : gx_X1_act_6 a1 a2 a3 a6 a8 a9 a11 p0 p1 = gx_X1_told_6 a6 (fx_X1_ahead a1 a2 a3 a8 a9 p0) := by unfold gx_X1_act_6; rw [if_neg c_1, if_pos c_2, if_neg c_4]
            have eg_7 : gx_X1_act_7 a1 a2 a3 a7 a8 a9 a11 p0 p1 = gx_X1_told_7 a7 (fx_X1_ahead a1 a2 a3 a8 a9 p0) := by unfold gx_X1_act_7; rw [if_neg c_1, if_pos c_2, if_neg c_4]
            have eg_8 : gx_X1_act_8 a1 a2 a3 a8 a9 p0 p1 = a8 := by unfold gx_X1_act_8; rw [if_neg c_1, if_pos c_2, if_neg c_4]
            have eg_9 : gx_X1_act_9 a1 a2 a3 a8 a9 a11 p0 p1 = 0 := by unfold gx_X1_act_9; rw [if_neg c_1, if_pos c_2, if_neg c_4, if_neg c_6, if_neg c_39]
            have eg_11 : gx_X1_act_11 a1 a2 a3 a8 a9 a11 p0 p1 = a11 := by unfold gx_X1_act_11; rw [if_neg c_1, if_pos c_2, if_neg c_4, if_neg c_6]
            have ef : fx_X1_act a1 a2 a3 a8 a9 a11 p0 p1 = fx_X1_ahead a1 a2 a3 a8 a9 p0 := by unfold fx_X1_act; rw [if_neg c_1, if_pos c_2, if_neg c_4]
            exact W.iret (v := fx_X1_ahead a1 a2 a3 a8 a9 p0) hx hb hr (fun t ht hW => ⟨⟨(fx_X1_ahead a1 a2 a3 a8 a9 p0), [(h0, .inr (1, [.int 0, .int a1, .int a2, .int a3, .int (gx_X1_told_4 (fx_X1_ahead a1 a2 a3 a8 a9 p0)), .int (gx_X1_told_5 p0), .int (gx_X1_told_6 a6 (fx_X1_ahead a1 a2 a3 a8 a9 p0)), .int (gx_X1_told_7 a7 (fx_X1_ahead a1 a2 a3 a8 a9 p0)), .int a8, .int 0, .int a10, .int a11, .ref h1]))], rfl, ⟨ef.symm, by rw [eg_0, eg_3, eg_4, eg_5, eg_6, eg_7, eg_8, eg_9, eg_11]⟩, by rw [ht]; exact hP9, va_K.moved hW.alike hK9, hD9⟩, hS.F ht⟩) hS.2.2 dX1_act_196
          refine lv_iload_n hx hb dX1_act_186 rfl (lv_at hl 2 rfl) ?_
          refine lv_if_ne (tgt := 195) hx hb dX1_act_187 (by decide) (fun c9 => ?_) (fun c9 => absurd c9 c_4)
          refine lv_iload_n hx hb dX1_act_195 rfl (lv_at hl 2 rfl) ?_
          have hP9 := hP.sub (ws' := [(h0, .inr (1, [.int 0, .int a1, .int a2, .int a3, .int (gx_X1_told_4 (fx_X1_ahead a1 a2 a3 a8 a9 p0)), .int (gx_X1_told_5 p0), .int (gx_X1_told_6 a6 (fx_X1_ahead a1 a2 a3 a8 a9 p0)), .int (gx_X1_told_7 a7 (fx_X1_ahead a1 a2 a3 a8 a9 p0)), .int a8, .int 0, .int a10, .int a11, .ref h1]))]) [0] rfl
          have hD9 := hD.sub (ws' := [(h0, .inr (1, [.int 0, .int a1, .int a2, .int a3, .int (gx_X1_told_4 (fx_X1_ahead a1 a2 a3 a8 a9 p0)), .int (gx_X1_told_5 p0), .int (gx_X1_told_6 a6 (fx_X1_ahead a1 a2 a3 a8 a9 p0)), .int (gx_X1_told_7 a7 (fx_X1_ahead a1 a2 a3 a8 a9 p0)), .int a8, .int 0, .int a10, .int a11, .ref h1]))]) [0] (by decide) rfl
          have hK9 := hK.sub (tys' := []) [] rfl
          have eg_0 : gx_X1_act_0 = 0 := by rfl
          have eg_3 : gx_X1_act_3 a1 a2 a3 a8 a9 a11 p0 p1 = a3 := by unfold gx_X1_act_3; rw [if_neg c_1, if_pos c_2, if_neg c_4, if_neg c_6, if_neg c_39, if_neg c_40]
          have eg_4 : gx_X1_act_4 a1 a2 a3 a4 a8 a9 a11 p0 p1 = gx_X1_told_4 (fx_X1_ahead a1 a2 a3 a8 a9 p0) := by unfold gx_X1_act_4; rw [if_neg c_1, if_pos c_2, if_neg c_4]
          have eg_5 : gx_X1_act_5 a5 p0 = gx_X1_told_5 p0 := by unfold gx_X1_act_5; rw [if_neg c_1, if_pos c_2]
          have eg_6 : gx_X1_act_6 a1 a2 a3 a6 a8 a9 a11 p0 p1 = gx_X1_told_6 a6 (fx_X1_ahead a1 a2 a3 a8 a9 p0) := by unfold gx_X1_act_6; rw [if_neg c_1, if_pos c_2, if_neg c_4]
          have eg_7 : gx_X1_act_7 a1 a2 a3 a7 a8 a9 a11 p0 p1 = gx_X1_told_7 a7 (fx_X1_ahead a1 a2 a3 a8 a9 p0) := by unfold gx_X1_act_7; rw [if_neg c_1, if_pos c_2, if_neg c_4]
          have eg_8 : gx_X1_act_8 a1 a2 a3 a8 a9 p0 p1 = a8 := by unfold gx_X1_act_8; rw [if_neg c_1, if_pos c_2, if_neg c_4]
          have eg_9 : gx_X1_act_9 a1 a2 a3 a8 a9 a11 p0 p1 = 0 := by unfold gx_X1_act_9; rw [if_neg c_1, if_pos c_2, if_neg c_4, if_neg c_6, if_neg c_39]
          have eg_11 : gx_X1_act_11 a1 a2 a3 a8 a9 a11 p0 p1 = a11 := by unfold gx_X1_act_11; rw [if_neg c_1, if_pos c_2, if_neg c_4, if_neg c_6]
          have ef : fx_X1_act a1 a2 a3 a8 a9 a11 p0 p1 = fx_X1_ahead a1 a2 a3 a8 a9 p0 := by unfold fx_X1_act; rw [if_neg c_1, if_pos c_2, if_neg c_4]
          exact W.iret (v := fx_X1_ahead a1 a2 a3 a8 a9 p0) hx hb hr (fun t ht hW => ⟨⟨(fx_X1_ahead a1 a2 a3 a8 a9 p0), [(h0, .inr (1, [.int 0, .int a1, .int a2, .int a3, .int (gx_X1_told_4 (fx_X1_ahead a1 a2 a3 a8 a9 p0)), .int (gx_X1_told_5 p0), .int (gx_X1_told_6 a6 (fx_X1_ahead a1 a2 a3 a8 a9 p0)), .int (gx_X1_told_7 a7 (fx_X1_ahead a1 a2 a3 a8 a9 p0)), .int a8, .int 0, .int a10, .int a11, .ref h1]))], rfl, ⟨ef.symm, by rw [eg_0, eg_3, eg_4, eg_5, eg_6, eg_7, eg_8, eg_9, eg_11]⟩, by rw [ht]; exact hP9, va_K.moved hW.alike hK9, hD9⟩, hS.F ht⟩) hS.2.2 dX1_act_196
        refine lv_iconst (v := 1) hx hb dX1_act_133 (by decide) ?_
        refine lv_goto (tgt := 138) hx hb dX1_act_134 (by decide) ?_
        refine lv_istore (lv' := [(4, .int 1), (3, .int (fx_X1_ahead a1 a2 a3 a8 a9 p0)), (0, .ref h0), (1, .int p0), (2, .int p1)]) hx hb dX1_act_138 hl (by decide) rfl (fun ls hl => ?_)
        refine lv_iload hx hb dX1_act_140 (lv_at hl 0 rfl) ?_
        refine lv_if_eq (tgt := 152) hx hb dX1_act_142 (by decide) (fun c9 => absurd c9 (by decide)) (fun c9 => ?_)
        refine lv_iload_n hx hb dX1_act_145 rfl (lv_at hl 1 rfl) ?_
        have hPc := hP.sub (ws' := []) [] rfl
        have hDc := hD.sub (ws' := []) [] (by decide) rfl
        have hKc := hK.sub (tys' := []) [] rfl
        have hFc := va_free (wc := []) hD hS hA [] rfl
        refine va_calli (va_runS (As := [.int (fx_X1_ahead a1 a2 a3 a8 a9 p0)]) (rest := []) ⟨hx, hb, hml, hown, hts⟩ (ct_X1_moved l dC dI H.size (fx_X1_ahead a1 a2 a3 a8 a9 p0)) (va_cwS 1 hts gX1_act_X1_moved rfl rfl rfl (by decide +kernel) ⟨Nat.le_of_ble_eq_true rfl, Nat.le_of_ble_eq_true rfl⟩) ⟨fun a U g mk q => by obtain ⟨q0, q1, qP, qK, qD⟩ := q; exact ⟨q0, q1, qP, va_K.moved (u := U) (U := U.calling g mk a) (Vm.Alike.refl U.vm) qK, qD⟩, fun U hU hW => ⟨rfl, by rw [hU], by rw [hU]; exact hPc, va_K.moved hW.alike hKc, hDc.weaken (fun _ _ _ _ => trivial)⟩⟩ rfl rfl hl.1 rfl (lv_room (Nat.le_of_ble_eq_true rfl)) dX1_act_146 ⟨(Nat.zero_le _), (Nat.zero_le _)⟩) hS (fun q _ h => hFc q h) hFc (fun r_42 u t H1 locs ht hvm hw hB hz1 hk1 hS => ?_)
        obtain ⟨er, hu⟩ := hw
        subst hu
        subst er
        obtain ⟨hP1, -, hD1⟩ := hB
        rw [ht] at hP1
        obtain ⟨hP, hD⟩ := va_join (wr := [(h0, .inr (1, [.int 0, .int a1, .int a2, .int a3, .int (gx_X1_told_4 (fx_X1_ahead a1 a2 a3 a8 a9 p0)), .int (gx_X1_told_5 p0), .int (gx_X1_told_6 a6 (fx_X1_ahead a1 a2 a3 a8 a9 p0)), .int (gx_X1_told_7 a7 (fx_X1_ahead a1 a2 a3 a8 a9 p0)), .int a8, .int 0, .int a10, .int a11, .ref h1]))]) (w1 := []) hP hD [] [0] rfl rfl (by decide) (by decide) hk1 hFc hP1 hD1
        generalize H1 = H at hP hS ⊢
        have hP : va_P (dC, dI) vwCl [(h0, .inr (1, [.int 0, .int a1, .int a2, .int a3, .int (gx_X1_told_4 (fx_X1_ahead a1 a2 a3 a8 a9 p0)), .int (gx_X1_told_5 p0), .int (gx_X1_told_6 a6 (fx_X1_ahead a1 a2 a3 a8 a9 p0)), .int (gx_X1_told_7 a7 (fx_X1_ahead a1 a2 a3 a8 a9 p0)), .int a8, .int 0, .int a10, .int a11, .ref h1]))] H := hP
        have hD : va_D A [(h0, .inr (1, [.int 0, .int a1, .int a2, .int a3, .int (gx_X1_told_4 (fx_X1_ahead a1 a2 a3 a8 a9 p0)), .int (gx_X1_told_5 p0), .int (gx_X1_told_6 a6 (fx_X1_ahead a1 a2 a3 a8 a9 p0)), .int (gx_X1_told_7 a7 (fx_X1_ahead a1 a2 a3 a8 a9 p0)), .int a8, .int 0, .int a10, .int a11, .ref h1]))] := hD
        refine lv_goto (tgt := 153) hx hb dX1_act_149 (by decide) ?_
        refine lv_istore (lv' := [(5, .int (fx_X1_moved (fx_X1_ahead a1 a2 a3 a8 a9 p0))), (4, .int 1), (3, .int (fx_X1_ahead a1 a2 a3 a8 a9 p0)), (0, .ref h0), (1, .int p0), (2, .int p1)]) hx hb dX1_act_153 hl (by decide) rfl (fun ls hl => ?_)
        refine lv_aload_n hx hb dX1_act_155 rfl (lv_at hl 3 rfl) ?_
        refine lv_iload hx hb dX1_act_156 (lv_at hl 0 rfl) ?_
        refine lv_if_eq (tgt := 168) hx hb dX1_act_158 (by decide) (fun c_43 => ?_) (fun c_43 => ?_)
        · refine lv_aload_n hx hb dX1_act_168 rfl (lv_at hl 3 rfl) ?_
          refine va_get (D := (dC, dI)) (ci := 1) (v := .int a3) (C := RX1) (T := TX1) (N := 13) hx hb hts (fun _ h => List.mem_cons_of_mem _ (List.mem_append_right _ h)) hown hK hP 0 rfl rfl 3 (by decide) (hts (.fieldLink RX1 50 "FileStatusModel" "position" "I") (by decide +kernel)) (fun _ h9 => h9) rfl dX1_act_169 ?_
          refine lv_goto (tgt := 177) hx hb dX1_act_172 (by decide) ?_
          refine va_put (D := (dC, dI)) (ci := 1) (v := .int a3) (ty := .int) (C := RX1) (T := TX1) (N := 13) hx hb hts (fun _ h => List.mem_cons_of_mem _ (List.mem_append_right _ h)) tyX1 tyX1_ok nmX1 hown hK hP hD hS 0 rfl rfl 3 (by decide) (hts (.fieldLink RX1 50 "FileStatusModel" "position" "I") (by decide +kernel)) (fun _ h9 => h9) rfl (by decide +kernel) rfl rfl (Nat.le_of_ble_eq_true rfl) dX1_act_177 (fun H locs hP hD hS => ?_)
          have hP : va_P (dC, dI) vwCl [(h0, .inr (1, [.int 0, .int a1, .int a2, .int a3, .int (gx_X1_told_4 (fx_X1_ahead a1 a2 a3 a8 a9 p0)), .int (gx_X1_told_5 p0), .int (gx_X1_told_6 a6 (fx_X1_ahead a1 a2 a3 a8 a9 p0)), .int (gx_X1_told_7 a7 (fx_X1_ahead a1 a2 a3 a8 a9 p0)), .int a8, .int 0, .int a10, .int a11, .ref h1]))] H := hP
          have hD : va_D A [(h0, .inr (1, [.int 0, .int a1, .int a2, .int a3, .int (gx_X1_told_4 (fx_X1_ahead a1 a2 a3 a8 a9 p0)), .int (gx_X1_told_5 p0), .int (gx_X1_told_6 a6 (fx_X1_ahead a1 a2 a3 a8 a9 p0)), .int (gx_X1_told_7 a7 (fx_X1_ahead a1 a2 a3 a8 a9 p0)), .int a8, .int 0, .int a10, .int a11, .ref h1]))] := hD
          refine lv_iload_n hx hb dX1_act_180 rfl (lv_at hl 4 rfl) ?_
          refine lv_bipush (v := 6) hx hb dX1_act_181 (by decide) ?_
          refine lv_icmp_ne (tgt := 195) hx hb dX1_act_183 (by decide) (fun c9 => ?_) (fun c9 => absurd (c_40.symm.trans c9) (by decide))
          refine lv_iload_n hx hb dX1_act_195 rfl (lv_at hl 2 rfl) ?_
          have hP9 := hP.sub (ws' := [(h0, .inr (1, [.int 0, .int a1, .int a2, .int a3, .int (gx_X1_told_4 (fx_X1_ahead a1 a2 a3 a8 a9 p0)), .int (gx_X1_told_5 p0), .int (gx_X1_told_6 a6 (fx_X1_ahead a1 a2 a3 a8 a9 p0)), .int (gx_X1_told_7 a7 (fx_X1_ahead a1 a2 a3 a8 a9 p0)), .int a8, .int 0, .int a10, .int a11, .ref h1]))]) [0] rfl
          have hD9 := hD.sub (ws' := [(h0, .inr (1, [.int 0, .int a1, .int a2, .int a3, .int (gx_X1_told_4 (fx_X1_ahead a1 a2 a3 a8 a9 p0)), .int (gx_X1_told_5 p0), .int (gx_X1_told_6 a6 (fx_X1_ahead a1 a2 a3 a8 a9 p0)), .int (gx_X1_told_7 a7 (fx_X1_ahead a1 a2 a3 a8 a9 p0)), .int a8, .int 0, .int a10, .int a11, .ref h1]))]) [0] (by decide) rfl
          have hK9 := hK.sub (tys' := []) [] rfl
          have eg_0 : gx_X1_act_0 = 0 := by rfl
          have eg_3 : gx_X1_act_3 a1 a2 a3 a8 a9 a11 p0 p1 = a3 := by unfold gx_X1_act_3; rw [if_neg c_1, if_pos c_2, if_neg c_4, if_neg c_6, if_neg c_39, if_pos c_40, if_pos c_43]
          have eg_4 : gx_X1_act_4 a1 a2 a3 a4 a8 a9 a11 p0 p1 = gx_X1_told_4 (fx_X1_ahead a1 a2 a3 a8 a9 p0) := by unfold gx_X1_act_4; rw [if_neg c_1, if_pos c_2, if_neg c_4]
          have eg_5 : gx_X1_act_5 a5 p0 = gx_X1_told_5 p0 := by unfold gx_X1_act_5; rw [if_neg c_1, if_pos c_2]
          have eg_6 : gx_X1_act_6 a1 a2 a3 a6 a8 a9 a11 p0 p1 = gx_X1_told_6 a6 (fx_X1_ahead a1 a2 a3 a8 a9 p0) := by unfold gx_X1_act_6; rw [if_neg c_1, if_pos c_2, if_neg c_4]
          have eg_7 : gx_X1_act_7 a1 a2 a3 a7 a8 a9 a11 p0 p1 = gx_X1_told_7 a7 (fx_X1_ahead a1 a2 a3 a8 a9 p0) := by unfold gx_X1_act_7; rw [if_neg c_1, if_pos c_2, if_neg c_4]
          have eg_8 : gx_X1_act_8 a1 a2 a3 a8 a9 p0 p1 = a8 := by unfold gx_X1_act_8; rw [if_neg c_1, if_pos c_2, if_neg c_4]
          have eg_9 : gx_X1_act_9 a1 a2 a3 a8 a9 a11 p0 p1 = 0 := by unfold gx_X1_act_9; rw [if_neg c_1, if_pos c_2, if_neg c_4, if_neg c_6, if_neg c_39]
          have eg_11 : gx_X1_act_11 a1 a2 a3 a8 a9 a11 p0 p1 = a11 := by unfold gx_X1_act_11; rw [if_neg c_1, if_pos c_2, if_neg c_4, if_neg c_6]
          have ef : fx_X1_act a1 a2 a3 a8 a9 a11 p0 p1 = fx_X1_ahead a1 a2 a3 a8 a9 p0 := by unfold fx_X1_act; rw [if_neg c_1, if_pos c_2, if_neg c_4]
          exact W.iret (v := fx_X1_ahead a1 a2 a3 a8 a9 p0) hx hb hr (fun t ht hW => ⟨⟨(fx_X1_ahead a1 a2 a3 a8 a9 p0), [(h0, .inr (1, [.int 0, .int a1, .int a2, .int a3, .int (gx_X1_told_4 (fx_X1_ahead a1 a2 a3 a8 a9 p0)), .int (gx_X1_told_5 p0), .int (gx_X1_told_6 a6 (fx_X1_ahead a1 a2 a3 a8 a9 p0)), .int (gx_X1_told_7 a7 (fx_X1_ahead a1 a2 a3 a8 a9 p0)), .int a8, .int 0, .int a10, .int a11, .ref h1]))], rfl, ⟨ef.symm, by rw [eg_0, eg_3, eg_4, eg_5, eg_6, eg_7, eg_8, eg_9, eg_11]⟩, by rw [ht]; exact hP9, va_K.moved hW.alike hK9, hD9⟩, hS.F ht⟩) hS.2.2 dX1_act_196
        refine lv_aload_n hx hb dX1_act_161 rfl (lv_at hl 3 rfl) ?_
        refine va_get (D := (dC, dI)) (ci := 1) (v := .int a8) (C := RX1) (T := TX1) (N := 13) hx hb hts (fun _ h => List.mem_cons_of_mem _ (List.mem_append_right _ h)) hown hK hP 0 rfl rfl 8 (by decide) (hts (.fieldLink RX1 23 "FileStatusModel" "isOpen" "Z") (by decide +kernel)) (fun _ h9 => h9) rfl dX1_act_162 ?_
        refine lv_if_ne (tgt := 175) hx hb dX1_act_165 (by decide) (fun c_44 => ?_) (fun c_44 => ?_)
        · refine lv_iload hx hb dX1_act_175 (lv_at hl 0 rfl) ?_
          refine va_put (D := (dC, dI)) (ci := 1) (v := .int (fx_X1_moved (fx_X1_ahead a1 a2 a3 a8 a9 p0))) (ty := .int) (C := RX1) (T := TX1) (N := 13) hx hb hts (fun _ h => List.mem_cons_of_mem _ (List.mem_append_right _ h)) tyX1 tyX1_ok nmX1 hown hK hP hD hS 0 rfl rfl 3 (by decide) (hts (.fieldLink RX1 50 "FileStatusModel" "position" "I") (by decide +kernel)) (fun _ h9 => h9) rfl (by decide +kernel) rfl rfl (Nat.le_of_ble_eq_true rfl) dX1_act_177 (fun H locs hP hD hS => ?_)
          have hP : va_P (dC, dI) vwCl [(h0, .inr (1, [.int 0, .int a1, .int a2, .int (fx_X1_moved (fx_X1_ahead a1 a2 a3 a8 a9 p0)), .int (gx_X1_told_4 (fx_X1_ahead a1 a2 a3 a8 a9 p0)), .int (gx_X1_told_5 p0), .int (gx_X1_told_6 a6 (fx_X1_ahead a1 a2 a3 a8 a9 p0)), .int (gx_X1_told_7 a7 (fx_X1_ahead a1 a2 a3 a8 a9 p0)), .int a8, .int 0, .int a10, .int a11, .ref h1]))] H := hP
          have hD : va_D A [(h0, .inr (1, [.int 0, .int a1, .int a2, .int (fx_X1_moved (fx_X1_ahead a1 a2 a3 a8 a9 p0)), .int (gx_X1_told_4 (fx_X1_ahead a1 a2 a3 a8 a9 p0)), .int (gx_X1_told_5 p0), .int (gx_X1_told_6 a6 (fx_X1_ahead a1 a2 a3 a8 a9 p0)), .int (gx_X1_told_7 a7 (fx_X1_ahead a1 a2 a3 a8 a9 p0)), .int a8, .int 0, .int a10, .int a11, .ref h1]))] := hD
          refine lv_iload_n hx hb dX1_act_180 rfl (lv_at hl 4 rfl) ?_
          refine lv_bipush (v := 6) hx hb dX1_act_181 (by decide) ?_
          refine lv_icmp_ne (tgt := 195) hx hb dX1_act_183 (by decide) (fun c9 => ?_) (fun c9 => absurd (c_40.symm.trans c9) (by decide))
          refine lv_iload_n hx hb dX1_act_195 rfl (lv_at hl 2 rfl) ?_
          have hP9 := hP.sub (ws' := [(h0, .inr (1, [.int 0, .int a1, .int a2, .int (fx_X1_moved (fx_X1_ahead a1 a2 a3 a8 a9 p0)), .int (gx_X1_told_4 (fx_X1_ahead a1 a2 a3 a8 a9 p0)), .int (gx_X1_told_5 p0), .int (gx_X1_told_6 a6 (fx_X1_ahead a1 a2 a3 a8 a9 p0)), .int (gx_X1_told_7 a7 (fx_X1_ahead a1 a2 a3 a8 a9 p0)), .int a8, .int 0, .int a10, .int a11, .ref h1]))]) [0] rfl
          have hD9 := hD.sub (ws' := [(h0, .inr (1, [.int 0, .int a1, .int a2, .int (fx_X1_moved (fx_X1_ahead a1 a2 a3 a8 a9 p0)), .int (gx_X1_told_4 (fx_X1_ahead a1 a2 a3 a8 a9 p0)), .int (gx_X1_told_5 p0), .int (gx_X1_told_6 a6 (fx_X1_ahead a1 a2 a3 a8 a9 p0)), .int (gx_X1_told_7 a7 (fx_X1_ahead a1 a2 a3 a8 a9 p0)), .int a8, .int 0, .int a10, .int a11, .ref h1]))]) [0] (by decide) rfl
          have hK9 := hK.sub (tys' := []) [] rfl
          have eg_0 : gx_X1_act_0 = 0 := by rfl
          have eg_3 : gx_X1_act_3 a1 a2 a3 a8 a9 a11 p0 p1 = fx_X1_moved (fx_X1_ahead a1 a2 a3 a8 a9 p0) := by unfold gx_X1_act_3; rw [if_neg c_1, if_pos c_2, if_neg c_4, if_neg c_6, if_neg c_39, if_pos c_40, if_neg c_43, if_neg c_44]
          have eg_4 : gx_X1_act_4 a1 a2 a3 a4 a8 a9 a11 p0 p1 = gx_X1_told_4 (fx_X1_ahead a1 a2 a3 a8 a9 p0) := by unfold gx_X1_act_4; rw [if_neg c_1, if_pos c_2, if_neg c_4]
          have eg_5 : gx_X1_act_5 a5 p0 = gx_X1_told_5 p0 := by unfold gx_X1_act_5; rw [if_neg c_1, if_pos c_2]
          have eg_6 : gx_X1_act_6 a1 a2 a3 a6 a8 a9 a11 p0 p1 = gx_X1_told_6 a6 (fx_X1_ahead a1 a2 a3 a8 a9 p0) := by unfold gx_X1_act_6; rw [if_neg c_1, if_pos c_2, if_neg c_4]
          have eg_7 : gx_X1_act_7 a1 a2 a3 a7 a8 a9 a11 p0 p1 = gx_X1_told_7 a7 (fx_X1_ahead a1 a2 a3 a8 a9 p0) := by unfold gx_X1_act_7; rw [if_neg c_1, if_pos c_2, if_neg c_4]
          have eg_8 : gx_X1_act_8 a1 a2 a3 a8 a9 p0 p1 = a8 := by unfold gx_X1_act_8; rw [if_neg c_1, if_pos c_2, if_neg c_4]
          have eg_9 : gx_X1_act_9 a1 a2 a3 a8 a9 a11 p0 p1 = 0 := by unfold gx_X1_act_9; rw [if_neg c_1, if_pos c_2, if_neg c_4, if_neg c_6, if_neg c_39]
          have eg_11 : gx_X1_act_11 a1 a2 a3 a8 a9 a11 p0 p1 = a11 := by unfold gx_X1_act_11; rw [if_neg c_1, if_pos c_2, if_neg c_4, if_neg c_6]
          have ef : fx_X1_act a1 a2 a3 a8 a9 a11 p0 p1 = fx_X1_ahead a1 a2 a3 a8 a9 p0 := by unfold fx_X1_act; rw [if_neg c_1, if_pos c_2, if_neg c_4]
          exact W.iret (v := fx_X1_ahead a1 a2 a3 a8 a9 p0) hx hb hr (fun t ht hW => ⟨⟨(fx_X1_ahead a1 a2 a3 a8 a9 p0), [(h0, .inr (1, [.int 0, .int a1, .int a2, .int (fx_X1_moved (fx_X1_ahead a1 a2 a3 a8 a9 p0)), .int (gx_X1_told_4 (fx_X1_ahead a1 a2 a3 a8 a9 p0)), .int (gx_X1_told_5 p0), .int (gx_X1_told_6 a6 (fx_X1_ahead a1 a2 a3 a8 a9 p0)), .int (gx_X1_told_7 a7 (fx_X1_ahead a1 a2 a3 a8 a9 p0)), .int a8, .int 0, .int a10, .int a11, .ref h1]))], rfl, ⟨ef.symm, by rw [eg_0, eg_3, eg_4, eg_5, eg_6, eg_7, eg_8, eg_9, eg_11]⟩, by rw [ht]; exact hP9, va_K.moved hW.alike hK9, hD9⟩, hS.F ht⟩) hS.2.2 dX1_act_196
        refine lv_aload_n hx hb dX1_act_168 rfl (lv_at hl 3 rfl) ?_
        refine va_get (D := (dC, dI)) (ci := 1) (v := .int a3) (C := RX1) (T := TX1) (N := 13) hx hb hts (fun _ h => List.mem_cons_of_mem _ (List.mem_append_right _ h)) hown hK hP 0 rfl rfl 3 (by decide) (hts (.fieldLink RX1 50 "FileStatusModel" "position" "I") (by decide +kernel)) (fun _ h9 => h9) rfl dX1_act_169 ?_
        refine lv_goto (tgt := 177) hx hb dX1_act_172 (by decide) ?_
        refine va_put (D := (dC, dI)) (ci := 1) (v := .int a3) (ty := .int) (C := RX1) (T := TX1) (N := 13) hx hb hts (fun _ h => List.mem_cons_of_mem _ (List.mem_append_right _ h)) tyX1 tyX1_ok nmX1 hown hK hP hD hS 0 rfl rfl 3 (by decide) (hts (.fieldLink RX1 50 "FileStatusModel" "position" "I") (by decide +kernel)) (fun _ h9 => h9) rfl (by decide +kernel) rfl rfl (Nat.le_of_ble_eq_true rfl) dX1_act_177 (fun H locs hP hD hS => ?_)
        have hP : va_P (dC, dI) vwCl [(h0, .inr (1, [.int 0, .int a1, .int a2, .int a3, .int (gx_X1_told_4 (fx_X1_ahead a1 a2 a3 a8 a9 p0)), .int (gx_X1_told_5 p0), .int (gx_X1_told_6 a6 (fx_X1_ahead a1 a2 a3 a8 a9 p0)), .int (gx_X1_told_7 a7 (fx_X1_ahead a1 a2 a3 a8 a9 p0)), .int a8, .int 0, .int a10, .int a11, .ref h1]))] H := hP
        have hD : va_D A [(h0, .inr (1, [.int 0, .int a1, .int a2, .int a3, .int (gx_X1_told_4 (fx_X1_ahead a1 a2 a3 a8 a9 p0)), .int (gx_X1_told_5 p0), .int (gx_X1_told_6 a6 (fx_X1_ahead a1 a2 a3 a8 a9 p0)), .int (gx_X1_told_7 a7 (fx_X1_ahead a1 a2 a3 a8 a9 p0)), .int a8, .int 0, .int a10, .int a11, .ref h1]))] := hD
        refine lv_iload_n hx hb dX1_act_180 rfl (lv_at hl 4 rfl) ?_
        refine lv_bipush (v := 6) hx hb dX1_act_181 (by decide) ?_
        refine lv_icmp_ne (tgt := 195) hx hb dX1_act_183 (by decide) (fun c9 => ?_) (fun c9 => absurd (c_40.symm.trans c9) (by decide))
        refine lv_iload_n hx hb dX1_act_195 rfl (lv_at hl 2 rfl) ?_
        have hP9 := hP.sub (ws' := [(h0, .inr (1, [.int 0, .int a1, .int a2, .int a3, .int (gx_X1_told_4 (fx_X1_ahead a1 a2 a3 a8 a9 p0)), .int (gx_X1_told_5 p0), .int (gx_X1_told_6 a6 (fx_X1_ahead a1 a2 a3 a8 a9 p0)), .int (gx_X1_told_7 a7 (fx_X1_ahead a1 a2 a3 a8 a9 p0)), .int a8, .int 0, .int a10, .int a11, .ref h1]))]) [0] rfl
        have hD9 := hD.sub (ws' := [(h0, .inr (1, [.int 0, .int a1, .int a2, .int a3, .int (gx_X1_told_4 (fx_X1_ahead a1 a2 a3 a8 a9 p0)), .int (gx_X1_told_5 p0), .int (gx_X1_told_6 a6 (fx_X1_ahead a1 a2 a3 a8 a9 p0)), .int (gx_X1_told_7 a7 (fx_X1_ahead a1 a2 a3 a8 a9 p0)), .int a8, .int 0, .int a10, .int a11, .ref h1]))]) [0] (by decide) rfl
        have hK9 := hK.sub (tys' := []) [] rfl
        have eg_0 : gx_X1_act_0 = 0 := by rfl
        have eg_3 : gx_X1_act_3 a1 a2 a3 a8 a9 a11 p0 p1 = a3 := by unfold gx_X1_act_3; rw [if_neg c_1, if_pos c_2, if_neg c_4, if_neg c_6, if_neg c_39, if_pos c_40, if_neg c_43, if_pos c_44]
        have eg_4 : gx_X1_act_4 a1 a2 a3 a4 a8 a9 a11 p0 p1 = gx_X1_told_4 (fx_X1_ahead a1 a2 a3 a8 a9 p0) := by unfold gx_X1_act_4; rw [if_neg c_1, if_pos c_2, if_neg c_4]
        have eg_5 : gx_X1_act_5 a5 p0 = gx_X1_told_5 p0 := by unfold gx_X1_act_5; rw [if_neg c_1, if_pos c_2]
        have eg_6 : gx_X1_act_6 a1 a2 a3 a6 a8 a9 a11 p0 p1 = gx_X1_told_6 a6 (fx_X1_ahead a1 a2 a3 a8 a9 p0) := by unfold gx_X1_act_6; rw [if_neg c_1, if_pos c_2, if_neg c_4]
        have eg_7 : gx_X1_act_7 a1 a2 a3 a7 a8 a9 a11 p0 p1 = gx_X1_told_7 a7 (fx_X1_ahead a1 a2 a3 a8 a9 p0) := by unfold gx_X1_act_7; rw [if_neg c_1, if_pos c_2, if_neg c_4]
        have eg_8 : gx_X1_act_8 a1 a2 a3 a8 a9 p0 p1 = a8 := by unfold gx_X1_act_8; rw [if_neg c_1, if_pos c_2, if_neg c_4]
        have eg_9 : gx_X1_act_9 a1 a2 a3 a8 a9 a11 p0 p1 = 0 := by unfold gx_X1_act_9; rw [if_neg c_1, if_pos c_2, if_neg c_4, if_neg c_6, if_neg c_39]
        have eg_11 : gx_X1_act_11 a1 a2 a3 a8 a9 a11 p0 p1 = a11 := by unfold gx_X1_act_11; rw [if_neg c_1, if_pos c_2, if_neg c_4, if_neg c_6]
        have ef : fx_X1_act a1 a2 a3 a8 a9 a11 p0 p1 = fx_X1_ahead a1 a2 a3 a8 a9 p0 := by unfold fx_X1_act; rw [if_neg c_1, if_pos c_2, if_neg c_4]
        exact W.iret (v := fx_X1_ahead a1 a2 a3 a8 a9 p0) hx hb hr (fun t ht hW => ⟨⟨(fx_X1_ahead a1 a2 a3 a8 a9 p0), [(h0, .inr (1, [.int 0, .int a1, .int a2, .int a3, .int (gx_X1_told_4 (fx_X1_ahead a1 a2 a3 a8 a9 p0)), .int (gx_X1_told_5 p0), .int (gx_X1_told_6 a6 (fx_X1_ahead a1 a2 a3 a8 a9 p0)), .int (gx_X1_told_7 a7 (fx_X1_ahead a1 a2 a3 a8 a9 p0)), .int a8, .int 0, .int a10, .int a11, .ref h1]))], rfl, ⟨ef.symm, by rw [eg_0, eg_3, eg_4, eg_5, eg_6, eg_7, eg_8, eg_9, eg_11]⟩, by rw [ht]; exact hP9, va_K.moved hW.alike hK9, hD9⟩, hS.F ht⟩) hS.2.2 dX1_act_196
      refine lv_iload_n hx hb dX1_act_68 rfl (lv_at hl 0 rfl) ?_
      refine lv_if_eq (tgt := 82) hx hb dX1_act_69 (by decide) (fun c9 => absurd c9 c_4) (fun c9 => ?_)
      refine lv_iload_n hx hb dX1_act_72 rfl (lv_at hl 0 rfl) ?_
      refine lv_iconst (v := 2) hx hb dX1_act_73 (by decide) ?_
      refine lv_icmp_eq (tgt := 82) hx hb dX1_act_74 (by decide) (fun c_45 => ?_) (fun c_45 => ?_)
      · refine lv_iconst (v := 1) hx hb dX1_act_82 (by decide) ?_
        refine lv_goto (tgt := 87) hx hb dX1_act_83 (by decide) ?_
        refine va_put (D := (dC, dI)) (ci := 1) (v := .int 1) (ty := .boolean) (C := RX1) (T := TX1) (N := 13) hx hb hts (fun _ h => List.mem_cons_of_mem _ (List.mem_append_right _ h)) tyX1 tyX1_ok nmX1 hown hK hP hD hS 0 rfl rfl 9 (by decide) (hts (.fieldLink RX1 47 "FileStatusModel" "permit" "Z") (by decide +kernel)) (fun _ h9 => h9) rfl (by decide +kernel) rfl rfl (Nat.le_of_ble_eq_true rfl) dX1_act_87 (fun H locs hP hD hS => ?_)
        have hP : va_P (dC, dI) vwCl [(h0, .inr (1, [.int 0, .int a1, .int a2, .int a3, .int (gx_X1_told_4 (fx_X1_ahead a1 a2 a3 a8 a9 p0)), .int (gx_X1_told_5 p0), .int (gx_X1_told_6 a6 (fx_X1_ahead a1 a2 a3 a8 a9 p0)), .int (gx_X1_told_7 a7 (fx_X1_ahead a1 a2 a3 a8 a9 p0)), .int a8, .int 1, .int a10, .int a11, .ref h1]))] H := hP
        have hD : va_D A [(h0, .inr (1, [.int 0, .int a1, .int a2, .int a3, .int (gx_X1_told_4 (fx_X1_ahead a1 a2 a3 a8 a9 p0)), .int (gx_X1_told_5 p0), .int (gx_X1_told_6 a6 (fx_X1_ahead a1 a2 a3 a8 a9 p0)), .int (gx_X1_told_7 a7 (fx_X1_ahead a1 a2 a3 a8 a9 p0)), .int a8, .int 1, .int a10, .int a11, .ref h1]))] := hD
        refine lv_iload_n hx hb dX1_act_90 rfl (lv_at hl 2 rfl) ?_
        refine lv_if_ne (tgt := 119) hx hb dX1_act_91 (by decide) (fun c9 => ?_) (fun c9 => absurd c9 c_6)
        refine lv_iload_n hx hb dX1_act_119 rfl (lv_at hl 2 rfl) ?_
        refine lv_if_eq (tgt := 133) hx hb dX1_act_120 (by decide) (fun c9 => absurd c9 c_6) (fun c9 => ?_)
        refine lv_iload_n hx hb dX1_act_123 rfl (lv_at hl 2 rfl) ?_
        refine lv_iconst (v := 1) hx hb dX1_act_124 (by decide) ?_
        refine lv_icmp_eq (tgt := 133) hx hb dX1_act_125 (by decide) (fun c9 => ?_) (fun c9 => absurd c_39 c9)
        refine lv_iconst (v := 1) hx hb dX1_act_133 (by decide) ?_
        refine lv_goto (tgt := 138) hx hb dX1_act_134 (by decide) ?_
        refine lv_istore (lv' := [(4, .int 1), (3, .int (fx_X1_ahead a1 a2 a3 a8 a9 p0)), (0, .ref h0), (1, .int p0), (2, .int p1)]) hx hb dX1_act_138 hl (by decide) rfl (fun ls hl => ?_)
        refine lv_iload hx hb dX1_act_140 (lv_at hl 0 rfl) ?_
        refine lv_if_eq (tgt := 152) hx hb dX1_act_142 (by decide) (fun c9 => absurd c9 (by decide)) (fun c9 => ?_)
        refine lv_iload_n hx hb dX1_act_145 rfl (lv_at hl 1 rfl) ?_
        have hPc := hP.sub (ws' := []) [] rfl
        have hDc := hD.sub (ws' := []) [] (by decide) rfl
        have hKc := hK.sub (tys' := []) [] rfl
        have hFc := va_free (wc := []) hD hS hA [] rfl
        refine va_calli (va_runS (As := [.int (fx_X1_ahead a1 a2 a3 a8 a9 p0)]) (rest := []) ⟨hx, hb, hml, hown, hts⟩ (ct_X1_moved l dC dI H.size (fx_X1_ahead a1 a2 a3 a8 a9 p0)) (va_cwS 1 hts gX1_act_X1_moved rfl rfl rfl (by decide +kernel) ⟨Nat.le_of_ble_eq_true rfl, Nat.le_of_ble_eq_true rfl⟩) ⟨fun a U g mk q => by obtain ⟨q0, q1, qP, qK, qD⟩ := q; exact ⟨q0, q1, qP, va_K.moved (u := U) (U := U.calling g mk a) (Vm.Alike.refl U.vm) qK, qD⟩, fun U hU hW => ⟨rfl, by rw [hU], by rw [hU]; exact hPc, va_K.moved hW.alike hKc, hDc.weaken (fun _ _ _ _ => trivial)⟩⟩ rfl rfl hl.1 rfl (lv_room (Nat.le_of_ble_eq_true rfl)) dX1_act_146 ⟨(Nat.zero_le _), (Nat.zero_le _)⟩) hS (fun q _ h => hFc q h) hFc (fun r_46 u t H1 locs ht hvm hw hB hz1 hk1 hS => ?_)
        obtain ⟨er, hu⟩ := hw
        subst hu
        subst er
        obtain ⟨hP1, -, hD1⟩ := hB
        rw [ht] at hP1
        obtain ⟨hP, hD⟩ := va_join (wr := [(h0, .inr (1, [.int 0, .int a1, .int a2, .int a3, .int (gx_X1_told_4 (fx_X1_ahead a1 a2 a3 a8 a9 p0)), .int (gx_X1_told_5 p0), .int (gx_X1_told_6 a6 (fx_X1_ahead a1 a2 a3 a8 a9 p0)), .int (gx_X1_told_7 a7 (fx_X1_ahead a1 a2 a3 a8 a9 p0)), .int a8, .int 1, .int a10, .int a11, .ref h1]))]) (w1 := []) hP hD [] [0] rfl rfl (by decide) (by decide) hk1 hFc hP1 hD1
        generalize H1 = H at hP hS ⊢
        have hP : va_P (dC, dI) vwCl [(h0, .inr (1, [.int 0, .int a1, .int a2, .int a3, .int (gx_X1_told_4 (fx_X1_ahead a1 a2 a3 a8 a9 p0)), .int (gx_X1_told_5 p0), .int (gx_X1_told_6 a6 (fx_X1_ahead a1 a2 a3 a8 a9 p0)), .int (gx_X1_told_7 a7 (fx_X1_ahead a1 a2 a3 a8 a9 p0)), .int a8, .int 1, .int a10, .int a11, .ref h1]))] H := hP
        have hD : va_D A [(h0, .inr (1, [.int 0, .int a1, .int a2, .int a3, .int (gx_X1_told_4 (fx_X1_ahead a1 a2 a3 a8 a9 p0)), .int (gx_X1_told_5 p0), .int (gx_X1_told_6 a6 (fx_X1_ahead a1 a2 a3 a8 a9 p0)), .int (gx_X1_told_7 a7 (fx_X1_ahead a1 a2 a3 a8 a9 p0)), .int a8, .int 1, .int a10, .int a11, .ref h1]))] := hD
        refine lv_goto (tgt := 153) hx hb dX1_act_149 (by decide) ?_
        refine lv_istore (lv' := [(5, .int (fx_X1_moved (fx_X1_ahead a1 a2 a3 a8 a9 p0))), (4, .int 1), (3, .int (fx_X1_ahead a1 a2 a3 a8 a9 p0)), (0, .ref h0), (1, .int p0), (2, .int p1)]) hx hb dX1_act_153 hl (by decide) rfl (fun ls hl => ?_)
        refine lv_aload_n hx hb dX1_act_155 rfl (lv_at hl 3 rfl) ?_
        refine lv_iload hx hb dX1_act_156 (lv_at hl 0 rfl) ?_
        refine lv_if_eq (tgt := 168) hx hb dX1_act_158 (by decide) (fun c_47 => ?_) (fun c_47 => ?_)
        · refine lv_aload_n hx hb dX1_act_168 rfl (lv_at hl 3 rfl) ?_
          refine va_get (D := (dC, dI)) (ci := 1) (v := .int a3) (C := RX1) (T := TX1) (N := 13) hx hb hts (fun _ h => List.mem_cons_of_mem _ (List.mem_append_right _ h)) hown hK hP 0 rfl rfl 3 (by decide) (hts (.fieldLink RX1 50 "FileStatusModel" "position" "I") (by decide +kernel)) (fun _ h9 => h9) rfl dX1_act_169 ?_
          refine lv_goto (tgt := 177) hx hb dX1_act_172 (by decide) ?_
          refine va_put (D := (dC, dI)) (ci := 1) (v := .int a3) (ty := .int) (C := RX1) (T := TX1) (N := 13) hx hb hts (fun _ h => List.mem_cons_of_mem _ (List.mem_append_right _ h)) tyX1 tyX1_ok nmX1 hown hK hP hD hS 0 rfl rfl 3 (by decide) (hts (.fieldLink RX1 50 "FileStatusModel" "position" "I") (by decide +kernel)) (fun _ h9 => h9) rfl (by decide +kernel) rfl rfl (Nat.le_of_ble_eq_true rfl) dX1_act_177 (fun H locs hP hD hS => ?_)
          have hP : va_P (dC, dI) vwCl [(h0, .inr (1, [.int 0, .int a1, .int a2, .int a3, .int (gx_X1_told_4 (fx_X1_ahead a1 a2 a3 a8 a9 p0)), .int (gx_X1_told_5 p0), .int (gx_X1_told_6 a6 (fx_X1_ahead a1 a2 a3 a8 a9 p0)), .int (gx_X1_told_7 a7 (fx_X1_ahead a1 a2 a3 a8 a9 p0)), .int a8, .int 1, .int a10, .int a11, .ref h1]))] H := hP
          have hD : va_D A [(h0, .inr (1, [.int 0, .int a1, .int a2, .int a3, .int (gx_X1_told_4 (fx_X1_ahead a1 a2 a3 a8 a9 p0)), .int (gx_X1_told_5 p0), .int (gx_X1_told_6 a6 (fx_X1_ahead a1 a2 a3 a8 a9 p0)), .int (gx_X1_told_7 a7 (fx_X1_ahead a1 a2 a3 a8 a9 p0)), .int a8, .int 1, .int a10, .int a11, .ref h1]))] := hD
          refine lv_iload_n hx hb dX1_act_180 rfl (lv_at hl 4 rfl) ?_
          refine lv_bipush (v := 6) hx hb dX1_act_181 (by decide) ?_
          refine lv_icmp_ne (tgt := 195) hx hb dX1_act_183 (by decide) (fun c9 => ?_) (fun c9 => absurd (c_39.symm.trans c9) (by decide))
          refine lv_iload_n hx hb dX1_act_195 rfl (lv_at hl 2 rfl) ?_
          have hP9 := hP.sub (ws' := [(h0, .inr (1, [.int 0, .int a1, .int a2, .int a3, .int (gx_X1_told_4 (fx_X1_ahead a1 a2 a3 a8 a9 p0)), .int (gx_X1_told_5 p0), .int (gx_X1_told_6 a6 (fx_X1_ahead a1 a2 a3 a8 a9 p0)), .int (gx_X1_told_7 a7 (fx_X1_ahead a1 a2 a3 a8 a9 p0)), .int a8, .int 1, .int a10, .int a11, .ref h1]))]) [0] rfl
          have hD9 := hD.sub (ws' := [(h0, .inr (1, [.int 0, .int a1, .int a2, .int a3, .int (gx_X1_told_4 (fx_X1_ahead a1 a2 a3 a8 a9 p0)), .int (gx_X1_told_5 p0), .int (gx_X1_told_6 a6 (fx_X1_ahead a1 a2 a3 a8 a9 p0)), .int (gx_X1_told_7 a7 (fx_X1_ahead a1 a2 a3 a8 a9 p0)), .int a8, .int 1, .int a10, .int a11, .ref h1]))]) [0] (by decide) rfl
          have hK9 := hK.sub (tys' := []) [] rfl
          have eg_0 : gx_X1_act_0 = 0 := by rfl
          have eg_3 : gx_X1_act_3 a1 a2 a3 a8 a9 a11 p0 p1 = a3 := by unfold gx_X1_act_3; rw [if_neg c_1, if_pos c_2, if_neg c_4, if_neg c_6, if_pos c_39, if_pos c_47]
          have eg_4 : gx_X1_act_4 a1 a2 a3 a4 a8 a9 a11 p0 p1 = gx_X1_told_4 (fx_X1_ahead a1 a2 a3 a8 a9 p0) := by unfold gx_X1_act_4; rw [if_neg c_1, if_pos c_2, if_neg c_4]
          have eg_5 : gx_X1_act_5 a5 p0 = gx_X1_told_5 p0 := by unfold gx_X1_act_5; rw [if_neg c_1, if_pos c_2]
          have eg_6 : gx_X1_act_6 a1 a2 a3 a6 a8 a9 a11 p0 p1 = gx_X1_told_6 a6 (fx_X1_ahead a1 a2 a3 a8 a9 p0) := by unfold gx_X1_act_6; rw [if_neg c_1, if_pos c_2, if_neg c_4]
          have eg_7 : gx_X1_act_7 a1 a2 a3 a7 a8 a9 a11 p0 p1 = gx_X1_told_7 a7 (fx_X1_ahead a1 a2 a3 a8 a9 p0) := by unfold gx_X1_act_7; rw [if_neg c_1, if_pos c_2, if_neg c_4]
          have eg_8 : gx_X1_act_8 a1 a2 a3 a8 a9 p0 p1 = a8 := by unfold gx_X1_act_8; rw [if_neg c_1, if_pos c_2, if_neg c_4]
          have eg_9 : gx_X1_act_9 a1 a2 a3 a8 a9 a11 p0 p1 = 1 := by unfold gx_X1_act_9; rw [if_neg c_1, if_pos c_2, if_neg c_4, if_neg c_6, if_pos c_39, if_pos c_45]
          have eg_11 : gx_X1_act_11 a1 a2 a3 a8 a9 a11 p0 p1 = a11 := by unfold gx_X1_act_11; rw [if_neg c_1, if_pos c_2, if_neg c_4, if_neg c_6]
          have ef : fx_X1_act a1 a2 a3 a8 a9 a11 p0 p1 = fx_X1_ahead a1 a2 a3 a8 a9 p0 := by unfold fx_X1_act; rw [if_neg c_1, if_pos c_2, if_neg c_4]
          exact W.iret (v := fx_X1_ahead a1 a2 a3 a8 a9 p0) hx hb hr (fun t ht hW => ⟨⟨(fx_X1_ahead a1 a2 a3 a8 a9 p0), [(h0, .inr (1, [.int 0, .int a1, .int a2, .int a3, .int (gx_X1_told_4 (fx_X1_ahead a1 a2 a3 a8 a9 p0)), .int (gx_X1_told_5 p0), .int (gx_X1_told_6 a6 (fx_X1_ahead a1 a2 a3 a8 a9 p0)), .int (gx_X1_told_7 a7 (fx_X1_ahead a1 a2 a3 a8 a9 p0)), .int a8, .int 1, .int a10, .int a11, .ref h1]))], rfl, ⟨ef.symm, by rw [eg_0, eg_3, eg_4, eg_5, eg_6, eg_7, eg_8, eg_9, eg_11]⟩, by rw [ht]; exact hP9, va_K.moved hW.alike hK9, hD9⟩, hS.F ht⟩) hS.2.2 dX1_act_196
        refine lv_aload_n hx hb dX1_act_161 rfl (lv_at hl 3 rfl) ?_
        refine va_get (D := (dC, dI)) (ci := 1) (v := .int a8) (C := RX1) (T := TX1) (N := 13) hx hb hts (fun _ h => List.mem_cons_of_mem _ (List.mem_append_right _ h)) hown hK hP 0 rfl rfl 8 (by decide) (hts (.fieldLink RX1 23 "FileStatusModel" "isOpen" "Z") (by decide +kernel)) (fun _ h9 => h9) rfl dX1_act_162 ?_
        refine lv_if_ne (tgt := 175) hx hb dX1_act_165 (by decide) (fun c_48 => ?_) (fun c_48 => ?_)
        · refine lv_iload hx hb dX1_act_175 (lv_at hl 0 rfl) ?_
          refine va_put (D := (dC, dI)) (ci := 1) (v := .int (fx_X1_moved (fx_X1_ahead a1 a2 a3 a8 a9 p0))) (ty := .int) (C := RX1) (T := TX1) (N := 13) hx hb hts (fun _ h => List.mem_cons_of_mem _ (List.mem_append_right _ h)) tyX1 tyX1_ok nmX1 hown hK hP hD hS 0 rfl rfl 3 (by decide) (hts (.fieldLink RX1 50 "FileStatusModel" "position" "I") (by decide +kernel)) (fun _ h9 => h9) rfl (by decide +kernel) rfl rfl (Nat.le_of_ble_eq_true rfl) dX1_act_177 (fun H locs hP hD hS => ?_)
          have hP : va_P (dC, dI) vwCl [(h0, .inr (1, [.int 0, .int a1, .int a2, .int (fx_X1_moved (fx_X1_ahead a1 a2 a3 a8 a9 p0)), .int (gx_X1_told_4 (fx_X1_ahead a1 a2 a3 a8 a9 p0)), .int (gx_X1_told_5 p0), .int (gx_X1_told_6 a6 (fx_X1_ahead a1 a2 a3 a8 a9 p0)), .int (gx_X1_told_7 a7 (fx_X1_ahead a1 a2 a3 a8 a9 p0)), .int a8, .int 1, .int a10, .int a11, .ref h1]))] H := hP
          have hD : va_D A [(h0, .inr (1, [.int 0, .int a1, .int a2, .int (fx_X1_moved (fx_X1_ahead a1 a2 a3 a8 a9 p0)), .int (gx_X1_told_4 (fx_X1_ahead a1 a2 a3 a8 a9 p0)), .int (gx_X1_told_5 p0), .int (gx_X1_told_6 a6 (fx_X1_ahead a1 a2 a3 a8 a9 p0)), .int (gx_X1_told_7 a7 (fx_X1_ahead a1 a2 a3 a8 a9 p0)), .int a8, .int 1, .int a10, .int a11, .ref h1]))] := hD
          refine lv_iload_n hx hb dX1_act_180 rfl (lv_at hl 4 rfl) ?_
          refine lv_bipush (v := 6) hx hb dX1_act_181 (by decide) ?_
          refine lv_icmp_ne (tgt := 195) hx hb dX1_act_183 (by decide) (fun c9 => ?_) (fun c9 => absurd (c_39.symm.trans c9) (by decide))
          refine lv_iload_n hx hb dX1_act_195 rfl (lv_at hl 2 rfl) ?_
          have hP9 := hP.sub (ws' := [(h0, .inr (1, [.int 0, .int a1, .int a2, .int (fx_X1_moved (fx_X1_ahead a1 a2 a3 a8 a9 p0)), .int (gx_X1_told_4 (fx_X1_ahead a1 a2 a3 a8 a9 p0)), .int (gx_X1_told_5 p0), .int (gx_X1_told_6 a6 (fx_X1_ahead a1 a2 a3 a8 a9 p0)), .int (gx_X1_told_7 a7 (fx_X1_ahead a1 a2 a3 a8 a9 p0)), .int a8, .int 1, .int a10, .int a11, .ref h1]))]) [0] rfl
          have hD9 := hD.sub (ws' := [(h0, .inr (1, [.int 0, .int a1, .int a2, .int (fx_X1_moved (fx_X1_ahead a1 a2 a3 a8 a9 p0)), .int (gx_X1_told_4 (fx_X1_ahead a1 a2 a3 a8 a9 p0)), .int (gx_X1_told_5 p0), .int (gx_X1_told_6 a6 (fx_X1_ahead a1 a2 a3 a8 a9 p0)), .int (gx_X1_told_7 a7 (fx_X1_ahead a1 a2 a3 a8 a9 p0)), .int a8, .int 1, .int a10, .int a11, .ref h1]))]) [0] (by decide) rfl
          have hK9 := hK.sub (tys' := []) [] rfl
          have eg_0 : gx_X1_act_0 = 0 := by rfl
          have eg_3 : gx_X1_act_3 a1 a2 a3 a8 a9 a11 p0 p1 = fx_X1_moved (fx_X1_ahead a1 a2 a3 a8 a9 p0) := by unfold gx_X1_act_3; rw [if_neg c_1, if_pos c_2, if_neg c_4, if_neg c_6, if_pos c_39, if_neg c_47, if_neg c_48]
          have eg_4 : gx_X1_act_4 a1 a2 a3 a4 a8 a9 a11 p0 p1 = gx_X1_told_4 (fx_X1_ahead a1 a2 a3 a8 a9 p0) := by unfold gx_X1_act_4; rw [if_neg c_1, if_pos c_2, if_neg c_4]
          have eg_5 : gx_X1_act_5 a5 p0 = gx_X1_told_5 p0 := by unfold gx_X1_act_5; rw [if_neg c_1, if_pos c_2]
          have eg_6 : gx_X1_act_6 a1 a2 a3 a6 a8 a9 a11 p0 p1 = gx_X1_told_6 a6 (fx_X1_ahead a1 a2 a3 a8 a9 p0) := by unfold gx_X1_act_6; rw [if_neg c_1, if_pos c_2, if_neg c_4]
          have eg_7 : gx_X1_act_7 a1 a2 a3 a7 a8 a9 a11 p0 p1 = gx_X1_told_7 a7 (fx_X1_ahead a1 a2 a3 a8 a9 p0) := by unfold gx_X1_act_7; rw [if_neg c_1, if_pos c_2, if_neg c_4]
          have eg_8 : gx_X1_act_8 a1 a2 a3 a8 a9 p0 p1 = a8 := by unfold gx_X1_act_8; rw [if_neg c_1, if_pos c_2, if_neg c_4]
          have eg_9 : gx_X1_act_9 a1 a2 a3 a8 a9 a11 p0 p1 = 1 := by unfold gx_X1_act_9; rw [if_neg c_1, if_pos c_2, if_neg c_4, if_neg c_6, if_pos c_39, if_pos c_45]
          have eg_11 : gx_X1_act_11 a1 a2 a3 a8 a9 a11 p0 p1 = a11 := by unfold gx_X1_act_11; rw [if_neg c_1, if_pos c_2, if_neg c_4, if_neg c_6]
          have ef : fx_X1_act a1 a2 a3 a8 a9 a11 p0 p1 = fx_X1_ahead a1 a2 a3 a8 a9 p0 := by unfold fx_X1_act; rw [if_neg c_1, if_pos c_2, if_neg c_4]
          exact W.iret (v := fx_X1_ahead a1 a2 a3 a8 a9 p0) hx hb hr (fun t ht hW => ⟨⟨(fx_X1_ahead a1 a2 a3 a8 a9 p0), [(h0, .inr (1, [.int 0, .int a1, .int a2, .int (fx_X1_moved (fx_X1_ahead a1 a2 a3 a8 a9 p0)), .int (gx_X1_told_4 (fx_X1_ahead a1 a2 a3 a8 a9 p0)), .int (gx_X1_told_5 p0), .int (gx_X1_told_6 a6 (fx_X1_ahead a1 a2 a3 a8 a9 p0)), .int (gx_X1_told_7 a7 (fx_X1_ahead a1 a2 a3 a8 a9 p0)), .int a8, .int 1, .int a10, .int a11, .ref h1]))], rfl, ⟨ef.symm, by rw [eg_0, eg_3, eg_4, eg_5, eg_6, eg_7, eg_8, eg_9, eg_11]⟩, by rw [ht]; exact hP9, va_K.moved hW.alike hK9, hD9⟩, hS.F ht⟩) hS.2.2 dX1_act_196
        refine lv_aload_n hx hb dX1_act_168 rfl (lv_at hl 3 rfl) ?_
        refine va_get (D := (dC, dI)) (ci := 1) (v := .int a3) (C := RX1) (T := TX1) (N := 13) hx hb hts (fun _ h => List.mem_cons_of_mem _ (List.mem_append_right _ h)) hown hK hP 0 rfl rfl 3 (by decide) (hts (.fieldLink RX1 50 "FileStatusModel" "position" "I") (by decide +kernel)) (fun _ h9 => h9) rfl dX1_act_169 ?_
        refine lv_goto (tgt := 177) hx hb dX1_act_172 (by decide) ?_
        refine va_put (D := (dC, dI)) (ci := 1) (v := .int a3) (ty := .int) (C := RX1) (T := TX1) (N := 13) hx hb hts (fun _ h => List.mem_cons_of_mem _ (List.mem_append_right _ h)) tyX1 tyX1_ok nmX1 hown hK hP hD hS 0 rfl rfl 3 (by decide) (hts (.fieldLink RX1 50 "FileStatusModel" "position" "I") (by decide +kernel)) (fun _ h9 => h9) rfl (by decide +kernel) rfl rfl (Nat.le_of_ble_eq_true rfl) dX1_act_177 (fun H locs hP hD hS => ?_)
        have hP : va_P (dC, dI) vwCl [(h0, .inr (1, [.int 0, .int a1, .int a2, .int a3, .int (gx_X1_told_4 (fx_X1_ahead a1 a2 a3 a8 a9 p0)), .int (gx_X1_told_5 p0), .int (gx_X1_told_6 a6 (fx_X1_ahead a1 a2 a3 a8 a9 p0)), .int (gx_X1_told_7 a7 (fx_X1_ahead a1 a2 a3 a8 a9 p0)), .int a8, .int 1, .int a10, .int a11, .ref h1]))] H := hP
        have hD : va_D A [(h0, .inr (1, [.int 0, .int a1, .int a2, .int a3, .int (gx_X1_told_4 (fx_X1_ahead a1 a2 a3 a8 a9 p0)), .int (gx_X1_told_5 p0), .int (gx_X1_told_6 a6 (fx_X1_ahead a1 a2 a3 a8 a9 p0)), .int (gx_X1_told_7 a7 (fx_X1_ahead a1 a2 a3 a8 a9 p0)), .int a8, .int 1, .int a10, .int a11, .ref h1]))] := hD
        refine lv_iload_n hx hb dX1_act_180 rfl (lv_at hl 4 rfl) ?_
        refine lv_bipush (v := 6) hx hb dX1_act_181 (by decide) ?_
        refine lv_icmp_ne (tgt := 195) hx hb dX1_act_183 (by decide) (fun c9 => ?_) (fun c9 => absurd (c_39.symm.trans c9) (by decide))
        refine lv_iload_n hx hb dX1_act_195 rfl (lv_at hl 2 rfl) ?_
        have hP9 := hP.sub (ws' := [(h0, .inr (1, [.int 0, .int a1, .int a2, .int a3, .int (gx_X1_told_4 (fx_X1_ahead a1 a2 a3 a8 a9 p0)), .int (gx_X1_told_5 p0), .int (gx_X1_told_6 a6 (fx_X1_ahead a1 a2 a3 a8 a9 p0)), .int (gx_X1_told_7 a7 (fx_X1_ahead a1 a2 a3 a8 a9 p0)), .int a8, .int 1, .int a10, .int a11, .ref h1]))]) [0] rfl
        have hD9 := hD.sub (ws' := [(h0, .inr (1, [.int 0, .int a1, .int a2, .int a3, .int (gx_X1_told_4 (fx_X1_ahead a1 a2 a3 a8 a9 p0)), .int (gx_X1_told_5 p0), .int (gx_X1_told_6 a6 (fx_X1_ahead a1 a2 a3 a8 a9 p0)), .int (gx_X1_told_7 a7 (fx_X1_ahead a1 a2 a3 a8 a9 p0)), .int a8, .int 1, .int a10, .int a11, .ref h1]))]) [0] (by decide) rfl
        have hK9 := hK.sub (tys' := []) [] rfl
        have eg_0 : gx_X1_act_0 = 0 := by rfl
        have eg_3 : gx_X1_act_3 a1 a2 a3 a8 a9 a11 p0 p1 = a3 := by unfold gx_X1_act_3; rw [if_neg c_1, if_pos c_2, if_neg c_4, if_neg c_6, if_pos c_39, if_neg c_47, if_pos c_48]
        have eg_4 : gx_X1_act_4 a1 a2 a3 a4 a8 a9 a11 p0 p1 = gx_X1_told_4 (fx_X1_ahead a1 a2 a3 a8 a9 p0) := by unfold gx_X1_act_4; rw [if_neg c_1, if_pos c_2, if_neg c_4]
        have eg_5 : gx_X1_act_5 a5 p0 = gx_X1_told_5 p0 := by unfold gx_X1_act_5; rw [if_neg c_1, if_pos c_2]
        have eg_6 : gx_X1_act_6 a1 a2 a3 a6 a8 a9 a11 p0 p1 = gx_X1_told_6 a6 (fx_X1_ahead a1 a2 a3 a8 a9 p0) := by unfold gx_X1_act_6; rw [if_neg c_1, if_pos c_2, if_neg c_4]
        have eg_7 : gx_X1_act_7 a1 a2 a3 a7 a8 a9 a11 p0 p1 = gx_X1_told_7 a7 (fx_X1_ahead a1 a2 a3 a8 a9 p0) := by unfold gx_X1_act_7; rw [if_neg c_1, if_pos c_2, if_neg c_4]
        have eg_8 : gx_X1_act_8 a1 a2 a3 a8 a9 p0 p1 = a8 := by unfold gx_X1_act_8; rw [if_neg c_1, if_pos c_2, if_neg c_4]
        have eg_9 : gx_X1_act_9 a1 a2 a3 a8 a9 a11 p0 p1 = 1 := by unfold gx_X1_act_9; rw [if_neg c_1, if_pos c_2, if_neg c_4, if_neg c_6, if_pos c_39, if_pos c_45]
        have eg_11 : gx_X1_act_11 a1 a2 a3 a8 a9 a11 p0 p1 = a11 := by unfold gx_X1_act_11; rw [if_neg c_1, if_pos c_2, if_neg c_4, if_neg c_6]
        have ef : fx_X1_act a1 a2 a3 a8 a9 a11 p0 p1 = fx_X1_ahead a1 a2 a3 a8 a9 p0 := by unfold fx_X1_act; rw [if_neg c_1, if_pos c_2, if_neg c_4]
        exact W.iret (v := fx_X1_ahead a1 a2 a3 a8 a9 p0) hx hb hr (fun t ht hW => ⟨⟨(fx_X1_ahead a1 a2 a3 a8 a9 p0), [(h0, .inr (1, [.int 0, .int a1, .int a2, .int a3, .int (gx_X1_told_4 (fx_X1_ahead a1 a2 a3 a8 a9 p0)), .int (gx_X1_told_5 p0), .int (gx_X1_told_6 a6 (fx_X1_ahead a1 a2 a3 a8 a9 p0)), .int (gx_X1_told_7 a7 (fx_X1_ahead a1 a2 a3 a8 a9 p0)), .int a8, .int 1, .int a10, .int a11, .ref h1]))], rfl, ⟨ef.symm, by rw [eg_0, eg_3, eg_4, eg_5, eg_6, eg_7, eg_8, eg_9, eg_11]⟩, by rw [ht]; exact hP9, va_K.moved hW.alike hK9, hD9⟩, hS.F ht⟩) hS.2.2 dX1_act_196
      refine lv_iload_n hx hb dX1_act_77 rfl (lv_at hl 0 rfl) ?_
      refine lv_iconst (v := 4) hx hb dX1_act_78 (by decide) ?_
      refine lv_icmp_ne (tgt := 86) hx hb dX1_act_79 (by decide) (fun c_49 => ?_) (fun c_49 => ?_)
      · refine lv_iconst (v := 0) hx hb dX1_act_86 (by decide) ?_
        refine va_put (D := (dC, dI)) (ci := 1) (v := .int 0) (ty := .boolean) (C := RX1) (T := TX1) (N := 13) hx hb hts (fun _ h => List.mem_cons_of_mem _ (List.mem_append_right _ h)) tyX1 tyX1_ok nmX1 hown hK hP hD hS 0 rfl rfl 9 (by decide) (hts (.fieldLink RX1 47 "FileStatusModel" "permit" "Z") (by decide +kernel)) (fun _ h9 => h9) rfl (by decide +kernel) rfl rfl (Nat.le_of_ble_eq_true rfl) dX1_act_87 (fun H locs hP hD hS => ?_)
        have hP : va_P (dC, dI) vwCl [(h0, .inr (1, [.int 0, .int a1, .int a2, .int a3, .int (gx_X1_told_4 (fx_X1_ahead a1 a2 a3 a8 a9 p0)), .int (gx_X1_told_5 p0), .int (gx_X1_told_6 a6 (fx_X1_ahead a1 a2 a3 a8 a9 p0)), .int (gx_X1_told_7 a7 (fx_X1_ahead a1 a2 a3 a8 a9 p0)), .int a8, .int 0, .int a10, .int a11, .ref h1]))] H := hP
        have hD : va_D A [(h0, .inr (1, [.int 0, .int a1, .int a2, .int a3, .int (gx_X1_told_4 (fx_X1_ahead a1 a2 a3 a8 a9 p0)), .int (gx_X1_told_5 p0), .int (gx_X1_told_6 a6 (fx_X1_ahead a1 a2 a3 a8 a9 p0)), .int (gx_X1_told_7 a7 (fx_X1_ahead a1 a2 a3 a8 a9 p0)), .int a8, .int 0, .int a10, .int a11, .ref h1]))] := hD
        refine lv_iload_n hx hb dX1_act_90 rfl (lv_at hl 2 rfl) ?_
        refine lv_if_ne (tgt := 119) hx hb dX1_act_91 (by decide) (fun c9 => ?_) (fun c9 => absurd c9 c_6)
        refine lv_iload_n hx hb dX1_act_119 rfl (lv_at hl 2 rfl) ?_
        refine lv_if_eq (tgt := 133) hx hb dX1_act_120 (by decide) (fun c9 => absurd c9 c_6) (fun c9 => ?_)
        refine lv_iload_n hx hb dX1_act_123 rfl (lv_at hl 2 rfl) ?_
        refine lv_iconst (v := 1) hx hb dX1_act_124 (by decide) ?_
        refine lv_icmp_eq (tgt := 133) hx hb dX1_act_125 (by decide) (fun c9 => ?_) (fun c9 => absurd c_39 c9)
        refine lv_iconst (v := 1) hx hb dX1_act_133 (by decide) ?_
        refine lv_goto (tgt := 138) hx hb dX1_act_134 (by decide) ?_
        refine lv_istore (lv' := [(4, .int 1), (3, .int (fx_X1_ahead a1 a2 a3 a8 a9 p0)), (0, .ref h0), (1, .int p0), (2, .int p1)]) hx hb dX1_act_138 hl (by decide) rfl (fun ls hl => ?_)
        refine lv_iload hx hb dX1_act_140 (lv_at hl 0 rfl) ?_
        refine lv_if_eq (tgt := 152) hx hb dX1_act_142 (by decide) (fun c9 => absurd c9 (by decide)) (fun c9 => ?_)
        refine lv_iload_n hx hb dX1_act_145 rfl (lv_at hl 1 rfl) ?_
        have hPc := hP.sub (ws' := []) [] rfl
        have hDc := hD.sub (ws' := []) [] (by decide) rfl
        have hKc := hK.sub (tys' := []) [] rfl
        have hFc := va_free (wc := []) hD hS hA [] rfl
        refine va_calli (va_runS (As := [.int (fx_X1_ahead a1 a2 a3 a8 a9 p0)]) (rest := []) ⟨hx, hb, hml, hown, hts⟩ (ct_X1_moved l dC dI H.size (fx_X1_ahead a1 a2 a3 a8 a9 p0)) (va_cwS 1 hts gX1_act_X1_moved rfl rfl rfl (by decide +kernel) ⟨Nat.le_of_ble_eq_true rfl, Nat.le_of_ble_eq_true rfl⟩) ⟨fun a U g mk q => by obtain ⟨q0, q1, qP, qK, qD⟩ := q; exact ⟨q0, q1, qP, va_K.moved (u := U) (U := U.calling g mk a) (Vm.Alike.refl U.vm) qK, qD⟩, fun U hU hW => ⟨rfl, by rw [hU], by rw [hU]; exact hPc, va_K.moved hW.alike hKc, hDc.weaken (fun _ _ _ _ => trivial)⟩⟩ rfl rfl hl.1 rfl (lv_room (Nat.le_of_ble_eq_true rfl)) dX1_act_146 ⟨(Nat.zero_le _), (Nat.zero_le _)⟩) hS (fun q _ h => hFc q h) hFc (fun r_50 u t H1 locs ht hvm hw hB hz1 hk1 hS => ?_)
        obtain ⟨er, hu⟩ := hw
        subst hu
        subst er
        obtain ⟨hP1, -, hD1⟩ := hB
        rw [ht] at hP1
        obtain ⟨hP, hD⟩ := va_join (wr := [(h0, .inr (1, [.int 0, .int a1, .int a2, .int a3, .int (gx_X1_told_4 (fx_X1_ahead a1 a2 a3 a8 a9 p0)), .int (gx_X1_told_5 p0), .int (gx_X1_told_6 a6 (fx_X1_ahead a1 a2 a3 a8 a9 p0)), .int (gx_X1_told_7 a7 (fx_X1_ahead a1 a2 a3 a8 a9 p0)), .int a8, .int 0, .int a10, .int a11, .ref h1]))]) (w1 := []) hP hD [] [0] rfl rfl (by decide) (by decide) hk1 hFc hP1 hD1
        generalize H1 = H at hP hS ⊢
        have hP : va_P (dC, dI) vwCl [(h0, .inr (1, [.int 0, .int a1, .int a2, .int a3, .int (gx_X1_told_4 (fx_X1_ahead a1 a2 a3 a8 a9 p0)), .int (gx_X1_told_5 p0), .int (gx_X1_told_6 a6 (fx_X1_ahead a1 a2 a3 a8 a9 p0)), .int (gx_X1_told_7 a7 (fx_X1_ahead a1 a2 a3 a8 a9 p0)), .int a8, .int 0, .int a10, .int a11, .ref h1]))] H := hP
        have hD : va_D A [(h0, .inr (1, [.int 0, .int a1, .int a2, .int a3, .int (gx_X1_told_4 (fx_X1_ahead a1 a2 a3 a8 a9 p0)), .int (gx_X1_told_5 p0), .int (gx_X1_told_6 a6 (fx_X1_ahead a1 a2 a3 a8 a9 p0)), .int (gx_X1_told_7 a7 (fx_X1_ahead a1 a2 a3 a8 a9 p0)), .int a8, .int 0, .int a10, .int a11, .ref h1]))] := hD
        refine lv_goto (tgt := 153) hx hb dX1_act_149 (by decide) ?_
        refine lv_istore (lv' := [(5, .int (fx_X1_moved (fx_X1_ahead a1 a2 a3 a8 a9 p0))), (4, .int 1), (3, .int (fx_X1_ahead a1 a2 a3 a8 a9 p0)), (0, .ref h0), (1, .int p0), (2, .int p1)]) hx hb dX1_act_153 hl (by decide) rfl (fun ls hl => ?_)
        refine lv_aload_n hx hb dX1_act_155 rfl (lv_at hl 3 rfl) ?_
        refine lv_iload hx hb dX1_act_156 (lv_at hl 0 rfl) ?_
        refine lv_if_eq (tgt := 168) hx hb dX1_act_158 (by decide) (fun c_51 => ?_) (fun c_51 => ?_)
        · refine lv_aload_n hx hb dX1_act_168 rfl (lv_at hl 3 rfl) ?_
          refine va_get (D := (dC, dI)) (ci := 1) (v := .int a3) (C := RX1) (T := TX1) (N := 13) hx hb hts (fun _ h => List.mem_cons_of_mem _ (List.mem_append_right _ h)) hown hK hP 0 rfl rfl 3 (by decide) (hts (.fieldLink RX1 50 "FileStatusModel" "position" "I") (by decide +kernel)) (fun _ h9 => h9) rfl dX1_act_169 ?_
          refine lv_goto (tgt := 177) hx hb dX1_act_172 (by decide) ?_
          refine va_put (D := (dC, dI)) (ci := 1) (v := .int a3) (ty := .int) (C := RX1) (T := TX1) (N := 13) hx hb hts (fun _ h => List.mem_cons_of_mem _ (List.mem_append_right _ h)) tyX1 tyX1_ok nmX1 hown hK hP hD hS 0 rfl rfl 3 (by decide) (hts (.fieldLink RX1 50 "FileStatusModel" "position" "I") (by decide +kernel)) (fun _ h9 => h9) rfl (by decide +kernel) rfl rfl (Nat.le_of_ble_eq_true rfl) dX1_act_177 (fun H locs hP hD hS => ?_)
          have hP : va_P (dC, dI) vwCl [(h0, .inr (1, [.int 0, .int a1, .int a2, .int a3, .int (gx_X1_told_4 (fx_X1_ahead a1 a2 a3 a8 a9 p0)), .int (gx_X1_told_5 p0), .int (gx_X1_told_6 a6 (fx_X1_ahead a1 a2 a3 a8 a9 p0)), .int (gx_X1_told_7 a7 (fx_X1_ahead a1 a2 a3 a8 a9 p0)), .int a8, .int 0, .int a10, .int a11, .ref h1]))] H := hP
          have hD : va_D A [(h0, .inr (1, [.int 0, .int a1, .int a2, .int a3, .int (gx_X1_told_4 (fx_X1_ahead a1 a2 a3 a8 a9 p0)), .int (gx_X1_told_5 p0), .int (gx_X1_told_6 a6 (fx_X1_ahead a1 a2 a3 a8 a9 p0)), .int (gx_X1_told_7 a7 (fx_X1_ahead a1 a2 a3 a8 a9 p0)), .int a8, .int 0, .int a10, .int a11, .ref h1]))] := hD
          refine lv_iload_n hx hb dX1_act_180 rfl (lv_at hl 4 rfl) ?_
          refine lv_bipush (v := 6) hx hb dX1_act_181 (by decide) ?_
          refine lv_icmp_ne (tgt := 195) hx hb dX1_act_183 (by decide) (fun c9 => ?_) (fun c9 => absurd (c_39.symm.trans c9) (by decide))
          refine lv_iload_n hx hb dX1_act_195 rfl (lv_at hl 2 rfl) ?_
          have hP9 := hP.sub (ws' := [(h0, .inr (1, [.int 0, .int a1, .int a2, .int a3, .int (gx_X1_told_4 (fx_X1_ahead a1 a2 a3 a8 a9 p0)), .int (gx_X1_told_5 p0), .int (gx_X1_told_6 a6 (fx_X1_ahead a1 a2 a3 a8 a9 p0)), .int (gx_X1_told_7 a7 (fx_X1_ahead a1 a2 a3 a8 a9 p0)), .int a8, .int 0, .int a10, .int a11, .ref h1]))]) [0] rfl
          have hD9 := hD.sub (ws' := [(h0, .inr (1, [.int 0, .int a1, .int a2, .int a3, .int (gx_X1_told_4 (fx_X1_ahead a1 a2 a3 a8 a9 p0)), .int (gx_X1_told_5 p0), .int (gx_X1_told_6 a6 (fx_X1_ahead a1 a2 a3 a8 a9 p0)), .int (gx_X1_told_7 a7 (fx_X1_ahead a1 a2 a3 a8 a9 p0)), .int a8, .int 0, .int a10, .int a11, .ref h1]))]) [0] (by decide) rfl
          have hK9 := hK.sub (tys' := []) [] rfl
          have eg_0 : gx_X1_act_0 = 0 := by rfl
          have eg_3 : gx_X1_act_3 a1 a2 a3 a8 a9 a11 p0 p1 = a3 := by unfold gx_X1_act_3; rw [if_neg c_1, if_pos c_2, if_neg c_4, if_neg c_6, if_pos c_39, if_pos c_51]
          have eg_4 : gx_X1_act_4 a1 a2 a3 a4 a8 a9 a11 p0 p1 = gx_X1_told_4 (fx_X1_ahead a1 a2 a3 a8 a9 p0) := by unfold gx_X1_act_4; rw [if_neg c_1, if_pos c_2, if_neg c_4]
          have eg_5 : gx_X1_act_5 a5 p0 = gx_X1_told_5 p0 := by unfold gx_X1_act_5; rw [if_neg c_1, if_pos c_2]
          have eg_6 : gx_X1_act_6 a1 a2 a3 a6 a8 a9 a11 p0 p1 = gx_X1_told_6 a6 (fx_X1_ahead a1 a2 a3 a8 a9 p0) := by unfold gx_X1_act_6; rw [if_neg c_1, if_pos c_2, if_neg c_4]
          have eg_7 : gx_X1_act_7 a1 a2 a3 a7 a8 a9 a11 p0 p1 = gx_X1_told_7 a7 (fx_X1_ahead a1 a2 a3 a8 a9 p0) := by unfold gx_X1_act_7; rw [if_neg c_1, if_pos c_2, if_neg c_4]
          have eg_8 : gx_X1_act_8 a1 a2 a3 a8 a9 p0 p1 = a8 := by unfold gx_X1_act_8; rw [if_neg c_1, if_pos c_2, if_neg c_4]
          have eg_9 : gx_X1_act_9 a1 a2 a3 a8 a9 a11 p0 p1 = 0 := by unfold gx_X1_act_9; rw [if_neg c_1, if_pos c_2, if_neg c_4, if_neg c_6, if_pos c_39, if_neg c_45, if_neg c_49]
          have eg_11 : gx_X1_act_11 a1 a2 a3 a8 a9 a11 p0 p1 = a11 := by unfold gx_X1_act_11; rw [if_neg c_1, if_pos c_2, if_neg c_4, if_neg c_6]
          have ef : fx_X1_act a1 a2 a3 a8 a9 a11 p0 p1 = fx_X1_ahead a1 a2 a3 a8 a9 p0 := by unfold fx_X1_act; rw [if_neg c_1, if_pos c_2, if_neg c_4]
          exact W.iret (v := fx_X1_ahead a1 a2 a3 a8 a9 p0) hx hb hr (fun t ht hW => ⟨⟨(fx_X1_ahead a1 a2 a3 a8 a9 p0), [(h0, .inr (1, [.int 0, .int a1, .int a2, .int a3, .int (gx_X1_told_4 (fx_X1_ahead a1 a2 a3 a8 a9 p0)), .int (gx_X1_told_5 p0), .int (gx_X1_told_6 a6 (fx_X1_ahead a1 a2 a3 a8 a9 p0)), .int (gx_X1_told_7 a7 (fx_X1_ahead a1 a2 a3 a8 a9 p0)), .int a8, .int 0, .int a10, .int a11, .ref h1]))], rfl, ⟨ef.symm, by rw [eg_0, eg_3, eg_4, eg_5, eg_6, eg_7, eg_8, eg_9, eg_11]⟩, by rw [ht]; exact hP9, va_K.moved hW.alike hK9, hD9⟩, hS.F ht⟩) hS.2.2 dX1_act_196
        refine lv_aload_n hx hb dX1_act_161 rfl (lv_at hl 3 rfl) ?_
        refine va_get (D := (dC, dI)) (ci := 1) (v := .int a8) (C := RX1) (T := TX1) (N := 13) hx hb hts (fun _ h => List.mem_cons_of_mem _ (List.mem_append_right _ h)) hown hK hP 0 rfl rfl 8 (by decide) (hts (.fieldLink RX1 23 "FileStatusModel" "isOpen" "Z") (by decide +kernel)) (fun _ h9 => h9) rfl dX1_act_162 ?_
        refine lv_if_ne (tgt := 175) hx hb dX1_act_165 (by decide) (fun c_52 => ?_) (fun c_52 => ?_)
        · refine lv_iload hx hb dX1_act_175 (lv_at hl 0 rfl) ?_
          refine va_put (D := (dC, dI)) (ci := 1) (v := .int (fx_X1_moved (fx_X1_ahead a1 a2 a3 a8 a9 p0))) (ty := .int) (C := RX1) (T := TX1) (N := 13) hx hb hts (fun _ h => List.mem_cons_of_mem _ (List.mem_append_right _ h)) tyX1 tyX1_ok nmX1 hown hK hP hD hS 0 rfl rfl 3 (by decide) (hts (.fieldLink RX1 50 "FileStatusModel" "position" "I") (by decide +kernel)) (fun _ h9 => h9) rfl (by decide +kernel) rfl rfl (Nat.le_of_ble_eq_true rfl) dX1_act_177 (fun H locs hP hD hS => ?_)
          have hP : va_P (dC, dI) vwCl [(h0, .inr (1, [.int 0, .int a1, .int a2, .int (fx_X1_moved (fx_X1_ahead a1 a2 a3 a8 a9 p0)), .int (gx_X1_told_4 (fx_X1_ahead a1 a2 a3 a8 a9 p0)), .int (gx_X1_told_5 p0), .int (gx_X1_told_6 a6 (fx_X1_ahead a1 a2 a3 a8 a9 p0)), .int (gx_X1_told_7 a7 (fx_X1_ahead a1 a2 a3 a8 a9 p0)), .int a8, .int 0, .int a10, .int a11, .ref h1]))] H := hP
          have hD : va_D A [(h0, .inr (1, [.int 0, .int a1, .int a2, .int (fx_X1_moved (fx_X1_ahead a1 a2 a3 a8 a9 p0)), .int (gx_X1_told_4 (fx_X1_ahead a1 a2 a3 a8 a9 p0)), .int (gx_X1_told_5 p0), .int (gx_X1_told_6 a6 (fx_X1_ahead a1 a2 a3 a8 a9 p0)), .int (gx_X1_told_7 a7 (fx_X1_ahead a1 a2 a3 a8 a9 p0)), .int a8, .int 0, .int a10, .int a11, .ref h1]))] := hD
          refine lv_iload_n hx hb dX1_act_180 rfl (lv_at hl 4 rfl) ?_
          refine lv_bipush (v := 6) hx hb dX1_act_181 (by decide) ?_
          refine lv_icmp_ne (tgt := 195) hx hb dX1_act_183 (by decide) (fun c9 => ?_) (fun c9 => absurd (c_39.symm.trans c9) (by decide))
          refine lv_iload_n hx hb dX1_act_195 rfl (lv_at hl 2 rfl) ?_
          have hP9 := hP.sub (ws' := [(h0, .inr (1, [.int 0, .int a1, .int a2, .int (fx_X1_moved (fx_X1_ahead a1 a2 a3 a8 a9 p0)), .int (gx_X1_told_4 (fx_X1_ahead a1 a2 a3 a8 a9 p0)), .int (gx_X1_told_5 p0), .int (gx_X1_told_6 a6 (fx_X1_ahead a1 a2 a3 a8 a9 p0)), .int (gx_X1_told_7 a7 (fx_X1_ahead a1 a2 a3 a8 a9 p0)), .int a8, .int 0, .int a10, .int a11, .ref h1]))]) [0] rfl
          have hD9 := hD.sub (ws' := [(h0, .inr (1, [.int 0, .int a1, .int a2, .int (fx_X1_moved (fx_X1_ahead a1 a2 a3 a8 a9 p0)), .int (gx_X1_told_4 (fx_X1_ahead a1 a2 a3 a8 a9 p0)), .int (gx_X1_told_5 p0), .int (gx_X1_told_6 a6 (fx_X1_ahead a1 a2 a3 a8 a9 p0)), .int (gx_X1_told_7 a7 (fx_X1_ahead a1 a2 a3 a8 a9 p0)), .int a8, .int 0, .int a10, .int a11, .ref h1]))]) [0] (by decide) rfl
          have hK9 := hK.sub (tys' := []) [] rfl
          have eg_0 : gx_X1_act_0 = 0 := by rfl
          have eg_3 : gx_X1_act_3 a1 a2 a3 a8 a9 a11 p0 p1 = fx_X1_moved (fx_X1_ahead a1 a2 a3 a8 a9 p0) := by unfold gx_X1_act_3; rw [if_neg c_1, if_pos c_2, if_neg c_4, if_neg c_6, if_pos c_39, if_neg c_51, if_neg c_52]
          have eg_4 : gx_X1_act_4 a1 a2 a3 a4 a8 a9 a11 p0 p1 = gx_X1_told_4 (fx_X1_ahead a1 a2 a3 a8 a9 p0) := by unfold gx_X1_act_4; rw [if_neg c_1, if_pos c_2, if_neg c_4]
          have eg_5 : gx_X1_act_5 a5 p0 = gx_X1_told_5 p0 := by unfold gx_X1_act_5; rw [if_neg c_1, if_pos c_2]
          have eg_6 : gx_X1_act_6 a1 a2 a3 a6 a8 a9 a11 p0 p1 = gx_X1_told_6 a6 (fx_X1_ahead a1 a2 a3 a8 a9 p0) := by unfold gx_X1_act_6; rw [if_neg c_1, if_pos c_2, if_neg c_4]
          have eg_7 : gx_X1_act_7 a1 a2 a3 a7 a8 a9 a11 p0 p1 = gx_X1_told_7 a7 (fx_X1_ahead a1 a2 a3 a8 a9 p0) := by unfold gx_X1_act_7; rw [if_neg c_1, if_pos c_2, if_neg c_4]
          have eg_8 : gx_X1_act_8 a1 a2 a3 a8 a9 p0 p1 = a8 := by unfold gx_X1_act_8; rw [if_neg c_1, if_pos c_2, if_neg c_4]
          have eg_9 : gx_X1_act_9 a1 a2 a3 a8 a9 a11 p0 p1 = 0 := by unfold gx_X1_act_9; rw [if_neg c_1, if_pos c_2, if_neg c_4, if_neg c_6, if_pos c_39, if_neg c_45, if_neg c_49]
          have eg_11 : gx_X1_act_11 a1 a2 a3 a8 a9 a11 p0 p1 = a11 := by unfold gx_X1_act_11; rw [if_neg c_1, if_pos c_2, if_neg c_4, if_neg c_6]
          have ef : fx_X1_act a1 a2 a3 a8 a9 a11 p0 p1 = fx_X1_ahead a1 a2 a3 a8 a9 p0 := by unfold fx_X1_act; rw [if_neg c_1, if_pos c_2, if_neg c_4]
          exact W.iret (v := fx_X1_ahead a1 a2 a3 a8 a9 p0) hx hb hr (fun t ht hW => ⟨⟨(fx_X1_ahead a1 a2 a3 a8 a9 p0), [(h0, .inr (1, [.int 0, .int a1, .int a2, .int (fx_X1_moved (fx_X1_ahead a1 a2 a3 a8 a9 p0)), .int (gx_X1_told_4 (fx_X1_ahead a1 a2 a3 a8 a9 p0)), .int (gx_X1_told_5 p0), .int (gx_X1_told_6 a6 (fx_X1_ahead a1 a2 a3 a8 a9 p0)), .int (gx_X1_told_7 a7 (fx_X1_ahead a1 a2 a3 a8 a9 p0)), .int a8, .int 0, .int a10, .int a11, .ref h1]))], rfl, ⟨ef.symm, by rw [eg_0, eg_3, eg_4, eg_5, eg_6, eg_7, eg_8, eg_9, eg_11]⟩, by rw [ht]; exact hP9, va_K.moved hW.alike hK9, hD9⟩, hS.F ht⟩) hS.2.2 dX1_act_196
        refine lv_aload_n hx hb dX1_act_168 rfl (lv_at hl 3 rfl) ?_
        refine va_get (D := (dC, dI)) (ci := 1) (v := .int a3) (C := RX1) (T := TX1) (N := 13) hx hb hts (fun _ h => List.mem_cons_of_mem _ (List.mem_append_right _ h)) hown hK hP 0 rfl rfl 3 (by decide) (hts (.fieldLink RX1 50 "FileStatusModel" "position" "I") (by decide +kernel)) (fun _ h9 => h9) rfl dX1_act_169 ?_
        refine lv_goto (tgt := 177) hx hb dX1_act_172 (by decide) ?_
        refine va_put (D := (dC, dI)) (ci := 1) (v := .int a3) (ty := .int) (C := RX1) (T := TX1) (N := 13) hx hb hts (fun _ h => List.mem_cons_of_mem _ (List.mem_append_right _ h)) tyX1 tyX1_ok nmX1 hown hK hP hD hS 0 rfl rfl 3 (by decide) (hts (.fieldLink RX1 50 "FileStatusModel" "position" "I") (by decide +kernel)) (fun _ h9 => h9) rfl (by decide +kernel) rfl rfl (Nat.le_of_ble_eq_true rfl) dX1_act_177 (fun H locs hP hD hS => ?_)
        have hP : va_P (dC, dI) vwCl [(h0, .inr (1, [.int 0, .int a1, .int a2, .int a3, .int (gx_X1_told_4 (fx_X1_ahead a1 a2 a3 a8 a9 p0)), .int (gx_X1_told_5 p0), .int (gx_X1_told_6 a6 (fx_X1_ahead a1 a2 a3 a8 a9 p0)), .int (gx_X1_told_7 a7 (fx_X1_ahead a1 a2 a3 a8 a9 p0)), .int a8, .int 0, .int a10, .int a11, .ref h1]))] H := hP
        have hD : va_D A [(h0, .inr (1, [.int 0, .int a1, .int a2, .int a3, .int (gx_X1_told_4 (fx_X1_ahead a1 a2 a3 a8 a9 p0)), .int (gx_X1_told_5 p0), .int (gx_X1_told_6 a6 (fx_X1_ahead a1 a2 a3 a8 a9 p0)), .int (gx_X1_told_7 a7 (fx_X1_ahead a1 a2 a3 a8 a9 p0)), .int a8, .int 0, .int a10, .int a11, .ref h1]))] := hD
        refine lv_iload_n hx hb dX1_act_180 rfl (lv_at hl 4 rfl) ?_
        refine lv_bipush (v := 6) hx hb dX1_act_181 (by decide) ?_
        refine lv_icmp_ne (tgt := 195) hx hb dX1_act_183 (by decide) (fun c9 => ?_) (fun c9 => absurd (c_39.symm.trans c9) (by decide))
        refine lv_iload_n hx hb dX1_act_195 rfl (lv_at hl 2 rfl) ?_
        have hP9 := hP.sub (ws' := [(h0, .inr (1, [.int 0, .int a1, .int a2, .int a3, .int (gx_X1_told_4 (fx_X1_ahead a1 a2 a3 a8 a9 p0)), .int (gx_X1_told_5 p0), .int (gx_X1_told_6 a6 (fx_X1_ahead a1 a2 a3 a8 a9 p0)), .int (gx_X1_told_7 a7 (fx_X1_ahead a1 a2 a3 a8 a9 p0)), .int a8, .int 0, .int a10, .int a11, .ref h1]))]) [0] rfl
        have hD9 := hD.sub (ws' := [(h0, .inr (1, [.int 0, .int a1, .int a2, .int a3, .int (gx_X1_told_4 (fx_X1_ahead a1 a2 a3 a8 a9 p0)), .int (gx_X1_told_5 p0), .int (gx_X1_told_6 a6 (fx_X1_ahead a1 a2 a3 a8 a9 p0)), .int (gx_X1_told_7 a7 (fx_X1_ahead a1 a2 a3 a8 a9 p0)), .int a8, .int 0, .int a10, .int a11, .ref h1]))]) [0] (by decide) rfl
        have hK9 := hK.sub (tys' := []) [] rfl
        have eg_0 : gx_X1_act_0 = 0 := by rfl
        have eg_3 : gx_X1_act_3 a1 a2 a3 a8 a9 a11 p0 p1 = a3 := by unfold gx_X1_act_3; rw [if_neg c_1, if_pos c_2, if_neg c_4, if_neg c_6, if_pos c_39, if_neg c_51, if_pos c_52]
        have eg_4 : gx_X1_act_4 a1 a2 a3 a4 a8 a9 a11 p0 p1 = gx_X1_told_4 (fx_X1_ahead a1 a2 a3 a8 a9 p0) := by unfold gx_X1_act_4; rw [if_neg c_1, if_pos c_2, if_neg c_4]
        have eg_5 : gx_X1_act_5 a5 p0 = gx_X1_told_5 p0 := by unfold gx_X1_act_5; rw [if_neg c_1, if_pos c_2]
        have eg_6 : gx_X1_act_6 a1 a2 a3 a6 a8 a9 a11 p0 p1 = gx_X1_told_6 a6 (fx_X1_ahead a1 a2 a3 a8 a9 p0) := by unfold gx_X1_act_6; rw [if_neg c_1, if_pos c_2, if_neg c_4]
        have eg_7 : gx_X1_act_7 a1 a2 a3 a7 a8 a9 a11 p0 p1 = gx_X1_told_7 a7 (fx_X1_ahead a1 a2 a3 a8 a9 p0) := by unfold gx_X1_act_7; rw [if_neg c_1, if_pos c_2, if_neg c_4]
        have eg_8 : gx_X1_act_8 a1 a2 a3 a8 a9 p0 p1 = a8 := by unfold gx_X1_act_8; rw [if_neg c_1, if_pos c_2, if_neg c_4]
        have eg_9 : gx_X1_act_9 a1 a2 a3 a8 a9 a11 p0 p1 = 0 := by unfold gx_X1_act_9; rw [if_neg c_1, if_pos c_2, if_neg c_4, if_neg c_6, if_pos c_39, if_neg c_45, if_neg c_49]
        have eg_11 : gx_X1_act_11 a1 a2 a3 a8 a9 a11 p0 p1 = a11 := by unfold gx_X1_act_11; rw [if_neg c_1, if_pos c_2, if_neg c_4, if_neg c_6]
        have ef : fx_X1_act a1 a2 a3 a8 a9 a11 p0 p1 = fx_X1_ahead a1 a2 a3 a8 a9 p0 := by unfold fx_X1_act; rw [if_neg c_1, if_pos c_2, if_neg c_4]
        exact W.iret (v := fx_X1_ahead a1 a2 a3 a8 a9 p0) hx hb hr (fun t ht hW => ⟨⟨(fx_X1_ahead a1 a2 a3 a8 a9 p0), [(h0, .inr (1, [.int 0, .int a1, .int a2, .int a3, .int (gx_X1_told_4 (fx_X1_ahead a1 a2 a3 a8 a9 p0)), .int (gx_X1_told_5 p0), .int (gx_X1_told_6 a6 (fx_X1_ahead a1 a2 a3 a8 a9 p0)), .int (gx_X1_told_7 a7 (fx_X1_ahead a1 a2 a3 a8 a9 p0)), .int a8, .int 0, .int a10, .int a11, .ref h1]))], rfl, ⟨ef.symm, by rw [eg_0, eg_3, eg_4, eg_5, eg_6, eg_7, eg_8, eg_9, eg_11]⟩, by rw [ht]; exact hP9, va_K.moved hW.alike hK9, hD9⟩, hS.F ht⟩) hS.2.2 dX1_act_196
      refine lv_iconst (v := 1) hx hb dX1_act_82 (by decide) ?_
      refine lv_goto (tgt := 87) hx hb dX1_act_83 (by decide) ?_
      refine va_put (D := (dC, dI)) (ci := 1) (v := .int 1) (ty := .boolean) (C := RX1) (T := TX1) (N := 13) hx hb hts (fun _ h => List.mem_cons_of_mem _ (List.mem_append_right _ h)) tyX1 tyX1_ok nmX1 hown hK hP hD hS 0 rfl rfl 9 (by decide) (hts (.fieldLink RX1 47 "FileStatusModel" "permit" "Z") (by decide +kernel)) (fun _ h9 => h9) rfl (by decide +kernel) rfl rfl (Nat.le_of_ble_eq_true rfl) dX1_act_87 (fun H locs hP hD hS => ?_)
      have hP : va_P (dC, dI) vwCl [(h0, .inr (1, [.int 0, .int a1, .int a2, .int a3, .int (gx_X1_told_4 (fx_X1_ahead a1 a2 a3 a8 a9 p0)), .int (gx_X1_told_5 p0), .int (gx_X1_told_6 a6 (fx_X1_ahead a1 a2 a3 a8 a9 p0)), .int (gx_X1_told_7 a7 (fx_X1_ahead a1 a2 a3 a8 a9 p0)), .int a8, .int 1, .int a10, .int a11, .ref h1]))] H := hP
      have hD : va_D A [(h0, .inr (1, [.int 0, .int a1, .int a2, .int a3, .int (gx_X1_told_4 (fx_X1_ahead a1 a2 a3 a8 a9 p0)), .int (gx_X1_told_5 p0), .int (gx_X1_told_6 a6 (fx_X1_ahead a1 a2 a3 a8 a9 p0)), .int (gx_X1_told_7 a7 (fx_X1_ahead a1 a2 a3 a8 a9 p0)), .int a8, .int 1, .int a10, .int a11, .ref h1]))] := hD
      refine lv_iload_n hx hb dX1_act_90 rfl (lv_at hl 2 rfl) ?_
      refine lv_if_ne (tgt := 119) hx hb dX1_act_91 (by decide) (fun c9 => ?_) (fun c9 => absurd c9 c_6)
      refine lv_iload_n hx hb dX1_act_119 rfl (lv_at hl 2 rfl) ?_
      refine lv_if_eq (tgt := 133) hx hb dX1_act_120 (by decide) (fun c9 => absurd c9 c_6) (fun c9 => ?_)
      refine lv_iload_n hx hb dX1_act_123 rfl (lv_at hl 2 rfl) ?_
      refine lv_iconst (v := 1) hx hb dX1_act_124 (by decide) ?_
      refine lv_icmp_eq (tgt := 133) hx hb dX1_act_125 (by decide) (fun c9 => ?_) (fun c9 => absurd c_39 c9)
      refine lv_iconst (v := 1) hx hb dX1_act_133 (by decide) ?_
      refine lv_goto (tgt := 138) hx hb dX1_act_134 (by decide) ?_
      refine lv_istore (lv' := [(4, .int 1), (3, .int (fx_X1_ahead a1 a2 a3 a8 a9 p0)), (0, .ref h0), (1, .int p0), (2, .int p1)]) hx hb dX1_act_138 hl (by decide) rfl (fun ls hl => ?_)
      refine lv_iload hx hb dX1_act_140 (lv_at hl 0 rfl) ?_
      refine lv_if_eq (tgt := 152) hx hb dX1_act_142 (by decide) (fun c9 => absurd c9 (by decide)) (fun c9 => ?_)
      refine lv_iload_n hx hb dX1_act_145 rfl (lv_at hl 1 rfl) ?_
      have hPc := hP.sub (ws' := []) [] rfl
      have hDc := hD.sub (ws' := []) [] (by decide) rfl
      have hKc := hK.sub (tys' := []) [] rfl
      have hFc := va_free (wc := []) hD hS hA [] rfl
      refine va_calli (va_runS (As := [.int (fx_X1_ahead a1 a2 a3 a8 a9 p0)]) (rest := []) ⟨hx, hb, hml, hown, hts⟩ (ct_X1_moved l dC dI H.size (fx_X1_ahead a1 a2 a3 a8 a9 p0)) (va_cwS 1 hts gX1_act_X1_moved rfl rfl rfl (by decide +kernel) ⟨Nat.le_of_ble_eq_true rfl, Nat.le_of_ble_eq_true rfl⟩) ⟨fun a U g mk q => by obtain ⟨q0, q1, qP, qK, qD⟩ := q; exact ⟨q0, q1, qP, va_K.moved (u := U) (U := U.calling g mk a) (Vm.Alike.refl U.vm) qK, qD⟩, fun U hU hW => ⟨rfl, by rw [hU], by rw [hU]; exact hPc, va_K.moved hW.alike hKc, hDc.weaken (fun _ _ _ _ => trivial)⟩⟩ rfl rfl hl.1 rfl (lv_room (Nat.le_of_ble_eq_true rfl)) dX1_act_146 ⟨(Nat.zero_le _), (Nat.zero_le _)⟩) hS (fun q _ h => hFc q h) hFc (fun r_53 u t H1 locs ht hvm hw hB hz1 hk1 hS => ?_)
      obtain ⟨er, hu⟩ := hw
      subst hu
      subst er
      obtain ⟨hP1, -, hD1⟩ := hB
      rw [ht] at hP1
      obtain ⟨hP, hD⟩ := va_join (wr := [(h0, .inr (1, [.int 0, .int a1, .int a2, .int a3, .int (gx_X1_told_4 (fx_X1_ahead a1 a2 a3 a8 a9 p0)), .int (gx_X1_told_5 p0), .int (gx_X1_told_6 a6 (fx_X1_ahead a1 a2 a3 a8 a9 p0)), .int (gx_X1_told_7 a7 (fx_X1_ahead a1 a2 a3 a8 a9 p0)), .int a8, .int 1, .int a10, .int a11, .ref h1]))]) (w1 := []) hP hD [] [0] rfl rfl (by decide) (by decide) hk1 hFc hP1 hD1
      generalize H1 = H at hP hS ⊢
      have hP : va_P (dC, dI) vwCl [(h0, .inr (1, [.int 0, .int a1, .int a2, .int a3, .int (gx_X1_told_4 (fx_X1_ahead a1 a2 a3 a8 a9 p0)), .int (gx_X1_told_5 p0), .int (gx_X1_told_6 a6 (fx_X1_ahead a1 a2 a3 a8 a9 p0)), .int (gx_X1_told_7 a7 (fx_X1_ahead a1 a2 a3 a8 a9 p0)), .int a8, .int 1, .int a10, .int a11, .ref h1]))] H := hP
      have hD : va_D A [(h0, .inr (1, [.int 0, .int a1, .int a2, .int a3, .int (gx_X1_told_4 (fx_X1_ahead a1 a2 a3 a8 a9 p0)), .int (gx_X1_told_5 p0), .int (gx_X1_told_6 a6 (fx_X1_ahead a1 a2 a3 a8 a9 p0)), .int (gx_X1_told_7 a7 (fx_X1_ahead a1 a2 a3 a8 a9 p0)), .int a8, .int 1, .int a10, .int a11, .ref h1]))] := hD
      refine lv_goto (tgt := 153) hx hb dX1_act_149 (by decide) ?_
      refine lv_istore (lv' := [(5, .int (fx_X1_moved (fx_X1_ahead a1 a2 a3 a8 a9 p0))), (4, .int 1), (3, .int (fx_X1_ahead a1 a2 a3 a8 a9 p0)), (0, .ref h0), (1, .int p0), (2, .int p1)]) hx hb dX1_act_153 hl (by decide) rfl (fun ls hl => ?_)
      refine lv_aload_n hx hb dX1_act_155 rfl (lv_at hl 3 rfl) ?_
      refine lv_iload hx hb dX1_act_156 (lv_at hl 0 rfl) ?_
      refine lv_if_eq (tgt := 168) hx hb dX1_act_158 (by decide) (fun c_54 => ?_) (fun c_54 => ?_)
      · refine lv_aload_n hx hb dX1_act_168 rfl (lv_at hl 3 rfl) ?_
        refine va_get (D := (dC, dI)) (ci := 1) (v := .int a3) (C := RX1) (T := TX1) (N := 13) hx hb hts (fun _ h => List.mem_cons_of_mem _ (List.mem_append_right _ h)) hown hK hP 0 rfl rfl 3 (by decide) (hts (.fieldLink RX1 50 "FileStatusModel" "position" "I") (by decide +kernel)) (fun _ h9 => h9) rfl dX1_act_169 ?_
        refine lv_goto (tgt := 177) hx hb dX1_act_172 (by decide) ?_
        refine va_put (D := (dC, dI)) (ci := 1) (v := .int a3) (ty := .int) (C := RX1) (T := TX1) (N := 13) hx hb hts (fun _ h => List.mem_cons_of_mem _ (List.mem_append_right _ h)) tyX1 tyX1_ok nmX1 hown hK hP hD hS 0 rfl rfl 3 (by decide) (hts (.fieldLink RX1 50 "FileStatusModel" "position" "I") (by decide +kernel)) (fun _ h9 => h9) rfl (by decide +kernel) rfl rfl (Nat.le_of_ble_eq_true rfl) dX1_act_177 (fun H locs hP hD hS => ?_)
        have hP : va_P (dC, dI) vwCl [(h0, .inr (1, [.int 0, .int a1, .int a2, .int a3, .int (gx_X1_told_4 (fx_X1_ahead a1 a2 a3 a8 a9 p0)), .int (gx_X1_told_5 p0), .int (gx_X1_told_6 a6 (fx_X1_ahead a1 a2 a3 a8 a9 p0)), .int (gx_X1_told_7 a7 (fx_X1_ahead a1 a2 a3 a8 a9 p0)), .int a8, .int 1, .int a10, .int a11, .ref h1]))] H := hP
        have hD : va_D A [(h0, .inr (1, [.int 0, .int a1, .int a2, .int a3, .int (gx_X1_told_4 (fx_X1_ahead a1 a2 a3 a8 a9 p0)), .int (gx_X1_told_5 p0), .int (gx_X1_told_6 a6 (fx_X1_ahead a1 a2 a3 a8 a9 p0)), .int (gx_X1_told_7 a7 (fx_X1_ahead a1 a2 a3 a8 a9 p0)), .int a8, .int 1, .int a10, .int a11, .ref h1]))] := hD
        refine lv_iload_n hx hb dX1_act_180 rfl (lv_at hl 4 rfl) ?_
        refine lv_bipush (v := 6) hx hb dX1_act_181 (by decide) ?_
        refine lv_icmp_ne (tgt := 195) hx hb dX1_act_183 (by decide) (fun c9 => ?_) (fun c9 => absurd (c_39.symm.trans c9) (by decide))
        refine lv_iload_n hx hb dX1_act_195 rfl (lv_at hl 2 rfl) ?_
        have hP9 := hP.sub (ws' := [(h0, .inr (1, [.int 0, .int a1, .int a2, .int a3, .int (gx_X1_told_4 (fx_X1_ahead a1 a2 a3 a8 a9 p0)), .int (gx_X1_told_5 p0), .int (gx_X1_told_6 a6 (fx_X1_ahead a1 a2 a3 a8 a9 p0)), .int (gx_X1_told_7 a7 (fx_X1_ahead a1 a2 a3 a8 a9 p0)), .int a8, .int 1, .int a10, .int a11, .ref h1]))]) [0] rfl
        have hD9 := hD.sub (ws' := [(h0, .inr (1, [.int 0, .int a1, .int a2, .int a3, .int (gx_X1_told_4 (fx_X1_ahead a1 a2 a3 a8 a9 p0)), .int (gx_X1_told_5 p0), .int (gx_X1_told_6 a6 (fx_X1_ahead a1 a2 a3 a8 a9 p0)), .int (gx_X1_told_7 a7 (fx_X1_ahead a1 a2 a3 a8 a9 p0)), .int a8, .int 1, .int a10, .int a11, .ref h1]))]) [0] (by decide) rfl
        have hK9 := hK.sub (tys' := []) [] rfl
        have eg_0 : gx_X1_act_0 = 0 := by rfl
        have eg_3 : gx_X1_act_3 a1 a2 a3 a8 a9 a11 p0 p1 = a3 := by unfold gx_X1_act_3; rw [if_neg c_1, if_pos c_2, if_neg c_4, if_neg c_6, if_pos c_39, if_pos c_54]
        have eg_4 : gx_X1_act_4 a1 a2 a3 a4 a8 a9 a11 p0 p1 = gx_X1_told_4 (fx_X1_ahead a1 a2 a3 a8 a9 p0) := by unfold gx_X1_act_4; rw [if_neg c_1, if_pos c_2, if_neg c_4]
        have eg_5 : gx_X1_act_5 a5 p0 = gx_X1_told_5 p0 := by unfold gx_X1_act_5; rw [if_neg c_1, if_pos c_2]
        have eg_6 : gx_X1_act_6 a1 a2 a3 a6 a8 a9 a11 p0 p1 = gx_X1_told_6 a6 (fx_X1_ahead a1 a2 a3 a8 a9 p0) := by unfold gx_X1_act_6; rw [if_neg c_1, if_pos c_2, if_neg c_4]
        have eg_7 : gx_X1_act_7 a1 a2 a3 a7 a8 a9 a11 p0 p1 = gx_X1_told_7 a7 (fx_X1_ahead a1 a2 a3 a8 a9 p0) := by unfold gx_X1_act_7; rw [if_neg c_1, if_pos c_2, if_neg c_4]
        have eg_8 : gx_X1_act_8 a1 a2 a3 a8 a9 p0 p1 = a8 := by unfold gx_X1_act_8; rw [if_neg c_1, if_pos c_2, if_neg c_4]
        have eg_9 : gx_X1_act_9 a1 a2 a3 a8 a9 a11 p0 p1 = 1 := by unfold gx_X1_act_9; rw [if_neg c_1, if_pos c_2, if_neg c_4, if_neg c_6, if_pos c_39, if_neg c_45, if_pos c_49]
        have eg_11 : gx_X1_act_11 a1 a2 a3 a8 a9 a11 p0 p1 = a11 := by unfold gx_X1_act_11; rw [if_neg c_1, if_pos c_2, if_neg c_4, if_neg c_6]
        have ef : fx_X1_act a1 a2 a3 a8 a9 a11 p0 p1 = fx_X1_ahead a1 a2 a3 a8 a9 p0 := by unfold fx_X1_act; rw [if_neg c_1, if_pos c_2, if_neg c_4]
        exact W.iret (v := fx_X1_ahead a1 a2 a3 a8 a9 p0) hx hb hr (fun t ht hW => ⟨⟨(fx_X1_ahead a1 a2 a3 a8 a9 p0), [(h0, .inr (1, [.int 0, .int a1, .int a2, .int a3, .int (gx_X1_told_4 (fx_X1_ahead a1 a2 a3 a8 a9 p0)), .int (gx_X1_told_5 p0), .int (gx_X1_told_6 a6 (fx_X1_ahead a1 a2 a3 a8 a9 p0)), .int (gx_X1_told_7 a7 (fx_X1_ahead a1 a2 a3 a8 a9 p0)), .int a8, .int 1, .int a10, .int a11, .ref h1]))], rfl, ⟨ef.symm, by rw [eg_0, eg_3, eg_4, eg_5, eg_6, eg_7, eg_8, eg_9, eg_11]⟩, by rw [ht]; exact hP9, va_K.moved hW.alike hK9, hD9⟩, hS.F ht⟩) hS.2.2 dX1_act_196
      refine lv_aload_n hx hb dX1_act_161 rfl (lv_at hl 3 rfl) ?_
      refine va_get (D := (dC, dI)) (ci := 1) (v := .int a8) (C := RX1) (T := TX1) (N := 13) hx hb hts (fun _ h => List.mem_cons_of_mem _ (List.mem_append_right _ h)) hown hK hP 0 rfl rfl 8 (by decide) (hts (.fieldLink RX1 23 "FileStatusModel" "isOpen" "Z") (by decide +kernel)) (fun _ h9 => h9) rfl dX1_act_162 ?_
      refine lv_if_ne (tgt := 175) hx hb dX1_act_165 (by decide) (fun c_55 => ?_) (fun c_55 => ?_)
      · refine lv_iload hx hb dX1_act_175 (lv_at hl 0 rfl) ?_
        refine va_put (D := (dC, dI)) (ci := 1) (v := .int (fx_X1_moved (fx_X1_ahead a1 a2 a3 a8 a9 p0))) (ty := .int) (C := RX1) (T := TX1) (N := 13) hx hb hts (fun _ h => List.mem_cons_of_mem _ (List.mem_append_right _ h)) tyX1 tyX1_ok nmX1 hown hK hP hD hS 0 rfl rfl 3 (by decide) (hts (.fieldLink RX1 50 "FileStatusModel" "position" "I") (by decide +kernel)) (fun _ h9 => h9) rfl (by decide +kernel) rfl rfl (Nat.le_of_ble_eq_true rfl) dX1_act_177 (fun H locs hP hD hS => ?_)
        have hP : va_P (dC, dI) vwCl [(h0, .inr (1, [.int 0, .int a1, .int a2, .int (fx_X1_moved (fx_X1_ahead a1 a2 a3 a8 a9 p0)), .int (gx_X1_told_4 (fx_X1_ahead a1 a2 a3 a8 a9 p0)), .int (gx_X1_told_5 p0), .int (gx_X1_told_6 a6 (fx_X1_ahead a1 a2 a3 a8 a9 p0)), .int (gx_X1_told_7 a7 (fx_X1_ahead a1 a2 a3 a8 a9 p0)), .int a8, .int 1, .int a10, .int a11, .ref h1]))] H := hP
        have hD : va_D A [(h0, .inr (1, [.int 0, .int a1, .int a2, .int (fx_X1_moved (fx_X1_ahead a1 a2 a3 a8 a9 p0)), .int (gx_X1_told_4 (fx_X1_ahead a1 a2 a3 a8 a9 p0)), .int (gx_X1_told_5 p0), .int (gx_X1_told_6 a6 (fx_X1_ahead a1 a2 a3 a8 a9 p0)), .int (gx_X1_told_7 a7 (fx_X1_ahead a1 a2 a3 a8 a9 p0)), .int a8, .int 1, .int a10, .int a11, .ref h1]))] := hD
        refine lv_iload_n hx hb dX1_act_180 rfl (lv_at hl 4 rfl) ?_
        refine lv_bipush (v := 6) hx hb dX1_act_181 (by decide) ?_
        refine lv_icmp_ne (tgt := 195) hx hb dX1_act_183 (by decide) (fun c9 => ?_) (fun c9 => absurd (c_39.symm.trans c9) (by decide))
        refine lv_iload_n hx hb dX1_act_195 rfl (lv_at hl 2 rfl) ?_
        have hP9 := hP.sub (ws' := [(h0, .inr (1, [.int 0, .int a1, .int a2, .int (fx_X1_moved (fx_X1_ahead a1 a2 a3 a8 a9 p0)), .int (gx_X1_told_4 (fx_X1_ahead a1 a2 a3 a8 a9 p0)), .int (gx_X1_told_5 p0), .int (gx_X1_told_6 a6 (fx_X1_ahead a1 a2 a3 a8 a9 p0)), .int (gx_X1_told_7 a7 (fx_X1_ahead a1 a2 a3 a8 a9 p0)), .int a8, .int 1, .int a10, .int a11, .ref h1]))]) [0] rfl
        have hD9 := hD.sub (ws' := [(h0, .inr (1, [.int 0, .int a1, .int a2, .int (fx_X1_moved (fx_X1_ahead a1 a2 a3 a8 a9 p0)), .int (gx_X1_told_4 (fx_X1_ahead a1 a2 a3 a8 a9 p0)), .int (gx_X1_told_5 p0), .int (gx_X1_told_6 a6 (fx_X1_ahead a1 a2 a3 a8 a9 p0)), .int (gx_X1_told_7 a7 (fx_X1_ahead a1 a2 a3 a8 a9 p0)), .int a8, .int 1, .int a10, .int a11, .ref h1]))]) [0] (by decide) rfl
        have hK9 := hK.sub (tys' := []) [] rfl
        have eg_0 : gx_X1_act_0 = 0 := by rfl
        have eg_3 : gx_X1_act_3 a1 a2 a3 a8 a9 a11 p0 p1 = fx_X1_moved (fx_X1_ahead a1 a2 a3 a8 a9 p0) := by unfold gx_X1_act_3; rw [if_neg c_1, if_pos c_2, if_neg c_4, if_neg c_6, if_pos c_39, if_neg c_54, if_neg c_55]
        have eg_4 : gx_X1_act_4 a1 a2 a3 a4 a8 a9 a11 p0 p1 = gx_X1_told_4 (fx_X1_ahead a1 a2 a3 a8 a9 p0) := by unfold gx_X1_act_4; rw [if_neg c_1, if_pos c_2, if_neg c_4]
        have eg_5 : gx_X1_act_5 a5 p0 = gx_X1_told_5 p0 := by unfold gx_X1_act_5; rw [if_neg c_1, if_pos c_2]
        have eg_6 : gx_X1_act_6 a1 a2 a3 a6 a8 a9 a11 p0 p1 = gx_X1_told_6 a6 (fx_X1_ahead a1 a2 a3 a8 a9 p0) := by unfold gx_X1_act_6; rw [if_neg c_1, if_pos c_2, if_neg c_4]
        have eg_7 : gx_X1_act_7 a1 a2 a3 a7 a8 a9 a11 p0 p1 = gx_X1_told_7 a7 (fx_X1_ahead a1 a2 a3 a8 a9 p0) := by unfold gx_X1_act_7; rw [if_neg c_1, if_pos c_2, if_neg c_4]
        have eg_8 : gx_X1_act_8 a1 a2 a3 a8 a9 p0 p1 = a8 := by unfold gx_X1_act_8; rw [if_neg c_1, if_pos c_2, if_neg c_4]
        have eg_9 : gx_X1_act_9 a1 a2 a3 a8 a9 a11 p0 p1 = 1 := by unfold gx_X1_act_9; rw [if_neg c_1, if_pos c_2, if_neg c_4, if_neg c_6, if_pos c_39, if_neg c_45, if_pos c_49]
        have eg_11 : gx_X1_act_11 a1 a2 a3 a8 a9 a11 p0 p1 = a11 := by unfold gx_X1_act_11; rw [if_neg c_1, if_pos c_2, if_neg c_4, if_neg c_6]
        have ef : fx_X1_act a1 a2 a3 a8 a9 a11 p0 p1 = fx_X1_ahead a1 a2 a3 a8 a9 p0 := by unfold fx_X1_act; rw [if_neg c_1, if_pos c_2, if_neg c_4]
        exact W.iret (v := fx_X1_ahead a1 a2 a3 a8 a9 p0) hx hb hr (fun t ht hW => ⟨⟨(fx_X1_ahead a1 a2 a3 a8 a9 p0), [(h0, .inr (1, [.int 0, .int a1, .int a2, .int (fx_X1_moved (fx_X1_ahead a1 a2 a3 a8 a9 p0)), .int (gx_X1_told_4 (fx_X1_ahead a1 a2 a3 a8 a9 p0)), .int (gx_X1_told_5 p0), .int (gx_X1_told_6 a6 (fx_X1_ahead a1 a2 a3 a8 a9 p0)), .int (gx_X1_told_7 a7 (fx_X1_ahead a1 a2 a3 a8 a9 p0)), .int a8, .int 1, .int a10, .int a11, .ref h1]))], rfl, ⟨ef.symm, by rw [eg_0, eg_3, eg_4, eg_5, eg_6, eg_7, eg_8, eg_9, eg_11]⟩, by rw [ht]; exact hP9, va_K.moved hW.alike hK9, hD9⟩, hS.F ht⟩) hS.2.2 dX1_act_196
      refine lv_aload_n hx hb dX1_act_168 rfl (lv_at hl 3 rfl) ?_
      refine va_get (D := (dC, dI)) (ci := 1) (v := .int a3) (C := RX1) (T := TX1) (N := 13) hx hb hts (fun _ h => List.mem_cons_of_mem _ (List.mem_append_right _ h)) hown hK hP 0 rfl rfl 3 (by decide) (hts (.fieldLink RX1 50 "FileStatusModel" "position" "I") (by decide +kernel)) (fun _ h9 => h9) rfl dX1_act_169 ?_
      refine lv_goto (tgt := 177) hx hb dX1_act_172 (by decide) ?_
      refine va_put (D := (dC, dI)) (ci := 1) (v := .int a3) (ty := .int) (C := RX1) (T := TX1) (N := 13) hx hb hts (fun _ h => List.mem_cons_of_mem _ (List.mem_append_right _ h)) tyX1 tyX1_ok nmX1 hown hK hP hD hS 0 rfl rfl 3 (by decide) (hts (.fieldLink RX1 50 "FileStatusModel" "position" "I") (by decide +kernel)) (fun _ h9 => h9) rfl (by decide +kernel) rfl rfl (Nat.le_of_ble_eq_true rfl) dX1_act_177 (fun H locs hP hD hS => ?_)
      have hP : va_P (dC, dI) vwCl [(h0, .inr (1, [.int 0, .int a1, .int a2, .int a3, .int (gx_X1_told_4 (fx_X1_ahead a1 a2 a3 a8 a9 p0)), .int (gx_X1_told_5 p0), .int (gx_X1_told_6 a6 (fx_X1_ahead a1 a2 a3 a8 a9 p0)), .int (gx_X1_told_7 a7 (fx_X1_ahead a1 a2 a3 a8 a9 p0)), .int a8, .int 1, .int a10, .int a11, .ref h1]))] H := hP
      have hD : va_D A [(h0, .inr (1, [.int 0, .int a1, .int a2, .int a3, .int (gx_X1_told_4 (fx_X1_ahead a1 a2 a3 a8 a9 p0)), .int (gx_X1_told_5 p0), .int (gx_X1_told_6 a6 (fx_X1_ahead a1 a2 a3 a8 a9 p0)), .int (gx_X1_told_7 a7 (fx_X1_ahead a1 a2 a3 a8 a9 p0)), .int a8, .int 1, .int a10, .int a11, .ref h1]))] := hD
      refine lv_iload_n hx hb dX1_act_180 rfl (lv_at hl 4 rfl) ?_
      refine lv_bipush (v := 6) hx hb dX1_act_181 (by decide) ?_
      refine lv_icmp_ne (tgt := 195) hx hb dX1_act_183 (by decide) (fun c9 => ?_) (fun c9 => absurd (c_39.symm.trans c9) (by decide))
      refine lv_iload_n hx hb dX1_act_195 rfl (lv_at hl 2 rfl) ?_
      have hP9 := hP.sub (ws' := [(h0, .inr (1, [.int 0, .int a1, .int a2, .int a3, .int (gx_X1_told_4 (fx_X1_ahead a1 a2 a3 a8 a9 p0)), .int (gx_X1_told_5 p0), .int (gx_X1_told_6 a6 (fx_X1_ahead a1 a2 a3 a8 a9 p0)), .int (gx_X1_told_7 a7 (fx_X1_ahead a1 a2 a3 a8 a9 p0)), .int a8, .int 1, .int a10, .int a11, .ref h1]))]) [0] rfl
      have hD9 := hD.sub (ws' := [(h0, .inr (1, [.int 0, .int a1, .int a2, .int a3, .int (gx_X1_told_4 (fx_X1_ahead a1 a2 a3 a8 a9 p0)), .int (gx_X1_told_5 p0), .int (gx_X1_told_6 a6 (fx_X1_ahead a1 a2 a3 a8 a9 p0)), .int (gx_X1_told_7 a7 (fx_X1_ahead a1 a2 a3 a8 a9 p0)), .int a8, .int 1, .int a10, .int a11, .ref h1]))]) [0] (by decide) rfl
      have hK9 := hK.sub (tys' := []) [] rfl
      have eg_0 : gx_X1_act_0 = 0 := by rfl
      have eg_3 : gx_X1_act_3 a1 a2 a3 a8 a9 a11 p0 p1 = a3 := by unfold gx_X1_act_3; rw [if_neg c_1, if_pos c_2, if_neg c_4, if_neg c_6, if_pos c_39, if_neg c_54, if_pos c_55]
      have eg_4 : gx_X1_act_4 a1 a2 a3 a4 a8 a9 a11 p0 p1 = gx_X1_told_4 (fx_X1_ahead a1 a2 a3 a8 a9 p0) := by unfold gx_X1_act_4; rw [if_neg c_1, if_pos c_2, if_neg c_4]
      have eg_5 : gx_X1_act_5 a5 p0 = gx_X1_told_5 p0 := by unfold gx_X1_act_5; rw [if_neg c_1, if_pos c_2]
      have eg_6 : gx_X1_act_6 a1 a2 a3 a6 a8 a9 a11 p0 p1 = gx_X1_told_6 a6 (fx_X1_ahead a1 a2 a3 a8 a9 p0) := by unfold gx_X1_act_6; rw [if_neg c_1, if_pos c_2, if_neg c_4]
      have eg_7 : gx_X1_act_7 a1 a2 a3 a7 a8 a9 a11 p0 p1 = gx_X1_told_7 a7 (fx_X1_ahead a1 a2 a3 a8 a9 p0) := by unfold gx_X1_act_7; rw [if_neg c_1, if_pos c_2, if_neg c_4]
      have eg_8 : gx_X1_act_8 a1 a2 a3 a8 a9 p0 p1 = a8 := by unfold gx_X1_act_8; rw [if_neg c_1, if_pos c_2, if_neg c_4]
      have eg_9 : gx_X1_act_9 a1 a2 a3 a8 a9 a11 p0 p1 = 1 := by unfold gx_X1_act_9; rw [if_neg c_1, if_pos c_2, if_neg c_4, if_neg c_6, if_pos c_39, if_neg c_45, if_pos c_49]
      have eg_11 : gx_X1_act_11 a1 a2 a3 a8 a9 a11 p0 p1 = a11 := by unfold gx_X1_act_11; rw [if_neg c_1, if_pos c_2, if_neg c_4, if_neg c_6]
      have ef : fx_X1_act a1 a2 a3 a8 a9 a11 p0 p1 = fx_X1_ahead a1 a2 a3 a8 a9 p0 := by unfold fx_X1_act; rw [if_neg c_1, if_pos c_2, if_neg c_4]
      exact W.iret (v := fx_X1_ahead a1 a2 a3 a8 a9 p0) hx hb hr (fun t ht hW => ⟨⟨(fx_X1_ahead a1 a2 a3 a8 a9 p0), [(h0, .inr (1, [.int 0, .int a1, .int a2, .int a3, .int (gx_X1_told_4 (fx_X1_ahead a1 a2 a3 a8 a9 p0)), .int (gx_X1_told_5 p0), .int (gx_X1_told_6 a6 (fx_X1_ahead a1 a2 a3 a8 a9 p0)), .int (gx_X1_told_7 a7 (fx_X1_ahead a1 a2 a3 a8 a9 p0)), .int a8, .int 1, .int a10, .int a11, .ref h1]))], rfl, ⟨ef.symm, by rw [eg_0, eg_3, eg_4, eg_5, eg_6, eg_7, eg_8, eg_9, eg_11]⟩, by rw [ht]; exact hP9, va_K.moved hW.alike hK9, hD9⟩, hS.F ht⟩) hS.2.2 dX1_act_196
    refine lv_iload_n hx hb dX1_act_28 rfl (lv_at hl 2 rfl) ?_
    refine lv_if_ne (tgt := 44) hx hb dX1_act_29 (by decide) (fun c_56 => ?_) (fun c_56 => ?_)
    · refine lv_aload_n hx hb dX1_act_44 rfl (lv_at hl 1 rfl) ?_
      refine lv_iload_n hx hb dX1_act_45 rfl (lv_at hl 2 rfl) ?_
      refine lv_iload_n hx hb dX1_act_46 rfl (lv_at hl 3 rfl) ?_
      have hPc := hP.sub (ws' := [(h0, .inr (1, [.int 0, .int a1, .int a2, .int a3, .int a4, .int a5, .int a6, .int a7, .int a8, .int a9, .int a10, .int a11, .ref h1]))]) [0] rfl
      have hDc := hD.sub (ws' := [(h0, .inr (1, [.int 0, .int a1, .int a2, .int a3, .int a4, .int a5, .int a6, .int a7, .int a8, .int a9, .int a10, .int a11, .ref h1]))]) [0] (by decide) rfl
      have hKc := hK.sub (tys' := []) [] rfl
      have hFc := va_free (wc := [(h0, .inr (1, [.int 0, .int a1, .int a2, .int a3, .int a4, .int a5, .int a6, .int a7, .int a8, .int a9, .int a10, .int a11, .ref h1]))]) hD hS hA [0] rfl
      refine va_calli (va_runV (As := [.int p0, .int p1]) (rest := []) ⟨hx, hb, hml, hown, hts⟩ (ct_X1_byOutcome l dC dI h0 h1 H.size 0 a1 a2 a3 a4 a5 a6 a7 a8 a9 a10 a11 p0 p1) (cwV 2 hts gX1_act_X1_byOutcome rfl rfl rfl (by decide +kernel) ⟨Nat.le_of_ble_eq_true rfl, Nat.le_of_ble_eq_true rfl⟩) ⟨fun a U g mk q => by obtain ⟨q0, q1, qP, qK, qD⟩ := q; exact ⟨q0, q1, qP, va_K.moved (u := U) (U := U.calling g mk a) (Vm.Alike.refl U.vm) qK, qD⟩, va_recv hKc hPc (ci := 1) (q0 := 0) rfl rfl, fun U hU hW => ⟨rfl, by rw [hU], by rw [hU]; exact hPc, va_K.moved hW.alike hKc, hDc.weaken (fun _ _ _ _ => trivial)⟩⟩ rfl rfl hl.1 rfl (lv_room (Nat.le_of_ble_eq_true rfl)) dX1_act_47 ⟨(Nat.zero_le _), (Nat.zero_le _)⟩) hS (fun q _ h => hFc q h) hFc (fun r_57 u t H1 locs ht hvm hw hB hz1 hk1 hS => ?_)
      obtain ⟨er, hu⟩ := hw
      subst hu
      subst er
      obtain ⟨hP1, -, hD1⟩ := hB
      rw [ht] at hP1
      obtain ⟨hP, hD⟩ := va_join (wr := []) (w1 := [(h0, .inr (1, [.int 0, .int a1, .int a2, .int a3, .int a4, .int a5, .int a6, .int a7, .int a8, .int a9, .int a10, .int a11, .ref h1]))]) hP hD [0] [] rfl rfl (by decide) (by decide) hk1 hFc hP1 hD1
      generalize H1 = H at hP hS ⊢
      have hP : va_P (dC, dI) vwCl [(h0, .inr (1, [.int 0, .int a1, .int a2, .int a3, .int a4, .int a5, .int a6, .int a7, .int a8, .int a9, .int a10, .int a11, .ref h1]))] H := hP
      have hD : va_D A [(h0, .inr (1, [.int 0, .int a1, .int a2, .int a3, .int a4, .int a5, .int a6, .int a7, .int a8, .int a9, .int a10, .int a11, .ref h1]))] := hD
      refine lv_istore_n (lv' := [(3, .int (fx_X1_byOutcome a1 p0 p1)), (0, .ref h0), (1, .int p0), (2, .int p1)]) hx hb dX1_act_50 rfl hl (by decide) rfl (fun ls hl => ?_)
      refine lv_aload_n hx hb dX1_act_51 rfl (lv_at hl 1 rfl) ?_
      refine lv_iload_n hx hb dX1_act_52 rfl (lv_at hl 0 rfl) ?_
      refine lv_iload_n hx hb dX1_act_53 rfl (lv_at hl 2 rfl) ?_
      have hPc := hP.sub (ws' := [(h0, .inr (1, [.int 0, .int a1, .int a2, .int a3, .int a4, .int a5, .int a6, .int a7, .int a8, .int a9, .int a10, .int a11, .ref h1]))]) [0] rfl
      have hDc := hD.sub (ws' := [(h0, .inr (1, [.int 0, .int a1, .int a2, .int a3, .int a4, .int a5, .int a6, .int a7, .int a8, .int a9, .int a10, .int a11, .ref h1]))]) [0] (by decide) rfl
      have hKc := hK.sub (tys' := []) [] rfl
      have hFc := va_free (wc := [(h0, .inr (1, [.int 0, .int a1, .int a2, .int a3, .int a4, .int a5, .int a6, .int a7, .int a8, .int a9, .int a10, .int a11, .ref h1]))]) hD hS hA [0] rfl
      refine va_calli (va_runV (As := [.int (fx_X1_byOutcome a1 p0 p1), .int p0]) (rest := []) ⟨hx, hb, hml, hown, hts⟩ (ct_X1_told l dC dI h0 h1 H.size 0 a1 a2 a3 a4 a5 a6 a7 a8 a9 a10 a11 (fx_X1_byOutcome a1 p0 p1) p0) (cwV 2 hts gX1_act_X1_told rfl rfl rfl (by decide +kernel) ⟨Nat.le_of_ble_eq_true rfl, Nat.le_of_ble_eq_true rfl⟩) ⟨fun a U g mk q => by obtain ⟨q0, q1, qP, qK, qD⟩ := q; exact ⟨q0, q1, qP, va_K.moved (u := U) (U := U.calling g mk a) (Vm.Alike.refl U.vm) qK, qD⟩, va_recv hKc hPc (ci := 1) (q0 := 0) rfl rfl, fun U hU hW => ⟨rfl, by rw [hU], by rw [hU]; exact hPc, va_K.moved hW.alike hKc, hDc.weaken (fun _ _ _ _ => trivial)⟩⟩ rfl rfl hl.1 rfl (lv_room (Nat.le_of_ble_eq_true rfl)) dX1_act_54 ⟨(Nat.zero_le _), (Nat.zero_le _)⟩) hS (fun q _ h => hFc q h) hFc (fun r_58 u t H1 locs ht hvm hw hB hz1 hk1 hS => ?_)
      obtain ⟨er, hu⟩ := hw
      subst hu
      subst er
      obtain ⟨hP1, -, hD1⟩ := hB
      rw [ht] at hP1
      obtain ⟨hP, hD⟩ := va_join (wr := []) (w1 := [(h0, .inr (1, [.int 0, .int a1, .int a2, .int a3, .int (gx_X1_told_4 (fx_X1_byOutcome a1 p0 p1)), .int (gx_X1_told_5 p0), .int (gx_X1_told_6 a6 (fx_X1_byOutcome a1 p0 p1)), .int (gx_X1_told_7 a7 (fx_X1_byOutcome a1 p0 p1)), .int a8, .int a9, .int a10, .int a11, .ref h1]))]) hP hD [0] [] rfl rfl (by decide) (by decide) hk1 hFc hP1 hD1
      generalize H1 = H at hP hS ⊢
      have hP : va_P (dC, dI) vwCl [(h0, .inr (1, [.int 0, .int a1, .int a2, .int a3, .int (gx_X1_told_4 (fx_X1_byOutcome a1 p0 p1)), .int (gx_X1_told_5 p0), .int (gx_X1_told_6 a6 (fx_X1_byOutcome a1 p0 p1)), .int (gx_X1_told_7 a7 (fx_X1_byOutcome a1 p0 p1)), .int a8, .int a9, .int a10, .int a11, .ref h1]))] H := hP
      have hD : va_D A [(h0, .inr (1, [.int 0, .int a1, .int a2, .int a3, .int (gx_X1_told_4 (fx_X1_byOutcome a1 p0 p1)), .int (gx_X1_told_5 p0), .int (gx_X1_told_6 a6 (fx_X1_byOutcome a1 p0 p1)), .int (gx_X1_told_7 a7 (fx_X1_byOutcome a1 p0 p1)), .int a8, .int a9, .int a10, .int a11, .ref h1]))] := hD
      refine lv_pop hx hb dX1_act_57 rfl ?_
      refine lv_aload_n hx hb dX1_act_58 rfl (lv_at hl 1 rfl) ?_
      refine lv_iload_n hx hb dX1_act_59 rfl (lv_at hl 2 rfl) ?_
      refine lv_if_eq (tgt := 68) hx hb dX1_act_60 (by decide) (fun c9 => absurd c9 c_56) (fun c9 => ?_)
      refine lv_iload_n hx hb dX1_act_63 rfl (lv_at hl 2 rfl) ?_
      refine lv_iconst (v := 1) hx hb dX1_act_64 (by decide) ?_
      refine lv_icmp_ne (tgt := 86) hx hb dX1_act_65 (by decide) (fun c_59 => ?_) (fun c_59 => ?_)
      · refine lv_iconst (v := 0) hx hb dX1_act_86 (by decide) ?_
        refine va_put (D := (dC, dI)) (ci := 1) (v := .int 0) (ty := .boolean) (C := RX1) (T := TX1) (N := 13) hx hb hts (fun _ h => List.mem_cons_of_mem _ (List.mem_append_right _ h)) tyX1 tyX1_ok nmX1 hown hK hP hD hS 0 rfl rfl 9 (by decide) (hts (.fieldLink RX1 47 "FileStatusModel" "permit" "Z") (by decide +kernel)) (fun _ h9 => h9) rfl (by decide +kernel) rfl rfl (Nat.le_of_ble_eq_true rfl) dX1_act_87 (fun H locs hP hD hS => ?_)
        have hP : va_P (dC, dI) vwCl [(h0, .inr (1, [.int 0, .int a1, .int a2, .int a3, .int (gx_X1_told_4 (fx_X1_byOutcome a1 p0 p1)), .int (gx_X1_told_5 p0), .int (gx_X1_told_6 a6 (fx_X1_byOutcome a1 p0 p1)), .int (gx_X1_told_7 a7 (fx_X1_byOutcome a1 p0 p1)), .int a8, .int 0, .int a10, .int a11, .ref h1]))] H := hP
        have hD : va_D A [(h0, .inr (1, [.int 0, .int a1, .int a2, .int a3, .int (gx_X1_told_4 (fx_X1_byOutcome a1 p0 p1)), .int (gx_X1_told_5 p0), .int (gx_X1_told_6 a6 (fx_X1_byOutcome a1 p0 p1)), .int (gx_X1_told_7 a7 (fx_X1_byOutcome a1 p0 p1)), .int a8, .int 0, .int a10, .int a11, .ref h1]))] := hD
        refine lv_iload_n hx hb dX1_act_90 rfl (lv_at hl 2 rfl) ?_
        refine lv_if_ne (tgt := 119) hx hb dX1_act_91 (by decide) (fun c9 => ?_) (fun c9 => absurd c9 c_56)
        refine lv_iload_n hx hb dX1_act_119 rfl (lv_at hl 2 rfl) ?_
        refine lv_if_eq (tgt := 133) hx hb dX1_act_120 (by decide) (fun c9 => absurd c9 c_56) (fun c9 => ?_)
        refine lv_iload_n hx hb dX1_act_123 rfl (lv_at hl 2 rfl) ?_
        refine lv_iconst (v := 1) hx hb dX1_act_124 (by decide) ?_
        refine lv_icmp_eq (tgt := 133) hx hb dX1_act_125 (by decide) (fun c9 => absurd c9 c_59) (fun c9 => ?_)
        refine lv_iload_n hx hb dX1_act_128 rfl (lv_at hl 2 rfl) ?_
        refine lv_iconst (v := 5) hx hb dX1_act_129 (by decide) ?_
        refine lv_icmp_ne (tgt := 137) hx hb dX1_act_130 (by decide) (fun c_60 => ?_) (fun c_60 => ?_)
        · refine lv_iconst (v := 0) hx hb dX1_act_137 (by decide) ?_
          refine lv_istore (lv' := [(4, .int 0), (3, .int (fx_X1_byOutcome a1 p0 p1)), (0, .ref h0), (1, .int p0), (2, .int p1)]) hx hb dX1_act_138 hl (by decide) rfl (fun ls hl => ?_)
          refine lv_iload hx hb dX1_act_140 (lv_at hl 0 rfl) ?_
          refine lv_if_eq (tgt := 152) hx hb dX1_act_142 (by decide) (fun c9 => ?_) (fun c9 => absurd c9 (by decide))
          refine lv_iconst (v := 0) hx hb dX1_act_152 (by decide) ?_
          refine lv_istore (lv' := [(5, .int 0), (4, .int 0), (3, .int (fx_X1_byOutcome a1 p0 p1)), (0, .ref h0), (1, .int p0), (2, .int p1)]) hx hb dX1_act_153 hl (by decide) rfl (fun ls hl => ?_)
          refine lv_aload_n hx hb dX1_act_155 rfl (lv_at hl 3 rfl) ?_
          refine lv_iload hx hb dX1_act_156 (lv_at hl 0 rfl) ?_
          refine lv_if_eq (tgt := 168) hx hb dX1_act_158 (by decide) (fun c9 => ?_) (fun c9 => absurd c9 (by decide))
          refine lv_aload_n hx hb dX1_act_168 rfl (lv_at hl 3 rfl) ?_
          refine va_get (D := (dC, dI)) (ci := 1) (v := .int a3) (C := RX1) (T := TX1) (N := 13) hx hb hts (fun _ h => List.mem_cons_of_mem _ (List.mem_append_right _ h)) hown hK hP 0 rfl rfl 3 (by decide) (hts (.fieldLink RX1 50 "FileStatusModel" "position" "I") (by decide +kernel)) (fun _ h9 => h9) rfl dX1_act_169 ?_
          refine lv_goto (tgt := 177) hx hb dX1_act_172 (by decide) ?_
          refine va_put (D := (dC, dI)) (ci := 1) (v := .int a3) (ty := .int) (C := RX1) (T := TX1) (N := 13) hx hb hts (fun _ h => List.mem_cons_of_mem _ (List.mem_append_right _ h)) tyX1 tyX1_ok nmX1 hown hK hP hD hS 0 rfl rfl 3 (by decide) (hts (.fieldLink RX1 50 "FileStatusModel" "position" "I") (by decide +kernel)) (fun _ h9 => h9) rfl (by decide +kernel) rfl rfl (Nat.le_of_ble_eq_true rfl) dX1_act_177 (fun H locs hP hD hS => ?_)
          have hP : va_P (dC, dI) vwCl [(h0, .inr (1, [.int 0, .int a1, .int a2, .int a3, .int (gx_X1_told_4 (fx_X1_byOutcome a1 p0 p1)), .int (gx_X1_told_5 p0), .int (gx_X1_told_6 a6 (fx_X1_byOutcome a1 p0 p1)), .int (gx_X1_told_7 a7 (fx_X1_byOutcome a1 p0 p1)), .int a8, .int 0, .int a10, .int a11, .ref h1]))] H := hP
          have hD : va_D A [(h0, .inr (1, [.int 0, .int a1, .int a2, .int a3, .int (gx_X1_told_4 (fx_X1_byOutcome a1 p0 p1)), .int (gx_X1_told_5 p0), .int (gx_X1_told_6 a6 (fx_X1_byOutcome a1 p0 p1)), .int (gx_X1_told_7 a7 (fx_X1_byOutcome a1 p0 p1)), .int a8, .int 0, .int a10, .int a11, .ref h1]))] := hD
          refine lv_iload_n hx hb dX1_act_180 rfl (lv_at hl 4 rfl) ?_
          refine lv_bipush (v := 6) hx hb dX1_act_181 (by decide) ?_
          refine lv_icmp_ne (tgt := 195) hx hb dX1_act_183 (by decide) (fun c_61 => ?_) (fun c_61 => ?_)
          · refine lv_iload_n hx hb dX1_act_195 rfl (lv_at hl 2 rfl) ?_
            have hP9 := hP.sub (ws' := [(h0, .inr (1, [.int 0, .int a1, .int a2, .int a3, .int (gx_X1_told_4 (fx_X1_byOutcome a1 p0 p1)), .int (gx_X1_told_5 p0), .int (gx_X1_told_6 a6 (fx_X1_byOutcome a1 p0 p1)), .int (gx_X1_told_7 a7 (fx_X1_byOutcome a1 p0 p1)), .int a8, .int 0, .int a10, .int a11, .ref h1]))]) [0] rfl
            have hD9 := hD.sub (ws' := [(h0, .inr (1, [.int 0, .int a1, .int a2, .int a3, .int (gx_X1_told_4 (fx_X1_byOutcome a1 p0 p1)), .int (gx_X1_told_5 p0), .int (gx_X1_told_6 a6 (fx_X1_byOutcome a1 p0 p1)), .int (gx_X1_told_7 a7 (fx_X1_byOutcome a1 p0 p1)), .int a8, .int 0, .int a10, .int a11, .ref h1]))]) [0] (by decide) rfl
            have hK9 := hK.sub (tys' := []) [] rfl
            have eg_0 : gx_X1_act_0 = 0 := by rfl
            have eg_3 : gx_X1_act_3 a1 a2 a3 a8 a9 a11 p0 p1 = a3 := by unfold gx_X1_act_3; rw [if_neg c_1, if_pos c_2, if_pos c_4, if_neg c_56, if_neg c_59, if_neg c_60]
            have eg_4 : gx_X1_act_4 a1 a2 a3 a4 a8 a9 a11 p0 p1 = gx_X1_told_4 (fx_X1_byOutcome a1 p0 p1) := by unfold gx_X1_act_4; rw [if_neg c_1, if_pos c_2, if_pos c_4, if_neg c_56]
            have eg_5 : gx_X1_act_5 a5 p0 = gx_X1_told_5 p0 := by unfold gx_X1_act_5; rw [if_neg c_1, if_pos c_2]
            have eg_6 : gx_X1_act_6 a1 a2 a3 a6 a8 a9 a11 p0 p1 = gx_X1_told_6 a6 (fx_X1_byOutcome a1 p0 p1) := by unfold gx_X1_act_6; rw [if_neg c_1, if_pos c_2, if_pos c_4, if_neg c_56]
            have eg_7 : gx_X1_act_7 a1 a2 a3 a7 a8 a9 a11 p0 p1 = gx_X1_told_7 a7 (fx_X1_byOutcome a1 p0 p1) := by unfold gx_X1_act_7; rw [if_neg c_1, if_pos c_2, if_pos c_4, if_neg c_56]
            have eg_8 : gx_X1_act_8 a1 a2 a3 a8 a9 p0 p1 = a8 := by unfold gx_X1_act_8; rw [if_neg c_1, if_pos c_2, if_pos c_4, if_neg c_56, if_neg c_59, if_neg c_60, if_neg c_61]
            have eg_9 : gx_X1_act_9 a1 a2 a3 a8 a9 a11 p0 p1 = 0 := by unfold gx_X1_act_9; rw [if_neg c_1, if_pos c_2, if_pos c_4, if_neg c_56, if_neg c_59]
            have eg_11 : gx_X1_act_11 a1 a2 a3 a8 a9 a11 p0 p1 = a11 := by unfold gx_X1_act_11; rw [if_neg c_1, if_pos c_2, if_pos c_4, if_neg c_56]
            have ef : fx_X1_act a1 a2 a3 a8 a9 a11 p0 p1 = fx_X1_byOutcome a1 p0 p1 := by unfold fx_X1_act; rw [if_neg c_1, if_pos c_2, if_pos c_4, if_neg c_56]
            exact W.iret (v := fx_X1_byOutcome a1 p0 p1) hx hb hr (fun t ht hW => ⟨⟨(fx_X1_byOutcome a1 p0 p1), [(h0, .inr (1, [.int 0, .int a1, .int a2, .int a3, .int (gx_X1_told_4 (fx_X1_byOutcome a1 p0 p1)), .int (gx_X1_told_5 p0), .int (gx_X1_told_6 a6 (fx_X1_byOutcome a1 p0 p1)), .int (gx_X1_told_7 a7 (fx_X1_byOutcome a1 p0 p1)), .int a8, .int 0, .int a10, .int a11, .ref h1]))], rfl, ⟨ef.symm, by rw [eg_0, eg_3, eg_4, eg_5, eg_6, eg_7, eg_8, eg_9, eg_11]⟩, by rw [ht]; exact hP9, va_K.moved hW.alike hK9, hD9⟩, hS.F ht⟩) hS.2.2 dX1_act_196
          refine lv_iload_n hx hb dX1_act_186 rfl (lv_at hl 2 rfl) ?_
          refine lv_if_ne (tgt := 195) hx hb dX1_act_187 (by decide) (fun c_62 => ?_) (fun c_62 => ?_)
          · refine lv_iload_n hx hb dX1_act_195 rfl (lv_at hl 2 rfl) ?_
            have hP9 := hP.sub (ws' := [(h0, .inr (1, [.int 0, .int a1, .int a2, .int a3, .int (gx_X1_told_4 (fx_X1_byOutcome a1 p0 p1)), .int (gx_X1_told_5 p0), .int (gx_X1_told_6 a6 (fx_X1_byOutcome a1 p0 p1)), .int (gx_X1_told_7 a7 (fx_X1_byOutcome a1 p0 p1)), .int a8, .int 0, .int a10, .int a11, .ref h1]))]) [0] rfl
            have hD9 := hD.sub (ws' := [(h0, .inr (1, [.int 0, .int a1, .int a2, .int a3, .int (gx_X1_told_4 (fx_X1_byOutcome a1 p0 p1)), .int (gx_X1_told_5 p0), .int (gx_X1_told_6 a6 (fx_X1_byOutcome a1 p0 p1)), .int (gx_X1_told_7 a7 (fx_X1_byOutcome a1 p0 p1)), .int a8, .int 0, .int a10, .int a11, .ref h1]))]) [0] (by decide) rfl
            have hK9 := hK.sub (tys' := []) [] rfl
            have eg_0 : gx_X1_act_0 = 0 := by rfl
            have eg_3 : gx_X1_act_3 a1 a2 a3 a8 a9 a11 p0 p1 = a3 := by unfold gx_X1_act_3; rw [if_neg c_1, if_pos c_2, if_pos c_4, if_neg c_56, if_neg c_59, if_neg c_60]
            have eg_4 : gx_X1_act_4 a1 a2 a3 a4 a8 a9 a11 p0 p1 = gx_X1_told_4 (fx_X1_byOutcome a1 p0 p1) := by unfold gx_X1_act_4; rw [if_neg c_1, if_pos c_2, if_pos c_4, if_neg c_56]
            have eg_5 : gx_X1_act_5 a5 p0 = gx_X1_told_5 p0 := by unfold gx_X1_act_5; rw [if_neg c_1, if_pos c_2]
            have eg_6 : gx_X1_act_6 a1 a2 a3 a6 a8 a9 a11 p0 p1 = gx_X1_told_6 a6 (fx_X1_byOutcome a1 p0 p1) := by unfold gx_X1_act_6; rw [if_neg c_1, if_pos c_2, if_pos c_4, if_neg c_56]
            have eg_7 : gx_X1_act_7 a1 a2 a3 a7 a8 a9 a11 p0 p1 = gx_X1_told_7 a7 (fx_X1_byOutcome a1 p0 p1) := by unfold gx_X1_act_7; rw [if_neg c_1, if_pos c_2, if_pos c_4, if_neg c_56]
            have eg_8 : gx_X1_act_8 a1 a2 a3 a8 a9 p0 p1 = a8 := by unfold gx_X1_act_8; rw [if_neg c_1, if_pos c_2, if_pos c_4, if_neg c_56, if_neg c_59, if_neg c_60, if_pos c_61, if_neg c_62]
            have eg_9 : gx_X1_act_9 a1 a2 a3 a8 a9 a11 p0 p1 = 0 := by unfold gx_X1_act_9; rw [if_neg c_1, if_pos c_2, if_pos c_4, if_neg c_56, if_neg c_59]
            have eg_11 : gx_X1_act_11 a1 a2 a3 a8 a9 a11 p0 p1 = a11 := by unfold gx_X1_act_11; rw [if_neg c_1, if_pos c_2, if_pos c_4, if_neg c_56]
            have ef : fx_X1_act a1 a2 a3 a8 a9 a11 p0 p1 = fx_X1_byOutcome a1 p0 p1 := by unfold fx_X1_act; rw [if_neg c_1, if_pos c_2, if_pos c_4, if_neg c_56]
            exact W.iret (v := fx_X1_byOutcome a1 p0 p1) hx hb hr (fun t ht hW => ⟨⟨(fx_X1_byOutcome a1 p0 p1), [(h0, .inr (1, [.int 0, .int a1, .int a2, .int a3, .int (gx_X1_told_4 (fx_X1_byOutcome a1 p0 p1)), .int (gx_X1_told_5 p0), .int (gx_X1_told_6 a6 (fx_X1_byOutcome a1 p0 p1)), .int (gx_X1_told_7 a7 (fx_X1_byOutcome a1 p0 p1)), .int a8, .int 0, .int a10, .int a11, .ref h1]))], rfl, ⟨ef.symm, by rw [eg_0, eg_3, eg_4, eg_5, eg_6, eg_7, eg_8, eg_9, eg_11]⟩, by rw [ht]; exact hP9, va_K.moved hW.alike hK9, hD9⟩, hS.F ht⟩) hS.2.2 dX1_act_196
          refine lv_aload_n hx hb dX1_act_190 rfl (lv_at hl 3 rfl) ?_
          refine lv_iconst (v := 0) hx hb dX1_act_191 (by decide) ?_
          refine va_put (D := (dC, dI)) (ci := 1) (v := .int 0) (ty := .boolean) (C := RX1) (T := TX1) (N := 13) hx hb hts (fun _ h => List.mem_cons_of_mem _ (List.mem_append_right _ h)) tyX1 tyX1_ok nmX1 hown hK hP hD hS 0 rfl rfl 8 (by decide) (hts (.fieldLink RX1 23 "FileStatusModel" "isOpen" "Z") (by decide +kernel)) (fun _ h9 => h9) rfl (by decide +kernel) rfl rfl (Nat.le_of_ble_eq_true rfl) dX1_act_192 (fun H locs hP hD hS => ?_)
          have hP : va_P (dC, dI) vwCl [(h0, .inr (1, [.int 0, .int a1, .int a2, .int a3, .int (gx_X1_told_4 (fx_X1_byOutcome a1 p0 p1)), .int (gx_X1_told_5 p0), .int (gx_X1_told_6 a6 (fx_X1_byOutcome a1 p0 p1)), .int (gx_X1_told_7 a7 (fx_X1_byOutcome a1 p0 p1)), .int 0, .int 0, .int a10, .int a11, .ref h1]))] H := hP
          have hD : va_D A [(h0, .inr (1, [.int 0, .int a1, .int a2, .int a3, .int (gx_X1_told_4 (fx_X1_byOutcome a1 p0 p1)), .int (gx_X1_told_5 p0), .int (gx_X1_told_6 a6 (fx_X1_byOutcome a1 p0 p1)), .int (gx_X1_told_7 a7 (fx_X1_byOutcome a1 p0 p1)), .int 0, .int 0, .int a10, .int a11, .ref h1]))] := hD
          refine lv_iload_n hx hb dX1_act_195 rfl (lv_at hl 2 rfl) ?_
          have hP9 := hP.sub (ws' := [(h0, .inr (1, [.int 0, .int a1, .int a2, .int a3, .int (gx_X1_told_4 (fx_X1_byOutcome a1 p0 p1)), .int (gx_X1_told_5 p0), .int (gx_X1_told_6 a6 (fx_X1_byOutcome a1 p0 p1)), .int (gx_X1_told_7 a7 (fx_X1_byOutcome a1 p0 p1)), .int 0, .int 0, .int a10, .int a11, .ref h1]))]) [0] rfl
          have hD9 := hD.sub (ws' := [(h0, .inr (1, [.int 0, .int a1, .int a2, .int a3, .int (gx_X1_told_4 (fx_X1_byOutcome a1 p0 p1)), .int (gx_X1_told_5 p0), .int (gx_X1_told_6 a6 (fx_X1_byOutcome a1 p0 p1)), .int (gx_X1_told_7 a7 (fx_X1_byOutcome a1 p0 p1)), .int 0, .int 0, .int a10, .int a11, .ref h1]))]) [0] (by decide) rfl
          have hK9 := hK.sub (tys' := []) [] rfl
          have eg_0 : gx_X1_act_0 = 0 := by rfl
          have eg_3 : gx_X1_act_3 a1 a2 a3 a8 a9 a11 p0 p1 = a3 := by unfold gx_X1_act_3; rw [if_neg c_1, if_pos c_2, if_pos c_4, if_neg c_56, if_neg c_59, if_neg c_60]
          have eg_4 : gx_X1_act_4 a1 a2 a3 a4 a8 a9 a11 p0 p1 = gx_X1_told_4 (fx_X1_byOutcome a1 p0 p1) := by unfold gx_X1_act_4; rw [if_neg c_1, if_pos c_2, if_pos c_4, if_neg c_56]
          have eg_5 : gx_X1_act_5 a5 p0 = gx_X1_told_5 p0 := by unfold gx_X1_act_5; rw [if_neg c_1, if_pos c_2]
          have eg_6 : gx_X1_act_6 a1 a2 a3 a6 a8 a9 a11 p0 p1 = gx_X1_told_6 a6 (fx_X1_byOutcome a1 p0 p1) := by unfold gx_X1_act_6; rw [if_neg c_1, if_pos c_2, if_pos c_4, if_neg c_56]
          have eg_7 : gx_X1_act_7 a1 a2 a3 a7 a8 a9 a11 p0 p1 = gx_X1_told_7 a7 (fx_X1_byOutcome a1 p0 p1) := by unfold gx_X1_act_7; rw [if_neg c_1, if_pos c_2, if_pos c_4, if_neg c_56]
          have eg_8 : gx_X1_act_8 a1 a2 a3 a8 a9 p0 p1 = 0 := by unfold gx_X1_act_8; rw [if_neg c_1, if_pos c_2, if_pos c_4, if_neg c_56, if_neg c_59, if_neg c_60, if_pos c_61, if_pos c_62]
          have eg_9 : gx_X1_act_9 a1 a2 a3 a8 a9 a11 p0 p1 = 0 := by unfold gx_X1_act_9; rw [if_neg c_1, if_pos c_2, if_pos c_4, if_neg c_56, if_neg c_59]
          have eg_11 : gx_X1_act_11 a1 a2 a3 a8 a9 a11 p0 p1 = a11 := by unfold gx_X1_act_11; rw [if_neg c_1, if_pos c_2, if_pos c_4, if_neg c_56]
          have ef : fx_X1_act a1 a2 a3 a8 a9 a11 p0 p1 = fx_X1_byOutcome a1 p0 p1 := by unfold fx_X1_act; rw [if_neg c_1, if_pos c_2, if_pos c_4, if_neg c_56]
          exact W.iret (v := fx_X1_byOutcome a1 p0 p1) hx hb hr (fun t ht hW => ⟨⟨(fx_X1_byOutcome a1 p0 p1), [(h0, .inr (1, [.int 0, .int a1, .int a2, .int a3, .int (gx_X1_told_4 (fx_X1_byOutcome a1 p0 p1)), .int (gx_X1_told_5 p0), .int (gx_X1_told_6 a6 (fx_X1_byOutcome a1 p0 p1)), .int (gx_X1_told_7 a7 (fx_X1_byOutcome a1 p0 p1)), .int 0, .int 0, .int a10, .int a11, .ref h1]))], rfl, ⟨ef.symm, by rw [eg_0, eg_3, eg_4, eg_5, eg_6, eg_7, eg_8, eg_9, eg_11]⟩, by rw [ht]; exact hP9, va_K.moved hW.alike hK9, hD9⟩, hS.F ht⟩) hS.2.2 dX1_act_196
        refine lv_iconst (v := 1) hx hb dX1_act_133 (by decide) ?_
        refine lv_goto (tgt := 138) hx hb dX1_act_134 (by decide) ?_
        refine lv_istore (lv' := [(4, .int 1), (3, .int (fx_X1_byOutcome a1 p0 p1)), (0, .ref h0), (1, .int p0), (2, .int p1)]) hx hb dX1_act_138 hl (by decide) rfl (fun ls hl => ?_)
        refine lv_iload hx hb dX1_act_140 (lv_at hl 0 rfl) ?_
        refine lv_if_eq (tgt := 152) hx hb dX1_act_142 (by decide) (fun c9 => absurd c9 (by decide)) (fun c9 => ?_)
        refine lv_iload_n hx hb dX1_act_145 rfl (lv_at hl 1 rfl) ?_
        have hPc := hP.sub (ws' := []) [] rfl
        have hDc := hD.sub (ws' := []) [] (by decide) rfl
        have hKc := hK.sub (tys' := []) [] rfl
        have hFc := va_free (wc := []) hD hS hA [] rfl
        refine va_calli (va_runS (As := [.int (fx_X1_byOutcome a1 p0 p1)]) (rest := []) ⟨hx, hb, hml, hown, hts⟩ (ct_X1_moved l dC dI H.size (fx_X1_byOutcome a1 p0 p1)) (va_cwS 1 hts gX1_act_X1_moved rfl rfl rfl (by decide +kernel) ⟨Nat.le_of_ble_eq_true rfl, Nat.le_of_ble_eq_true rfl⟩) ⟨fun a U g mk q => by obtain ⟨q0, q1, qP, qK, qD⟩ := q; exact ⟨q0, q1, qP, va_K.moved (u := U) (U := U.calling g mk a) (Vm.Alike.refl U.vm) qK, qD⟩, fun U hU hW => ⟨rfl, by rw [hU], by rw [hU]; exact hPc, va_K.moved hW.alike hKc, hDc.weaken (fun _ _ _ _ => trivial)⟩⟩ rfl rfl hl.1 rfl (lv_room (Nat.le_of_ble_eq_true rfl)) dX1_act_146 ⟨(Nat.zero_le _), (Nat.zero_le _)⟩) hS (fun q _ h => hFc q h) hFc (fun r_63 u t H1 locs ht hvm hw hB hz1 hk1 hS => ?_)
        obtain ⟨er, hu⟩ := hw
        subst hu
        subst er
        obtain ⟨hP1, -, hD1⟩ := hB
        rw [ht] at hP1
        obtain ⟨hP, hD⟩ := va_join (wr := [(h0, .inr (1, [.int 0, .int a1, .int a2, .int a3, .int (gx_X1_told_4 (fx_X1_byOutcome a1 p0 p1)), .int (gx_X1_told_5 p0), .int (gx_X1_told_6 a6 (fx_X1_byOutcome a1 p0 p1)), .int (gx_X1_told_7 a7 (fx_X1_byOutcome a1 p0 p1)), .int a8, .int 0, .int a10, .int a11, .ref h1]))]) (w1 := []) hP hD [] [0] rfl rfl (by decide) (by decide) hk1 hFc hP1 hD1
        generalize H1 = H at hP hS ⊢
        have hP : va_P (dC, dI) vwCl [(h0, .inr (1, [.int 0, .int a1, .int a2, .int a3, .int (gx_X1_told_4 (fx_X1_byOutcome a1 p0 p1)), .int (gx_X1_told_5 p0), .int (gx_X1_told_6 a6 (fx_X1_byOutcome a1 p0 p1)), .int (gx_X1_told_7 a7 (fx_X1_byOutcome a1 p0 p1)), .int a8, .int 0, .int a10, .int a11, .ref h1]))] H := hP
        have hD : va_D A [(h0, .inr (1, [.int 0, .int a1, .int a2, .int a3, .int (gx_X1_told_4 (fx_X1_byOutcome a1 p0 p1)), .int (gx_X1_told_5 p0), .int (gx_X1_told_6 a6 (fx_X1_byOutcome a1 p0 p1)), .int (gx_X1_told_7 a7 (fx_X1_byOutcome a1 p0 p1)), .int a8, .int 0, .int a10, .int a11, .ref h1]))] := hD
        refine lv_goto (tgt := 153) hx hb dX1_act_149 (by decide) ?_
        refine lv_istore (lv' := [(5, .int (fx_X1_moved (fx_X1_byOutcome a1 p0 p1))), (4, .int 1), (3, .int (fx_X1_byOutcome a1 p0 p1)), (0, .ref h0), (1, .int p0), (2, .int p1)]) hx hb dX1_act_153 hl (by decide) rfl (fun ls hl => ?_)
        refine lv_aload_n hx hb dX1_act_155 rfl (lv_at hl 3 rfl) ?_
        refine lv_iload hx hb dX1_act_156 (lv_at hl 0 rfl) ?_
        refine lv_if_eq (tgt := 168) hx hb dX1_act_158 (by decide) (fun c_64 => ?_) (fun c_64 => ?_)
        · refine lv_aload_n hx hb dX1_act_168 rfl (lv_at hl 3 rfl) ?_
          refine va_get (D := (dC, dI)) (ci := 1) (v := .int a3) (C := RX1) (T := TX1) (N := 13) hx hb hts (fun _ h => List.mem_cons_of_mem _ (List.mem_append_right _ h)) hown hK hP 0 rfl rfl 3 (by decide) (hts (.fieldLink RX1 50 "FileStatusModel" "position" "I") (by decide +kernel)) (fun _ h9 => h9) rfl dX1_act_169 ?_
          refine lv_goto (tgt := 177) hx hb dX1_act_172 (by decide) ?_
          refine va_put (D := (dC, dI)) (ci := 1) (v := .int a3) (ty := .int) (C := RX1) (T := TX1) (N := 13) hx hb hts (fun _ h => List.mem_cons_of_mem _ (List.mem_append_right _ h)) tyX1 tyX1_ok nmX1 hown hK hP hD hS 0 rfl rfl 3 (by decide) (hts (.fieldLink RX1 50 "FileStatusModel" "position" "I") (by decide +kernel)) (fun _ h9 => h9) rfl (by decide +kernel) rfl rfl (Nat.le_of_ble_eq_true rfl) dX1_act_177 (fun H locs hP hD hS => ?_)
          have hP : va_P (dC, dI) vwCl [(h0, .inr (1, [.int 0, .int a1, .int a2, .int a3, .int (gx_X1_told_4 (fx_X1_byOutcome a1 p0 p1)), .int (gx_X1_told_5 p0), .int (gx_X1_told_6 a6 (fx_X1_byOutcome a1 p0 p1)), .int (gx_X1_told_7 a7 (fx_X1_byOutcome a1 p0 p1)), .int a8, .int 0, .int a10, .int a11, .ref h1]))] H := hP
          have hD : va_D A [(h0, .inr (1, [.int 0, .int a1, .int a2, .int a3, .int (gx_X1_told_4 (fx_X1_byOutcome a1 p0 p1)), .int (gx_X1_told_5 p0), .int (gx_X1_told_6 a6 (fx_X1_byOutcome a1 p0 p1)), .int (gx_X1_told_7 a7 (fx_X1_byOutcome a1 p0 p1)), .int a8, .int 0, .int a10, .int a11, .ref h1]))] := hD
          refine lv_iload_n hx hb dX1_act_180 rfl (lv_at hl 4 rfl) ?_
          refine lv_bipush (v := 6) hx hb dX1_act_181 (by decide) ?_
          refine lv_icmp_ne (tgt := 195) hx hb dX1_act_183 (by decide) (fun c9 => ?_) (fun c9 => absurd (c_60.symm.trans c9) (by decide))
          refine lv_iload_n hx hb dX1_act_195 rfl (lv_at hl 2 rfl) ?_
          have hP9 := hP.sub (ws' := [(h0, .inr (1, [.int 0, .int a1, .int a2, .int a3, .int (gx_X1_told_4 (fx_X1_byOutcome a1 p0 p1)), .int (gx_X1_told_5 p0), .int (gx_X1_told_6 a6 (fx_X1_byOutcome a1 p0 p1)), .int (gx_X1_told_7 a7 (fx_X1_byOutcome a1 p0 p1)), .int a8, .int 0, .int a10, .int a11, .ref h1]))]) [0] rfl
          have hD9 := hD.sub (ws' := [(h0, .inr (1, [.int 0, .int a1, .int a2, .int a3, .int (gx_X1_told_4 (fx_X1_byOutcome a1 p0 p1)), .int (gx_X1_told_5 p0), .int (gx_X1_told_6 a6 (fx_X1_byOutcome a1 p0 p1)), .int (gx_X1_told_7 a7 (fx_X1_byOutcome a1 p0 p1)), .int a8, .int 0, .int a10, .int a11, .ref h1]))]) [0] (by decide) rfl
          have hK9 := hK.sub (tys' := []) [] rfl
          have eg_0 : gx_X1_act_0 = 0 := by rfl
          have eg_3 : gx_X1_act_3 a1 a2 a3 a8 a9 a11 p0 p1 = a3 := by unfold gx_X1_act_3; rw [if_neg c_1, if_pos c_2, if_pos c_4, if_neg c_56, if_neg c_59, if_pos c_60, if_pos c_64]
          have eg_4 : gx_X1_act_4 a1 a2 a3 a4 a8 a9 a11 p0 p1 = gx_X1_told_4 (fx_X1_byOutcome a1 p0 p1) := by unfold gx_X1_act_4; rw [if_neg c_1, if_pos c_2, if_pos c_4, if_neg c_56]
          have eg_5 : gx_X1_act_5 a5 p0 = gx_X1_told_5 p0 := by unfold gx_X1_act_5; rw [if_neg c_1, if_pos c_2]
          have eg_6 : gx_X1_act_6 a1 a2 a3 a6 a8 a9 a11 p0 p1 = gx_X1_told_6 a6 (fx_X1_byOutcome a1 p0 p1) := by unfold gx_X1_act_6; rw [if_neg c_1, if_pos c_2, if_pos c_4, if_neg c_56]
          have eg_7 : gx_X1_act_7 a1 a2 a3 a7 a8 a9 a11 p0 p1 = gx_X1_told_7 a7 (fx_X1_byOutcome a1 p0 p1) := by unfold gx_X1_act_7; rw [if_neg c_1, if_pos c_2, if_pos c_4, if_neg c_56]
          have eg_8 : gx_X1_act_8 a1 a2 a3 a8 a9 p0 p1 = a8 := by unfold gx_X1_act_8; rw [if_neg c_1, if_pos c_2, if_pos c_4, if_neg c_56, if_neg c_59, if_pos c_60]
          have eg_9 : gx_X1_act_9 a1 a2 a3 a8 a9 a11 p0 p1 = 0 := by unfold gx_X1_act_9; rw [if_neg c_1, if_pos c_2, if_pos c_4, if_neg c_56, if_neg c_59]
          have eg_11 : gx_X1_act_11 a1 a2 a3 a8 a9 a11 p0 p1 = a11 := by unfold gx_X1_act_11; rw [if_neg c_1, if_pos c_2, if_pos c_4, if_neg c_56]
          have ef : fx_X1_act a1 a2 a3 a8 a9 a11 p0 p1 = fx_X1_byOutcome a1 p0 p1 := by unfold fx_X1_act; rw [if_neg c_1, if_pos c_2, if_pos c_4, if_neg c_56]
          exact W.iret (v := fx_X1_byOutcome a1 p0 p1) hx hb hr (fun t ht hW => ⟨⟨(fx_X1_byOutcome a1 p0 p1), [(h0, .inr (1, [.int 0, .int a1, .int a2, .int a3, .int (gx_X1_told_4 (fx_X1_byOutcome a1 p0 p1)), .int (gx_X1_told_5 p0), .int (gx_X1_told_6 a6 (fx_X1_byOutcome a1 p0 p1)), .int (gx_X1_told_7 a7 (fx_X1_byOutcome a1 p0 p1)), .int a8, .int 0, .int a10, .int a11, .ref h1]))], rfl, ⟨ef.symm, by rw [eg_0, eg_3, eg_4, eg_5, eg_6, eg_7, eg_8, eg_9, eg_11]⟩, by rw [ht]; exact hP9, va_K.moved hW.alike hK9, hD9⟩, hS.F ht⟩) hS.2.2 dX1_act_196
        refine lv_aload_n hx hb dX1_act_161 rfl (lv_at hl 3 rfl) ?_
        refine va_get (D := (dC, dI)) (ci := 1) (v := .int a8) (C := RX1) (T := TX1) (N := 13) hx hb hts (fun _ h => List.mem_cons_of_mem _ (List.mem_append_right _ h)) hown hK hP 0 rfl rfl 8 (by decide) (hts (.fieldLink RX1 23 "FileStatusModel" "isOpen" "Z") (by decide +kernel)) (fun _ h9 => h9) rfl dX1_act_162 ?_
        refine lv_if_ne (tgt := 175) hx hb dX1_act_165 (by decide) (fun c_65 => ?_) (fun c_65 => ?_)
        · refine lv_iload hx hb dX1_act_175 (lv_at hl 0 rfl) ?_
          refine va_put (D := (dC, dI)) (ci := 1) (v := .int (fx_X1_moved (fx_X1_byOutcome a1 p0 p1))) (ty := .int) (C := RX1) (T := TX1) (N := 13) hx hb hts (fun _ h => List.mem_cons_of_mem _ (List.mem_append_right _ h)) tyX1 tyX1_ok nmX1 hown hK hP hD hS 0 rfl rfl 3 (by decide) (hts (.fieldLink RX1 50 "FileStatusModel" "position" "I") (by decide +kernel)) (fun _ h9 => h9) rfl (by decide +kernel) rfl rfl (Nat.le_of_ble_eq_true rfl) dX1_act_177 (fun H locs hP hD hS => ?_)
          have hP : va_P (dC, dI) vwCl [(h0, .inr (1, [.int 0, .int a1, .int a2, .int (fx_X1_moved (fx_X1_byOutcome a1 p0 p1)), .int (gx_X1_told_4 (fx_X1_byOutcome a1 p0 p1)), .int (gx_X1_told_5 p0), .int (gx_X1_told_6 a6 (fx_X1_byOutcome a1 p0 p1)), .int (gx_X1_told_7 a7 (fx_X1_byOutcome a1 p0 p1)), .int a8, .int 0, .int a10, .int a11, .ref h1]))] H := hP
          have hD : va_D A [(h0, .inr (1, [.int 0, .int a1, .int a2, .int (fx_X1_moved (fx_X1_byOutcome a1 p0 p1)), .int (gx_X1_told_4 (fx_X1_byOutcome a1 p0 p1)), .int (gx_X1_told_5 p0), .int (gx_X1_told_6 a6 (fx_X1_byOutcome a1 p0 p1)), .int (gx_X1_told_7 a7 (fx_X1_byOutcome a1 p0 p1)), .int a8, .int 0, .int a10, .int a11, .ref h1]))] := hD
          refine lv_iload_n hx hb dX1_act_180 rfl (lv_at hl 4 rfl) ?_
          refine lv_bipush (v := 6) hx hb dX1_act_181 (by decide) ?_
          refine lv_icmp_ne (tgt := 195) hx hb dX1_act_183 (by decide) (fun c9 => ?_) (fun c9 => absurd (c_60.symm.trans c9) (by decide))
          refine lv_iload_n hx hb dX1_act_195 rfl (lv_at hl 2 rfl) ?_
          have hP9 := hP.sub (ws' := [(h0, .inr (1, [.int 0, .int a1, .int a2, .int (fx_X1_moved (fx_X1_byOutcome a1 p0 p1)), .int (gx_X1_told_4 (fx_X1_byOutcome a1 p0 p1)), .int (gx_X1_told_5 p0), .int (gx_X1_told_6 a6 (fx_X1_byOutcome a1 p0 p1)), .int (gx_X1_told_7 a7 (fx_X1_byOutcome a1 p0 p1)), .int a8, .int 0, .int a10, .int a11, .ref h1]))]) [0] rfl
          have hD9 := hD.sub (ws' := [(h0, .inr (1, [.int 0, .int a1, .int a2, .int (fx_X1_moved (fx_X1_byOutcome a1 p0 p1)), .int (gx_X1_told_4 (fx_X1_byOutcome a1 p0 p1)), .int (gx_X1_told_5 p0), .int (gx_X1_told_6 a6 (fx_X1_byOutcome a1 p0 p1)), .int (gx_X1_told_7 a7 (fx_X1_byOutcome a1 p0 p1)), .int a8, .int 0, .int a10, .int a11, .ref h1]))]) [0] (by decide) rfl
          have hK9 := hK.sub (tys' := []) [] rfl
          have eg_0 : gx_X1_act_0 = 0 := by rfl
          have eg_3 : gx_X1_act_3 a1 a2 a3 a8 a9 a11 p0 p1 = fx_X1_moved (fx_X1_byOutcome a1 p0 p1) := by unfold gx_X1_act_3; rw [if_neg c_1, if_pos c_2, if_pos c_4, if_neg c_56, if_neg c_59, if_pos c_60, if_neg c_64, if_neg c_65]
          have eg_4 : gx_X1_act_4 a1 a2 a3 a4 a8 a9 a11 p0 p1 = gx_X1_told_4 (fx_X1_byOutcome a1 p0 p1) := by unfold gx_X1_act_4; rw [if_neg c_1, if_pos c_2, if_pos c_4, if_neg c_56]
          have eg_5 : gx_X1_act_5 a5 p0 = gx_X1_told_5 p0 := by unfold gx_X1_act_5; rw [if_neg c_1, if_pos c_2]
          have eg_6 : gx_X1_act_6 a1 a2 a3 a6 a8 a9 a11 p0 p1 = gx_X1_told_6 a6 (fx_X1_byOutcome a1 p0 p1) := by unfold gx_X1_act_6; rw [if_neg c_1, if_pos c_2, if_pos c_4, if_neg c_56]
          have eg_7 : gx_X1_act_7 a1 a2 a3 a7 a8 a9 a11 p0 p1 = gx_X1_told_7 a7 (fx_X1_byOutcome a1 p0 p1) := by unfold gx_X1_act_7; rw [if_neg c_1, if_pos c_2, if_pos c_4, if_neg c_56]
          have eg_8 : gx_X1_act_8 a1 a2 a3 a8 a9 p0 p1 = a8 := by unfold gx_X1_act_8; rw [if_neg c_1, if_pos c_2, if_pos c_4, if_neg c_56, if_neg c_59, if_pos c_60]
          have eg_9 : gx_X1_act_9 a1 a2 a3 a8 a9 a11 p0 p1 = 0 := by unfold gx_X1_act_9; rw [if_neg c_1, if_pos c_2, if_pos c_4, if_neg c_56, if_neg c_59]
          have eg_11 : gx_X1_act_11 a1 a2 a3 a8 a9 a11 p0 p1 = a11 := by unfold gx_X1_act_11; rw [if_neg c_1, if_pos c_2, if_pos c_4, if_neg c_56]
          have ef : fx_X1_act a1 a2 a3 a8 a9 a11 p0 p1 = fx_X1_byOutcome a1 p0 p1 := by unfold fx_X1_act; rw [if_neg c_1, if_pos c_2, if_pos c_4, if_neg c_56]
          exact W.iret (v := fx_X1_byOutcome a1 p0 p1) hx hb hr (fun t ht hW => ⟨⟨(fx_X1_byOutcome a1 p0 p1), [(h0, .inr (1, [.int 0, .int a1, .int a2, .int (fx_X1_moved (fx_X1_byOutcome a1 p0 p1)), .int (gx_X1_told_4 (fx_X1_byOutcome a1 p0 p1)), .int (gx_X1_told_5 p0), .int (gx_X1_told_6 a6 (fx_X1_byOutcome a1 p0 p1)), .int (gx_X1_told_7 a7 (fx_X1_byOutcome a1 p0 p1)), .int a8, .int 0, .int a10, .int a11, .ref h1]))], rfl, ⟨ef.symm, by rw [eg_0, eg_3, eg_4, eg_5, eg_6, eg_7, eg_8, eg_9, eg_11]⟩, by rw [ht]; exact hP9, va_K.moved hW.alike hK9, hD9⟩, hS.F ht⟩) hS.2.2 dX1_act_196
        refine lv_aload_n hx hb dX1_act_168 rfl (lv_at hl 3 rfl) ?_
        refine va_get (D := (dC, dI)) (ci := 1) (v := .int a3) (C := RX1) (T := TX1) (N := 13) hx hb hts (fun _ h => List.mem_cons_of_mem _ (List.mem_append_right _ h)) hown hK hP 0 rfl rfl 3 (by decide) (hts (.fieldLink RX1 50 "FileStatusModel" "position" "I") (by decide +kernel)) (fun _ h9 => h9) rfl dX1_act_169 ?_
        refine lv_goto (tgt := 177) hx hb dX1_act_172 (by decide) ?_
        refine va_put (D := (dC, dI)) (ci := 1) (v := .int a3) (ty := .int) (C := RX1) (T := TX1) (N := 13) hx hb hts (fun _ h => List.mem_cons_of_mem _ (List.mem_append_right _ h)) tyX1 tyX1_ok nmX1 hown hK hP hD hS 0 rfl rfl 3 (by decide) (hts (.fieldLink RX1 50 "FileStatusModel" "position" "I") (by decide +kernel)) (fun _ h9 => h9) rfl (by decide +kernel) rfl rfl (Nat.le_of_ble_eq_true rfl) dX1_act_177 (fun H locs hP hD hS => ?_)
        have hP : va_P (dC, dI) vwCl [(h0, .inr (1, [.int 0, .int a1, .int a2, .int a3, .int (gx_X1_told_4 (fx_X1_byOutcome a1 p0 p1)), .int (gx_X1_told_5 p0), .int (gx_X1_told_6 a6 (fx_X1_byOutcome a1 p0 p1)), .int (gx_X1_told_7 a7 (fx_X1_byOutcome a1 p0 p1)), .int a8, .int 0, .int a10, .int a11, .ref h1]))] H := hP
        have hD : va_D A [(h0, .inr (1, [.int 0, .int a1, .int a2, .int a3, .int (gx_X1_told_4 (fx_X1_byOutcome a1 p0 p1)), .int (gx_X1_told_5 p0), .int (gx_X1_told_6 a6 (fx_X1_byOutcome a1 p0 p1)), .int (gx_X1_told_7 a7 (fx_X1_byOutcome a1 p0 p1)), .int a8, .int 0, .int a10, .int a11, .ref h1]))] := hD
        refine lv_iload_n hx hb dX1_act_180 rfl (lv_at hl 4 rfl) ?_
        refine lv_bipush (v := 6) hx hb dX1_act_181 (by decide) ?_
        refine lv_icmp_ne (tgt := 195) hx hb dX1_act_183 (by decide) (fun c9 => ?_) (fun c9 => absurd (c_60.symm.trans c9) (by decide))
        refine lv_iload_n hx hb dX1_act_195 rfl (lv_at hl 2 rfl) ?_
        have hP9 := hP.sub (ws' := [(h0, .inr (1, [.int 0, .int a1, .int a2, .int a3, .int (gx_X1_told_4 (fx_X1_byOutcome a1 p0 p1)), .int (gx_X1_told_5 p0), .int (gx_X1_told_6 a6 (fx_X1_byOutcome a1 p0 p1)), .int (gx_X1_told_7 a7 (fx_X1_byOutcome a1 p0 p1)), .int a8, .int 0, .int a10, .int a11, .ref h1]))]) [0] rfl
        have hD9 := hD.sub (ws' := [(h0, .inr (1, [.int 0, .int a1, .int a2, .int a3, .int (gx_X1_told_4 (fx_X1_byOutcome a1 p0 p1)), .int (gx_X1_told_5 p0), .int (gx_X1_told_6 a6 (fx_X1_byOutcome a1 p0 p1)), .int (gx_X1_told_7 a7 (fx_X1_byOutcome a1 p0 p1)), .int a8, .int 0, .int a10, .int a11, .ref h1]))]) [0] (by decide) rfl
        have hK9 := hK.sub (tys' := []) [] rfl
        have eg_0 : gx_X1_act_0 = 0 := by rfl
        have eg_3 : gx_X1_act_3 a1 a2 a3 a8 a9 a11 p0 p1 = a3 := by unfold gx_X1_act_3; rw [if_neg c_1, if_pos c_2, if_pos c_4, if_neg c_56, if_neg c_59, if_pos c_60, if_neg c_64, if_pos c_65]
        have eg_4 : gx_X1_act_4 a1 a2 a3 a4 a8 a9 a11 p0 p1 = gx_X1_told_4 (fx_X1_byOutcome a1 p0 p1) := by unfold gx_X1_act_4; rw [if_neg c_1, if_pos c_2, if_pos c_4, if_neg c_56]
        have eg_5 : gx_X1_act_5 a5 p0 = gx_X1_told_5 p0 := by unfold gx_X1_act_5; rw [if_neg c_1, if_pos c_2]
        have eg_6 : gx_X1_act_6 a1 a2 a3 a6 a8 a9 a11 p0 p1 = gx_X1_told_6 a6 (fx_X1_byOutcome a1 p0 p1) := by unfold gx_X1_act_6; rw [if_neg c_1, if_pos c_2, if_pos c_4, if_neg c_56]
        have eg_7 : gx_X1_act_7 a1 a2 a3 a7 a8 a9 a11 p0 p1 = gx_X1_told_7 a7 (fx_X1_byOutcome a1 p0 p1) := by unfold gx_X1_act_7; rw [if_neg c_1, if_pos c_2, if_pos c_4, if_neg c_56]
        have eg_8 : gx_X1_act_8 a1 a2 a3 a8 a9 p0 p1 = a8 := by unfold gx_X1_act_8; rw [if_neg c_1, if_pos c_2, if_pos c_4, if_neg c_56, if_neg c_59, if_pos c_60]
        have eg_9 : gx_X1_act_9 a1 a2 a3 a8 a9 a11 p0 p1 = 0 := by unfold gx_X1_act_9; rw [if_neg c_1, if_pos c_2, if_pos c_4, if_neg c_56, if_neg c_59]
        have eg_11 : gx_X1_act_11 a1 a2 a3 a8 a9 a11 p0 p1 = a11 := by unfold gx_X1_act_11; rw [if_neg c_1, if_pos c_2, if_pos c_4, if_neg c_56]
        have ef : fx_X1_act a1 a2 a3 a8 a9 a11 p0 p1 = fx_X1_byOutcome a1 p0 p1 := by unfold fx_X1_act; rw [if_neg c_1, if_pos c_2, if_pos c_4, if_neg c_56]
        exact W.iret (v := fx_X1_byOutcome a1 p0 p1) hx hb hr (fun t ht hW => ⟨⟨(fx_X1_byOutcome a1 p0 p1), [(h0, .inr (1, [.int 0, .int a1, .int a2, .int a3, .int (gx_X1_told_4 (fx_X1_byOutcome a1 p0 p1)), .int (gx_X1_told_5 p0), .int (gx_X1_told_6 a6 (fx_X1_byOutcome a1 p0 p1)), .int (gx_X1_told_7 a7 (fx_X1_byOutcome a1 p0 p1)), .int a8, .int 0, .int a10, .int a11, .ref h1]))], rfl, ⟨ef.symm, by rw [eg_0, eg_3, eg_4, eg_5, eg_6, eg_7, eg_8, eg_9, eg_11]⟩, by rw [ht]; exact hP9, va_K.moved hW.alike hK9, hD9⟩, hS.F ht⟩) hS.2.2 dX1_act_196
      refine lv_iload_n hx hb dX1_act_68 rfl (lv_at hl 0 rfl) ?_
      refine lv_if_eq (tgt := 82) hx hb dX1_act_69 (by decide) (fun c_66 => ?_) (fun c_66 => ?_)
      · refine lv_iconst (v := 1) hx hb dX1_act_82 (by decide) ?_
        refine lv_goto (tgt := 87) hx hb dX1_act_83 (by decide) ?_
        refine va_put (D := (dC, dI)) (ci := 1) (v := .int 1) (ty := .boolean) (C := RX1) (T := TX1) (N := 13) hx hb hts (fun _ h => List.mem_cons_of_mem _ (List.mem_append_right _ h)) tyX1 tyX1_ok nmX1 hown hK hP hD hS 0 rfl rfl 9 (by decide) (hts (.fieldLink RX1 47 "FileStatusModel" "permit" "Z") (by decide +kernel)) (fun _ h9 => h9) rfl (by decide +kernel) rfl rfl (Nat.le_of_ble_eq_true rfl) dX1_act_87 (fun H locs hP hD hS => ?_)
        have hP : va_P (dC, dI) vwCl [(h0, .inr (1, [.int 0, .int a1, .int a2, .int a3, .int (gx_X1_told_4 (fx_X1_byOutcome a1 p0 p1)), .int (gx_X1_told_5 p0), .int (gx_X1_told_6 a6 (fx_X1_byOutcome a1 p0 p1)), .int (gx_X1_told_7 a7 (fx_X1_byOutcome a1 p0 p1)), .int a8, .int 1, .int a10, .int a11, .ref h1]))] H := hP
        have hD : va_D A [(h0, .inr (1, [.int 0, .int a1, .int a2, .int a3, .int (gx_X1_told_4 (fx_X1_byOutcome a1 p0 p1)), .int (gx_X1_told_5 p0), .int (gx_X1_told_6 a6 (fx_X1_byOutcome a1 p0 p1)), .int (gx_X1_told_7 a7 (fx_X1_byOutcome a1 p0 p1)), .int a8, .int 1, .int a10, .int a11, .ref h1]))] := hD
        refine lv_iload_n hx hb dX1_act_90 rfl (lv_at hl 2 rfl) ?_
        refine lv_if_ne (tgt := 119) hx hb dX1_act_91 (by decide) (fun c9 => ?_) (fun c9 => absurd c9 c_56)
        refine lv_iload_n hx hb dX1_act_119 rfl (lv_at hl 2 rfl) ?_
        refine lv_if_eq (tgt := 133) hx hb dX1_act_120 (by decide) (fun c9 => absurd c9 c_56) (fun c9 => ?_)
        refine lv_iload_n hx hb dX1_act_123 rfl (lv_at hl 2 rfl) ?_
        refine lv_iconst (v := 1) hx hb dX1_act_124 (by decide) ?_
        refine lv_icmp_eq (tgt := 133) hx hb dX1_act_125 (by decide) (fun c9 => ?_) (fun c9 => absurd c_59 c9)
        refine lv_iconst (v := 1) hx hb dX1_act_133 (by decide) ?_
        refine lv_goto (tgt := 138) hx hb dX1_act_134 (by decide) ?_
        refine lv_istore (lv' := [(4, .int 1), (3, .int (fx_X1_byOutcome a1 p0 p1)), (0, .ref h0), (1, .int p0), (2, .int p1)]) hx hb dX1_act_138 hl (by decide) rfl (fun ls hl => ?_)
        refine lv_iload hx hb dX1_act_140 (lv_at hl 0 rfl) ?_
        refine lv_if_eq (tgt := 152) hx hb dX1_act_142 (by decide) (fun c9 => absurd c9 (by decide)) (fun c9 => ?_)
        refine lv_iload_n hx hb dX1_act_145 rfl (lv_at hl 1 rfl) ?_
        have hPc := hP.sub (ws' := []) [] rfl
        have hDc := hD.sub (ws' := []) [] (by decide) rfl
        have hKc := hK.sub (tys' := []) [] rfl
        have hFc := va_free (wc := []) hD hS hA [] rfl
        refine va_calli (va_runS (As := [.int (fx_X1_byOutcome a1 p0 p1)]) (rest := []) ⟨hx, hb, hml, hown, hts⟩ (ct_X1_moved l dC dI H.size (fx_X1_byOutcome a1 p0 p1)) (va_cwS 1 hts gX1_act_X1_moved rfl rfl rfl (by decide +kernel) ⟨Nat.le_of_ble_eq_true rfl, Nat.le_of_ble_eq_true rfl⟩) ⟨fun a U g mk q => by obtain ⟨q0, q1, qP, qK, qD⟩ := q; exact ⟨q0, q1, qP, va_K.moved (u := U) (U := U.calling g mk a) (Vm.Alike.refl U.vm) qK, qD⟩, fun U hU hW => ⟨rfl, by rw [hU], by rw [hU]; exact hPc, va_K.moved hW.alike hKc, hDc.weaken (fun _ _ _ _ => trivial)⟩⟩ rfl rfl hl.1 rfl (lv_room (Nat.le_of_ble_eq_true rfl)) dX1_act_146 ⟨(Nat.zero_le _), (Nat.zero_le _)⟩) hS (fun q _ h => hFc q h) hFc (fun r_67 u t H1 locs ht hvm hw hB hz1 hk1 hS => ?_)
        obtain ⟨er, hu⟩ := hw
        subst hu
        subst er
        obtain ⟨hP1, -, hD1⟩ := hB
        rw [ht] at hP1
        obtain ⟨hP, hD⟩ := va_join (wr := [(h0, .inr (1, [.int 0, .int a1, .int a2, .int a3, .int (gx_X1_told_4 (fx_X1_byOutcome a1 p0 p1)), .int (gx_X1_told_5 p0), .int (gx_X1_told_6 a6 (fx_X1_byOutcome a1 p0 p1)), .int (gx_X1_told_7 a7 (fx_X1_byOutcome a1 p0 p1)), .int a8, .int 1, .int a10, .int a11, .ref h1]))]) (w1 := []) hP hD [] [0] rfl rfl (by decide) (by decide) hk1 hFc hP1 hD1
        generalize H1 = H at hP hS ⊢
        have hP : va_P (dC, dI) vwCl [(h0, .inr (1, [.int 0, .int a1, .int a2, .int a3, .int (gx_X1_told_4 (fx_X1_byOutcome a1 p0 p1)), .int (gx_X1_told_5 p0), .int (gx_X1_told_6 a6 (fx_X1_byOutcome a1 p0 p1)), .int (gx_X1_told_7 a7 (fx_X1_byOutcome a1 p0 p1)), .int a8, .int 1, .int a10, .int a11, .ref h1]))] H := hP
        have hD : va_D A [(h0, .inr (1, [.int 0, .int a1, .int a2, .int a3, .int (gx_X1_told_4 (fx_X1_byOutcome a1 p0 p1)), .int (gx_X1_told_5 p0), .int (gx_X1_told_6 a6 (fx_X1_byOutcome a1 p0 p1)), .int (gx_X1_told_7 a7 (fx_X1_byOutcome a1 p0 p1)), .int a8, .int 1, .int a10, .int a11, .ref h1]))] := hD
        refine lv_goto (tgt := 153) hx hb dX1_act_149 (by decide) ?_
        refine lv_istore (lv' := [(5, .int (fx_X1_moved (fx_X1_byOutcome a1 p0 p1))), (4, .int 1), (3, .int (fx_X1_byOutcome a1 p0 p1)), (0, .ref h0), (1, .int p0), (2, .int p1)]) hx hb dX1_act_153 hl (by decide) rfl (fun ls hl => ?_)
        refine lv_aload_n hx hb dX1_act_155 rfl (lv_at hl 3 rfl) ?_
        refine lv_iload hx hb dX1_act_156 (lv_at hl 0 rfl) ?_
        refine lv_if_eq (tgt := 168) hx hb dX1_act_158 (by decide) (fun c_68 => ?_) (fun c_68 => ?_)
        · refine lv_aload_n hx hb dX1_act_168 rfl (lv_at hl 3 rfl) ?_
          refine va_get (D := (dC, dI)) (ci := 1) (v := .int a3) (C := RX1) (T := TX1) (N := 13) hx hb hts (fun _ h => List.mem_cons_of_mem _ (List.mem_append_right _ h)) hown hK hP 0 rfl rfl 3 (by decide) (hts (.fieldLink RX1 50 "FileStatusModel" "position" "I") (by decide +kernel)) (fun _ h9 => h9) rfl dX1_act_169 ?_
          refine lv_goto (tgt := 177) hx hb dX1_act_172 (by decide) ?_
          refine va_put (D := (dC, dI)) (ci := 1) (v := .int a3) (ty := .int) (C := RX1) (T := TX1) (N := 13) hx hb hts (fun _ h => List.mem_cons_of_mem _ (List.mem_append_right _ h)) tyX1 tyX1_ok nmX1 hown hK hP hD hS 0 rfl rfl 3 (by decide) (hts (.fieldLink RX1 50 "FileStatusModel" "position" "I") (by decide +kernel)) (fun _ h9 => h9) rfl (by decide +kernel) rfl rfl (Nat.le_of_ble_eq_true rfl) dX1_act_177 (fun H locs hP hD hS => ?_)
          have hP : va_P (dC, dI) vwCl [(h0, .inr (1, [.int 0, .int a1, .int a2, .int a3, .int (gx_X1_told_4 (fx_X1_byOutcome a1 p0 p1)), .int (gx_X1_told_5 p0), .int (gx_X1_told_6 a6 (fx_X1_byOutcome a1 p0 p1)), .int (gx_X1_told_7 a7 (fx_X1_byOutcome a1 p0 p1)), .int a8, .int 1, .int a10, .int a11, .ref h1]))] H := hP
          have hD : va_D A [(h0, .inr (1, [.int 0, .int a1, .int a2, .int a3, .int (gx_X1_told_4 (fx_X1_byOutcome a1 p0 p1)), .int (gx_X1_told_5 p0), .int (gx_X1_told_6 a6 (fx_X1_byOutcome a1 p0 p1)), .int (gx_X1_told_7 a7 (fx_X1_byOutcome a1 p0 p1)), .int a8, .int 1, .int a10, .int a11, .ref h1]))] := hD
          refine lv_iload_n hx hb dX1_act_180 rfl (lv_at hl 4 rfl) ?_
          refine lv_bipush (v := 6) hx hb dX1_act_181 (by decide) ?_
          refine lv_icmp_ne (tgt := 195) hx hb dX1_act_183 (by decide) (fun c9 => ?_) (fun c9 => absurd (c_59.symm.trans c9) (by decide))
          refine lv_iload_n hx hb dX1_act_195 rfl (lv_at hl 2 rfl) ?_
          have hP9 := hP.sub (ws' := [(h0, .inr (1, [.int 0, .int a1, .int a2, .int a3, .int (gx_X1_told_4 (fx_X1_byOutcome a1 p0 p1)), .int (gx_X1_told_5 p0), .int (gx_X1_told_6 a6 (fx_X1_byOutcome a1 p0 p1)), .int (gx_X1_told_7 a7 (fx_X1_byOutcome a1 p0 p1)), .int a8, .int 1, .int a10, .int a11, .ref h1]))]) [0] rfl
          have hD9 := hD.sub (ws' := [(h0, .inr (1, [.int 0, .int a1, .int a2, .int a3, .int (gx_X1_told_4 (fx_X1_byOutcome a1 p0 p1)), .int (gx_X1_told_5 p0), .int (gx_X1_told_6 a6 (fx_X1_byOutcome a1 p0 p1)), .int (gx_X1_told_7 a7 (fx_X1_byOutcome a1 p0 p1)), .int a8, .int 1, .int a10, .int a11, .ref h1]))]) [0] (by decide) rfl
          have hK9 := hK.sub (tys' := []) [] rfl
          have eg_0 : gx_X1_act_0 = 0 := by rfl
          have eg_3 : gx_X1_act_3 a1 a2 a3 a8 a9 a11 p0 p1 = a3 := by unfold gx_X1_act_3; rw [if_neg c_1, if_pos c_2, if_pos c_4, if_neg c_56, if_pos c_59, if_pos c_68]
          have eg_4 : gx_X1_act_4 a1 a2 a3 a4 a8 a9 a11 p0 p1 = gx_X1_told_4 (fx_X1_byOutcome a1 p0 p1) := by unfold gx_X1_act_4; rw [if_neg c_1, if_pos c_2, if_pos c_4, if_neg c_56]
          have eg_5 : gx_X1_act_5 a5 p0 = gx_X1_told_5 p0 := by unfold gx_X1_act_5; rw [if_neg c_1, if_pos c_2]
          have eg_6 : gx_X1_act_6 a1 a2 a3 a6 a8 a9 a11 p0 p1 = gx_X1_told_6 a6 (fx_X1_byOutcome a1 p0 p1) := by unfold gx_X1_act_6; rw [if_neg c_1, if_pos c_2, if_pos c_4, if_neg c_56]
          have eg_7 : gx_X1_act_7 a1 a2 a3 a7 a8 a9 a11 p0 p1 = gx_X1_told_7 a7 (fx_X1_byOutcome a1 p0 p1) := by unfold gx_X1_act_7; rw [if_neg c_1, if_pos c_2, if_pos c_4, if_neg c_56]
          have eg_8 : gx_X1_act_8 a1 a2 a3 a8 a9 p0 p1 = a8 := by unfold gx_X1_act_8; rw [if_neg c_1, if_pos c_2, if_pos c_4, if_neg c_56, if_pos c_59]
          have eg_9 : gx_X1_act_9 a1 a2 a3 a8 a9 a11 p0 p1 = 1 := by unfold gx_X1_act_9; rw [if_neg c_1, if_pos c_2, if_pos c_4, if_neg c_56, if_pos c_59, if_pos c_66]
          have eg_11 : gx_X1_act_11 a1 a2 a3 a8 a9 a11 p0 p1 = a11 := by unfold gx_X1_act_11; rw [if_neg c_1, if_pos c_2, if_pos c_4, if_neg c_56]
          have ef : fx_X1_act a1 a2 a3 a8 a9 a11 p0 p1 = fx_X1_byOutcome a1 p0 p1 := by unfold fx_X1_act; rw [if_neg c_1, if_pos c_2, if_pos c_4, if_neg c_56]
          exact W.iret (v := fx_X1_byOutcome a1 p0 p1) hx hb hr (fun t ht hW => ⟨⟨(fx_X1_byOutcome a1 p0 p1), [(h0, .inr (1, [.int 0, .int a1, .int a2, .int a3, .int (gx_X1_told_4 (fx_X1_byOutcome a1 p0 p1)), .int (gx_X1_told_5 p0), .int (gx_X1_told_6 a6 (fx_X1_byOutcome a1 p0 p1)), .int (gx_X1_told_7 a7 (fx_X1_byOutcome a1 p0 p1)), .int a8, .int 1, .int a10, .int a11, .ref h1]))], rfl, ⟨ef.symm, by rw [eg_0, eg_3, eg_4, eg_5, eg_6, eg_7, eg_8, eg_9, eg_11]⟩, by rw [ht]; exact hP9, va_K.moved hW.alike hK9, hD9⟩, hS.F ht⟩) hS.2.2 dX1_act_196
        refine lv_aload_n hx hb dX1_act_161 rfl (lv_at hl 3 rfl) ?_
        refine va_get (D := (dC, dI)) (ci := 1) (v := .int a8) (C := RX1) (T := TX1) (N := 13) hx hb hts (fun _ h => List.mem_cons_of_mem _ (List.mem_append_right _ h)) hown hK hP 0 rfl rfl 8 (by decide) (hts (.fieldLink RX1 23 "FileStatusModel" "isOpen" "Z") (by decide +kernel)) (fun _ h9 => h9) rfl dX1_act_162 ?_
        refine lv_if_ne (tgt := 175) hx hb dX1_act_165 (by decide) (fun c_69 => ?_) (fun c_69 => ?_)
        · refine lv_iload hx hb dX1_act_175 (lv_at hl 0 rfl) ?_
          refine va_put (D := (dC, dI)) (ci := 1) (v := .int (fx_X1_moved (fx_X1_byOutcome a1 p0 p1))) (ty := .int) (C := RX1) (T := TX1) (N := 13) hx hb hts (fun _ h => List.mem_cons_of_mem _ (List.mem_append_right _ h)) tyX1 tyX1_ok nmX1 hown hK hP hD hS 0 rfl rfl 3 (by decide) (hts (.fieldLink RX1 50 "FileStatusModel" "position" "I") (by decide +kernel)) (fun _ h9 => h9) rfl (by decide +kernel) rfl rfl (Nat.le_of_ble_eq_true rfl) dX1_act_177 (fun H locs hP hD hS => ?_)
          have hP : va_P (dC, dI) vwCl [(h0, .inr (1, [.int 0, .int a1, .int a2, .int (fx_X1_moved (fx_X1_byOutcome a1 p0 p1)), .int (gx_X1_told_4 (fx_X1_byOutcome a1 p0 p1)), .int (gx_X1_told_5 p0), .int (gx_X1_told_6 a6 (fx_X1_byOutcome a1 p0 p1)), .int (gx_X1_told_7 a7 (fx_X1_byOutcome a1 p0 p1)), .int a8, .int 1, .int a10, .int a11, .ref h1]))] H := hP
          have hD : va_D A [(h0, .inr (1, [.int 0, .int a1, .int a2, .int (fx_X1_moved (fx_X1_byOutcome a1 p0 p1)), .int (gx_X1_told_4 (fx_X1_byOutcome a1 p0 p1)), .int (gx_X1_told_5 p0), .int (gx_X1_told_6 a6 (fx_X1_byOutcome a1 p0 p1)), .int (gx_X1_told_7 a7 (fx_X1_byOutcome a1 p0 p1)), .int a8, .int 1, .int a10, .int a11, .ref h1]))] := hD
          refine lv_iload_n hx hb dX1_act_180 rfl (lv_at hl 4 rfl) ?_
          refine lv_bipush (v := 6) hx hb dX1_act_181 (by decide) ?_
          refine lv_icmp_ne (tgt := 195) hx hb dX1_act_183 (by decide) (fun c9 => ?_) (fun c9 => absurd (c_59.symm.trans c9) (by decide))
          refine lv_iload_n hx hb dX1_act_195 rfl (lv_at hl 2 rfl) ?_
          have hP9 := hP.sub (ws' := [(h0, .inr (1, [.int 0, .int a1, .int a2, .int (fx_X1_moved (fx_X1_byOutcome a1 p0 p1)), .int (gx_X1_told_4 (fx_X1_byOutcome a1 p0 p1)), .int (gx_X1_told_5 p0), .int (gx_X1_told_6 a6 (fx_X1_byOutcome a1 p0 p1)), .int (gx_X1_told_7 a7 (fx_X1_byOutcome a1 p0 p1)), .int a8, .int 1, .int a10, .int a11, .ref h1]))]) [0] rfl
          have hD9 := hD.sub (ws' := [(h0, .inr (1, [.int 0, .int a1, .int a2, .int (fx_X1_moved (fx_X1_byOutcome a1 p0 p1)), .int (gx_X1_told_4 (fx_X1_byOutcome a1 p0 p1)), .int (gx_X1_told_5 p0), .int (gx_X1_told_6 a6 (fx_X1_byOutcome a1 p0 p1)), .int (gx_X1_told_7 a7 (fx_X1_byOutcome a1 p0 p1)), .int a8, .int 1, .int a10, .int a11, .ref h1]))]) [0] (by decide) rfl
          have hK9 := hK.sub (tys' := []) [] rfl
          have eg_0 : gx_X1_act_0 = 0 := by rfl
          have eg_3 : gx_X1_act_3 a1 a2 a3 a8 a9 a11 p0 p1 = fx_X1_moved (fx_X1_byOutcome a1 p0 p1) := by unfold gx_X1_act_3; rw [if_neg c_1, if_pos c_2, if_pos c_4, if_neg c_56, if_pos c_59, if_neg c_68, if_neg c_69]
          have eg_4 : gx_X1_act_4 a1 a2 a3 a4 a8 a9 a11 p0 p1 = gx_X1_told_4 (fx_X1_byOutcome a1 p0 p1) := by unfold gx_X1_act_4; rw [if_neg c_1, if_pos c_2, if_pos c_4, if_neg c_56]
          have eg_5 : gx_X1_act_5 a5 p0 = gx_X1_told_5 p0 := by unfold gx_X1_act_5; rw [if_neg c_1, if_pos c_2]
          have eg_6 : gx_X1_act_6 a1 a2 a3 a6 a8 a9 a11 p0 p1 = gx_X1_told_6 a6 (fx_X1_byOutcome a1 p0 p1) := by unfold gx_X1_act_6; rw [if_neg c_1, if_pos c_2, if_pos c_4, if_neg c_56]
          have eg_7 : gx_X1_act_7 a1 a2 a3 a7 a8 a9 a11 p0 p1 = gx_X1_told_7 a7 (fx_X1_byOutcome a1 p0 p1) := by unfold gx_X1_act_7; rw [if_neg c_1, if_pos c_2, if_pos c_4, if_neg c_56]
          have eg_8 : gx_X1_act_8 a1 a2 a3 a8 a9 p0 p1 = a8 := by unfold gx_X1_act_8; rw [if_neg c_1, if_pos c_2, if_pos c_4, if_neg c_56, if_pos c_59]
          have eg_9 : gx_X1_act_9 a1 a2 a3 a8 a9 a11 p0 p1 = 1 := by unfold gx_X1_act_9; rw [if_neg c_1, if_pos c_2, if_pos c_4, if_neg c_56, if_pos c_59, if_pos c_66]
          have eg_11 : gx_X1_act_11 a1 a2 a3 a8 a9 a11 p0 p1 = a11 := by unfold gx_X1_act_11; rw [if_neg c_1, if_pos c_2, if_pos c_4, if_neg c_56]
          have ef : fx_X1_act a1 a2 a3 a8 a9 a11 p0 p1 = fx_X1_byOutcome a1 p0 p1 := by unfold fx_X1_act; rw [if_neg c_1, if_pos c_2, if_pos c_4, if_neg c_56]
          exact W.iret (v := fx_X1_byOutcome a1 p0 p1) hx hb hr (fun t ht hW => ⟨⟨(fx_X1_byOutcome a1 p0 p1), [(h0, .inr (1, [.int 0, .int a1, .int a2, .int (fx_X1_moved (fx_X1_byOutcome a1 p0 p1)), .int (gx_X1_told_4 (fx_X1_byOutcome a1 p0 p1)), .int (gx_X1_told_5 p0), .int (gx_X1_told_6 a6 (fx_X1_byOutcome a1 p0 p1)), .int (gx_X1_told_7 a7 (fx_X1_byOutcome a1 p0 p1)), .int a8, .int 1, .int a10, .int a11, .ref h1]))], rfl, ⟨ef.symm, by rw [eg_0, eg_3, eg_4, eg_5, eg_6, eg_7, eg_8, eg_9, eg_11]⟩, by rw [ht]; exact hP9, va_K.moved hW.alike hK9, hD9⟩, hS.F ht⟩) hS.2.2 dX1_act_196
        refine lv_aload_n hx hb dX1_act_168 rfl (lv_at hl 3 rfl) ?_
        refine va_get (D := (dC, dI)) (ci := 1) (v := .int a3) (C := RX1) (T := TX1) (N := 13) hx hb hts (fun _ h => List.mem_cons_of_mem _ (List.mem_append_right _ h)) hown hK hP 0 rfl rfl 3 (by decide) (hts (.fieldLink RX1 50 "FileStatusModel" "position" "I") (by decide +kernel)) (fun _ h9 => h9) rfl dX1_act_169 ?_
        refine lv_goto (tgt := 177) hx hb dX1_act_172 (by decide) ?_
        refine va_put (D := (dC, dI)) (ci := 1) (v := .int a3) (ty := .int) (C := RX1) (T := TX1) (N := 13) hx hb hts (fun _ h => List.mem_cons_of_mem _ (List.mem_append_right _ h)) tyX1 tyX1_ok nmX1 hown hK hP hD hS 0 rfl rfl 3 (by decide) (hts (.fieldLink RX1 50 "FileStatusModel" "position" "I") (by decide +kernel)) (fun _ h9 => h9) rfl (by decide +kernel) rfl rfl (Nat.le_of_ble_eq_true rfl) dX1_act_177 (fun H locs hP hD hS => ?_)
        have hP : va_P (dC, dI) vwCl [(h0, .inr (1, [.int 0, .int a1, .int a2, .int a3, .int (gx_X1_told_4 (fx_X1_byOutcome a1 p0 p1)), .int (gx_X1_told_5 p0), .int (gx_X1_told_6 a6 (fx_X1_byOutcome a1 p0 p1)), .int (gx_X1_told_7 a7 (fx_X1_byOutcome a1 p0 p1)), .int a8, .int 1, .int a10, .int a11, .ref h1]))] H := hP
        have hD : va_D A [(h0, .inr (1, [.int 0, .int a1, .int a2, .int a3, .int (gx_X1_told_4 (fx_X1_byOutcome a1 p0 p1)), .int (gx_X1_told_5 p0), .int (gx_X1_told_6 a6 (fx_X1_byOutcome a1 p0 p1)), .int (gx_X1_told_7 a7 (fx_X1_byOutcome a1 p0 p1)), .int a8, .int 1, .int a10, .int a11, .ref h1]))] := hD
        refine lv_iload_n hx hb dX1_act_180 rfl (lv_at hl 4 rfl) ?_
        refine lv_bipush (v := 6) hx hb dX1_act_181 (by decide) ?_
        refine lv_icmp_ne (tgt := 195) hx hb dX1_act_183 (by decide) (fun c9 => ?_) (fun c9 => absurd (c_59.symm.trans c9) (by decide))
        refine lv_iload_n hx hb dX1_act_195 rfl (lv_at hl 2 rfl) ?_
        have hP9 := hP.sub (ws' := [(h0, .inr (1, [.int 0, .int a1, .int a2, .int a3, .int (gx_X1_told_4 (fx_X1_byOutcome a1 p0 p1)), .int (gx_X1_told_5 p0), .int (gx_X1_told_6 a6 (fx_X1_byOutcome a1 p0 p1)), .int (gx_X1_told_7 a7 (fx_X1_byOutcome a1 p0 p1)), .int a8, .int 1, .int a10, .int a11, .ref h1]))]) [0] rfl
        have hD9 := hD.sub (ws' := [(h0, .inr (1, [.int 0, .int a1, .int a2, .int a3, .int (gx_X1_told_4 (fx_X1_byOutcome a1 p0 p1)), .int (gx_X1_told_5 p0), .int (gx_X1_told_6 a6 (fx_X1_byOutcome a1 p0 p1)), .int (gx_X1_told_7 a7 (fx_X1_byOutcome a1 p0 p1)), .int a8, .int 1, .int a10, .int a11, .ref h1]))]) [0] (by decide) rfl
        have hK9 := hK.sub (tys' := []) [] rfl
        have eg_0 : gx_X1_act_0 = 0 := by rfl
        have eg_3 : gx_X1_act_3 a1 a2 a3 a8 a9 a11 p0 p1 = a3 := by unfold gx_X1_act_3; rw [if_neg c_1, if_pos c_2, if_pos c_4, if_neg c_56, if_pos c_59, if_neg c_68, if_pos c_69]
        have eg_4 : gx_X1_act_4 a1 a2 a3 a4 a8 a9 a11 p0 p1 = gx_X1_told_4 (fx_X1_byOutcome a1 p0 p1) := by unfold gx_X1_act_4; rw [if_neg c_1, if_pos c_2, if_pos c_4, if_neg c_56]
        have eg_5 : gx_X1_act_5 a5 p0 = gx_X1_told_5 p0 := by unfold gx_X1_act_5; rw [if_neg c_1, if_pos c_2]
        have eg_6 : gx_X1_act_6 a1 a2 a3 a6 a8 a9 a11 p0 p1 = gx_X1_told_6 a6 (fx_X1_byOutcome a1 p0 p1) := by unfold gx_X1_act_6; rw [if_neg c_1, if_pos c_2, if_pos c_4, if_neg c_56]
        have eg_7 : gx_X1_act_7 a1 a2 a3 a7 a8 a9 a11 p0 p1 = gx_X1_told_7 a7 (fx_X1_byOutcome a1 p0 p1) := by unfold gx_X1_act_7; rw [if_neg c_1, if_pos c_2, if_pos c_4, if_neg c_56]
        have eg_8 : gx_X1_act_8 a1 a2 a3 a8 a9 p0 p1 = a8 := by unfold gx_X1_act_8; rw [if_neg c_1, if_pos c_2, if_pos c_4, if_neg c_56, if_pos c_59]
        have eg_9 : gx_X1_act_9 a1 a2 a3 a8 a9 a11 p0 p1 = 1 := by unfold gx_X1_act_9; rw [if_neg c_1, if_pos c_2, if_pos c_4, if_neg c_56, if_pos c_59, if_pos c_66]
        have eg_11 : gx_X1_act_11 a1 a2 a3 a8 a9 a11 p0 p1 = a11 := by unfold gx_X1_act_11; rw [if_neg c_1, if_pos c_2, if_pos c_4, if_neg c_56]
        have ef : fx_X1_act a1 a2 a3 a8 a9 a11 p0 p1 = fx_X1_byOutcome a1 p0 p1 := by unfold fx_X1_act; rw [if_neg c_1, if_pos c_2, if_pos c_4, if_neg c_56]
        exact W.iret (v := fx_X1_byOutcome a1 p0 p1) hx hb hr (fun t ht hW => ⟨⟨(fx_X1_byOutcome a1 p0 p1), [(h0, .inr (1, [.int 0, .int a1, .int a2, .int a3, .int (gx_X1_told_4 (fx_X1_byOutcome a1 p0 p1)), .int (gx_X1_told_5 p0), .int (gx_X1_told_6 a6 (fx_X1_byOutcome a1 p0 p1)), .int (gx_X1_told_7 a7 (fx_X1_byOutcome a1 p0 p1)), .int a8, .int 1, .int a10, .int a11, .ref h1]))], rfl, ⟨ef.symm, by rw [eg_0, eg_3, eg_4, eg_5, eg_6, eg_7, eg_8, eg_9, eg_11]⟩, by rw [ht]; exact hP9, va_K.moved hW.alike hK9, hD9⟩, hS.F ht⟩) hS.2.2 dX1_act_196
      refine lv_iload_n hx hb dX1_act_72 rfl (lv_at hl 0 rfl) ?_
      refine lv_iconst (v := 2) hx hb dX1_act_73 (by decide) ?_
      refine lv_icmp_eq (tgt := 82) hx hb dX1_act_74 (by decide) (fun c_70 => ?_) (fun c_70 => ?_)
      · refine lv_iconst (v := 1) hx hb dX1_act_82 (by decide) ?_
        refine lv_goto (tgt := 87) hx hb dX1_act_83 (by decide) ?_
        refine va_put (D := (dC, dI)) (ci := 1) (v := .int 1) (ty := .boolean) (C := RX1) (T := TX1) (N := 13) hx hb hts (fun _ h => List.mem_cons_of_mem _ (List.mem_append_right _ h)) tyX1 tyX1_ok nmX1 hown hK hP hD hS 0 rfl rfl 9 (by decide) (hts (.fieldLink RX1 47 "FileStatusModel" "permit" "Z") (by decide +kernel)) (fun _ h9 => h9) rfl (by decide +kernel) rfl rfl (Nat.le_of_ble_eq_true rfl) dX1_act_87 (fun H locs hP hD hS => ?_)
        have hP : va_P (dC, dI) vwCl [(h0, .inr (1, [.int 0, .int a1, .int a2, .int a3, .int (gx_X1_told_4 (fx_X1_byOutcome a1 p0 p1)), .int (gx_X1_told_5 p0), .int (gx_X1_told_6 a6 (fx_X1_byOutcome a1 p0 p1)), .int (gx_X1_told_7 a7 (fx_X1_byOutcome a1 p0 p1)), .int a8, .int 1, .int a10, .int a11, .ref h1]))] H := hP
        have hD : va_D A [(h0, .inr (1, [.int 0, .int a1, .int a2, .int a3, .int (gx_X1_told_4 (fx_X1_byOutcome a1 p0 p1)), .int (gx_X1_told_5 p0), .int (gx_X1_told_6 a6 (fx_X1_byOutcome a1 p0 p1)), .int (gx_X1_told_7 a7 (fx_X1_byOutcome a1 p0 p1)), .int a8, .int 1, .int a10, .int a11, .ref h1]))] := hD
        refine lv_iload_n hx hb dX1_act_90 rfl (lv_at hl 2 rfl) ?_
        refine lv_if_ne (tgt := 119) hx hb dX1_act_91 (by decide) (fun c9 => ?_) (fun c9 => absurd c9 c_56)
        refine lv_iload_n hx hb dX1_act_119 rfl (lv_at hl 2 rfl) ?_
        refine lv_if_eq (tgt := 133) hx hb dX1_act_120 (by decide) (fun c9 => absurd c9 c_56) (fun c9 => ?_)
        refine lv_iload_n hx hb dX1_act_123 rfl (lv_at hl 2 rfl) ?_
        refine lv_iconst (v := 1) hx hb dX1_act_124 (by decide) ?_
        refine lv_icmp_eq (tgt := 133) hx hb dX1_act_125 (by decide) (fun c9 => ?_) (fun c9 => absurd c_59 c9)
        refine lv_iconst (v := 1) hx hb dX1_act_133 (by decide) ?_
        refine lv_goto (tgt := 138) hx hb dX1_act_134 (by decide) ?_
        refine lv_istore (lv' := [(4, .int 1), (3, .int (fx_X1_byOutcome a1 p0 p1)), (0, .ref h0), (1, .int p0), (2, .int p1)]) hx hb dX1_act_138 hl (by decide) rfl (fun ls hl => ?_)
        refine lv_iload hx hb dX1_act_140 (lv_at hl 0 rfl) ?_
        refine lv_if_eq (tgt := 152) hx hb dX1_act_142 (by decide) (fun c9 => absurd c9 (by decide)) (fun c9 => ?_)
        refine lv_iload_n hx hb dX1_act_145 rfl (lv_at hl 1 rfl) ?_
        have hPc := hP.sub (ws' := []) [] rfl
        have hDc := hD.sub (ws' := []) [] (by decide) rfl
        have hKc := hK.sub (tys' := []) [] rfl
        have hFc := va_free (wc := []) hD hS hA [] rfl
        refine va_calli (va_runS (As := [.int (fx_X1_byOutcome a1 p0 p1)]) (rest := []) ⟨hx, hb, hml, hown, hts⟩ (ct_X1_moved l dC dI H.size (fx_X1_byOutcome a1 p0 p1)) (va_cwS 1 hts gX1_act_X1_moved rfl rfl rfl (by decide +kernel) ⟨Nat.le_of_ble_eq_true rfl, Nat.le_of_ble_eq_true rfl⟩) ⟨fun a U g mk q => by obtain ⟨q0, q1, qP, qK, qD⟩ := q; exact ⟨q0, q1, qP, va_K.moved (u := U) (U := U.calling g mk a) (Vm.Alike.refl U.vm) qK, qD⟩, fun U hU hW => ⟨rfl, by rw [hU], by rw [hU]; exact hPc, va_K.moved hW.alike hKc, hDc.weaken (fun _ _ _ _ => trivial)⟩⟩ rfl rfl hl.1 rfl (lv_room (Nat.le_of_ble_eq_true rfl)) dX1_act_146 ⟨(Nat.zero_le _), (Nat.zero_le _)⟩) hS (fun q _ h => hFc q h) hFc (fun r_71 u t H1 locs ht hvm hw hB hz1 hk1 hS => ?_)
        obtain ⟨er, hu⟩ := hw
        subst hu
        subst er
        obtain ⟨hP1, -, hD1⟩ := hB
        rw [ht] at hP1
        obtain ⟨hP, hD⟩ := va_join (wr := [(h0, .inr (1, [.int 0, .int a1, .int a2, .int a3, .int (gx_X1_told_4 (fx_X1_byOutcome a1 p0 p1)), .int (gx_X1_told_5 p0), .int (gx_X1_told_6 a6 (fx_X1_byOutcome a1 p0 p1)), .int (gx_X1_told_7 a7 (fx_X1_byOutcome a1 p0 p1)), .int a8, .int 1, .int a10, .int a11, .ref h1]))]) (w1 := []) hP hD [] [0] rfl rfl (by decide) (by decide) hk1 hFc hP1 hD1
        generalize H1 = H at hP hS ⊢
        have hP : va_P (dC, dI) vwCl [(h0, .inr (1, [.int 0, .int a1, .int a2, .int a3, .int (gx_X1_told_4 (fx_X1_byOutcome a1 p0 p1)), .int (gx_X1_told_5 p0), .int (gx_X1_told_6 a6 (fx_X1_byOutcome a1 p0 p1)), .int (gx_X1_told_7 a7 (fx_X1_byOutcome a1 p0 p1)), .int a8, .int 1, .int a10, .int a11, .ref h1]))] H := hP
        have hD : va_D A [(h0, .inr (1, [.int 0, .int a1, .int a2, .int a3, .int (gx_X1_told_4 (fx_X1_byOutcome a1 p0 p1)), .int (gx_X1_told_5 p0), .int (gx_X1_told_6 a6 (fx_X1_byOutcome a1 p0 p1)), .int (gx_X1_told_7 a7 (fx_X1_byOutcome a1 p0 p1)), .int a8, .int 1, .int a10, .int a11, .ref h1]))] := hD
        refine lv_goto (tgt := 153) hx hb dX1_act_149 (by decide) ?_
        refine lv_istore (lv' := [(5, .int (fx_X1_moved (fx_X1_byOutcome a1 p0 p1))), (4, .int 1), (3, .int (fx_X1_byOutcome a1 p0 p1)), (0, .ref h0), (1, .int p0), (2, .int p1)]) hx hb dX1_act_153 hl (by decide) rfl (fun ls hl => ?_)
        refine lv_aload_n hx hb dX1_act_155 rfl (lv_at hl 3 rfl) ?_
        refine lv_iload hx hb dX1_act_156 (lv_at hl 0 rfl) ?_
        refine lv_if_eq (tgt := 168) hx hb dX1_act_158 (by decide) (fun c_72 => ?_) (fun c_72 => ?_)
        · refine lv_aload_n hx hb dX1_act_168 rfl (lv_at hl 3 rfl) ?_
          refine va_get (D := (dC, dI)) (ci := 1) (v := .int a3) (C := RX1) (T := TX1) (N := 13) hx hb hts (fun _ h => List.mem_cons_of_mem _ (List.mem_append_right _ h)) hown hK hP 0 rfl rfl 3 (by decide) (hts (.fieldLink RX1 50 "FileStatusModel" "position" "I") (by decide +kernel)) (fun _ h9 => h9) rfl dX1_act_169 ?_
          refine lv_goto (tgt := 177) hx hb dX1_act_172 (by decide) ?_
          refine va_put (D := (dC, dI)) (ci := 1) (v := .int a3) (ty := .int) (C := RX1) (T := TX1) (N := 13) hx hb hts (fun _ h => List.mem_cons_of_mem _ (List.mem_append_right _ h)) tyX1 tyX1_ok nmX1 hown hK hP hD hS 0 rfl rfl 3 (by decide) (hts (.fieldLink RX1 50 "FileStatusModel" "position" "I") (by decide +kernel)) (fun _ h9 => h9) rfl (by decide +kernel) rfl rfl (Nat.le_of_ble_eq_true rfl) dX1_act_177 (fun H locs hP hD hS => ?_)
          have hP : va_P (dC, dI) vwCl [(h0, .inr (1, [.int 0, .int a1, .int a2, .int a3, .int (gx_X1_told_4 (fx_X1_byOutcome a1 p0 p1)), .int (gx_X1_told_5 p0), .int (gx_X1_told_6 a6 (fx_X1_byOutcome a1 p0 p1)), .int (gx_X1_told_7 a7 (fx_X1_byOutcome a1 p0 p1)), .int a8, .int 1, .int a10, .int a11, .ref h1]))] H := hP
          have hD : va_D A [(h0, .inr (1, [.int 0, .int a1, .int a2, .int a3, .int (gx_X1_told_4 (fx_X1_byOutcome a1 p0 p1)), .int (gx_X1_told_5 p0), .int (gx_X1_told_6 a6 (fx_X1_byOutcome a1 p0 p1)), .int (gx_X1_told_7 a7 (fx_X1_byOutcome a1 p0 p1)), .int a8, .int 1, .int a10, .int a11, .ref h1]))] := hD
          refine lv_iload_n hx hb dX1_act_180 rfl (lv_at hl 4 rfl) ?_
          refine lv_bipush (v := 6) hx hb dX1_act_181 (by decide) ?_
          refine lv_icmp_ne (tgt := 195) hx hb dX1_act_183 (by decide) (fun c9 => ?_) (fun c9 => absurd (c_59.symm.trans c9) (by decide))
          refine lv_iload_n hx hb dX1_act_195 rfl (lv_at hl 2 rfl) ?_
          have hP9 := hP.sub (ws' := [(h0, .inr (1, [.int 0, .int a1, .int a2, .int a3, .int (gx_X1_told_4 (fx_X1_byOutcome a1 p0 p1)), .int (gx_X1_told_5 p0), .int (gx_X1_told_6 a6 (fx_X1_byOutcome a1 p0 p1)), .int (gx_X1_told_7 a7 (fx_X1_byOutcome a1 p0 p1)), .int a8, .int 1, .int a10, .int a11, .ref h1]))]) [0] rfl
          have hD9 := hD.sub (ws' := [(h0, .inr (1, [.int 0, .int a1, .int a2, .int a3, .int (gx_X1_told_4 (fx_X1_byOutcome a1 p0 p1)), .int (gx_X1_told_5 p0), .int (gx_X1_told_6 a6 (fx_X1_byOutcome a1 p0 p1)), .int (gx_X1_told_7 a7 (fx_X1_byOutcome a1 p0 p1)), .int a8, .int 1, .int a10, .int a11, .ref h1]))]) [0] (by decide) rfl
          have hK9 := hK.sub (tys' := []) [] rfl
          have eg_0 : gx_X1_act_0 = 0 := by rfl
          have eg_3 : gx_X1_act_3 a1 a2 a3 a8 a9 a11 p0 p1 = a3 := by unfold gx_X1_act_3; rw [if_neg c_1, if_pos c_2, if_pos c_4, if_neg c_56, if_pos c_59, if_pos c_72]
          have eg_4 : gx_X1_act_4 a1 a2 a3 a4 a8 a9 a11 p0 p1 = gx_X1_told_4 (fx_X1_byOutcome a1 p0 p1) := by unfold gx_X1_act_4; rw [if_neg c_1, if_pos c_2, if_pos c_4, if_neg c_56]
          have eg_5 : gx_X1_act_5 a5 p0 = gx_X1_told_5 p0 := by unfold gx_X1_act_5; rw [if_neg c_1, if_pos c_2]
          have eg_6 : gx_X1_act_6 a1 a2 a3 a6 a8 a9 a11 p0 p1 = gx_X1_told_6 a6 (fx_X1_byOutcome a1 p0 p1) := by unfold gx_X1_act_6; rw [if_neg c_1, if_pos c_2, if_pos c_4, if_neg c_56]
          have eg_7 : gx_X1_act_7 a1 a2 a3 a7 a8 a9 a11 p0 p1 = gx_X1_told_7 a7 (fx_X1_byOutcome a1 p0 p1) := by unfold gx_X1_act_7; rw [if_neg c_1, if_pos c_2, if_pos c_4, if_neg c_56]
          have eg_8 : gx_X1_act_8 a1 a2 a3 a8 a9 p0 p1 = a8 := by unfold gx_X1_act_8; rw [if_neg c_1, if_pos c_2, if_pos c_4, if_neg c_56, if_pos c_59]
          have eg_9 : gx_X1_act_9 a1 a2 a3 a8 a9 a11 p0 p1 = 1 := by unfold gx_X1_act_9; rw [if_neg c_1, if_pos c_2, if_pos c_4, if_neg c_56, if_pos c_59, if_neg c_66, if_pos c_70]
          have eg_11 : gx_X1_act_11 a1 a2 a3 a8 a9 a11 p0 p1 = a11 := by unfold gx_X1_act_11; rw [if_neg c_1, if_pos c_2, if_pos c_4, if_neg c_56]
          have ef : fx_X1_act a1 a2 a3 a8 a9 a11 p0 p1 = fx_X1_byOutcome a1 p0 p1 := by unfold fx_X1_act; rw [if_neg c_1, if_pos c_2, if_pos c_4, if_neg c_56]
          exact W.iret (v := fx_X1_byOutcome a1 p0 p1) hx hb hr (fun t ht hW => ⟨⟨(fx_X1_byOutcome a1 p0 p1), [(h0, .inr (1, [.int 0, .int a1, .int a2, .int a3, .int (gx_X1_told_4 (fx_X1_byOutcome a1 p0 p1)), .int (gx_X1_told_5 p0), .int (gx_X1_told_6 a6 (fx_X1_byOutcome a1 p0 p1)), .int (gx_X1_told_7 a7 (fx_X1_byOutcome a1 p0 p1)), .int a8, .int 1, .int a10, .int a11, .ref h1]))], rfl, ⟨ef.symm, by rw [eg_0, eg_3, eg_4, eg_5, eg_6, eg_7, eg_8, eg_9, eg_11]⟩, by rw [ht]; exact hP9, va_K.moved hW.alike hK9, hD9⟩, hS.F ht⟩) hS.2.2 dX1_act_196
        refine lv_aload_n hx hb dX1_act_161 rfl (lv_at hl 3 rfl) ?_
        refine va_get (D := (dC, dI)) (ci := 1) (v := .int a8) (C := RX1) (T := TX1) (N := 13) hx hb hts (fun _ h => List.mem_cons_of_mem _ (List.mem_append_right _ h)) hown hK hP 0 rfl rfl 8 (by decide) (hts (.fieldLink RX1 23 "FileStatusModel" "isOpen" "Z") (by decide +kernel)) (fun _ h9 => h9) rfl dX1_act_162 ?_
        refine lv_if_ne (tgt := 175) hx hb dX1_act_165 (by decide) (fun c_73 => ?_) (fun c_73 => ?_)
        · refine lv_iload hx hb dX1_act_175 (lv_at hl 0 rfl) ?_
          refine va_put (D := (dC, dI)) (ci := 1) (v := .int (fx_X1_moved (fx_X1_byOutcome a1 p0 p1))) (ty := .int) (C := RX1) (T := TX1) (N := 13) hx hb hts (fun _ h => List.mem_cons_of_mem _ (List.mem_append_right _ h)) tyX1 tyX1_ok nmX1 hown hK hP hD hS 0 rfl rfl 3 (by decide) (hts (.fieldLink RX1 50 "FileStatusModel" "position" "I") (by decide +kernel)) (fun _ h9 => h9) rfl (by decide +kernel) rfl rfl (Nat.le_of_ble_eq_true rfl) dX1_act_177 (fun H locs hP hD hS => ?_)
          have hP : va_P (dC, dI) vwCl [(h0, .inr (1, [.int 0, .int a1, .int a2, .int (fx_X1_moved (fx_X1_byOutcome a1 p0 p1)), .int (gx_X1_told_4 (fx_X1_byOutcome a1 p0 p1)), .int (gx_X1_told_5 p0), .int (gx_X1_told_6 a6 (fx_X1_byOutcome a1 p0 p1)), .int (gx_X1_told_7 a7 (fx_X1_byOutcome a1 p0 p1)), .int a8, .int 1, .int a10, .int a11, .ref h1]))] H := hP
          have hD : va_D A [(h0, .inr (1, [.int 0, .int a1, .int a2, .int (fx_X1_moved (fx_X1_byOutcome a1 p0 p1)), .int (gx_X1_told_4 (fx_X1_byOutcome a1 p0 p1)), .int (gx_X1_told_5 p0), .int (gx_X1_told_6 a6 (fx_X1_byOutcome a1 p0 p1)), .int (gx_X1_told_7 a7 (fx_X1_byOutcome a1 p0 p1)), .int a8, .int 1, .int a10, .int a11, .ref h1]))] := hD
          refine lv_iload_n hx hb dX1_act_180 rfl (lv_at hl 4 rfl) ?_
          refine lv_bipush (v := 6) hx hb dX1_act_181 (by decide) ?_
          refine lv_icmp_ne (tgt := 195) hx hb dX1_act_183 (by decide) (fun c9 => ?_) (fun c9 => absurd (c_59.symm.trans c9) (by decide))
          refine lv_iload_n hx hb dX1_act_195 rfl (lv_at hl 2 rfl) ?_
          have hP9 := hP.sub (ws' := [(h0, .inr (1, [.int 0, .int a1, .int a2, .int (fx_X1_moved (fx_X1_byOutcome a1 p0 p1)), .int (gx_X1_told_4 (fx_X1_byOutcome a1 p0 p1)), .int (gx_X1_told_5 p0), .int (gx_X1_told_6 a6 (fx_X1_byOutcome a1 p0 p1)), .int (gx_X1_told_7 a7 (fx_X1_byOutcome a1 p0 p1)), .int a8, .int 1, .int a10, .int a11, .ref h1]))]) [0] rfl
          have hD9 := hD.sub (ws' := [(h0, .inr (1, [.int 0, .int a1, .int a2, .int (fx_X1_moved (fx_X1_byOutcome a1 p0 p1)), .int (gx_X1_told_4 (fx_X1_byOutcome a1 p0 p1)), .int (gx_X1_told_5 p0), .int (gx_X1_told_6 a6 (fx_X1_byOutcome a1 p0 p1)), .int (gx_X1_told_7 a7 (fx_X1_byOutcome a1 p0 p1)), .int a8, .int 1, .int a10, .int a11, .ref h1]))]) [0] (by decide) rfl
          have hK9 := hK.sub (tys' := []) [] rfl
          have eg_0 : gx_X1_act_0 = 0 := by rfl
          have eg_3 : gx_X1_act_3 a1 a2 a3 a8 a9 a11 p0 p1 = fx_X1_moved (fx_X1_byOutcome a1 p0 p1) := by unfold gx_X1_act_3; rw [if_neg c_1, if_pos c_2, if_pos c_4, if_neg c_56, if_pos c_59, if_neg c_72, if_neg c_73]
          have eg_4 : gx_X1_act_4 a1 a2 a3 a4 a8 a9 a11 p0 p1 = gx_X1_told_4 (fx_X1_byOutcome a1 p0 p1) := by unfold gx_X1_act_4; rw [if_neg c_1, if_pos c_2, if_pos c_4, if_neg c_56]
          have eg_5 : gx_X1_act_5 a5 p0 = gx_X1_told_5 p0 := by unfold gx_X1_act_5; rw [if_neg c_1, if_pos c_2]
          have eg_6 : gx_X1_act_6 a1 a2 a3 a6 a8 a9 a11 p0 p1 = gx_X1_told_6 a6 (fx_X1_byOutcome a1 p0 p1) := by unfold gx_X1_act_6; rw [if_neg c_1, if_pos c_2, if_pos c_4, if_neg c_56]
          have eg_7 : gx_X1_act_7 a1 a2 a3 a7 a8 a9 a11 p0 p1 = gx_X1_told_7 a7 (fx_X1_byOutcome a1 p0 p1) := by unfold gx_X1_act_7; rw [if_neg c_1, if_pos c_2, if_pos c_4, if_neg c_56]
          have eg_8 : gx_X1_act_8 a1 a2 a3 a8 a9 p0 p1 = a8 := by unfold gx_X1_act_8; rw [if_neg c_1, if_pos c_2, if_pos c_4, if_neg c_56, if_pos c_59]
          have eg_9 : gx_X1_act_9 a1 a2 a3 a8 a9 a11 p0 p1 = 1 := by unfold gx_X1_act_9; rw [if_neg c_1, if_pos c_2, if_pos c_4, if_neg c_56, if_pos c_59, if_neg c_66, if_pos c_70]
          have eg_11 : gx_X1_act_11 a1 a2 a3 a8 a9 a11 p0 p1 = a11 := by unfold gx_X1_act_11; rw [if_neg c_1, if_pos c_2, if_pos c_4, if_neg c_56]
          have ef : fx_X1_act a1 a2 a3 a8 a9 a11 p0 p1 = fx_X1_byOutcome a1 p0 p1 := by unfold fx_X1_act; rw [if_neg c_1, if_pos c_2, if_pos c_4, if_neg c_56]
          exact W.iret (v := fx_X1_byOutcome a1 p0 p1) hx hb hr (fun t ht hW => ⟨⟨(fx_X1_byOutcome a1 p0 p1), [(h0, .inr (1, [.int 0, .int a1, .int a2, .int (fx_X1_moved (fx_X1_byOutcome a1 p0 p1)), .int (gx_X1_told_4 (fx_X1_byOutcome a1 p0 p1)), .int (gx_X1_told_5 p0), .int (gx_X1_told_6 a6 (fx_X1_byOutcome a1 p0 p1)), .int (gx_X1_told_7 a7 (fx_X1_byOutcome a1 p0 p1)), .int a8, .int 1, .int a10, .int a11, .ref h1]))], rfl, ⟨ef.symm, by rw [eg_0, eg_3, eg_4, eg_5, eg_6, eg_7, eg_8, eg_9, eg_11]⟩, by rw [ht]; exact hP9, va_K.moved hW.alike hK9, hD9⟩, hS.F ht⟩) hS.2.2 dX1_act_196
        refine lv_aload_n hx hb dX1_act_168 rfl (lv_at hl 3 rfl) ?_
        refine va_get (D := (dC, dI)) (ci := 1) (v := .int a3) (C := RX1) (T := TX1) (N := 13) hx hb hts (fun _ h => List.mem_cons_of_mem _ (List.mem_append_right _ h)) hown hK hP 0 rfl rfl 3 (by decide) (hts (.fieldLink RX1 50 "FileStatusModel" "position" "I") (by decide +kernel)) (fun _ h9 => h9) rfl dX1_act_169 ?_
        refine lv_goto (tgt := 177) hx hb dX1_act_172 (by decide) ?_
        refine va_put (D := (dC, dI)) (ci := 1) (v := .int a3) (ty := .int) (C := RX1) (T := TX1) (N := 13) hx hb hts (fun _ h => List.mem_cons_of_mem _ (List.mem_append_right _ h)) tyX1 tyX1_ok nmX1 hown hK hP hD hS 0 rfl rfl 3 (by decide) (hts (.fieldLink RX1 50 "FileStatusModel" "position" "I") (by decide +kernel)) (fun _ h9 => h9) rfl (by decide +kernel) rfl rfl (Nat.le_of_ble_eq_true rfl) dX1_act_177 (fun H locs hP hD hS => ?_)
        have hP : va_P (dC, dI) vwCl [(h0, .inr (1, [.int 0, .int a1, .int a2, .int a3, .int (gx_X1_told_4 (fx_X1_byOutcome a1 p0 p1)), .int (gx_X1_told_5 p0), .int (gx_X1_told_6 a6 (fx_X1_byOutcome a1 p0 p1)), .int (gx_X1_told_7 a7 (fx_X1_byOutcome a1 p0 p1)), .int a8, .int 1, .int a10, .int a11, .ref h1]))] H := hP
        have hD : va_D A [(h0, .inr (1, [.int 0, .int a1, .int a2, .int a3, .int (gx_X1_told_4 (fx_X1_byOutcome a1 p0 p1)), .int (gx_X1_told_5 p0), .int (gx_X1_told_6 a6 (fx_X1_byOutcome a1 p0 p1)), .int (gx_X1_told_7 a7 (fx_X1_byOutcome a1 p0 p1)), .int a8, .int 1, .int a10, .int a11, .ref h1]))] := hD
        refine lv_iload_n hx hb dX1_act_180 rfl (lv_at hl 4 rfl) ?_
        refine lv_bipush (v := 6) hx hb dX1_act_181 (by decide) ?_
        refine lv_icmp_ne (tgt := 195) hx hb dX1_act_183 (by decide) (fun c9 => ?_) (fun c9 => absurd (c_59.symm.trans c9) (by decide))
        refine lv_iload_n hx hb dX1_act_195 rfl (lv_at hl 2 rfl) ?_
        have hP9 := hP.sub (ws' := [(h0, .inr (1, [.int 0, .int a1, .int a2, .int a3, .int (gx_X1_told_4 (fx_X1_byOutcome a1 p0 p1)), .int (gx_X1_told_5 p0), .int (gx_X1_told_6 a6 (fx_X1_byOutcome a1 p0 p1)), .int (gx_X1_told_7 a7 (fx_X1_byOutcome a1 p0 p1)), .int a8, .int 1, .int a10, .int a11, .ref h1]))]) [0] rfl
        have hD9 := hD.sub (ws' := [(h0, .inr (1, [.int 0, .int a1, .int a2, .int a3, .int (gx_X1_told_4 (fx_X1_byOutcome a1 p0 p1)), .int (gx_X1_told_5 p0), .int (gx_X1_told_6 a6 (fx_X1_byOutcome a1 p0 p1)), .int (gx_X1_told_7 a7 (fx_X1_byOutcome a1 p0 p1)), .int a8, .int 1, .int a10, .int a11, .ref h1]))]) [0] (by decide) rfl
        have hK9 := hK.sub (tys' := []) [] rfl
        have eg_0 : gx_X1_act_0 = 0 := by rfl
        have eg_3 : gx_X1_act_3 a1 a2 a3 a8 a9 a11 p0 p1 = a3 := by unfold gx_X1_act_3; rw [if_neg c_1, if_pos c_2, if_pos c_4, if_neg c_56, if_pos c_59, if_neg c_72, if_pos c_73]
        have eg_4 : gx_X1_act_4 a1 a2 a3 a4 a8 a9 a11 p0 p1 = gx_X1_told_4 (fx_X1_byOutcome a1 p0 p1) := by unfold gx_X1_act_4; rw [if_neg c_1, if_pos c_2, if_pos c_4, if_neg c_56]
        have eg_5 : gx_X1_act_5 a5 p0 = gx_X1_told_5 p0 := by unfold gx_X1_act_5; rw [if_neg c_1, if_pos c_2]
        have eg_6 : gx_X1_act_6 a1 a2 a3 a6 a8 a9 a11 p0 p1 = gx_X1_told_6 a6 (fx_X1_byOutcome a1 p0 p1) := by unfold gx_X1_act_6; rw [if_neg c_1, if_pos c_2, if_pos c_4, if_neg c_56]
        have eg_7 : gx_X1_act_7 a1 a2 a3 a7 a8 a9 a11 p0 p1 = gx_X1_told_7 a7 (fx_X1_byOutcome a1 p0 p1) := by unfold gx_X1_act_7; rw [if_neg c_1, if_pos c_2, if_pos c_4, if_neg c_56]
        have eg_8 : gx_X1_act_8 a1 a2 a3 a8 a9 p0 p1 = a8 := by unfold gx_X1_act_8; rw [if_neg c_1, if_pos c_2, if_pos c_4, if_neg c_56, if_pos c_59]
        have eg_9 : gx_X1_act_9 a1 a2 a3 a8 a9 a11 p0 p1 = 1 := by unfold gx_X1_act_9; rw [if_neg c_1, if_pos c_2, if_pos c_4, if_neg c_56, if_pos c_59, if_neg c_66, if_pos c_70]
        have eg_11 : gx_X1_act_11 a1 a2 a3 a8 a9 a11 p0 p1 = a11 := by unfold gx_X1_act_11; rw [if_neg c_1, if_pos c_2, if_pos c_4, if_neg c_56]
        have ef : fx_X1_act a1 a2 a3 a8 a9 a11 p0 p1 = fx_X1_byOutcome a1 p0 p1 := by unfold fx_X1_act; rw [if_neg c_1, if_pos c_2, if_pos c_4, if_neg c_56]
        exact W.iret (v := fx_X1_byOutcome a1 p0 p1) hx hb hr (fun t ht hW => ⟨⟨(fx_X1_byOutcome a1 p0 p1), [(h0, .inr (1, [.int 0, .int a1, .int a2, .int a3, .int (gx_X1_told_4 (fx_X1_byOutcome a1 p0 p1)), .int (gx_X1_told_5 p0), .int (gx_X1_told_6 a6 (fx_X1_byOutcome a1 p0 p1)), .int (gx_X1_told_7 a7 (fx_X1_byOutcome a1 p0 p1)), .int a8, .int 1, .int a10, .int a11, .ref h1]))], rfl, ⟨ef.symm, by rw [eg_0, eg_3, eg_4, eg_5, eg_6, eg_7, eg_8, eg_9, eg_11]⟩, by rw [ht]; exact hP9, va_K.moved hW.alike hK9, hD9⟩, hS.F ht⟩) hS.2.2 dX1_act_196
      refine lv_iload_n hx hb dX1_act_77 rfl (lv_at hl 0 rfl) ?_
      refine lv_iconst (v := 4) hx hb dX1_act_78 (by decide) ?_
      refine lv_icmp_ne (tgt := 86) hx hb dX1_act_79 (by decide) (fun c_74 => ?_) (fun c_74 => ?_)
      · refine lv_iconst (v := 0) hx hb dX1_act_86 (by decide) ?_
        refine va_put (D := (dC, dI)) (ci := 1) (v := .int 0) (ty := .boolean) (C := RX1) (T := TX1) (N := 13) hx hb hts (fun _ h => List.mem_cons_of_mem _ (List.mem_append_right _ h)) tyX1 tyX1_ok nmX1 hown hK hP hD hS 0 rfl rfl 9 (by decide) (hts (.fieldLink RX1 47 "FileStatusModel" "permit" "Z") (by decide +kernel)) (fun _ h9 => h9) rfl (by decide +kernel) rfl rfl (Nat.le_of_ble_eq_true rfl) dX1_act_87 (fun H locs hP hD hS => ?_)
        have hP : va_P (dC, dI) vwCl [(h0, .inr (1, [.int 0, .int a1, .int a2, .int a3, .int (gx_X1_told_4 (fx_X1_byOutcome a1 p0 p1)), .int (gx_X1_told_5 p0), .int (gx_X1_told_6 a6 (fx_X1_byOutcome a1 p0 p1)), .int (gx_X1_told_7 a7 (fx_X1_byOutcome a1 p0 p1)), .int a8, .int 0, .int a10, .int a11, .ref h1]))] H := hP
        have hD : va_D A [(h0, .inr (1, [.int 0, .int a1, .int a2, .int a3, .int (gx_X1_told_4 (fx_X1_byOutcome a1 p0 p1)), .int (gx_X1_told_5 p0), .int (gx_X1_told_6 a6 (fx_X1_byOutcome a1 p0 p1)), .int (gx_X1_told_7 a7 (fx_X1_byOutcome a1 p0 p1)), .int a8, .int 0, .int a10, .int a11, .ref h1]))] := hD
        refine lv_iload_n hx hb dX1_act_90 rfl (lv_at hl 2 rfl) ?_
        refine lv_if_ne (tgt := 119) hx hb dX1_act_91 (by decide) (fun c9 => ?_) (fun c9 => absurd c9 c_56)
        refine lv_iload_n hx hb dX1_act_119 rfl (lv_at hl 2 rfl) ?_
        refine lv_if_eq (tgt := 133) hx hb dX1_act_120 (by decide) (fun c9 => absurd c9 c_56) (fun c9 => ?_)
        refine lv_iload_n hx hb dX1_act_123 rfl (lv_at hl 2 rfl) ?_
        refine lv_iconst (v := 1) hx hb dX1_act_124 (by decide) ?_
        refine lv_icmp_eq (tgt := 133) hx hb dX1_act_125 (by decide) (fun c9 => ?_) (fun c9 => absurd c_59 c9)
        refine lv_iconst (v := 1) hx hb dX1_act_133 (by decide) ?_
        refine lv_goto (tgt := 138) hx hb dX1_act_134 (by decide) ?_
        refine lv_istore (lv' := [(4, .int 1), (3, .int (fx_X1_byOutcome a1 p0 p1)), (0, .ref h0), (1, .int p0), (2, .int p1)]) hx hb dX1_act_138 hl (by decide) rfl (fun ls hl => ?_)
        refine lv_iload hx hb dX1_act_140 (lv_at hl 0 rfl) ?_
        refine lv_if_eq (tgt := 152) hx hb dX1_act_142 (by decide) (fun c9 => absurd c9 (by decide)) (fun c9 => ?_)
        refine lv_iload_n hx hb dX1_act_145 rfl (lv_at hl 1 rfl) ?_
        have hPc := hP.sub (ws' := []) [] rfl
        have hDc := hD.sub (ws' := []) [] (by decide) rfl
        have hKc := hK.sub (tys' := []) [] rfl
        have hFc := va_free (wc := []) hD hS hA [] rfl
        refine va_calli (va_runS (As := [.int (fx_X1_byOutcome a1 p0 p1)]) (rest := []) ⟨hx, hb, hml, hown, hts⟩ (ct_X1_moved l dC dI H.size (fx_X1_byOutcome a1 p0 p1)) (va_cwS 1 hts gX1_act_X1_moved rfl rfl rfl (by decide +kernel) ⟨Nat.le_of_ble_eq_true rfl, Nat.le_of_ble_eq_true rfl⟩) ⟨fun a U g mk q => by obtain ⟨q0, q1, qP, qK, qD⟩ := q; exact ⟨q0, q1, qP, va_K.moved (u := U) (U := U.calling g mk a) (Vm.Alike.refl U.vm) qK, qD⟩, fun U hU hW => ⟨rfl, by rw [hU], by rw [hU]; exact hPc, va_K.moved hW.alike hKc, hDc.weaken (fun _ _ _ _ => trivial)⟩⟩ rfl rfl hl.1 rfl (lv_room (Nat.le_of_ble_eq_true rfl)) dX1_act_146 ⟨(Nat.zero_le _), (Nat.zero_le _)⟩) hS (fun q _ h => hFc q h) hFc (fun r_75 u t H1 locs ht hvm hw hB hz1 hk1 hS => ?_)
        obtain ⟨er, hu⟩ := hw
        subst hu
        subst er
        obtain ⟨hP1, -, hD1⟩ := hB
        rw [ht] at hP1
        obtain ⟨hP, hD⟩ := va_join (wr := [(h0, .inr (1, [.int 0, .int a1, .int a2, .int a3, .int (gx_X1_told_4 (fx_X1_byOutcome a1 p0 p1)), .int (gx_X1_told_5 p0), .int (gx_X1_told_6 a6 (fx_X1_byOutcome a1 p0 p1)), .int (gx_X1_told_7 a7 (fx_X1_byOutcome a1 p0 p1)), .int a8, .int 0, .int a10, .int a11, .ref h1]))]) (w1 := []) hP hD [] [0] rfl rfl (by decide) (by decide) hk1 hFc hP1 hD1
        generalize H1 = H at hP hS ⊢
        have hP : va_P (dC, dI) vwCl [(h0, .inr (1, [.int 0, .int a1, .int a2, .int a3, .int (gx_X1_told_4 (fx_X1_byOutcome a1 p0 p1)), .int (gx_X1_told_5 p0), .int (gx_X1_told_6 a6 (fx_X1_byOutcome a1 p0 p1)), .int (gx_X1_told_7 a7 (fx_X1_byOutcome a1 p0 p1)), .int a8, .int 0, .int a10, .int a11, .ref h1]))] H := hP
        have hD : va_D A [(h0, .inr (1, [.int 0, .int a1, .int a2, .int a3, .int (gx_X1_told_4 (fx_X1_byOutcome a1 p0 p1)), .int (gx_X1_told_5 p0), .int (gx_X1_told_6 a6 (fx_X1_byOutcome a1 p0 p1)), .int (gx_X1_told_7 a7 (fx_X1_byOutcome a1 p0 p1)), .int a8, .int 0, .int a10, .int a11, .ref h1]))] := hD
        refine lv_goto (tgt := 153) hx hb dX1_act_149 (by decide) ?_
        refine lv_istore (lv' := [(5, .int (fx_X1_moved (fx_X1_byOutcome a1 p0 p1))), (4, .int 1), (3, .int (fx_X1_byOutcome a1 p0 p1)), (0, .ref h0), (1, .int p0), (2, .int p1)]) hx hb dX1_act_153 hl (by decide) rfl (fun ls hl => ?_)
        refine lv_aload_n hx hb dX1_act_155 rfl (lv_at hl 3 rfl) ?_
        refine lv_iload hx hb dX1_act_156 (lv_at hl 0 rfl) ?_
        refine lv_if_eq (tgt := 168) hx hb dX1_act_158 (by decide) (fun c_76 => ?_) (fun c_76 => ?_)
        · refine lv_aload_n hx hb dX1_act_168 rfl (lv_at hl 3 rfl) ?_
          refine va_get (D := (dC, dI)) (ci := 1) (v := .int a3) (C := RX1) (T := TX1) (N := 13) hx hb hts (fun _ h => List.mem_cons_of_mem _ (List.mem_append_right _ h)) hown hK hP 0 rfl rfl 3 (by decide) (hts (.fieldLink RX1 50 "FileStatusModel" "position" "I") (by decide +kernel)) (fun _ h9 => h9) rfl dX1_act_169 ?_
          refine lv_goto (tgt := 177) hx hb dX1_act_172 (by decide) ?_
          refine va_put (D := (dC, dI)) (ci := 1) (v := .int a3) (ty := .int) (C := RX1) (T := TX1) (N := 13) hx hb hts (fun _ h => List.mem_cons_of_mem _ (List.mem_append_right _ h)) tyX1 tyX1_ok nmX1 hown hK hP hD hS 0 rfl rfl 3 (by decide) (hts (.fieldLink RX1 50 "FileStatusModel" "position" "I") (by decide +kernel)) (fun _ h9 => h9) rfl (by decide +kernel) rfl rfl (Nat.le_of_ble_eq_true rfl) dX1_act_177 (fun H locs hP hD hS => ?_)
          have hP : va_P (dC, dI) vwCl [(h0, .inr (1, [.int 0, .int a1, .int a2, .int a3, .int (gx_X1_told_4 (fx_X1_byOutcome a1 p0 p1)), .int (gx_X1_told_5 p0), .int (gx_X1_told_6 a6 (fx_X1_byOutcome a1 p0 p1)), .int (gx_X1_told_7 a7 (fx_X1_byOutcome a1 p0 p1)), .int a8, .int 0, .int a10, .int a11, .ref h1]))] H := hP
          have hD : va_D A [(h0, .inr (1, [.int 0, .int a1, .int a2, .int a3, .int (gx_X1_told_4 (fx_X1_byOutcome a1 p0 p1)), .int (gx_X1_told_5 p0), .int (gx_X1_told_6 a6 (fx_X1_byOutcome a1 p0 p1)), .int (gx_X1_told_7 a7 (fx_X1_byOutcome a1 p0 p1)), .int a8, .int 0, .int a10, .int a11, .ref h1]))] := hD
          refine lv_iload_n hx hb dX1_act_180 rfl (lv_at hl 4 rfl) ?_
          refine lv_bipush (v := 6) hx hb dX1_act_181 (by decide) ?_
          refine lv_icmp_ne (tgt := 195) hx hb dX1_act_183 (by decide) (fun c9 => ?_) (fun c9 => absurd (c_59.symm.trans c9) (by decide))
          refine lv_iload_n hx hb dX1_act_195 rfl (lv_at hl 2 rfl) ?_
          have hP9 := hP.sub (ws' := [(h0, .inr (1, [.int 0, .int a1, .int a2, .int a3, .int (gx_X1_told_4 (fx_X1_byOutcome a1 p0 p1)), .int (gx_X1_told_5 p0), .int (gx_X1_told_6 a6 (fx_X1_byOutcome a1 p0 p1)), .int (gx_X1_told_7 a7 (fx_X1_byOutcome a1 p0 p1)), .int a8, .int 0, .int a10, .int a11, .ref h1]))]) [0] rfl
          have hD9 := hD.sub (ws' := [(h0, .inr (1, [.int 0, .int a1, .int a2, .int a3, .int (gx_X1_told_4 (fx_X1_byOutcome a1 p0 p1)), .int (gx_X1_told_5 p0), .int (gx_X1_told_6 a6 (fx_X1_byOutcome a1 p0 p1)), .int (gx_X1_told_7 a7 (fx_X1_byOutcome a1 p0 p1)), .int a8, .int 0, .int a10, .int a11, .ref h1]))]) [0] (by decide) rfl
          have hK9 := hK.sub (tys' := []) [] rfl
          have eg_0 : gx_X1_act_0 = 0 := by rfl
          have eg_3 : gx_X1_act_3 a1 a2 a3 a8 a9 a11 p0 p1 = a3 := by unfold gx_X1_act_3; rw [if_neg c_1, if_pos c_2, if_pos c_4, if_neg c_56, if_pos c_59, if_pos c_76]
          have eg_4 : gx_X1_act_4 a1 a2 a3 a4 a8 a9 a11 p0 p1 = gx_X1_told_4 (fx_X1_byOutcome a1 p0 p1) := by unfold gx_X1_act_4; rw [if_neg c_1, if_pos c_2, if_pos c_4, if_neg c_56]
          have eg_5 : gx_X1_act_5 a5 p0 = gx_X1_told_5 p0 := by unfold gx_X1_act_5; rw [if_neg c_1, if_pos c_2]
          have eg_6 : gx_X1_act_6 a1 a2 a3 a6 a8 a9 a11 p0 p1 = gx_X1_told_6 a6 (fx_X1_byOutcome a1 p0 p1) := by unfold gx_X1_act_6; rw [if_neg c_1, if_pos c_2, if_pos c_4, if_neg c_56]
          have eg_7 : gx_X1_act_7 a1 a2 a3 a7 a8 a9 a11 p0 p1 = gx_X1_told_7 a7 (fx_X1_byOutcome a1 p0 p1) := by unfold gx_X1_act_7; rw [if_neg c_1, if_pos c_2, if_pos c_4, if_neg c_56]
          have eg_8 : gx_X1_act_8 a1 a2 a3 a8 a9 p0 p1 = a8 := by unfold gx_X1_act_8; rw [if_neg c_1, if_pos c_2, if_pos c_4, if_neg c_56, if_pos c_59]
          have eg_9 : gx_X1_act_9 a1 a2 a3 a8 a9 a11 p0 p1 = 0 := by unfold gx_X1_act_9; rw [if_neg c_1, if_pos c_2, if_pos c_4, if_neg c_56, if_pos c_59, if_neg c_66, if_neg c_70, if_neg c_74]
          have eg_11 : gx_X1_act_11 a1 a2 a3 a8 a9 a11 p0 p1 = a11 := by unfold gx_X1_act_11; rw [if_neg c_1, if_pos c_2, if_pos c_4, if_neg c_56]
          have ef : fx_X1_act a1 a2 a3 a8 a9 a11 p0 p1 = fx_X1_byOutcome a1 p0 p1 := by unfold fx_X1_act; rw [if_neg c_1, if_pos c_2, if_pos c_4, if_neg c_56]
          exact W.iret (v := fx_X1_byOutcome a1 p0 p1) hx hb hr (fun t ht hW => ⟨⟨(fx_X1_byOutcome a1 p0 p1), [(h0, .inr (1, [.int 0, .int a1, .int a2, .int a3, .int (gx_X1_told_4 (fx_X1_byOutcome a1 p0 p1)), .int (gx_X1_told_5 p0), .int (gx_X1_told_6 a6 (fx_X1_byOutcome a1 p0 p1)), .int (gx_X1_told_7 a7 (fx_X1_byOutcome a1 p0 p1)), .int a8, .int 0, .int a10, .int a11, .ref h1]))], rfl, ⟨ef.symm, by rw [eg_0, eg_3, eg_4, eg_5, eg_6, eg_7, eg_8, eg_9, eg_11]⟩, by rw [ht]; exact hP9, va_K.moved hW.alike hK9, hD9⟩, hS.F ht⟩) hS.2.2 dX1_act_196
        refine lv_aload_n hx hb dX1_act_161 rfl (lv_at hl 3 rfl) ?_
        refine va_get (D := (dC, dI)) (ci := 1) (v := .int a8) (C := RX1) (T := TX1) (N := 13) hx hb hts (fun _ h => List.mem_cons_of_mem _ (List.mem_append_right _ h)) hown hK hP 0 rfl rfl 8 (by decide) (hts (.fieldLink RX1 23 "FileStatusModel" "isOpen" "Z") (by decide +kernel)) (fun _ h9 => h9) rfl dX1_act_162 ?_
        refine lv_if_ne (tgt := 175) hx hb dX1_act_165 (by decide) (fun c_77 => ?_) (fun c_77 => ?_)
        · refine lv_iload hx hb dX1_act_175 (lv_at hl 0 rfl) ?_
          refine va_put (D := (dC, dI)) (ci := 1) (v := .int (fx_X1_moved (fx_X1_byOutcome a1 p0 p1))) (ty := .int) (C := RX1) (T := TX1) (N := 13) hx hb hts (fun _ h => List.mem_cons_of_mem _ (List.mem_append_right _ h)) tyX1 tyX1_ok nmX1 hown hK hP hD hS 0 rfl rfl 3 (by decide) (hts (.fieldLink RX1 50 "FileStatusModel" "position" "I") (by decide +kernel)) (fun _ h9 => h9) rfl (by decide +kernel) rfl rfl (Nat.le_of_ble_eq_true rfl) dX1_act_177 (fun H locs hP hD hS => ?_)
          have hP : va_P (dC, dI) vwCl [(h0, .inr (1, [.int 0, .int a1, .int a2, .int (fx_X1_moved (fx_X1_byOutcome a1 p0 p1)), .int (gx_X1_told_4 (fx_X1_byOutcome a1 p0 p1)), .int (gx_X1_told_5 p0), .int (gx_X1_told_6 a6 (fx_X1_byOutcome a1 p0 p1)), .int (gx_X1_told_7 a7 (fx_X1_byOutcome a1 p0 p1)), .int a8, .int 0, .int a10, .int a11, .ref h1]))] H := hP
          have hD : va_D A [(h0, .inr (1, [.int 0, .int a1, .int a2, .int (fx_X1_moved (fx_X1_byOutcome a1 p0 p1)), .int (gx_X1_told_4 (fx_X1_byOutcome a1 p0 p1)), .int (gx_X1_told_5 p0), .int (gx_X1_told_6 a6 (fx_X1_byOutcome a1 p0 p1)), .int (gx_X1_told_7 a7 (fx_X1_byOutcome a1 p0 p1)), .int a8, .int 0, .int a10, .int a11, .ref h1]))] := hD
          refine lv_iload_n hx hb dX1_act_180 rfl (lv_at hl 4 rfl) ?_
          refine lv_bipush (v := 6) hx hb dX1_act_181 (by decide) ?_
          refine lv_icmp_ne (tgt := 195) hx hb dX1_act_183 (by decide) (fun c9 => ?_) (fun c9 => absurd (c_59.symm.trans c9) (by decide))
          refine lv_iload_n hx hb dX1_act_195 rfl (lv_at hl 2 rfl) ?_
          have hP9 := hP.sub (ws' := [(h0, .inr (1, [.int 0, .int a1, .int a2, .int (fx_X1_moved (fx_X1_byOutcome a1 p0 p1)), .int (gx_X1_told_4 (fx_X1_byOutcome a1 p0 p1)), .int (gx_X1_told_5 p0), .int (gx_X1_told_6 a6 (fx_X1_byOutcome a1 p0 p1)), .int (gx_X1_told_7 a7 (fx_X1_byOutcome a1 p0 p1)), .int a8, .int 0, .int a10, .int a11, .ref h1]))]) [0] rfl
          have hD9 := hD.sub (ws' := [(h0, .inr (1, [.int 0, .int a1, .int a2, .int (fx_X1_moved (fx_X1_byOutcome a1 p0 p1)), .int (gx_X1_told_4 (fx_X1_byOutcome a1 p0 p1)), .int (gx_X1_told_5 p0), .int (gx_X1_told_6 a6 (fx_X1_byOutcome a1 p0 p1)), .int (gx_X1_told_7 a7 (fx_X1_byOutcome a1 p0 p1)), .int a8, .int 0, .int a10, .int a11, .ref h1]))]) [0] (by decide) rfl
          have hK9 := hK.sub (tys' := []) [] rfl
          have eg_0 : gx_X1_act_0 = 0 := by rfl
          have eg_3 : gx_X1_act_3 a1 a2 a3 a8 a9 a11 p0 p1 = fx_X1_moved (fx_X1_byOutcome a1 p0 p1) := by unfold gx_X1_act_3; rw [if_neg c_1, if_pos c_2, if_pos c_4, if_neg c_56, if_pos c_59, if_neg c_76, if_neg c_77]
          have eg_4 : gx_X1_act_4 a1 a2 a3 a4 a8 a9 a11 p0 p1 = gx_X1_told_4 (fx_X1_byOutcome a1 p0 p1) := by unfold gx_X1_act_4; rw [if_neg c_1, if_pos c_2, if_pos c_4, if_neg c_56]
          have eg_5 : gx_X1_act_5 a5 p0 = gx_X1_told_5 p0 := by unfold gx_X1_act_5; rw [if_neg c_1, if_pos c_2]
          have eg_6 : gx_X1_act_6 a1 a2 a3 a6 a8 a9 a11 p0 p1 = gx_X1_told_6 a6 (fx_X1_byOutcome a1 p0 p1) := by unfold gx_X1_act_6; rw [if_neg c_1, if_pos c_2, if_pos c_4, if_neg c_56]
          have eg_7 : gx_X1_act_7 a1 a2 a3 a7 a8 a9 a11 p0 p1 = gx_X1_told_7 a7 (fx_X1_byOutcome a1 p0 p1) := by unfold gx_X1_act_7; rw [if_neg c_1, if_pos c_2, if_pos c_4, if_neg c_56]
          have eg_8 : gx_X1_act_8 a1 a2 a3 a8 a9 p0 p1 = a8 := by unfold gx_X1_act_8; rw [if_neg c_1, if_pos c_2, if_pos c_4, if_neg c_56, if_pos c_59]
          have eg_9 : gx_X1_act_9 a1 a2 a3 a8 a9 a11 p0 p1 = 0 := by unfold gx_X1_act_9; rw [if_neg c_1, if_pos c_2, if_pos c_4, if_neg c_56, if_pos c_59, if_neg c_66, if_neg c_70, if_neg c_74]
          have eg_11 : gx_X1_act_11 a1 a2 a3 a8 a9 a11 p0 p1 = a11 := by unfold gx_X1_act_11; rw [if_neg c_1, if_pos c_2, if_pos c_4, if_neg c_56]
          have ef : fx_X1_act a1 a2 a3 a8 a9 a11 p0 p1 = fx_X1_byOutcome a1 p0 p1 := by unfold fx_X1_act; rw [if_neg c_1, if_pos c_2, if_pos c_4, if_neg c_56]
          exact W.iret (v := fx_X1_byOutcome a1 p0 p1) hx hb hr (fun t ht hW => ⟨⟨(fx_X1_byOutcome a1 p0 p1), [(h0, .inr (1, [.int 0, .int a1, .int a2, .int (fx_X1_moved (fx_X1_byOutcome a1 p0 p1)), .int (gx_X1_told_4 (fx_X1_byOutcome a1 p0 p1)), .int (gx_X1_told_5 p0), .int (gx_X1_told_6 a6 (fx_X1_byOutcome a1 p0 p1)), .int (gx_X1_told_7 a7 (fx_X1_byOutcome a1 p0 p1)), .int a8, .int 0, .int a10, .int a11, .ref h1]))], rfl, ⟨ef.symm, by rw [eg_0, eg_3, eg_4, eg_5, eg_6, eg_7, eg_8, eg_9, eg_11]⟩, by rw [ht]; exact hP9, va_K.moved hW.alike hK9, hD9⟩, hS.F ht⟩) hS.2.2 dX1_act_196
        refine lv_aload_n hx hb dX1_act_168 rfl (lv_at hl 3 rfl) ?_
        refine va_get (D := (dC, dI)) (ci := 1) (v := .int a3) (C := RX1) (T := TX1) (N := 13) hx hb hts (fun _ h => List.mem_cons_of_mem _ (List.mem_append_right _ h)) hown hK hP 0 rfl rfl 3 (by decide) (hts (.fieldLink RX1 50 "FileStatusModel" "position" "I") (by decide +kernel)) (fun _ h9 => h9) rfl dX1_act_169 ?_
        refine lv_goto (tgt := 177) hx hb dX1_act_172 (by decide) ?_
        refine va_put (D := (dC, dI)) (ci := 1) (v := .int a3) (ty := .int) (C := RX1) (T := TX1) (N := 13) hx hb hts (fun _ h => List.mem_cons_of_mem _ (List.mem_append_right _ h)) tyX1 tyX1_ok nmX1 hown hK hP hD hS 0 rfl rfl 3 (by decide) (hts (.fieldLink RX1 50 "FileStatusModel" "position" "I") (by decide +kernel)) (fun _ h9 => h9) rfl (by decide +kernel) rfl rfl (Nat.le_of_ble_eq_true rfl) dX1_act_177 (fun H locs hP hD hS => ?_)
        have hP : va_P (dC, dI) vwCl [(h0, .inr (1, [.int 0, .int a1, .int a2, .int a3, .int (gx_X1_told_4 (fx_X1_byOutcome a1 p0 p1)), .int (gx_X1_told_5 p0), .int (gx_X1_told_6 a6 (fx_X1_byOutcome a1 p0 p1)), .int (gx_X1_told_7 a7 (fx_X1_byOutcome a1 p0 p1)), .int a8, .int 0, .int a10, .int a11, .ref h1]))] H := hP
        have hD : va_D A [(h0, .inr (1, [.int 0, .int a1, .int a2, .int a3, .int (gx_X1_told_4 (fx_X1_byOutcome a1 p0 p1)), .int (gx_X1_told_5 p0), .int (gx_X1_told_6 a6 (fx_X1_byOutcome a1 p0 p1)), .int (gx_X1_told_7 a7 (fx_X1_byOutcome a1 p0 p1)), .int a8, .int 0, .int a10, .int a11, .ref h1]))] := hD
        refine lv_iload_n hx hb dX1_act_180 rfl (lv_at hl 4 rfl) ?_
        refine lv_bipush (v := 6) hx hb dX1_act_181 (by decide) ?_
        refine lv_icmp_ne (tgt := 195) hx hb dX1_act_183 (by decide) (fun c9 => ?_) (fun c9 => absurd (c_59.symm.trans c9) (by decide))
        refine lv_iload_n hx hb dX1_act_195 rfl (lv_at hl 2 rfl) ?_
        have hP9 := hP.sub (ws' := [(h0, .inr (1, [.int 0, .int a1, .int a2, .int a3, .int (gx_X1_told_4 (fx_X1_byOutcome a1 p0 p1)), .int (gx_X1_told_5 p0), .int (gx_X1_told_6 a6 (fx_X1_byOutcome a1 p0 p1)), .int (gx_X1_told_7 a7 (fx_X1_byOutcome a1 p0 p1)), .int a8, .int 0, .int a10, .int a11, .ref h1]))]) [0] rfl
        have hD9 := hD.sub (ws' := [(h0, .inr (1, [.int 0, .int a1, .int a2, .int a3, .int (gx_X1_told_4 (fx_X1_byOutcome a1 p0 p1)), .int (gx_X1_told_5 p0), .int (gx_X1_told_6 a6 (fx_X1_byOutcome a1 p0 p1)), .int (gx_X1_told_7 a7 (fx_X1_byOutcome a1 p0 p1)), .int a8, .int 0, .int a10, .int a11, .ref h1]))]) [0] (by decide) rfl
        have hK9 := hK.sub (tys' := []) [] rfl
        have eg_0 : gx_X1_act_0 = 0 := by rfl
        have eg_3 : gx_X1_act_3 a1 a2 a3 a8 a9 a11 p0 p1 = a3 := by unfold gx_X1_act_3; rw [if_neg c_1, if_pos c_2, if_pos c_4, if_neg c_56, if_pos c_59, if_neg c_76, if_pos c_77]
        have eg_4 : gx_X1_act_4 a1 a2 a3 a4 a8 a9 a11 p0 p1 = gx_X1_told_4 (fx_X1_byOutcome a1 p0 p1) := by unfold gx_X1_act_4; rw [if_neg c_1, if_pos c_2, if_pos c_4, if_neg c_56]
        have eg_5 : gx_X1_act_5 a5 p0 = gx_X1_told_5 p0 := by unfold gx_X1_act_5; rw [if_neg c_1, if_pos c_2]
        have eg_6 : gx_X1_act_6 a1 a2 a3 a6 a8 a9 a11 p0 p1 = gx_X1_told_6 a6 (fx_X1_byOutcome a1 p0 p1) := by unfold gx_X1_act_6; rw [if_neg c_1, if_pos c_2, if_pos c_4, if_neg c_56]
        have eg_7 : gx_X1_act_7 a1 a2 a3 a7 a8 a9 a11 p0 p1 = gx_X1_told_7 a7 (fx_X1_byOutcome a1 p0 p1) := by unfold gx_X1_act_7; rw [if_neg c_1, if_pos c_2, if_pos c_4, if_neg c_56]
        have eg_8 : gx_X1_act_8 a1 a2 a3 a8 a9 p0 p1 = a8 := by unfold gx_X1_act_8; rw [if_neg c_1, if_pos c_2, if_pos c_4, if_neg c_56, if_pos c_59]
        have eg_9 : gx_X1_act_9 a1 a2 a3 a8 a9 a11 p0 p1 = 0 := by unfold gx_X1_act_9; rw [if_neg c_1, if_pos c_2, if_pos c_4, if_neg c_56, if_pos c_59, if_neg c_66, if_neg c_70, if_neg c_74]
        have eg_11 : gx_X1_act_11 a1 a2 a3 a8 a9 a11 p0 p1 = a11 := by unfold gx_X1_act_11; rw [if_neg c_1, if_pos c_2, if_pos c_4, if_neg c_56]
        have ef : fx_X1_act a1 a2 a3 a8 a9 a11 p0 p1 = fx_X1_byOutcome a1 p0 p1 := by unfold fx_X1_act; rw [if_neg c_1, if_pos c_2, if_pos c_4, if_neg c_56]
        exact W.iret (v := fx_X1_byOutcome a1 p0 p1) hx hb hr (fun t ht hW => ⟨⟨(fx_X1_byOutcome a1 p0 p1), [(h0, .inr (1, [.int 0, .int a1, .int a2, .int a3, .int (gx_X1_told_4 (fx_X1_byOutcome a1 p0 p1)), .int (gx_X1_told_5 p0), .int (gx_X1_told_6 a6 (fx_X1_byOutcome a1 p0 p1)), .int (gx_X1_told_7 a7 (fx_X1_byOutcome a1 p0 p1)), .int a8, .int 0, .int a10, .int a11, .ref h1]))], rfl, ⟨ef.symm, by rw [eg_0, eg_3, eg_4, eg_5, eg_6, eg_7, eg_8, eg_9, eg_11]⟩, by rw [ht]; exact hP9, va_K.moved hW.alike hK9, hD9⟩, hS.F ht⟩) hS.2.2 dX1_act_196
      refine lv_iconst (v := 1) hx hb dX1_act_82 (by decide) ?_
      refine lv_goto (tgt := 87) hx hb dX1_act_83 (by decide) ?_
      refine va_put (D := (dC, dI)) (ci := 1) (v := .int 1) (ty := .boolean) (C := RX1) (T := TX1) (N := 13) hx hb hts (fun _ h => List.mem_cons_of_mem _ (List.mem_append_right _ h)) tyX1 tyX1_ok nmX1 hown hK hP hD hS 0 rfl rfl 9 (by decide) (hts (.fieldLink RX1 47 "FileStatusModel" "permit" "Z") (by decide +kernel)) (fun _ h9 => h9) rfl (by decide +kernel) rfl rfl (Nat.le_of_ble_eq_true rfl) dX1_act_87 (fun H locs hP hD hS => ?_)
      have hP : va_P (dC, dI) vwCl [(h0, .inr (1, [.int 0, .int a1, .int a2, .int a3, .int (gx_X1_told_4 (fx_X1_byOutcome a1 p0 p1)), .int (gx_X1_told_5 p0), .int (gx_X1_told_6 a6 (fx_X1_byOutcome a1 p0 p1)), .int (gx_X1_told_7 a7 (fx_X1_byOutcome a1 p0 p1)), .int a8, .int 1, .int a10, .int a11, .ref h1]))] H := hP
      have hD : va_D A [(h0, .inr (1, [.int 0, .int a1, .int a2, .int a3, .int (gx_X1_told_4 (fx_X1_byOutcome a1 p0 p1)), .int (gx_X1_told_5 p0), .int (gx_X1_told_6 a6 (fx_X1_byOutcome a1 p0 p1)), .int (gx_X1_told_7 a7 (fx_X1_byOutcome a1 p0 p1)), .int a8, .int 1, .int a10, .int a11, .ref h1]))] := hD
      refine lv_iload_n hx hb dX1_act_90 rfl (lv_at hl 2 rfl) ?_
      refine lv_if_ne (tgt := 119) hx hb dX1_act_91 (by decide) (fun c9 => ?_) (fun c9 => absurd c9 c_56)
      refine lv_iload_n hx hb dX1_act_119 rfl (lv_at hl 2 rfl) ?_
      refine lv_if_eq (tgt := 133) hx hb dX1_act_120 (by decide) (fun c9 => absurd c9 c_56) (fun c9 => ?_)
      refine lv_iload_n hx hb dX1_act_123 rfl (lv_at hl 2 rfl) ?_
      refine lv_iconst (v := 1) hx hb dX1_act_124 (by decide) ?_
      refine lv_icmp_eq (tgt := 133) hx hb dX1_act_125 (by decide) (fun c9 => ?_) (fun c9 => absurd c_59 c9)
      refine lv_iconst (v := 1) hx hb dX1_act_133 (by decide) ?_
      refine lv_goto (tgt := 138) hx hb dX1_act_134 (by decide) ?_
      refine lv_istore (lv' := [(4, .int 1), (3, .int (fx_X1_byOutcome a1 p0 p1)), (0, .ref h0), (1, .int p0), (2, .int p1)]) hx hb dX1_act_138 hl (by decide) rfl (fun ls hl => ?_)
      refine lv_iload hx hb dX1_act_140 (lv_at hl 0 rfl) ?_
      refine lv_if_eq (tgt := 152) hx hb dX1_act_142 (by decide) (fun c9 => absurd c9 (by decide)) (fun c9 => ?_)
      refine lv_iload_n hx hb dX1_act_145 rfl (lv_at hl 1 rfl) ?_
      have hPc := hP.sub (ws' := []) [] rfl
      have hDc := hD.sub (ws' := []) [] (by decide) rfl
      have hKc := hK.sub (tys' := []) [] rfl
      have hFc := va_free (wc := []) hD hS hA [] rfl
      refine va_calli (va_runS (As := [.int (fx_X1_byOutcome a1 p0 p1)]) (rest := []) ⟨hx, hb, hml, hown, hts⟩ (ct_X1_moved l dC dI H.size (fx_X1_byOutcome a1 p0 p1)) (va_cwS 1 hts gX1_act_X1_moved rfl rfl rfl (by decide +kernel) ⟨Nat.le_of_ble_eq_true rfl, Nat.le_of_ble_eq_true rfl⟩) ⟨fun a U g mk q => by obtain ⟨q0, q1, qP, qK, qD⟩ := q; exact ⟨q0, q1, qP, va_K.moved (u := U) (U := U.calling g mk a) (Vm.Alike.refl U.vm) qK, qD⟩, fun U hU hW => ⟨rfl, by rw [hU], by rw [hU]; exact hPc, va_K.moved hW.alike hKc, hDc.weaken (fun _ _ _ _ => trivial)⟩⟩ rfl rfl hl.1 rfl (lv_room (Nat.le_of_ble_eq_true rfl)) dX1_act_146 ⟨(Nat.zero_le _), (Nat.zero_le _)⟩) hS (fun q _ h => hFc q h) hFc (fun r_78 u t H1 locs ht hvm hw hB hz1 hk1 hS => ?_)
      obtain ⟨er, hu⟩ := hw
      subst hu
      subst er
      obtain ⟨hP1, -, hD1⟩ := hB
      rw [ht] at hP1
      obtain ⟨hP, hD⟩ := va_join (wr := [(h0, .inr (1, [.int 0, .int a1, .int a2, .int a3, .int (gx_X1_told_4 (fx_X1_byOutcome a1 p0 p1)), .int (gx_X1_told_5 p0), .int (gx_X1_told_6 a6 (fx_X1_byOutcome a1 p0 p1)), .int (gx_X1_told_7 a7 (fx_X1_byOutcome a1 p0 p1)), .int a8, .int 1, .int a10, .int a11, .ref h1]))]) (w1 := []) hP hD [] [0] rfl rfl (by decide) (by decide) hk1 hFc hP1 hD1
      generalize H1 = H at hP hS ⊢
      have hP : va_P (dC, dI) vwCl [(h0, .inr (1, [.int 0, .int a1, .int a2, .int a3, .int (gx_X1_told_4 (fx_X1_byOutcome a1 p0 p1)), .int (gx_X1_told_5 p0), .int (gx_X1_told_6 a6 (fx_X1_byOutcome a1 p0 p1)), .int (gx_X1_told_7 a7 (fx_X1_byOutcome a1 p0 p1)), .int a8, .int 1, .int a10, .int a11, .ref h1]))] H := hP
      have hD : va_D A [(h0, .inr (1, [.int 0, .int a1, .int a2, .int a3, .int (gx_X1_told_4 (fx_X1_byOutcome a1 p0 p1)), .int (gx_X1_told_5 p0), .int (gx_X1_told_6 a6 (fx_X1_byOutcome a1 p0 p1)), .int (gx_X1_told_7 a7 (fx_X1_byOutcome a1 p0 p1)), .int a8, .int 1, .int a10, .int a11, .ref h1]))] := hD
      refine lv_goto (tgt := 153) hx hb dX1_act_149 (by decide) ?_
      refine lv_istore (lv' := [(5, .int (fx_X1_moved (fx_X1_byOutcome a1 p0 p1))), (4, .int 1), (3, .int (fx_X1_byOutcome a1 p0 p1)), (0, .ref h0), (1, .int p0), (2, .int p1)]) hx hb dX1_act_153 hl (by decide) rfl (fun ls hl => ?_)
      refine lv_aload_n hx hb dX1_act_155 rfl (lv_at hl 3 rfl) ?_
      refine lv_iload hx hb dX1_act_156 (lv_at hl 0 rfl) ?_
      refine lv_if_eq (tgt := 168) hx hb dX1_act_158 (by decide) (fun c_79 => ?_) (fun c_79 => ?_)
      · refine lv_aload_n hx hb dX1_act_168 rfl (lv_at hl 3 rfl) ?_
        refine va_get (D := (dC, dI)) (ci := 1) (v := .int a3) (C := RX1) (T := TX1) (N := 13) hx hb hts (fun _ h => List.mem_cons_of_mem _ (List.mem_append_right _ h)) hown hK hP 0 rfl rfl 3 (by decide) (hts (.fieldLink RX1 50 "FileStatusModel" "position" "I") (by decide +kernel)) (fun _ h9 => h9) rfl dX1_act_169 ?_
        refine lv_goto (tgt := 177) hx hb dX1_act_172 (by decide) ?_
        refine va_put (D := (dC, dI)) (ci := 1) (v := .int a3) (ty := .int) (C := RX1) (T := TX1) (N := 13) hx hb hts (fun _ h => List.mem_cons_of_mem _ (List.mem_append_right _ h)) tyX1 tyX1_ok nmX1 hown hK hP hD hS 0 rfl rfl 3 (by decide) (hts (.fieldLink RX1 50 "FileStatusModel" "position" "I") (by decide +kernel)) (fun _ h9 => h9) rfl (by decide +kernel) rfl rfl (Nat.le_of_ble_eq_true rfl) dX1_act_177 (fun H locs hP hD hS => ?_)
        have hP : va_P (dC, dI) vwCl [(h0, .inr (1, [.int 0, .int a1, .int a2, .int a3, .int (gx_X1_told_4 (fx_X1_byOutcome a1 p0 p1)), .int (gx_X1_told_5 p0), .int (gx_X1_told_6 a6 (fx_X1_byOutcome a1 p0 p1)), .int (gx_X1_told_7 a7 (fx_X1_byOutcome a1 p0 p1)), .int a8, .int 1, .int a10, .int a11, .ref h1]))] H := hP
        have hD : va_D A [(h0, .inr (1, [.int 0, .int a1, .int a2, .int a3, .int (gx_X1_told_4 (fx_X1_byOutcome a1 p0 p1)), .int (gx_X1_told_5 p0), .int (gx_X1_told_6 a6 (fx_X1_byOutcome a1 p0 p1)), .int (gx_X1_told_7 a7 (fx_X1_byOutcome a1 p0 p1)), .int a8, .int 1, .int a10, .int a11, .ref h1]))] := hD
        refine lv_iload_n hx hb dX1_act_180 rfl (lv_at hl 4 rfl) ?_
        refine lv_bipush (v := 6) hx hb dX1_act_181 (by decide) ?_
        refine lv_icmp_ne (tgt := 195) hx hb dX1_act_183 (by decide) (fun c9 => ?_) (fun c9 => absurd (c_59.symm.trans c9) (by decide))
        refine lv_iload_n hx hb dX1_act_195 rfl (lv_at hl 2 rfl) ?_
        have hP9 := hP.sub (ws' := [(h0, .inr (1, [.int 0, .int a1, .int a2, .int a3, .int (gx_X1_told_4 (fx_X1_byOutcome a1 p0 p1)), .int (gx_X1_told_5 p0), .int (gx_X1_told_6 a6 (fx_X1_byOutcome a1 p0 p1)), .int (gx_X1_told_7 a7 (fx_X1_byOutcome a1 p0 p1)), .int a8, .int 1, .int a10, .int a11, .ref h1]))]) [0] rfl
        have hD9 := hD.sub (ws' := [(h0, .inr (1, [.int 0, .int a1, .int a2, .int a3, .int (gx_X1_told_4 (fx_X1_byOutcome a1 p0 p1)), .int (gx_X1_told_5 p0), .int (gx_X1_told_6 a6 (fx_X1_byOutcome a1 p0 p1)), .int (gx_X1_told_7 a7 (fx_X1_byOutcome a1 p0 p1)), .int a8, .int 1, .int a10, .int a11, .ref h1]))]) [0] (by decide) rfl
        have hK9 := hK.sub (tys' := []) [] rfl
        have eg_0 : gx_X1_act_0 = 0 := by rfl
        have eg_3 : gx_X1_act_3 a1 a2 a3 a8 a9 a11 p0 p1 = a3 := by unfold gx_X1_act_3; rw [if_neg c_1, if_pos c_2, if_pos c_4, if_neg c_56, if_pos c_59, if_pos c_79]
        have eg_4 : gx_X1_act_4 a1 a2 a3 a4 a8 a9 a11 p0 p1 = gx_X1_told_4 (fx_X1_byOutcome a1 p0 p1) := by unfold gx_X1_act_4; rw [if_neg c_1, if_pos c_2, if_pos c_4, if_neg c_56]
        have eg_5 : gx_X1_act_5 a5 p0 = gx_X1_told_5 p0 := by unfold gx_X1_act_5; rw [if_neg c_1, if_pos c_2]
        have eg_6 : gx_X1_act_6 a1 a2 a3 a6 a8 a9 a11 p0 p1 = gx_X1_told_6 a6 (fx_X1_byOutcome a1 p0 p1) := by unfold gx_X1_act_6; rw [if_neg c_1, if_pos c_2, if_pos c_4, if_neg c_56]
        have eg_7 : gx_X1_act_7 a1 a2 a3 a7 a8 a9 a11 p0 p1 = gx_X1_told_7 a7 (fx_X1_byOutcome a1 p0 p1) := by unfold gx_X1_act_7; rw [if_neg c_1, if_pos c_2, if_pos c_4, if_neg c_56]
        have eg_8 : gx_X1_act_8 a1 a2 a3 a8 a9 p0 p1 = a8 := by unfold gx_X1_act_8; rw [if_neg c_1, if_pos c_2, if_pos c_4, if_neg c_56, if_pos c_59]
        have eg_9 : gx_X1_act_9 a1 a2 a3 a8 a9 a11 p0 p1 = 1 := by unfold gx_X1_act_9; rw [if_neg c_1, if_pos c_2, if_pos c_4, if_neg c_56, if_pos c_59, if_neg c_66, if_neg c_70, if_pos c_74]
        have eg_11 : gx_X1_act_11 a1 a2 a3 a8 a9 a11 p0 p1 = a11 := by unfold gx_X1_act_11; rw [if_neg c_1, if_pos c_2, if_pos c_4, if_neg c_56]
        have ef : fx_X1_act a1 a2 a3 a8 a9 a11 p0 p1 = fx_X1_byOutcome a1 p0 p1 := by unfold fx_X1_act; rw [if_neg c_1, if_pos c_2, if_pos c_4, if_neg c_56]
        exact W.iret (v := fx_X1_byOutcome a1 p0 p1) hx hb hr (fun t ht hW => ⟨⟨(fx_X1_byOutcome a1 p0 p1), [(h0, .inr (1, [.int 0, .int a1, .int a2, .int a3, .int (gx_X1_told_4 (fx_X1_byOutcome a1 p0 p1)), .int (gx_X1_told_5 p0), .int (gx_X1_told_6 a6 (fx_X1_byOutcome a1 p0 p1)), .int (gx_X1_told_7 a7 (fx_X1_byOutcome a1 p0 p1)), .int a8, .int 1, .int a10, .int a11, .ref h1]))], rfl, ⟨ef.symm, by rw [eg_0, eg_3, eg_4, eg_5, eg_6, eg_7, eg_8, eg_9, eg_11]⟩, by rw [ht]; exact hP9, va_K.moved hW.alike hK9, hD9⟩, hS.F ht⟩) hS.2.2 dX1_act_196
      refine lv_aload_n hx hb dX1_act_161 rfl (lv_at hl 3 rfl) ?_
      refine va_get (D := (dC, dI)) (ci := 1) (v := .int a8) (C := RX1) (T := TX1) (N := 13) hx hb hts (fun _ h => List.mem_cons_of_mem _ (List.mem_append_right _ h)) hown hK hP 0 rfl rfl 8 (by decide) (hts (.fieldLink RX1 23 "FileStatusModel" "isOpen" "Z") (by decide +kernel)) (fun _ h9 => h9) rfl dX1_act_162 ?_
      refine lv_if_ne (tgt := 175) hx hb dX1_act_165 (by decide) (fun c_80 => ?_) (fun c_80 => ?_)
      · refine lv_iload hx hb dX1_act_175 (lv_at hl 0 rfl) ?_
        refine va_put (D := (dC, dI)) (ci := 1) (v := .int (fx_X1_moved (fx_X1_byOutcome a1 p0 p1))) (ty := .int) (C := RX1) (T := TX1) (N := 13) hx hb hts (fun _ h => List.mem_cons_of_mem _ (List.mem_append_right _ h)) tyX1 tyX1_ok nmX1 hown hK hP hD hS 0 rfl rfl 3 (by decide) (hts (.fieldLink RX1 50 "FileStatusModel" "position" "I") (by decide +kernel)) (fun _ h9 => h9) rfl (by decide +kernel) rfl rfl (Nat.le_of_ble_eq_true rfl) dX1_act_177 (fun H locs hP hD hS => ?_)
        have hP : va_P (dC, dI) vwCl [(h0, .inr (1, [.int 0, .int a1, .int a2, .int (fx_X1_moved (fx_X1_byOutcome a1 p0 p1)), .int (gx_X1_told_4 (fx_X1_byOutcome a1 p0 p1)), .int (gx_X1_told_5 p0), .int (gx_X1_told_6 a6 (fx_X1_byOutcome a1 p0 p1)), .int (gx_X1_told_7 a7 (fx_X1_byOutcome a1 p0 p1)), .int a8, .int 1, .int a10, .int a11, .ref h1]))] H := hP
        have hD : va_D A [(h0, .inr (1, [.int 0, .int a1, .int a2, .int (fx_X1_moved (fx_X1_byOutcome a1 p0 p1)), .int (gx_X1_told_4 (fx_X1_byOutcome a1 p0 p1)), .int (gx_X1_told_5 p0), .int (gx_X1_told_6 a6 (fx_X1_byOutcome a1 p0 p1)), .int (gx_X1_told_7 a7 (fx_X1_byOutcome a1 p0 p1)), .int a8, .int 1, .int a10, .int a11, .ref h1]))] := hD
        refine lv_iload_n hx hb dX1_act_180 rfl (lv_at hl 4 rfl) ?_
        refine lv_bipush (v := 6) hx hb dX1_act_181 (by decide) ?_
        refine lv_icmp_ne (tgt := 195) hx hb dX1_act_183 (by decide) (fun c9 => ?_) (fun c9 => absurd (c_59.symm.trans c9) (by decide))
        refine lv_iload_n hx hb dX1_act_195 rfl (lv_at hl 2 rfl) ?_
        have hP9 := hP.sub (ws' := [(h0, .inr (1, [.int 0, .int a1, .int a2, .int (fx_X1_moved (fx_X1_byOutcome a1 p0 p1)), .int (gx_X1_told_4 (fx_X1_byOutcome a1 p0 p1)), .int (gx_X1_told_5 p0), .int (gx_X1_told_6 a6 (fx_X1_byOutcome a1 p0 p1)), .int (gx_X1_told_7 a7 (fx_X1_byOutcome a1 p0 p1)), .int a8, .int 1, .int a10, .int a11, .ref h1]))]) [0] rfl
        have hD9 := hD.sub (ws' := [(h0, .inr (1, [.int 0, .int a1, .int a2, .int (fx_X1_moved (fx_X1_byOutcome a1 p0 p1)), .int (gx_X1_told_4 (fx_X1_byOutcome a1 p0 p1)), .int (gx_X1_told_5 p0), .int (gx_X1_told_6 a6 (fx_X1_byOutcome a1 p0 p1)), .int (gx_X1_told_7 a7 (fx_X1_byOutcome a1 p0 p1)), .int a8, .int 1, .int a10, .int a11, .ref h1]))]) [0] (by decide) rfl
        have hK9 := hK.sub (tys' := []) [] rfl
        have eg_0 : gx_X1_act_0 = 0 := by rfl
        have eg_3 : gx_X1_act_3 a1 a2 a3 a8 a9 a11 p0 p1 = fx_X1_moved (fx_X1_byOutcome a1 p0 p1) := by unfold gx_X1_act_3; rw [if_neg c_1, if_pos c_2, if_pos c_4, if_neg c_56, if_pos c_59, if_neg c_79, if_neg c_80]
        have eg_4 : gx_X1_act_4 a1 a2 a3 a4 a8 a9 a11 p0 p1 = gx_X1_told_4 (fx_X1_byOutcome a1 p0 p1) := by unfold gx_X1_act_4; rw [if_neg c_1, if_pos c_2, if_pos c_4, if_neg c_56]
        have eg_5 : gx_X1_act_5 a5 p0 = gx_X1_told_5 p0 := by unfold gx_X1_act_5; rw [if_neg c_1, if_pos c_2]
        have eg_6 : gx_X1_act_6 a1 a2 a3 a6 a8 a9 a11 p0 p1 = gx_X1_told_6 a6 (fx_X1_byOutcome a1 p0 p1) := by unfold gx_X1_act_6; rw [if_neg c_1, if_pos c_2, if_pos c_4, if_neg c_56]
        have eg_7 : gx_X1_act_7 a1 a2 a3 a7 a8 a9 a11 p0 p1 = gx_X1_told_7 a7 (fx_X1_byOutcome a1 p0 p1) := by unfold gx_X1_act_7; rw [if_neg c_1, if_pos c_2, if_pos c_4, if_neg c_56]
        have eg_8 : gx_X1_act_8 a1 a2 a3 a8 a9 p0 p1 = a8 := by unfold gx_X1_act_8; rw [if_neg c_1, if_pos c_2, if_pos c_4, if_neg c_56, if_pos c_59]
        have eg_9 : gx_X1_act_9 a1 a2 a3 a8 a9 a11 p0 p1 = 1 := by unfold gx_X1_act_9; rw [if_neg c_1, if_pos c_2, if_pos c_4, if_neg c_56, if_pos c_59, if_neg c_66, if_neg c_70, if_pos c_74]
        have eg_11 : gx_X1_act_11 a1 a2 a3 a8 a9 a11 p0 p1 = a11 := by unfold gx_X1_act_11; rw [if_neg c_1, if_pos c_2, if_pos c_4, if_neg c_56]
        have ef : fx_X1_act a1 a2 a3 a8 a9 a11 p0 p1 = fx_X1_byOutcome a1 p0 p1 := by unfold fx_X1_act; rw [if_neg c_1, if_pos c_2, if_pos c_4, if_neg c_56]
        exact W.iret (v := fx_X1_byOutcome a1 p0 p1) hx hb hr (fun t ht hW => ⟨⟨(fx_X1_byOutcome a1 p0 p1), [(h0, .inr (1, [.int 0, .int a1, .int a2, .int (fx_X1_moved (fx_X1_byOutcome a1 p0 p1)), .int (gx_X1_told_4 (fx_X1_byOutcome a1 p0 p1)), .int (gx_X1_told_5 p0), .int (gx_X1_told_6 a6 (fx_X1_byOutcome a1 p0 p1)), .int (gx_X1_told_7 a7 (fx_X1_byOutcome a1 p0 p1)), .int a8, .int 1, .int a10, .int a11, .ref h1]))], rfl, ⟨ef.symm, by rw [eg_0, eg_3, eg_4, eg_5, eg_6, eg_7, eg_8, eg_9, eg_11]⟩, by rw [ht]; exact hP9, va_K.moved hW.alike hK9, hD9⟩, hS.F ht⟩) hS.2.2 dX1_act_196
      refine lv_aload_n hx hb dX1_act_168 rfl (lv_at hl 3 rfl) ?_
      refine va_get (D := (dC, dI)) (ci := 1) (v := .int a3) (C := RX1) (T := TX1) (N := 13) hx hb hts (fun _ h => List.mem_cons_of_mem _ (List.mem_append_right _ h)) hown hK hP 0 rfl rfl 3 (by decide) (hts (.fieldLink RX1 50 "FileStatusModel" "position" "I") (by decide +kernel)) (fun _ h9 => h9) rfl dX1_act_169 ?_
      refine lv_goto (tgt := 177) hx hb dX1_act_172 (by decide) ?_
      refine va_put (D := (dC, dI)) (ci := 1) (v := .int a3) (ty := .int) (C := RX1) (T := TX1) (N := 13) hx hb hts (fun _ h => List.mem_cons_of_mem _ (List.mem_append_right _ h)) tyX1 tyX1_ok nmX1 hown hK hP hD hS 0 rfl rfl 3 (by decide) (hts (.fieldLink RX1 50 "FileStatusModel" "position" "I") (by decide +kernel)) (fun _ h9 => h9) rfl (by decide +kernel) rfl rfl (Nat.le_of_ble_eq_true rfl) dX1_act_177 (fun H locs hP hD hS => ?_)
      have hP : va_P (dC, dI) vwCl [(h0, .inr (1, [.int 0, .int a1, .int a2, .int a3, .int (gx_X1_told_4 (fx_X1_byOutcome a1 p0 p1)), .int (gx_X1_told_5 p0), .int (gx_X1_told_6 a6 (fx_X1_byOutcome a1 p0 p1)), .int (gx_X1_told_7 a7 (fx_X1_byOutcome a1 p0 p1)), .int a8, .int 1, .int a10, .int a11, .ref h1]))] H := hP
      have hD : va_D A [(h0, .inr (1, [.int 0, .int a1, .int a2, .int a3, .int (gx_X1_told_4 (fx_X1_byOutcome a1 p0 p1)), .int (gx_X1_told_5 p0), .int (gx_X1_told_6 a6 (fx_X1_byOutcome a1 p0 p1)), .int (gx_X1_told_7 a7 (fx_X1_byOutcome a1 p0 p1)), .int a8, .int 1, .int a10, .int a11, .ref h1]))] := hD
      refine lv_iload_n hx hb dX1_act_180 rfl (lv_at hl 4 rfl) ?_
      refine lv_bipush (v := 6) hx hb dX1_act_181 (by decide) ?_
      refine lv_icmp_ne (tgt := 195) hx hb dX1_act_183 (by decide) (fun c9 => ?_) (fun c9 => absurd (c_59.symm.trans c9) (by decide))
      refine lv_iload_n hx hb dX1_act_195 rfl (lv_at hl 2 rfl) ?_
      have hP9 := hP.sub (ws' := [(h0, .inr (1, [.int 0, .int a1, .int a2, .int a3, .int (gx_X1_told_4 (fx_X1_byOutcome a1 p0 p1)), .int (gx_X1_told_5 p0), .int (gx_X1_told_6 a6 (fx_X1_byOutcome a1 p0 p1)), .int (gx_X1_told_7 a7 (fx_X1_byOutcome a1 p0 p1)), .int a8, .int 1, .int a10, .int a11, .ref h1]))]) [0] rfl
      have hD9 := hD.sub (ws' := [(h0, .inr (1, [.int 0, .int a1, .int a2, .int a3, .int (gx_X1_told_4 (fx_X1_byOutcome a1 p0 p1)), .int (gx_X1_told_5 p0), .int (gx_X1_told_6 a6 (fx_X1_byOutcome a1 p0 p1)), .int (gx_X1_told_7 a7 (fx_X1_byOutcome a1 p0 p1)), .int a8, .int 1, .int a10, .int a11, .ref h1]))]) [0] (by decide) rfl
      have hK9 := hK.sub (tys' := []) [] rfl
      have eg_0 : gx_X1_act_0 = 0 := by rfl
      have eg_3 : gx_X1_act_3 a1 a2 a3 a8 a9 a11 p0 p1 = a3 := by unfold gx_X1_act_3; rw [if_neg c_1, if_pos c_2, if_pos c_4, if_neg c_56, if_pos c_59, if_neg c_79, if_pos c_80]
      have eg_4 : gx_X1_act_4 a1 a2 a3 a4 a8 a9 a11 p0 p1 = gx_X1_told_4 (fx_X1_byOutcome a1 p0 p1) := by unfold gx_X1_act_4; rw [if_neg c_1, if_pos c_2, if_pos c_4, if_neg c_56]
      have eg_5 : gx_X1_act_5 a5 p0 = gx_X1_told_5 p0 := by unfold gx_X1_act_5; rw [if_neg c_1, if_pos c_2]
      have eg_6 : gx_X1_act_6 a1 a2 a3 a6 a8 a9 a11 p0 p1 = gx_X1_told_6 a6 (fx_X1_byOutcome a1 p0 p1) := by unfold gx_X1_act_6; rw [if_neg c_1, if_pos c_2, if_pos c_4, if_neg c_56]
      have eg_7 : gx_X1_act_7 a1 a2 a3 a7 a8 a9 a11 p0 p1 = gx_X1_told_7 a7 (fx_X1_byOutcome a1 p0 p1) := by unfold gx_X1_act_7; rw [if_neg c_1, if_pos c_2, if_pos c_4, if_neg c_56]
      have eg_8 : gx_X1_act_8 a1 a2 a3 a8 a9 p0 p1 = a8 := by unfold gx_X1_act_8; rw [if_neg c_1, if_pos c_2, if_pos c_4, if_neg c_56, if_pos c_59]
      have eg_9 : gx_X1_act_9 a1 a2 a3 a8 a9 a11 p0 p1 = 1 := by unfold gx_X1_act_9; rw [if_neg c_1, if_pos c_2, if_pos c_4, if_neg c_56, if_pos c_59, if_neg c_66, if_neg c_70, if_pos c_74]
      have eg_11 : gx_X1_act_11 a1 a2 a3 a8 a9 a11 p0 p1 = a11 := by unfold gx_X1_act_11; rw [if_neg c_1, if_pos c_2, if_pos c_4, if_neg c_56]
      have ef : fx_X1_act a1 a2 a3 a8 a9 a11 p0 p1 = fx_X1_byOutcome a1 p0 p1 := by unfold fx_X1_act; rw [if_neg c_1, if_pos c_2, if_pos c_4, if_neg c_56]
      exact W.iret (v := fx_X1_byOutcome a1 p0 p1) hx hb hr (fun t ht hW => ⟨⟨(fx_X1_byOutcome a1 p0 p1), [(h0, .inr (1, [.int 0, .int a1, .int a2, .int a3, .int (gx_X1_told_4 (fx_X1_byOutcome a1 p0 p1)), .int (gx_X1_told_5 p0), .int (gx_X1_told_6 a6 (fx_X1_byOutcome a1 p0 p1)), .int (gx_X1_told_7 a7 (fx_X1_byOutcome a1 p0 p1)), .int a8, .int 1, .int a10, .int a11, .ref h1]))], rfl, ⟨ef.symm, by rw [eg_0, eg_3, eg_4, eg_5, eg_6, eg_7, eg_8, eg_9, eg_11]⟩, by rw [ht]; exact hP9, va_K.moved hW.alike hK9, hD9⟩, hS.F ht⟩) hS.2.2 dX1_act_196
    refine lv_aload_n hx hb dX1_act_32 rfl (lv_at hl 1 rfl) ?_
    refine va_get (D := (dC, dI)) (ci := 1) (v := .int a11) (C := RX1) (T := TX1) (N := 13) hx hb hts (fun _ h => List.mem_cons_of_mem _ (List.mem_append_right _ h)) hown hK hP 0 rfl rfl 11 (by decide) (hts (.fieldLink RX1 53 "FileStatusModel" "nothing" "Z") (by decide +kernel)) (fun _ h9 => h9) rfl dX1_act_33 ?_
    refine lv_if_eq (tgt := 44) hx hb dX1_act_36 (by decide) (fun c_81 => ?_) (fun c_81 => ?_)
    · refine lv_aload_n hx hb dX1_act_44 rfl (lv_at hl 1 rfl) ?_
      refine lv_iload_n hx hb dX1_act_45 rfl (lv_at hl 2 rfl) ?_
      refine lv_iload_n hx hb dX1_act_46 rfl (lv_at hl 3 rfl) ?_
      have hPc := hP.sub (ws' := [(h0, .inr (1, [.int 0, .int a1, .int a2, .int a3, .int a4, .int a5, .int a6, .int a7, .int a8, .int a9, .int a10, .int a11, .ref h1]))]) [0] rfl
      have hDc := hD.sub (ws' := [(h0, .inr (1, [.int 0, .int a1, .int a2, .int a3, .int a4, .int a5, .int a6, .int a7, .int a8, .int a9, .int a10, .int a11, .ref h1]))]) [0] (by decide) rfl
      have hKc := hK.sub (tys' := []) [] rfl
      have hFc := va_free (wc := [(h0, .inr (1, [.int 0, .int a1, .int a2, .int a3, .int a4, .int a5, .int a6, .int a7, .int a8, .int a9, .int a10, .int a11, .ref h1]))]) hD hS hA [0] rfl
      refine va_calli (va_runV (As := [.int p0, .int p1]) (rest := []) ⟨hx, hb, hml, hown, hts⟩ (ct_X1_byOutcome l dC dI h0 h1 H.size 0 a1 a2 a3 a4 a5 a6 a7 a8 a9 a10 a11 p0 p1) (cwV 2 hts gX1_act_X1_byOutcome rfl rfl rfl (by decide +kernel) ⟨Nat.le_of_ble_eq_true rfl, Nat.le_of_ble_eq_true rfl⟩) ⟨fun a U g mk q => by obtain ⟨q0, q1, qP, qK, qD⟩ := q; exact ⟨q0, q1, qP, va_K.moved (u := U) (U := U.calling g mk a) (Vm.Alike.refl U.vm) qK, qD⟩, va_recv hKc hPc (ci := 1) (q0 := 0) rfl rfl, fun U hU hW => ⟨rfl, by rw [hU], by rw [hU]; exact hPc, va_K.moved hW.alike hKc, hDc.weaken (fun _ _ _ _ => trivial)⟩⟩ rfl rfl hl.1 rfl (lv_room (Nat.le_of_ble_eq_true rfl)) dX1_act_47 ⟨(Nat.zero_le _), (Nat.zero_le _)⟩) hS (fun q _ h => hFc q h) hFc (fun r_82 u t H1 locs ht hvm hw hB hz1 hk1 hS => ?_)
      obtain ⟨er, hu⟩ := hw
      subst hu
      subst er
      obtain ⟨hP1, -, hD1⟩ := hB
      rw [ht] at hP1
      obtain ⟨hP, hD⟩ := va_join (wr := []) (w1 := [(h0, .inr (1, [.int 0, .int a1, .int a2, .int a3, .int a4, .int a5, .int a6, .int a7, .int a8, .int a9, .int a10, .int a11, .ref h1]))]) hP hD [0] [] rfl rfl (by decide) (by decide) hk1 hFc hP1 hD1
      generalize H1 = H at hP hS ⊢
      have hP : va_P (dC, dI) vwCl [(h0, .inr (1, [.int 0, .int a1, .int a2, .int a3, .int a4, .int a5, .int a6, .int a7, .int a8, .int a9, .int a10, .int a11, .ref h1]))] H := hP
      have hD : va_D A [(h0, .inr (1, [.int 0, .int a1, .int a2, .int a3, .int a4, .int a5, .int a6, .int a7, .int a8, .int a9, .int a10, .int a11, .ref h1]))] := hD
      refine lv_istore_n (lv' := [(3, .int (fx_X1_byOutcome a1 p0 p1)), (0, .ref h0), (1, .int p0), (2, .int p1)]) hx hb dX1_act_50 rfl hl (by decide) rfl (fun ls hl => ?_)
      refine lv_aload_n hx hb dX1_act_51 rfl (lv_at hl 1 rfl) ?_
      refine lv_iload_n hx hb dX1_act_52 rfl (lv_at hl 0 rfl) ?_
      refine lv_iload_n hx hb dX1_act_53 rfl (lv_at hl 2 rfl) ?_
      have hPc := hP.sub (ws' := [(h0, .inr (1, [.int 0, .int a1, .int a2, .int a3, .int a4, .int a5, .int a6, .int a7, .int a8, .int a9, .int a10, .int a11, .ref h1]))]) [0] rfl
      have hDc := hD.sub (ws' := [(h0, .inr (1, [.int 0, .int a1, .int a2, .int a3, .int a4, .int a5, .int a6, .int a7, .int a8, .int a9, .int a10, .int a11, .ref h1]))]) [0] (by decide) rfl
      have hKc := hK.sub (tys' := []) [] rfl
      have hFc := va_free (wc := [(h0, .inr (1, [.int 0, .int a1, .int a2, .int a3, .int a4, .int a5, .int a6, .int a7, .int a8, .int a9, .int a10, .int a11, .ref h1]))]) hD hS hA [0] rfl
      refine va_calli (va_runV (As := [.int (fx_X1_byOutcome a1 p0 p1), .int p0]) (rest := []) ⟨hx, hb, hml, hown, hts⟩ (ct_X1_told l dC dI h0 h1 H.size 0 a1 a2 a3 a4 a5 a6 a7 a8 a9 a10 a11 (fx_X1_byOutcome a1 p0 p1) p0) (cwV 2 hts gX1_act_X1_told rfl rfl rfl (by decide +kernel) ⟨Nat.le_of_ble_eq_true rfl, Nat.le_of_ble_eq_true rfl⟩) ⟨fun a U g mk q => by obtain ⟨q0, q1, qP, qK, qD⟩ := q; exact ⟨q0, q1, qP, va_K.moved (u := U) (U := U.calling g mk a) (Vm.Alike.refl U.vm) qK, qD⟩, va_recv hKc hPc (ci := 1) (q0 := 0) rfl rfl, fun U hU hW => ⟨rfl, by rw [hU], by rw [hU]; exact hPc, va_K.moved hW.alike hKc, hDc.weaken (fun _ _ _ _ => trivial)⟩⟩ rfl rfl hl.1 rfl (lv_room (Nat.le_of_ble_eq_true rfl)) dX1_act_54 ⟨(Nat.zero_le _), (Nat.zero_le _)⟩) hS (fun q _ h => hFc q h) hFc (fun r_83 u t H1 locs ht hvm hw hB hz1 hk1 hS => ?_)
      obtain ⟨er, hu⟩ := hw
      subst hu
      subst er
      obtain ⟨hP1, -, hD1⟩ := hB
      rw [ht] at hP1
      obtain ⟨hP, hD⟩ := va_join (wr := []) (w1 := [(h0, .inr (1, [.int 0, .int a1, .int a2, .int a3, .int (gx_X1_told_4 (fx_X1_byOutcome a1 p0 p1)), .int (gx_X1_told_5 p0), .int (gx_X1_told_6 a6 (fx_X1_byOutcome a1 p0 p1)), .int (gx_X1_told_7 a7 (fx_X1_byOutcome a1 p0 p1)), .int a8, .int a9, .int a10, .int a11, .ref h1]))]) hP hD [0] [] rfl rfl (by decide) (by decide) hk1 hFc hP1 hD1
      generalize H1 = H at hP hS ⊢
      have hP : va_P (dC, dI) vwCl [(h0, .inr (1, [.int 0, .int a1, .int a2, .int a3, .int (gx_X1_told_4 (fx_X1_byOutcome a1 p0 p1)), .int (gx_X1_told_5 p0), .int (gx_X1_told_6 a6 (fx_X1_byOutcome a1 p0 p1)), .int (gx_X1_told_7 a7 (fx_X1_byOutcome a1 p0 p1)), .int a8, .int a9, .int a10, .int a11, .ref h1]))] H := hP
      have hD : va_D A [(h0, .inr (1, [.int 0, .int a1, .int a2, .int a3, .int (gx_X1_told_4 (fx_X1_byOutcome a1 p0 p1)), .int (gx_X1_told_5 p0), .int (gx_X1_told_6 a6 (fx_X1_byOutcome a1 p0 p1)), .int (gx_X1_told_7 a7 (fx_X1_byOutcome a1 p0 p1)), .int a8, .int a9, .int a10, .int a11, .ref h1]))] := hD
      refine lv_pop hx hb dX1_act_57 rfl ?_
      refine lv_aload_n hx hb dX1_act_58 rfl (lv_at hl 1 rfl) ?_
      refine lv_iload_n hx hb dX1_act_59 rfl (lv_at hl 2 rfl) ?_
      refine lv_if_eq (tgt := 68) hx hb dX1_act_60 (by decide) (fun c9 => ?_) (fun c9 => absurd c_56 c9)
      refine lv_iload_n hx hb dX1_act_68 rfl (lv_at hl 0 rfl) ?_
      refine lv_if_eq (tgt := 82) hx hb dX1_act_69 (by decide) (fun c_84 => ?_) (fun c_84 => ?_)
      · refine lv_iconst (v := 1) hx hb dX1_act_82 (by decide) ?_
        refine lv_goto (tgt := 87) hx hb dX1_act_83 (by decide) ?_
        refine va_put (D := (dC, dI)) (ci := 1) (v := .int 1) (ty := .boolean) (C := RX1) (T := TX1) (N := 13) hx hb hts (fun _ h => List.mem_cons_of_mem _ (List.mem_append_right _ h)) tyX1 tyX1_ok nmX1 hown hK hP hD hS 0 rfl rfl 9 (by decide) (hts (.fieldLink RX1 47 "FileStatusModel" "permit" "Z") (by decide +kernel)) (fun _ h9 => h9) rfl (by decide +kernel) rfl rfl (Nat.le_of_ble_eq_true rfl) dX1_act_87 (fun H locs hP hD hS => ?_)
        have hP : va_P (dC, dI) vwCl [(h0, .inr (1, [.int 0, .int a1, .int a2, .int a3, .int (gx_X1_told_4 (fx_X1_byOutcome a1 p0 p1)), .int (gx_X1_told_5 p0), .int (gx_X1_told_6 a6 (fx_X1_byOutcome a1 p0 p1)), .int (gx_X1_told_7 a7 (fx_X1_byOutcome a1 p0 p1)), .int a8, .int 1, .int a10, .int a11, .ref h1]))] H := hP
        have hD : va_D A [(h0, .inr (1, [.int 0, .int a1, .int a2, .int a3, .int (gx_X1_told_4 (fx_X1_byOutcome a1 p0 p1)), .int (gx_X1_told_5 p0), .int (gx_X1_told_6 a6 (fx_X1_byOutcome a1 p0 p1)), .int (gx_X1_told_7 a7 (fx_X1_byOutcome a1 p0 p1)), .int a8, .int 1, .int a10, .int a11, .ref h1]))] := hD
        refine lv_iload_n hx hb dX1_act_90 rfl (lv_at hl 2 rfl) ?_
        refine lv_if_ne (tgt := 119) hx hb dX1_act_91 (by decide) (fun c9 => absurd c_56 c9) (fun c9 => ?_)
        refine lv_aload_n hx hb dX1_act_94 rfl (lv_at hl 1 rfl) ?_
        refine va_get (D := (dC, dI)) (ci := 1) (v := .int a8) (C := RX1) (T := TX1) (N := 13) hx hb hts (fun _ h => List.mem_cons_of_mem _ (List.mem_append_right _ h)) hown hK hP 0 rfl rfl 8 (by decide) (hts (.fieldLink RX1 23 "FileStatusModel" "isOpen" "Z") (by decide +kernel)) (fun _ h9 => h9) rfl dX1_act_95 ?_
        refine lv_if_eq (tgt := 119) hx hb dX1_act_98 (by decide) (fun c_85 => ?_) (fun c_85 => ?_)
        · refine lv_iload_n hx hb dX1_act_119 rfl (lv_at hl 2 rfl) ?_
          refine lv_if_eq (tgt := 133) hx hb dX1_act_120 (by decide) (fun c9 => ?_) (fun c9 => absurd c_56 c9)
          refine lv_iconst (v := 1) hx hb dX1_act_133 (by decide) ?_
          refine lv_goto (tgt := 138) hx hb dX1_act_134 (by decide) ?_
          refine lv_istore (lv' := [(4, .int 1), (3, .int (fx_X1_byOutcome a1 p0 p1)), (0, .ref h0), (1, .int p0), (2, .int p1)]) hx hb dX1_act_138 hl (by decide) rfl (fun ls hl => ?_)
          refine lv_iload hx hb dX1_act_140 (lv_at hl 0 rfl) ?_
          refine lv_if_eq (tgt := 152) hx hb dX1_act_142 (by decide) (fun c9 => absurd c9 (by decide)) (fun c9 => ?_)
          refine lv_iload_n hx hb dX1_act_145 rfl (lv_at hl 1 rfl) ?_
          have hPc := hP.sub (ws' := []) [] rfl
          have hDc := hD.sub (ws' := []) [] (by decide) rfl
          have hKc := hK.sub (tys' := []) [] rfl
          have hFc := va_free (wc := []) hD hS hA [] rfl
          refine va_calli (va_runS (As := [.int (fx_X1_byOutcome a1 p0 p1)]) (rest := []) ⟨hx, hb, hml, hown, hts⟩ (ct_X1_moved l dC dI H.size (fx_X1_byOutcome a1 p0 p1)) (va_cwS 1 hts gX1_act_X1_moved rfl rfl rfl (by decide +kernel) ⟨Nat.le_of_ble_eq_true rfl, Nat.le_of_ble_eq_true rfl⟩) ⟨fun a U g mk q => by obtain ⟨q0, q1, qP, qK, qD⟩ := q; exact ⟨q0, q1, qP, va_K.moved (u := U) (U := U.calling g mk a) (Vm.Alike.refl U.vm) qK, qD⟩, fun U hU hW => ⟨rfl, by rw [hU], by rw [hU]; exact hPc, va_K.moved hW.alike hKc, hDc.weaken (fun _ _ _ _ => trivial)⟩⟩ rfl rfl hl.1 rfl (lv_room (Nat.le_of_ble_eq_true rfl)) dX1_act_146 ⟨(Nat.zero_le _), (Nat.zero_le _)⟩) hS (fun q _ h => hFc q h) hFc (fun r_86 u t H1 locs ht hvm hw hB hz1 hk1 hS => ?_)
          obtain ⟨er, hu⟩ := hw
          subst hu
          subst er
          obtain ⟨hP1, -, hD1⟩ := hB
          rw [ht] at hP1
          obtain ⟨hP, hD⟩ := va_join (wr := [(h0, .inr (1, [.int 0, .int a1, .int a2, .int a3, .int (gx_X1_told_4 (fx_X1_byOutcome a1 p0 p1)), .int (gx_X1_told_5 p0), .int (gx_X1_told_6 a6 (fx_X1_byOutcome a1 p0 p1)), .int (gx_X1_told_7 a7 (fx_X1_byOutcome a1 p0 p1)), .int a8, .int 1, .int a10, .int a11, .ref h1]))]) (w1 := []) hP hD [] [0] rfl rfl (by decide) (by decide) hk1 hFc hP1 hD1
          generalize H1 = H at hP hS ⊢
          have hP : va_P (dC, dI) vwCl [(h0, .inr (1, [.int 0, .int a1, .int a2, .int a3, .int (gx_X1_told_4 (fx_X1_byOutcome a1 p0 p1)), .int (gx_X1_told_5 p0), .int (gx_X1_told_6 a6 (fx_X1_byOutcome a1 p0 p1)), .int (gx_X1_told_7 a7 (fx_X1_byOutcome a1 p0 p1)), .int a8, .int 1, .int a10, .int a11, .ref h1]))] H := hP
          have hD : va_D A [(h0, .inr (1, [.int 0, .int a1, .int a2, .int a3, .int (gx_X1_told_4 (fx_X1_byOutcome a1 p0 p1)), .int (gx_X1_told_5 p0), .int (gx_X1_told_6 a6 (fx_X1_byOutcome a1 p0 p1)), .int (gx_X1_told_7 a7 (fx_X1_byOutcome a1 p0 p1)), .int a8, .int 1, .int a10, .int a11, .ref h1]))] := hD
          refine lv_goto (tgt := 153) hx hb dX1_act_149 (by decide) ?_
          refine lv_istore (lv' := [(5, .int (fx_X1_moved (fx_X1_byOutcome a1 p0 p1))), (4, .int 1), (3, .int (fx_X1_byOutcome a1 p0 p1)), (0, .ref h0), (1, .int p0), (2, .int p1)]) hx hb dX1_act_153 hl (by decide) rfl (fun ls hl => ?_)
          refine lv_aload_n hx hb dX1_act_155 rfl (lv_at hl 3 rfl) ?_
          refine lv_iload hx hb dX1_act_156 (lv_at hl 0 rfl) ?_
          refine lv_if_eq (tgt := 168) hx hb dX1_act_158 (by decide) (fun c_87 => ?_) (fun c_87 => ?_)
          · refine lv_aload_n hx hb dX1_act_168 rfl (lv_at hl 3 rfl) ?_
            refine va_get (D := (dC, dI)) (ci := 1) (v := .int a3) (C := RX1) (T := TX1) (N := 13) hx hb hts (fun _ h => List.mem_cons_of_mem _ (List.mem_append_right _ h)) hown hK hP 0 rfl rfl 3 (by decide) (hts (.fieldLink RX1 50 "FileStatusModel" "position" "I") (by decide +kernel)) (fun _ h9 => h9) rfl dX1_act_169 ?_
            refine lv_goto (tgt := 177) hx hb dX1_act_172 (by decide) ?_
            refine va_put (D := (dC, dI)) (ci := 1) (v := .int a3) (ty := .int) (C := RX1) (T := TX1) (N := 13) hx hb hts (fun _ h => List.mem_cons_of_mem _ (List.mem_append_right _ h)) tyX1 tyX1_ok nmX1 hown hK hP hD hS 0 rfl rfl 3 (by decide) (hts (.fieldLink RX1 50 "FileStatusModel" "position" "I") (by decide +kernel)) (fun _ h9 => h9) rfl (by decide +kernel) rfl rfl (Nat.le_of_ble_eq_true rfl) dX1_act_177 (fun H locs hP hD hS => ?_)
            have hP : va_P (dC, dI) vwCl [(h0, .inr (1, [.int 0, .int a1, .int a2, .int a3, .int (gx_X1_told_4 (fx_X1_byOutcome a1 p0 p1)), .int (gx_X1_told_5 p0), .int (gx_X1_told_6 a6 (fx_X1_byOutcome a1 p0 p1)), .int (gx_X1_told_7 a7 (fx_X1_byOutcome a1 p0 p1)), .int a8, .int 1, .int a10, .int a11, .ref h1]))] H := hP
            have hD : va_D A [(h0, .inr (1, [.int 0, .int a1, .int a2, .int a3, .int (gx_X1_told_4 (fx_X1_byOutcome a1 p0 p1)), .int (gx_X1_told_5 p0), .int (gx_X1_told_6 a6 (fx_X1_byOutcome a1 p0 p1)), .int (gx_X1_told_7 a7 (fx_X1_byOutcome a1 p0 p1)), .int a8, .int 1, .int a10, .int a11, .ref h1]))] := hD
            refine lv_iload_n hx hb dX1_act_180 rfl (lv_at hl 4 rfl) ?_
            refine lv_bipush (v := 6) hx hb dX1_act_181 (by decide) ?_
            refine lv_icmp_ne (tgt := 195) hx hb dX1_act_183 (by decide) (fun c9 => ?_) (fun c9 => absurd (c_56.symm.trans c9) (by decide))
            refine lv_iload_n hx hb dX1_act_195 rfl (lv_at hl 2 rfl) ?_
            have hP9 := hP.sub (ws' := [(h0, .inr (1, [.int 0, .int a1, .int a2, .int a3, .int (gx_X1_told_4 (fx_X1_byOutcome a1 p0 p1)), .int (gx_X1_told_5 p0), .int (gx_X1_told_6 a6 (fx_X1_byOutcome a1 p0 p1)), .int (gx_X1_told_7 a7 (fx_X1_byOutcome a1 p0 p1)), .int a8, .int 1, .int a10, .int a11, .ref h1]))]) [0] rfl
            have hD9 := hD.sub (ws' := [(h0, .inr (1, [.int 0, .int a1, .int a2, .int a3, .int (gx_X1_told_4 (fx_X1_byOutcome a1 p0 p1)), .int (gx_X1_told_5 p0), .int (gx_X1_told_6 a6 (fx_X1_byOutcome a1 p0 p1)), .int (gx_X1_told_7 a7 (fx_X1_byOutcome a1 p0 p1)), .int a8, .int 1, .int a10, .int a11, .ref h1]))]) [0] (by decide) rfl
            have hK9 := hK.sub (tys' := []) [] rfl
            have eg_0 : gx_X1_act_0 = 0 := by rfl
            have eg_3 : gx_X1_act_3 a1 a2 a3 a8 a9 a11 p0 p1 = a3 := by unfold gx_X1_act_3; rw [if_neg c_1, if_pos c_2, if_pos c_4, if_pos c_56, if_pos c_81, if_pos c_85]
            have eg_4 : gx_X1_act_4 a1 a2 a3 a4 a8 a9 a11 p0 p1 = gx_X1_told_4 (fx_X1_byOutcome a1 p0 p1) := by unfold gx_X1_act_4; rw [if_neg c_1, if_pos c_2, if_pos c_4, if_pos c_56, if_pos c_81]
            have eg_5 : gx_X1_act_5 a5 p0 = gx_X1_told_5 p0 := by unfold gx_X1_act_5; rw [if_neg c_1, if_pos c_2]
            have eg_6 : gx_X1_act_6 a1 a2 a3 a6 a8 a9 a11 p0 p1 = gx_X1_told_6 a6 (fx_X1_byOutcome a1 p0 p1) := by unfold gx_X1_act_6; rw [if_neg c_1, if_pos c_2, if_pos c_4, if_pos c_56, if_pos c_81]
            have eg_7 : gx_X1_act_7 a1 a2 a3 a7 a8 a9 a11 p0 p1 = gx_X1_told_7 a7 (fx_X1_byOutcome a1 p0 p1) := by unfold gx_X1_act_7; rw [if_neg c_1, if_pos c_2, if_pos c_4, if_pos c_56, if_pos c_81]
            have eg_8 : gx_X1_act_8 a1 a2 a3 a8 a9 p0 p1 = a8 := by unfold gx_X1_act_8; rw [if_neg c_1, if_pos c_2, if_pos c_4, if_pos c_56]
            have eg_9 : gx_X1_act_9 a1 a2 a3 a8 a9 a11 p0 p1 = 1 := by unfold gx_X1_act_9; rw [if_neg c_1, if_pos c_2, if_pos c_4, if_pos c_56, if_pos c_81, if_pos c_84]
            have eg_11 : gx_X1_act_11 a1 a2 a3 a8 a9 a11 p0 p1 = a11 := by unfold gx_X1_act_11; rw [if_neg c_1, if_pos c_2, if_pos c_4, if_pos c_56, if_pos c_81, if_pos c_84]
            have ef : fx_X1_act a1 a2 a3 a8 a9 a11 p0 p1 = fx_X1_byOutcome a1 p0 p1 := by unfold fx_X1_act; rw [if_neg c_1, if_pos c_2, if_pos c_4, if_pos c_56, if_pos c_81]
            exact W.iret (v := fx_X1_byOutcome a1 p0 p1) hx hb hr (fun t ht hW => ⟨⟨(fx_X1_byOutcome a1 p0 p1), [(h0, .inr (1, [.int 0, .int a1, .int a2, .int a3, .int (gx_X1_told_4 (fx_X1_byOutcome a1 p0 p1)), .int (gx_X1_told_5 p0), .int (gx_X1_told_6 a6 (fx_X1_byOutcome a1 p0 p1)), .int (gx_X1_told_7 a7 (fx_X1_byOutcome a1 p0 p1)), .int a8, .int 1, .int a10, .int a11, .ref h1]))], rfl, ⟨ef.symm, by rw [eg_0, eg_3, eg_4, eg_5, eg_6, eg_7, eg_8, eg_9, eg_11]⟩, by rw [ht]; exact hP9, va_K.moved hW.alike hK9, hD9⟩, hS.F ht⟩) hS.2.2 dX1_act_196
          refine lv_aload_n hx hb dX1_act_161 rfl (lv_at hl 3 rfl) ?_
          refine va_get (D := (dC, dI)) (ci := 1) (v := .int a8) (C := RX1) (T := TX1) (N := 13) hx hb hts (fun _ h => List.mem_cons_of_mem _ (List.mem_append_right _ h)) hown hK hP 0 rfl rfl 8 (by decide) (hts (.fieldLink RX1 23 "FileStatusModel" "isOpen" "Z") (by decide +kernel)) (fun _ h9 => h9) rfl dX1_act_162 ?_
          refine lv_if_ne (tgt := 175) hx hb dX1_act_165 (by decide) (fun c9 => absurd c_85 c9) (fun c9 => ?_)
          refine lv_aload_n hx hb dX1_act_168 rfl (lv_at hl 3 rfl) ?_
          refine va_get (D := (dC, dI)) (ci := 1) (v := .int a3) (C := RX1) (T := TX1) (N := 13) hx hb hts (fun _ h => List.mem_cons_of_mem _ (List.mem_append_right _ h)) hown hK hP 0 rfl rfl 3 (by decide) (hts (.fieldLink RX1 50 "FileStatusModel" "position" "I") (by decide +kernel)) (fun _ h9 => h9) rfl dX1_act_169 ?_
          refine lv_goto (tgt := 177) hx hb dX1_act_172 (by decide) ?_
          refine va_put (D := (dC, dI)) (ci := 1) (v := .int a3) (ty := .int) (C := RX1) (T := TX1) (N := 13) hx hb hts (fun _ h => List.mem_cons_of_mem _ (List.mem_append_right _ h)) tyX1 tyX1_ok nmX1 hown hK hP hD hS 0 rfl rfl 3 (by decide) (hts (.fieldLink RX1 50 "FileStatusModel" "position" "I") (by decide +kernel)) (fun _ h9 => h9) rfl (by decide +kernel) rfl rfl (Nat.le_of_ble_eq_true rfl) dX1_act_177 (fun H locs hP hD hS => ?_)
          have hP : va_P (dC, dI) vwCl [(h0, .inr (1, [.int 0, .int a1, .int a2, .int a3, .int (gx_X1_told_4 (fx_X1_byOutcome a1 p0 p1)), .int (gx_X1_told_5 p0), .int (gx_X1_told_6 a6 (fx_X1_byOutcome a1 p0 p1)), .int (gx_X1_told_7 a7 (fx_X1_byOutcome a1 p0 p1)), .int a8, .int 1, .int a10, .int a11, .ref h1]))] H := hP
          have hD : va_D A [(h0, .inr (1, [.int 0, .int a1, .int a2, .int a3, .int (gx_X1_told_4 (fx_X1_byOutcome a1 p0 p1)), .int (gx_X1_told_5 p0), .int (gx_X1_told_6 a6 (fx_X1_byOutcome a1 p0 p1)), .int (gx_X1_told_7 a7 (fx_X1_byOutcome a1 p0 p1)), .int a8, .int 1, .int a10, .int a11, .ref h1]))] := hD
          refine lv_iload_n hx hb dX1_act_180 rfl (lv_at hl 4 rfl) ?_
          refine lv_bipush (v := 6) hx hb dX1_act_181 (by decide) ?_
          refine lv_icmp_ne (tgt := 195) hx hb dX1_act_183 (by decide) (fun c9 => ?_) (fun c9 => absurd (c_56.symm.trans c9) (by decide))
          refine lv_iload_n hx hb dX1_act_195 rfl (lv_at hl 2 rfl) ?_
          have hP9 := hP.sub (ws' := [(h0, .inr (1, [.int 0, .int a1, .int a2, .int a3, .int (gx_X1_told_4 (fx_X1_byOutcome a1 p0 p1)), .int (gx_X1_told_5 p0), .int (gx_X1_told_6 a6 (fx_X1_byOutcome a1 p0 p1)), .int (gx_X1_told_7 a7 (fx_X1_byOutcome a1 p0 p1)), .int a8, .int 1, .int a10, .int a11, .ref h1]))]) [0] rfl
          have hD9 := hD.sub (ws' := [(h0, .inr (1, [.int 0, .int a1, .int a2, .int a3, .int (gx_X1_told_4 (fx_X1_byOutcome a1 p0 p1)), .int (gx_X1_told_5 p0), .int (gx_X1_told_6 a6 (fx_X1_byOutcome a1 p0 p1)), .int (gx_X1_told_7 a7 (fx_X1_byOutcome a1 p0 p1)), .int a8, .int 1, .int a10, .int a11, .ref h1]))]) [0] (by decide) rfl
          have hK9 := hK.sub (tys' := []) [] rfl
          have eg_0 : gx_X1_act_0 = 0 := by rfl
          have eg_3 : gx_X1_act_3 a1 a2 a3 a8 a9 a11 p0 p1 = a3 := by unfold gx_X1_act_3; rw [if_neg c_1, if_pos c_2, if_pos c_4, if_pos c_56, if_pos c_81, if_pos c_85]
          have eg_4 : gx_X1_act_4 a1 a2 a3 a4 a8 a9 a11 p0 p1 = gx_X1_told_4 (fx_X1_byOutcome a1 p0 p1) := by unfold gx_X1_act_4; rw [if_neg c_1, if_pos c_2, if_pos c_4, if_pos c_56, if_pos c_81]
          have eg_5 : gx_X1_act_5 a5 p0 = gx_X1_told_5 p0 := by unfold gx_X1_act_5; rw [if_neg c_1, if_pos c_2]
          have eg_6 : gx_X1_act_6 a1 a2 a3 a6 a8 a9 a11 p0 p1 = gx_X1_told_6 a6 (fx_X1_byOutcome a1 p0 p1) := by unfold gx_X1_act_6; rw [if_neg c_1, if_pos c_2, if_pos c_4, if_pos c_56, if_pos c_81]
          have eg_7 : gx_X1_act_7 a1 a2 a3 a7 a8 a9 a11 p0 p1 = gx_X1_told_7 a7 (fx_X1_byOutcome a1 p0 p1) := by unfold gx_X1_act_7; rw [if_neg c_1, if_pos c_2, if_pos c_4, if_pos c_56, if_pos c_81]
          have eg_8 : gx_X1_act_8 a1 a2 a3 a8 a9 p0 p1 = a8 := by unfold gx_X1_act_8; rw [if_neg c_1, if_pos c_2, if_pos c_4, if_pos c_56]
          have eg_9 : gx_X1_act_9 a1 a2 a3 a8 a9 a11 p0 p1 = 1 := by unfold gx_X1_act_9; rw [if_neg c_1, if_pos c_2, if_pos c_4, if_pos c_56, if_pos c_81, if_pos c_84]
          have eg_11 : gx_X1_act_11 a1 a2 a3 a8 a9 a11 p0 p1 = a11 := by unfold gx_X1_act_11; rw [if_neg c_1, if_pos c_2, if_pos c_4, if_pos c_56, if_pos c_81, if_pos c_84]
          have ef : fx_X1_act a1 a2 a3 a8 a9 a11 p0 p1 = fx_X1_byOutcome a1 p0 p1 := by unfold fx_X1_act; rw [if_neg c_1, if_pos c_2, if_pos c_4, if_pos c_56, if_pos c_81]
          exact W.iret (v := fx_X1_byOutcome a1 p0 p1) hx hb hr (fun t ht hW => ⟨⟨(fx_X1_byOutcome a1 p0 p1), [(h0, .inr (1, [.int 0, .int a1, .int a2, .int a3, .int (gx_X1_told_4 (fx_X1_byOutcome a1 p0 p1)), .int (gx_X1_told_5 p0), .int (gx_X1_told_6 a6 (fx_X1_byOutcome a1 p0 p1)), .int (gx_X1_told_7 a7 (fx_X1_byOutcome a1 p0 p1)), .int a8, .int 1, .int a10, .int a11, .ref h1]))], rfl, ⟨ef.symm, by rw [eg_0, eg_3, eg_4, eg_5, eg_6, eg_7, eg_8, eg_9, eg_11]⟩, by rw [ht]; exact hP9, va_K.moved hW.alike hK9, hD9⟩, hS.F ht⟩) hS.2.2 dX1_act_196
        refine lv_aload_n hx hb dX1_act_101 rfl (lv_at hl 1 rfl) ?_
        have hPc := hP.sub (ws' := [(h0, .inr (1, [.int 0, .int a1, .int a2, .int a3, .int (gx_X1_told_4 (fx_X1_byOutcome a1 p0 p1)), .int (gx_X1_told_5 p0), .int (gx_X1_told_6 a6 (fx_X1_byOutcome a1 p0 p1)), .int (gx_X1_told_7 a7 (fx_X1_byOutcome a1 p0 p1)), .int a8, .int 1, .int a10, .int a11, .ref h1]))]) [0] rfl
        have hDc := hD.sub (ws' := [(h0, .inr (1, [.int 0, .int a1, .int a2, .int a3, .int (gx_X1_told_4 (fx_X1_byOutcome a1 p0 p1)), .int (gx_X1_told_5 p0), .int (gx_X1_told_6 a6 (fx_X1_byOutcome a1 p0 p1)), .int (gx_X1_told_7 a7 (fx_X1_byOutcome a1 p0 p1)), .int a8, .int 1, .int a10, .int a11, .ref h1]))]) [0] (by decide) rfl
        have hKc := hK.sub (tys' := []) [] rfl
        have hFc := va_free (wc := [(h0, .inr (1, [.int 0, .int a1, .int a2, .int a3, .int (gx_X1_told_4 (fx_X1_byOutcome a1 p0 p1)), .int (gx_X1_told_5 p0), .int (gx_X1_told_6 a6 (fx_X1_byOutcome a1 p0 p1)), .int (gx_X1_told_7 a7 (fx_X1_byOutcome a1 p0 p1)), .int a8, .int 1, .int a10, .int a11, .ref h1]))]) hD hS hA [0] rfl
        refine va_calli (va_runV (As := []) (rest := []) ⟨hx, hb, hml, hown, hts⟩ (ct_X1_reads l dC dI h0 h1 H.size 0 a1 a2 a3 (gx_X1_told_4 (fx_X1_byOutcome a1 p0 p1)) (gx_X1_told_5 p0) (gx_X1_told_6 a6 (fx_X1_byOutcome a1 p0 p1)) (gx_X1_told_7 a7 (fx_X1_byOutcome a1 p0 p1)) a8 1 a10 a11) (cwV 0 hts gX1_act_X1_reads rfl rfl rfl (by decide +kernel) ⟨Nat.le_of_ble_eq_true rfl, Nat.le_of_ble_eq_true rfl⟩) ⟨fun a U g mk q => by obtain ⟨q0, q1, qP, qK, qD⟩ := q; exact ⟨q0, q1, qP, va_K.moved (u := U) (U := U.calling g mk a) (Vm.Alike.refl U.vm) qK, qD⟩, va_recv hKc hPc (ci := 1) (q0 := 0) rfl rfl, fun U hU hW => ⟨rfl, by rw [hU], by rw [hU]; exact hPc, va_K.moved hW.alike hKc, hDc.weaken (fun _ _ _ _ => trivial)⟩⟩ rfl rfl hl.1 rfl (lv_room (Nat.le_of_ble_eq_true rfl)) dX1_act_102 ⟨(Nat.zero_le _), (Nat.zero_le _)⟩) hS (fun q _ h => hFc q h) hFc (fun r_88 u t H1 locs ht hvm hw hB hz1 hk1 hS => ?_)
        obtain ⟨er, hu⟩ := hw
        subst hu
        subst er
        obtain ⟨hP1, -, hD1⟩ := hB
        rw [ht] at hP1
        obtain ⟨hP, hD⟩ := va_join (wr := []) (w1 := [(h0, .inr (1, [.int 0, .int a1, .int a2, .int a3, .int (gx_X1_told_4 (fx_X1_byOutcome a1 p0 p1)), .int (gx_X1_told_5 p0), .int (gx_X1_told_6 a6 (fx_X1_byOutcome a1 p0 p1)), .int (gx_X1_told_7 a7 (fx_X1_byOutcome a1 p0 p1)), .int a8, .int 1, .int a10, .int a11, .ref h1]))]) hP hD [0] [] rfl rfl (by decide) (by decide) hk1 hFc hP1 hD1
        generalize H1 = H at hP hS ⊢
        have hP : va_P (dC, dI) vwCl [(h0, .inr (1, [.int 0, .int a1, .int a2, .int a3, .int (gx_X1_told_4 (fx_X1_byOutcome a1 p0 p1)), .int (gx_X1_told_5 p0), .int (gx_X1_told_6 a6 (fx_X1_byOutcome a1 p0 p1)), .int (gx_X1_told_7 a7 (fx_X1_byOutcome a1 p0 p1)), .int a8, .int 1, .int a10, .int a11, .ref h1]))] H := hP
        have hD : va_D A [(h0, .inr (1, [.int 0, .int a1, .int a2, .int a3, .int (gx_X1_told_4 (fx_X1_byOutcome a1 p0 p1)), .int (gx_X1_told_5 p0), .int (gx_X1_told_6 a6 (fx_X1_byOutcome a1 p0 p1)), .int (gx_X1_told_7 a7 (fx_X1_byOutcome a1 p0 p1)), .int a8, .int 1, .int a10, .int a11, .ref h1]))] := hD
        refine lv_if_eq (tgt := 119) hx hb dX1_act_105 (by decide) (fun c_89 => ?_) (fun c_89 => ?_)
        · refine lv_iload_n hx hb dX1_act_119 rfl (lv_at hl 2 rfl) ?_
          refine lv_if_eq (tgt := 133) hx hb dX1_act_120 (by decide) (fun c9 => ?_) (fun c9 => absurd c_56 c9)
          refine lv_iconst (v := 1) hx hb dX1_act_133 (by decide) ?_
          refine lv_goto (tgt := 138) hx hb dX1_act_134 (by decide) ?_
          refine lv_istore (lv' := [(4, .int 1), (3, .int (fx_X1_byOutcome a1 p0 p1)), (0, .ref h0), (1, .int p0), (2, .int p1)]) hx hb dX1_act_138 hl (by decide) rfl (fun ls hl => ?_)
          refine lv_iload hx hb dX1_act_140 (lv_at hl 0 rfl) ?_
          refine lv_if_eq (tgt := 152) hx hb dX1_act_142 (by decide) (fun c9 => absurd c9 (by decide)) (fun c9 => ?_)
          refine lv_iload_n hx hb dX1_act_145 rfl (lv_at hl 1 rfl) ?_
          have hPc := hP.sub (ws' := []) [] rfl
          have hDc := hD.sub (ws' := []) [] (by decide) rfl
          have hKc := hK.sub (tys' := []) [] rfl
          have hFc := va_free (wc := []) hD hS hA [] rfl
          refine va_calli (va_runS (As := [.int (fx_X1_byOutcome a1 p0 p1)]) (rest := []) ⟨hx, hb, hml, hown, hts⟩ (ct_X1_moved l dC dI H.size (fx_X1_byOutcome a1 p0 p1)) (va_cwS 1 hts gX1_act_X1_moved rfl rfl rfl (by decide +kernel) ⟨Nat.le_of_ble_eq_true rfl, Nat.le_of_ble_eq_true rfl⟩) ⟨fun a U g mk q => by obtain ⟨q0, q1, qP, qK, qD⟩ := q; exact ⟨q0, q1, qP, va_K.moved (u := U) (U := U.calling g mk a) (Vm.Alike.refl U.vm) qK, qD⟩, fun U hU hW => ⟨rfl, by rw [hU], by rw [hU]; exact hPc, va_K.moved hW.alike hKc, hDc.weaken (fun _ _ _ _ => trivial)⟩⟩ rfl rfl hl.1 rfl (lv_room (Nat.le_of_ble_eq_true rfl)) dX1_act_146 ⟨(Nat.zero_le _), (Nat.zero_le _)⟩) hS (fun q _ h => hFc q h) hFc (fun r_90 u t H1 locs ht hvm hw hB hz1 hk1 hS => ?_)
          obtain ⟨er, hu⟩ := hw
          subst hu
          subst er
          obtain ⟨hP1, -, hD1⟩ := hB
          rw [ht] at hP1
          obtain ⟨hP, hD⟩ := va_join (wr := [(h0, .inr (1, [.int 0, .int a1, .int a2, .int a3, .int (gx_X1_told_4 (fx_X1_byOutcome a1 p0 p1)), .int (gx_X1_told_5 p0), .int (gx_X1_told_6 a6 (fx_X1_byOutcome a1 p0 p1)), .int (gx_X1_told_7 a7 (fx_X1_byOutcome a1 p0 p1)), .int a8, .int 1, .int a10, .int a11, .ref h1]))]) (w1 := []) hP hD [] [0] rfl rfl (by decide) (by decide) hk1 hFc hP1 hD1
          generalize H1 = H at hP hS ⊢
          have hP : va_P (dC, dI) vwCl [(h0, .inr (1, [.int 0, .int a1, .int a2, .int a3, .int (gx_X1_told_4 (fx_X1_byOutcome a1 p0 p1)), .int (gx_X1_told_5 p0), .int (gx_X1_told_6 a6 (fx_X1_byOutcome a1 p0 p1)), .int (gx_X1_told_7 a7 (fx_X1_byOutcome a1 p0 p1)), .int a8, .int 1, .int a10, .int a11, .ref h1]))] H := hP
          have hD : va_D A [(h0, .inr (1, [.int 0, .int a1, .int a2, .int a3, .int (gx_X1_told_4 (fx_X1_byOutcome a1 p0 p1)), .int (gx_X1_told_5 p0), .int (gx_X1_told_6 a6 (fx_X1_byOutcome a1 p0 p1)), .int (gx_X1_told_7 a7 (fx_X1_byOutcome a1 p0 p1)), .int a8, .int 1, .int a10, .int a11, .ref h1]))] := hD
          refine lv_goto (tgt := 153) hx hb dX1_act_149 (by decide) ?_
          refine lv_istore (lv' := [(5, .int (fx_X1_moved (fx_X1_byOutcome a1 p0 p1))), (4, .int 1), (3, .int (fx_X1_byOutcome a1 p0 p1)), (0, .ref h0), (1, .int p0), (2, .int p1)]) hx hb dX1_act_153 hl (by decide) rfl (fun ls hl => ?_)
          refine lv_aload_n hx hb dX1_act_155 rfl (lv_at hl 3 rfl) ?_
          refine lv_iload hx hb dX1_act_156 (lv_at hl 0 rfl) ?_
          refine lv_if_eq (tgt := 168) hx hb dX1_act_158 (by decide) (fun c_91 => ?_) (fun c_91 => ?_)
          · refine lv_aload_n hx hb dX1_act_168 rfl (lv_at hl 3 rfl) ?_
            refine va_get (D := (dC, dI)) (ci := 1) (v := .int a3) (C := RX1) (T := TX1) (N := 13) hx hb hts (fun _ h => List.mem_cons_of_mem _ (List.mem_append_right _ h)) hown hK hP 0 rfl rfl 3 (by decide) (hts (.fieldLink RX1 50 "FileStatusModel" "position" "I") (by decide +kernel)) (fun _ h9 => h9) rfl dX1_act_169 ?_
            refine lv_goto (tgt := 177) hx hb dX1_act_172 (by decide) ?_
            refine va_put (D := (dC, dI)) (ci := 1) (v := .int a3) (ty := .int) (C := RX1) (T := TX1) (N := 13) hx hb hts (fun _ h => List.mem_cons_of_mem _ (List.mem_append_right _ h)) tyX1 tyX1_ok nmX1 hown hK hP hD hS 0 rfl rfl 3 (by decide) (hts (.fieldLink RX1 50 "FileStatusModel" "position" "I") (by decide +kernel)) (fun _ h9 => h9) rfl (by decide +kernel) rfl rfl (Nat.le_of_ble_eq_true rfl) dX1_act_177 (fun H locs hP hD hS => ?_)
            have hP : va_P (dC, dI) vwCl [(h0, .inr (1, [.int 0, .int a1, .int a2, .int a3, .int (gx_X1_told_4 (fx_X1_byOutcome a1 p0 p1)), .int (gx_X1_told_5 p0), .int (gx_X1_told_6 a6 (fx_X1_byOutcome a1 p0 p1)), .int (gx_X1_told_7 a7 (fx_X1_byOutcome a1 p0 p1)), .int a8, .int 1, .int a10, .int a11, .ref h1]))] H := hP
            have hD : va_D A [(h0, .inr (1, [.int 0, .int a1, .int a2, .int a3, .int (gx_X1_told_4 (fx_X1_byOutcome a1 p0 p1)), .int (gx_X1_told_5 p0), .int (gx_X1_told_6 a6 (fx_X1_byOutcome a1 p0 p1)), .int (gx_X1_told_7 a7 (fx_X1_byOutcome a1 p0 p1)), .int a8, .int 1, .int a10, .int a11, .ref h1]))] := hD
            refine lv_iload_n hx hb dX1_act_180 rfl (lv_at hl 4 rfl) ?_
            refine lv_bipush (v := 6) hx hb dX1_act_181 (by decide) ?_
            refine lv_icmp_ne (tgt := 195) hx hb dX1_act_183 (by decide) (fun c9 => ?_) (fun c9 => absurd (c_56.symm.trans c9) (by decide))
            refine lv_iload_n hx hb dX1_act_195 rfl (lv_at hl 2 rfl) ?_
            have hP9 := hP.sub (ws' := [(h0, .inr (1, [.int 0, .int a1, .int a2, .int a3, .int (gx_X1_told_4 (fx_X1_byOutcome a1 p0 p1)), .int (gx_X1_told_5 p0), .int (gx_X1_told_6 a6 (fx_X1_byOutcome a1 p0 p1)), .int (gx_X1_told_7 a7 (fx_X1_byOutcome a1 p0 p1)), .int a8, .int 1, .int a10, .int a11, .ref h1]))]) [0] rfl
            have hD9 := hD.sub (ws' := [(h0, .inr (1, [.int 0, .int a1, .int a2, .int a3, .int (gx_X1_told_4 (fx_X1_byOutcome a1 p0 p1)), .int (gx_X1_told_5 p0), .int (gx_X1_told_6 a6 (fx_X1_byOutcome a1 p0 p1)), .int (gx_X1_told_7 a7 (fx_X1_byOutcome a1 p0 p1)), .int a8, .int 1, .int a10, .int a11, .ref h1]))]) [0] (by decide) rfl
            have hK9 := hK.sub (tys' := []) [] rfl
            have eg_0 : gx_X1_act_0 = 0 := by rfl
            have eg_3 : gx_X1_act_3 a1 a2 a3 a8 a9 a11 p0 p1 = a3 := by unfold gx_X1_act_3; rw [if_neg c_1, if_pos c_2, if_pos c_4, if_pos c_56, if_pos c_81, if_neg c_85, if_pos c_91]
            have eg_4 : gx_X1_act_4 a1 a2 a3 a4 a8 a9 a11 p0 p1 = gx_X1_told_4 (fx_X1_byOutcome a1 p0 p1) := by unfold gx_X1_act_4; rw [if_neg c_1, if_pos c_2, if_pos c_4, if_pos c_56, if_pos c_81]
            have eg_5 : gx_X1_act_5 a5 p0 = gx_X1_told_5 p0 := by unfold gx_X1_act_5; rw [if_neg c_1, if_pos c_2]
            have eg_6 : gx_X1_act_6 a1 a2 a3 a6 a8 a9 a11 p0 p1 = gx_X1_told_6 a6 (fx_X1_byOutcome a1 p0 p1) := by unfold gx_X1_act_6; rw [if_neg c_1, if_pos c_2, if_pos c_4, if_pos c_56, if_pos c_81]
            have eg_7 : gx_X1_act_7 a1 a2 a3 a7 a8 a9 a11 p0 p1 = gx_X1_told_7 a7 (fx_X1_byOutcome a1 p0 p1) := by unfold gx_X1_act_7; rw [if_neg c_1, if_pos c_2, if_pos c_4, if_pos c_56, if_pos c_81]
            have eg_8 : gx_X1_act_8 a1 a2 a3 a8 a9 p0 p1 = a8 := by unfold gx_X1_act_8; rw [if_neg c_1, if_pos c_2, if_pos c_4, if_pos c_56]
            have eg_9 : gx_X1_act_9 a1 a2 a3 a8 a9 a11 p0 p1 = 1 := by unfold gx_X1_act_9; rw [if_neg c_1, if_pos c_2, if_pos c_4, if_pos c_56, if_pos c_81, if_pos c_84]
            have eg_11 : gx_X1_act_11 a1 a2 a3 a8 a9 a11 p0 p1 = a11 := by unfold gx_X1_act_11; rw [if_neg c_1, if_pos c_2, if_pos c_4, if_pos c_56, if_pos c_81, if_pos c_84]
            have ef : fx_X1_act a1 a2 a3 a8 a9 a11 p0 p1 = fx_X1_byOutcome a1 p0 p1 := by unfold fx_X1_act; rw [if_neg c_1, if_pos c_2, if_pos c_4, if_pos c_56, if_pos c_81]
            exact W.iret (v := fx_X1_byOutcome a1 p0 p1) hx hb hr (fun t ht hW => ⟨⟨(fx_X1_byOutcome a1 p0 p1), [(h0, .inr (1, [.int 0, .int a1, .int a2, .int a3, .int (gx_X1_told_4 (fx_X1_byOutcome a1 p0 p1)), .int (gx_X1_told_5 p0), .int (gx_X1_told_6 a6 (fx_X1_byOutcome a1 p0 p1)), .int (gx_X1_told_7 a7 (fx_X1_byOutcome a1 p0 p1)), .int a8, .int 1, .int a10, .int a11, .ref h1]))], rfl, ⟨ef.symm, by rw [eg_0, eg_3, eg_4, eg_5, eg_6, eg_7, eg_8, eg_9, eg_11]⟩, by rw [ht]; exact hP9, va_K.moved hW.alike hK9, hD9⟩, hS.F ht⟩) hS.2.2 dX1_act_196
          refine lv_aload_n hx hb dX1_act_161 rfl (lv_at hl 3 rfl) ?_
          refine va_get (D := (dC, dI)) (ci := 1) (v := .int a8) (C := RX1) (T := TX1) (N := 13) hx hb hts (fun _ h => List.mem_cons_of_mem _ (List.mem_append_right _ h)) hown hK hP 0 rfl rfl 8 (by decide) (hts (.fieldLink RX1 23 "FileStatusModel" "isOpen" "Z") (by decide +kernel)) (fun _ h9 => h9) rfl dX1_act_162 ?_
          refine lv_if_ne (tgt := 175) hx hb dX1_act_165 (by decide) (fun c9 => ?_) (fun c9 => absurd c9 c_85)
          refine lv_iload hx hb dX1_act_175 (lv_at hl 0 rfl) ?_
          refine va_put (D := (dC, dI)) (ci := 1) (v := .int (fx_X1_moved (fx_X1_byOutcome a1 p0 p1))) (ty := .int) (C := RX1) (T := TX1) (N := 13) hx hb hts (fun _ h => List.mem_cons_of_mem _ (List.mem_append_right _ h)) tyX1 tyX1_ok nmX1 hown hK hP hD hS 0 rfl rfl 3 (by decide) (hts (.fieldLink RX1 50 "FileStatusModel" "position" "I") (by decide +kernel)) (fun _ h9 => h9) rfl (by decide +kernel) rfl rfl (Nat.le_of_ble_eq_true rfl) dX1_act_177 (fun H locs hP hD hS => ?_)
          have hP : va_P (dC, dI) vwCl [(h0, .inr (1, [.int 0, .int a1, .int a2, .int (fx_X1_moved (fx_X1_byOutcome a1 p0 p1)), .int (gx_X1_told_4 (fx_X1_byOutcome a1 p0 p1)), .int (gx_X1_told_5 p0), .int (gx_X1_told_6 a6 (fx_X1_byOutcome a1 p0 p1)), .int (gx_X1_told_7 a7 (fx_X1_byOutcome a1 p0 p1)), .int a8, .int 1, .int a10, .int a11, .ref h1]))] H := hP
          have hD : va_D A [(h0, .inr (1, [.int 0, .int a1, .int a2, .int (fx_X1_moved (fx_X1_byOutcome a1 p0 p1)), .int (gx_X1_told_4 (fx_X1_byOutcome a1 p0 p1)), .int (gx_X1_told_5 p0), .int (gx_X1_told_6 a6 (fx_X1_byOutcome a1 p0 p1)), .int (gx_X1_told_7 a7 (fx_X1_byOutcome a1 p0 p1)), .int a8, .int 1, .int a10, .int a11, .ref h1]))] := hD
          refine lv_iload_n hx hb dX1_act_180 rfl (lv_at hl 4 rfl) ?_
          refine lv_bipush (v := 6) hx hb dX1_act_181 (by decide) ?_
          refine lv_icmp_ne (tgt := 195) hx hb dX1_act_183 (by decide) (fun c9 => ?_) (fun c9 => absurd (c_56.symm.trans c9) (by decide))
          refine lv_iload_n hx hb dX1_act_195 rfl (lv_at hl 2 rfl) ?_
          have hP9 := hP.sub (ws' := [(h0, .inr (1, [.int 0, .int a1, .int a2, .int (fx_X1_moved (fx_X1_byOutcome a1 p0 p1)), .int (gx_X1_told_4 (fx_X1_byOutcome a1 p0 p1)), .int (gx_X1_told_5 p0), .int (gx_X1_told_6 a6 (fx_X1_byOutcome a1 p0 p1)), .int (gx_X1_told_7 a7 (fx_X1_byOutcome a1 p0 p1)), .int a8, .int 1, .int a10, .int a11, .ref h1]))]) [0] rfl
          have hD9 := hD.sub (ws' := [(h0, .inr (1, [.int 0, .int a1, .int a2, .int (fx_X1_moved (fx_X1_byOutcome a1 p0 p1)), .int (gx_X1_told_4 (fx_X1_byOutcome a1 p0 p1)), .int (gx_X1_told_5 p0), .int (gx_X1_told_6 a6 (fx_X1_byOutcome a1 p0 p1)), .int (gx_X1_told_7 a7 (fx_X1_byOutcome a1 p0 p1)), .int a8, .int 1, .int a10, .int a11, .ref h1]))]) [0] (by decide) rfl
          have hK9 := hK.sub (tys' := []) [] rfl
          have eg_0 : gx_X1_act_0 = 0 := by rfl
          have eg_3 : gx_X1_act_3 a1 a2 a3 a8 a9 a11 p0 p1 = fx_X1_moved (fx_X1_byOutcome a1 p0 p1) := by unfold gx_X1_act_3; rw [if_neg c_1, if_pos c_2, if_pos c_4, if_pos c_56, if_pos c_81, if_neg c_85, if_neg c_91]
          have eg_4 : gx_X1_act_4 a1 a2 a3 a4 a8 a9 a11 p0 p1 = gx_X1_told_4 (fx_X1_byOutcome a1 p0 p1) := by unfold gx_X1_act_4; rw [if_neg c_1, if_pos c_2, if_pos c_4, if_pos c_56, if_pos c_81]
          have eg_5 : gx_X1_act_5 a5 p0 = gx_X1_told_5 p0 := by unfold gx_X1_act_5; rw [if_neg c_1, if_pos c_2]
          have eg_6 : gx_X1_act_6 a1 a2 a3 a6 a8 a9 a11 p0 p1 = gx_X1_told_6 a6 (fx_X1_byOutcome a1 p0 p1) := by unfold gx_X1_act_6; rw [if_neg c_1, if_pos c_2, if_pos c_4, if_pos c_56, if_pos c_81]
          have eg_7 : gx_X1_act_7 a1 a2 a3 a7 a8 a9 a11 p0 p1 = gx_X1_told_7 a7 (fx_X1_byOutcome a1 p0 p1) := by unfold gx_X1_act_7; rw [if_neg c_1, if_pos c_2, if_pos c_4, if_pos c_56, if_pos c_81]
          have eg_8 : gx_X1_act_8 a1 a2 a3 a8 a9 p0 p1 = a8 := by unfold gx_X1_act_8; rw [if_neg c_1, if_pos c_2, if_pos c_4, if_pos c_56]
          have eg_9 : gx_X1_act_9 a1 a2 a3 a8 a9 a11 p0 p1 = 1 := by unfold gx_X1_act_9; rw [if_neg c_1, if_pos c_2, if_pos c_4, if_pos c_56, if_pos c_81, if_pos c_84]
          have eg_11 : gx_X1_act_11 a1 a2 a3 a8 a9 a11 p0 p1 = a11 := by unfold gx_X1_act_11; rw [if_neg c_1, if_pos c_2, if_pos c_4, if_pos c_56, if_pos c_81, if_pos c_84]
          have ef : fx_X1_act a1 a2 a3 a8 a9 a11 p0 p1 = fx_X1_byOutcome a1 p0 p1 := by unfold fx_X1_act; rw [if_neg c_1, if_pos c_2, if_pos c_4, if_pos c_56, if_pos c_81]
          exact W.iret (v := fx_X1_byOutcome a1 p0 p1) hx hb hr (fun t ht hW => ⟨⟨(fx_X1_byOutcome a1 p0 p1), [(h0, .inr (1, [.int 0, .int a1, .int a2, .int (fx_X1_moved (fx_X1_byOutcome a1 p0 p1)), .int (gx_X1_told_4 (fx_X1_byOutcome a1 p0 p1)), .int (gx_X1_told_5 p0), .int (gx_X1_told_6 a6 (fx_X1_byOutcome a1 p0 p1)), .int (gx_X1_told_7 a7 (fx_X1_byOutcome a1 p0 p1)), .int a8, .int 1, .int a10, .int a11, .ref h1]))], rfl, ⟨ef.symm, by rw [eg_0, eg_3, eg_4, eg_5, eg_6, eg_7, eg_8, eg_9, eg_11]⟩, by rw [ht]; exact hP9, va_K.moved hW.alike hK9, hD9⟩, hS.F ht⟩) hS.2.2 dX1_act_196
        refine lv_iload_n hx hb dX1_act_108 rfl (lv_at hl 0 rfl) ?_
        refine lv_bipush (v := 10) hx hb dX1_act_109 (by decide) ?_
        refine lv_icmp_ne (tgt := 119) hx hb dX1_act_111 (by decide) (fun c9 => ?_) (fun c9 => absurd (c_84.symm.trans c9) (by decide))
        refine lv_iload_n hx hb dX1_act_119 rfl (lv_at hl 2 rfl) ?_
        refine lv_if_eq (tgt := 133) hx hb dX1_act_120 (by decide) (fun c9 => ?_) (fun c9 => absurd c_56 c9)
        refine lv_iconst (v := 1) hx hb dX1_act_133 (by decide) ?_
        refine lv_goto (tgt := 138) hx hb dX1_act_134 (by decide) ?_
        refine lv_istore (lv' := [(4, .int 1), (3, .int (fx_X1_byOutcome a1 p0 p1)), (0, .ref h0), (1, .int p0), (2, .int p1)]) hx hb dX1_act_138 hl (by decide) rfl (fun ls hl => ?_)
        refine lv_iload hx hb dX1_act_140 (lv_at hl 0 rfl) ?_
        refine lv_if_eq (tgt := 152) hx hb dX1_act_142 (by decide) (fun c9 => absurd c9 (by decide)) (fun c9 => ?_)
        refine lv_iload_n hx hb dX1_act_145 rfl (lv_at hl 1 rfl) ?_
        have hPc := hP.sub (ws' := []) [] rfl
        have hDc := hD.sub (ws' := []) [] (by decide) rfl
        have hKc := hK.sub (tys' := []) [] rfl
        have hFc := va_free (wc := []) hD hS hA [] rfl
        refine va_calli (va_runS (As := [.int (fx_X1_byOutcome a1 p0 p1)]) (rest := []) ⟨hx, hb, hml, hown, hts⟩ (ct_X1_moved l dC dI H.size (fx_X1_byOutcome a1 p0 p1)) (va_cwS 1 hts gX1_act_X1_moved rfl rfl rfl (by decide +kernel) ⟨Nat.le_of_ble_eq_true rfl, Nat.le_of_ble_eq_true rfl⟩) ⟨fun a U g mk q => by obtain ⟨q0, q1, qP, qK, qD⟩ := q; exact ⟨q0, q1, qP, va_K.moved (u := U) (U := U.calling g mk a) (Vm.Alike.refl U.vm) qK, qD⟩, fun U hU hW => ⟨rfl, by rw [hU], by rw [hU]; exact hPc, va_K.moved hW.alike hKc, hDc.weaken (fun _ _ _ _ => trivial)⟩⟩ rfl rfl hl.1 rfl (lv_room (Nat.le_of_ble_eq_true rfl)) dX1_act_146 ⟨(Nat.zero_le _), (Nat.zero_le _)⟩) hS (fun q _ h => hFc q h) hFc (fun r_92 u t H1 locs ht hvm hw hB hz1 hk1 hS => ?_)
        obtain ⟨er, hu⟩ := hw
        subst hu
        subst er
        obtain ⟨hP1, -, hD1⟩ := hB
        rw [ht] at hP1
        obtain ⟨hP, hD⟩ := va_join (wr := [(h0, .inr (1, [.int 0, .int a1, .int a2, .int a3, .int (gx_X1_told_4 (fx_X1_byOutcome a1 p0 p1)), .int (gx_X1_told_5 p0), .int (gx_X1_told_6 a6 (fx_X1_byOutcome a1 p0 p1)), .int (gx_X1_told_7 a7 (fx_X1_byOutcome a1 p0 p1)), .int a8, .int 1, .int a10, .int a11, .ref h1]))]) (w1 := []) hP hD [] [0] rfl rfl (by decide) (by decide) hk1 hFc hP1 hD1
        generalize H1 = H at hP hS ⊢
        have hP : va_P (dC, dI) vwCl [(h0, .inr (1, [.int 0, .int a1, .int a2, .int a3, .int (gx_X1_told_4 (fx_X1_byOutcome a1 p0 p1)), .int (gx_X1_told_5 p0), .int (gx_X1_told_6 a6 (fx_X1_byOutcome a1 p0 p1)), .int (gx_X1_told_7 a7 (fx_X1_byOutcome a1 p0 p1)), .int a8, .int 1, .int a10, .int a11, .ref h1]))] H := hP
        have hD : va_D A [(h0, .inr (1, [.int 0, .int a1, .int a2, .int a3, .int (gx_X1_told_4 (fx_X1_byOutcome a1 p0 p1)), .int (gx_X1_told_5 p0), .int (gx_X1_told_6 a6 (fx_X1_byOutcome a1 p0 p1)), .int (gx_X1_told_7 a7 (fx_X1_byOutcome a1 p0 p1)), .int a8, .int 1, .int a10, .int a11, .ref h1]))] := hD
        refine lv_goto (tgt := 153) hx hb dX1_act_149 (by decide) ?_
        refine lv_istore (lv' := [(5, .int (fx_X1_moved (fx_X1_byOutcome a1 p0 p1))), (4, .int 1), (3, .int (fx_X1_byOutcome a1 p0 p1)), (0, .ref h0), (1, .int p0), (2, .int p1)]) hx hb dX1_act_153 hl (by decide) rfl (fun ls hl => ?_)
        refine lv_aload_n hx hb dX1_act_155 rfl (lv_at hl 3 rfl) ?_
        refine lv_iload hx hb dX1_act_156 (lv_at hl 0 rfl) ?_
        refine lv_if_eq (tgt := 168) hx hb dX1_act_158 (by decide) (fun c_93 => ?_) (fun c_93 => ?_)
        · refine lv_aload_n hx hb dX1_act_168 rfl (lv_at hl 3 rfl) ?_
          refine va_get (D := (dC, dI)) (ci := 1) (v := .int a3) (C := RX1) (T := TX1) (N := 13) hx hb hts (fun _ h => List.mem_cons_of_mem _ (List.mem_append_right _ h)) hown hK hP 0 rfl rfl 3 (by decide) (hts (.fieldLink RX1 50 "FileStatusModel" "position" "I") (by decide +kernel)) (fun _ h9 => h9) rfl dX1_act_169 ?_
          refine lv_goto (tgt := 177) hx hb dX1_act_172 (by decide) ?_
          refine va_put (D := (dC, dI)) (ci := 1) (v := .int a3) (ty := .int) (C := RX1) (T := TX1) (N := 13) hx hb hts (fun _ h => List.mem_cons_of_mem _ (List.mem_append_right _ h)) tyX1 tyX1_ok nmX1 hown hK hP hD hS 0 rfl rfl 3 (by decide) (hts (.fieldLink RX1 50 "FileStatusModel" "position" "I") (by decide +kernel)) (fun _ h9 => h9) rfl (by decide +kernel) rfl rfl (Nat.le_of_ble_eq_true rfl) dX1_act_177 (fun H locs hP hD hS => ?_)
          have hP : va_P (dC, dI) vwCl [(h0, .inr (1, [.int 0, .int a1, .int a2, .int a3, .int (gx_X1_told_4 (fx_X1_byOutcome a1 p0 p1)), .int (gx_X1_told_5 p0), .int (gx_X1_told_6 a6 (fx_X1_byOutcome a1 p0 p1)), .int (gx_X1_told_7 a7 (fx_X1_byOutcome a1 p0 p1)), .int a8, .int 1, .int a10, .int a11, .ref h1]))] H := hP
          have hD : va_D A [(h0, .inr (1, [.int 0, .int a1, .int a2, .int a3, .int (gx_X1_told_4 (fx_X1_byOutcome a1 p0 p1)), .int (gx_X1_told_5 p0), .int (gx_X1_told_6 a6 (fx_X1_byOutcome a1 p0 p1)), .int (gx_X1_told_7 a7 (fx_X1_byOutcome a1 p0 p1)), .int a8, .int 1, .int a10, .int a11, .ref h1]))] := hD
          refine lv_iload_n hx hb dX1_act_180 rfl (lv_at hl 4 rfl) ?_
          refine lv_bipush (v := 6) hx hb dX1_act_181 (by decide) ?_
          refine lv_icmp_ne (tgt := 195) hx hb dX1_act_183 (by decide) (fun c9 => ?_) (fun c9 => absurd (c_56.symm.trans c9) (by decide))
          refine lv_iload_n hx hb dX1_act_195 rfl (lv_at hl 2 rfl) ?_
          have hP9 := hP.sub (ws' := [(h0, .inr (1, [.int 0, .int a1, .int a2, .int a3, .int (gx_X1_told_4 (fx_X1_byOutcome a1 p0 p1)), .int (gx_X1_told_5 p0), .int (gx_X1_told_6 a6 (fx_X1_byOutcome a1 p0 p1)), .int (gx_X1_told_7 a7 (fx_X1_byOutcome a1 p0 p1)), .int a8, .int 1, .int a10, .int a11, .ref h1]))]) [0] rfl
          have hD9 := hD.sub (ws' := [(h0, .inr (1, [.int 0, .int a1, .int a2, .int a3, .int (gx_X1_told_4 (fx_X1_byOutcome a1 p0 p1)), .int (gx_X1_told_5 p0), .int (gx_X1_told_6 a6 (fx_X1_byOutcome a1 p0 p1)), .int (gx_X1_told_7 a7 (fx_X1_byOutcome a1 p0 p1)), .int a8, .int 1, .int a10, .int a11, .ref h1]))]) [0] (by decide) rfl
          have hK9 := hK.sub (tys' := []) [] rfl
          have eg_0 : gx_X1_act_0 = 0 := by rfl
          have eg_3 : gx_X1_act_3 a1 a2 a3 a8 a9 a11 p0 p1 = a3 := by unfold gx_X1_act_3; rw [if_neg c_1, if_pos c_2, if_pos c_4, if_pos c_56, if_pos c_81, if_neg c_85, if_pos c_93]
          have eg_4 : gx_X1_act_4 a1 a2 a3 a4 a8 a9 a11 p0 p1 = gx_X1_told_4 (fx_X1_byOutcome a1 p0 p1) := by unfold gx_X1_act_4; rw [if_neg c_1, if_pos c_2, if_pos c_4, if_pos c_56, if_pos c_81]
          have eg_5 : gx_X1_act_5 a5 p0 = gx_X1_told_5 p0 := by unfold gx_X1_act_5; rw [if_neg c_1, if_pos c_2]
          have eg_6 : gx_X1_act_6 a1 a2 a3 a6 a8 a9 a11 p0 p1 = gx_X1_told_6 a6 (fx_X1_byOutcome a1 p0 p1) := by unfold gx_X1_act_6; rw [if_neg c_1, if_pos c_2, if_pos c_4, if_pos c_56, if_pos c_81]
          have eg_7 : gx_X1_act_7 a1 a2 a3 a7 a8 a9 a11 p0 p1 = gx_X1_told_7 a7 (fx_X1_byOutcome a1 p0 p1) := by unfold gx_X1_act_7; rw [if_neg c_1, if_pos c_2, if_pos c_4, if_pos c_56, if_pos c_81]
          have eg_8 : gx_X1_act_8 a1 a2 a3 a8 a9 p0 p1 = a8 := by unfold gx_X1_act_8; rw [if_neg c_1, if_pos c_2, if_pos c_4, if_pos c_56]
          have eg_9 : gx_X1_act_9 a1 a2 a3 a8 a9 a11 p0 p1 = 1 := by unfold gx_X1_act_9; rw [if_neg c_1, if_pos c_2, if_pos c_4, if_pos c_56, if_pos c_81, if_pos c_84]
          have eg_11 : gx_X1_act_11 a1 a2 a3 a8 a9 a11 p0 p1 = a11 := by unfold gx_X1_act_11; rw [if_neg c_1, if_pos c_2, if_pos c_4, if_pos c_56, if_pos c_81, if_pos c_84]
          have ef : fx_X1_act a1 a2 a3 a8 a9 a11 p0 p1 = fx_X1_byOutcome a1 p0 p1 := by unfold fx_X1_act; rw [if_neg c_1, if_pos c_2, if_pos c_4, if_pos c_56, if_pos c_81]
          exact W.iret (v := fx_X1_byOutcome a1 p0 p1) hx hb hr (fun t ht hW => ⟨⟨(fx_X1_byOutcome a1 p0 p1), [(h0, .inr (1, [.int 0, .int a1, .int a2, .int a3, .int (gx_X1_told_4 (fx_X1_byOutcome a1 p0 p1)), .int (gx_X1_told_5 p0), .int (gx_X1_told_6 a6 (fx_X1_byOutcome a1 p0 p1)), .int (gx_X1_told_7 a7 (fx_X1_byOutcome a1 p0 p1)), .int a8, .int 1, .int a10, .int a11, .ref h1]))], rfl, ⟨ef.symm, by rw [eg_0, eg_3, eg_4, eg_5, eg_6, eg_7, eg_8, eg_9, eg_11]⟩, by rw [ht]; exact hP9, va_K.moved hW.alike hK9, hD9⟩, hS.F ht⟩) hS.2.2 dX1_act_196
        refine lv_aload_n hx hb dX1_act_161 rfl (lv_at hl 3 rfl) ?_
        refine va_get (D := (dC, dI)) (ci := 1) (v := .int a8) (C := RX1) (T := TX1) (N := 13) hx hb hts (fun _ h => List.mem_cons_of_mem _ (List.mem_append_right _ h)) hown hK hP 0 rfl rfl 8 (by decide) (hts (.fieldLink RX1 23 "FileStatusModel" "isOpen" "Z") (by decide +kernel)) (fun _ h9 => h9) rfl dX1_act_162 ?_
        refine lv_if_ne (tgt := 175) hx hb dX1_act_165 (by decide) (fun c9 => ?_) (fun c9 => absurd c9 c_85)
        refine lv_iload hx hb dX1_act_175 (lv_at hl 0 rfl) ?_
        refine va_put (D := (dC, dI)) (ci := 1) (v := .int (fx_X1_moved (fx_X1_byOutcome a1 p0 p1))) (ty := .int) (C := RX1) (T := TX1) (N := 13) hx hb hts (fun _ h => List.mem_cons_of_mem _ (List.mem_append_right _ h)) tyX1 tyX1_ok nmX1 hown hK hP hD hS 0 rfl rfl 3 (by decide) (hts (.fieldLink RX1 50 "FileStatusModel" "position" "I") (by decide +kernel)) (fun _ h9 => h9) rfl (by decide +kernel) rfl rfl (Nat.le_of_ble_eq_true rfl) dX1_act_177 (fun H locs hP hD hS => ?_)
        have hP : va_P (dC, dI) vwCl [(h0, .inr (1, [.int 0, .int a1, .int a2, .int (fx_X1_moved (fx_X1_byOutcome a1 p0 p1)), .int (gx_X1_told_4 (fx_X1_byOutcome a1 p0 p1)), .int (gx_X1_told_5 p0), .int (gx_X1_told_6 a6 (fx_X1_byOutcome a1 p0 p1)), .int (gx_X1_told_7 a7 (fx_X1_byOutcome a1 p0 p1)), .int a8, .int 1, .int a10, .int a11, .ref h1]))] H := hP
        have hD : va_D A [(h0, .inr (1, [.int 0, .int a1, .int a2, .int (fx_X1_moved (fx_X1_byOutcome a1 p0 p1)), .int (gx_X1_told_4 (fx_X1_byOutcome a1 p0 p1)), .int (gx_X1_told_5 p0), .int (gx_X1_told_6 a6 (fx_X1_byOutcome a1 p0 p1)), .int (gx_X1_told_7 a7 (fx_X1_byOutcome a1 p0 p1)), .int a8, .int 1, .int a10, .int a11, .ref h1]))] := hD
        refine lv_iload_n hx hb dX1_act_180 rfl (lv_at hl 4 rfl) ?_
        refine lv_bipush (v := 6) hx hb dX1_act_181 (by decide) ?_
        refine lv_icmp_ne (tgt := 195) hx hb dX1_act_183 (by decide) (fun c9 => ?_) (fun c9 => absurd (c_56.symm.trans c9) (by decide))
        refine lv_iload_n hx hb dX1_act_195 rfl (lv_at hl 2 rfl) ?_
        have hP9 := hP.sub (ws' := [(h0, .inr (1, [.int 0, .int a1, .int a2, .int (fx_X1_moved (fx_X1_byOutcome a1 p0 p1)), .int (gx_X1_told_4 (fx_X1_byOutcome a1 p0 p1)), .int (gx_X1_told_5 p0), .int (gx_X1_told_6 a6 (fx_X1_byOutcome a1 p0 p1)), .int (gx_X1_told_7 a7 (fx_X1_byOutcome a1 p0 p1)), .int a8, .int 1, .int a10, .int a11, .ref h1]))]) [0] rfl
        have hD9 := hD.sub (ws' := [(h0, .inr (1, [.int 0, .int a1, .int a2, .int (fx_X1_moved (fx_X1_byOutcome a1 p0 p1)), .int (gx_X1_told_4 (fx_X1_byOutcome a1 p0 p1)), .int (gx_X1_told_5 p0), .int (gx_X1_told_6 a6 (fx_X1_byOutcome a1 p0 p1)), .int (gx_X1_told_7 a7 (fx_X1_byOutcome a1 p0 p1)), .int a8, .int 1, .int a10, .int a11, .ref h1]))]) [0] (by decide) rfl
        have hK9 := hK.sub (tys' := []) [] rfl
        have eg_0 : gx_X1_act_0 = 0 := by rfl
        have eg_3 : gx_X1_act_3 a1 a2 a3 a8 a9 a11 p0 p1 = fx_X1_moved (fx_X1_byOutcome a1 p0 p1) := by unfold gx_X1_act_3; rw [if_neg c_1, if_pos c_2, if_pos c_4, if_pos c_56, if_pos c_81, if_neg c_85, if_neg c_93]
        have eg_4 : gx_X1_act_4 a1 a2 a3 a4 a8 a9 a11 p0 p1 = gx_X1_told_4 (fx_X1_byOutcome a1 p0 p1) := by unfold gx_X1_act_4; rw [if_neg c_1, if_pos c_2, if_pos c_4, if_pos c_56, if_pos c_81]
        have eg_5 : gx_X1_act_5 a5 p0 = gx_X1_told_5 p0 := by unfold gx_X1_act_5; rw [if_neg c_1, if_pos c_2]
        have eg_6 : gx_X1_act_6 a1 a2 a3 a6 a8 a9 a11 p0 p1 = gx_X1_told_6 a6 (fx_X1_byOutcome a1 p0 p1) := by unfold gx_X1_act_6; rw [if_neg c_1, if_pos c_2, if_pos c_4, if_pos c_56, if_pos c_81]
        have eg_7 : gx_X1_act_7 a1 a2 a3 a7 a8 a9 a11 p0 p1 = gx_X1_told_7 a7 (fx_X1_byOutcome a1 p0 p1) := by unfold gx_X1_act_7; rw [if_neg c_1, if_pos c_2, if_pos c_4, if_pos c_56, if_pos c_81]
        have eg_8 : gx_X1_act_8 a1 a2 a3 a8 a9 p0 p1 = a8 := by unfold gx_X1_act_8; rw [if_neg c_1, if_pos c_2, if_pos c_4, if_pos c_56]
        have eg_9 : gx_X1_act_9 a1 a2 a3 a8 a9 a11 p0 p1 = 1 := by unfold gx_X1_act_9; rw [if_neg c_1, if_pos c_2, if_pos c_4, if_pos c_56, if_pos c_81, if_pos c_84]
        have eg_11 : gx_X1_act_11 a1 a2 a3 a8 a9 a11 p0 p1 = a11 := by unfold gx_X1_act_11; rw [if_neg c_1, if_pos c_2, if_pos c_4, if_pos c_56, if_pos c_81, if_pos c_84]
        have ef : fx_X1_act a1 a2 a3 a8 a9 a11 p0 p1 = fx_X1_byOutcome a1 p0 p1 := by unfold fx_X1_act; rw [if_neg c_1, if_pos c_2, if_pos c_4, if_pos c_56, if_pos c_81]
        exact W.iret (v := fx_X1_byOutcome a1 p0 p1) hx hb hr (fun t ht hW => ⟨⟨(fx_X1_byOutcome a1 p0 p1), [(h0, .inr (1, [.int 0, .int a1, .int a2, .int (fx_X1_moved (fx_X1_byOutcome a1 p0 p1)), .int (gx_X1_told_4 (fx_X1_byOutcome a1 p0 p1)), .int (gx_X1_told_5 p0), .int (gx_X1_told_6 a6 (fx_X1_byOutcome a1 p0 p1)), .int (gx_X1_told_7 a7 (fx_X1_byOutcome a1 p0 p1)), .int a8, .int 1, .int a10, .int a11, .ref h1]))], rfl, ⟨ef.symm, by rw [eg_0, eg_3, eg_4, eg_5, eg_6, eg_7, eg_8, eg_9, eg_11]⟩, by rw [ht]; exact hP9, va_K.moved hW.alike hK9, hD9⟩, hS.F ht⟩) hS.2.2 dX1_act_196
      refine lv_iload_n hx hb dX1_act_72 rfl (lv_at hl 0 rfl) ?_
      refine lv_iconst (v := 2) hx hb dX1_act_73 (by decide) ?_
      refine lv_icmp_eq (tgt := 82) hx hb dX1_act_74 (by decide) (fun c_94 => ?_) (fun c_94 => ?_)
      · refine lv_iconst (v := 1) hx hb dX1_act_82 (by decide) ?_
        refine lv_goto (tgt := 87) hx hb dX1_act_83 (by decide) ?_
        refine va_put (D := (dC, dI)) (ci := 1) (v := .int 1) (ty := .boolean) (C := RX1) (T := TX1) (N := 13) hx hb hts (fun _ h => List.mem_cons_of_mem _ (List.mem_append_right _ h)) tyX1 tyX1_ok nmX1 hown hK hP hD hS 0 rfl rfl 9 (by decide) (hts (.fieldLink RX1 47 "FileStatusModel" "permit" "Z") (by decide +kernel)) (fun _ h9 => h9) rfl (by decide +kernel) rfl rfl (Nat.le_of_ble_eq_true rfl) dX1_act_87 (fun H locs hP hD hS => ?_)
        have hP : va_P (dC, dI) vwCl [(h0, .inr (1, [.int 0, .int a1, .int a2, .int a3, .int (gx_X1_told_4 (fx_X1_byOutcome a1 p0 p1)), .int (gx_X1_told_5 p0), .int (gx_X1_told_6 a6 (fx_X1_byOutcome a1 p0 p1)), .int (gx_X1_told_7 a7 (fx_X1_byOutcome a1 p0 p1)), .int a8, .int 1, .int a10, .int a11, .ref h1]))] H := hP
        have hD : va_D A [(h0, .inr (1, [.int 0, .int a1, .int a2, .int a3, .int (gx_X1_told_4 (fx_X1_byOutcome a1 p0 p1)), .int (gx_X1_told_5 p0), .int (gx_X1_told_6 a6 (fx_X1_byOutcome a1 p0 p1)), .int (gx_X1_told_7 a7 (fx_X1_byOutcome a1 p0 p1)), .int a8, .int 1, .int a10, .int a11, .ref h1]))] := hD
        refine lv_iload_n hx hb dX1_act_90 rfl (lv_at hl 2 rfl) ?_
        refine lv_if_ne (tgt := 119) hx hb dX1_act_91 (by decide) (fun c9 => absurd c_56 c9) (fun c9 => ?_)
        refine lv_aload_n hx hb dX1_act_94 rfl (lv_at hl 1 rfl) ?_
        refine va_get (D := (dC, dI)) (ci := 1) (v := .int a8) (C := RX1) (T := TX1) (N := 13) hx hb hts (fun _ h => List.mem_cons_of_mem _ (List.mem_append_right _ h)) hown hK hP 0 rfl rfl 8 (by decide) (hts (.fieldLink RX1 23 "FileStatusModel" "isOpen" "Z") (by decide +kernel)) (fun _ h9 => h9) rfl dX1_act_95 ?_
        refine lv_if_eq (tgt := 119) hx hb dX1_act_98 (by decide) (fun c_95 => ?_) (fun c_95 => ?_)
        · refine lv_iload_n hx hb dX1_act_119 rfl (lv_at hl 2 rfl) ?_
          refine lv_if_eq (tgt := 133) hx hb dX1_act_120 (by decide) (fun c9 => ?_) (fun c9 => absurd c_56 c9)
          refine lv_iconst (v := 1) hx hb dX1_act_133 (by decide) ?_
          refine lv_goto (tgt := 138) hx hb dX1_act_134 (by decide) ?_
          refine lv_istore (lv' := [(4, .int 1), (3, .int (fx_X1_byOutcome a1 p0 p1)), (0, .ref h0), (1, .int p0), (2, .int p1)]) hx hb dX1_act_138 hl (by decide) rfl (fun ls hl => ?_)
          refine lv_iload hx hb dX1_act_140 (lv_at hl 0 rfl) ?_
          refine lv_if_eq (tgt := 152) hx hb dX1_act_142 (by decide) (fun c9 => absurd c9 (by decide)) (fun c9 => ?_)
          refine lv_iload_n hx hb dX1_act_145 rfl (lv_at hl 1 rfl) ?_
          have hPc := hP.sub (ws' := []) [] rfl
          have hDc := hD.sub (ws' := []) [] (by decide) rfl
          have hKc := hK.sub (tys' := []) [] rfl
          have hFc := va_free (wc := []) hD hS hA [] rfl
          refine va_calli (va_runS (As := [.int (fx_X1_byOutcome a1 p0 p1)]) (rest := []) ⟨hx, hb, hml, hown, hts⟩ (ct_X1_moved l dC dI H.size (fx_X1_byOutcome a1 p0 p1)) (va_cwS 1 hts gX1_act_X1_moved rfl rfl rfl (by decide +kernel) ⟨Nat.le_of_ble_eq_true rfl, Nat.le_of_ble_eq_true rfl⟩) ⟨fun a U g mk q => by obtain ⟨q0, q1, qP, qK, qD⟩ := q; exact ⟨q0, q1, qP, va_K.moved (u := U) (U := U.calling g mk a) (Vm.Alike.refl U.vm) qK, qD⟩, fun U hU hW => ⟨rfl, by rw [hU], by rw [hU]; exact hPc, va_K.moved hW.alike hKc, hDc.weaken (fun _ _ _ _ => trivial)⟩⟩ rfl rfl hl.1 rfl (lv_room (Nat.le_of_ble_eq_true rfl)) dX1_act_146 ⟨(Nat.zero_le _), (Nat.zero_le _)⟩) hS (fun q _ h => hFc q h) hFc (fun r_96 u t H1 locs ht hvm hw hB hz1 hk1 hS => ?_)
          obtain ⟨er, hu⟩ := hw
          subst hu
          subst er
          obtain ⟨hP1, -, hD1⟩ := hB
          rw [ht] at hP1
          obtain ⟨hP, hD⟩ := va_join (wr := [(h0, .inr (1, [.int 0, .int a1, .int a2, .int a3, .int (gx_X1_told_4 (fx_X1_byOutcome a1 p0 p1)), .int (gx_X1_told_5 p0), .int (gx_X1_told_6 a6 (fx_X1_byOutcome a1 p0 p1)), .int (gx_X1_told_7 a7 (fx_X1_byOutcome a1 p0 p1)), .int a8, .int 1, .int a10, .int a11, .ref h1]))]) (w1 := []) hP hD [] [0] rfl rfl (by decide) (by decide) hk1 hFc hP1 hD1
          generalize H1 = H at hP hS ⊢
          have hP : va_P (dC, dI) vwCl [(h0, .inr (1, [.int 0, .int a1, .int a2, .int a3, .int (gx_X1_told_4 (fx_X1_byOutcome a1 p0 p1)), .int (gx_X1_told_5 p0), .int (gx_X1_told_6 a6 (fx_X1_byOutcome a1 p0 p1)), .int (gx_X1_told_7 a7 (fx_X1_byOutcome a1 p0 p1)), .int a8, .int 1, .int a10, .int a11, .ref h1]))] H := hP
          have hD : va_D A [(h0, .inr (1, [.int 0, .int a1, .int a2, .int a3, .int (gx_X1_told_4 (fx_X1_byOutcome a1 p0 p1)), .int (gx_X1_told_5 p0), .int (gx_X1_told_6 a6 (fx_X1_byOutcome a1 p0 p1)), .int (gx_X1_told_7 a7 (fx_X1_byOutcome a1 p0 p1)), .int a8, .int 1, .int a10, .int a11, .ref h1]))] := hD
          refine lv_goto (tgt := 153) hx hb dX1_act_149 (by decide) ?_
          refine lv_istore (lv' := [(5, .int (fx_X1_moved (fx_X1_byOutcome a1 p0 p1))), (4, .int 1), (3, .int (fx_X1_byOutcome a1 p0 p1)), (0, .ref h0), (1, .int p0), (2, .int p1)]) hx hb dX1_act_153 hl (by decide) rfl (fun ls hl => ?_)
          refine lv_aload_n hx hb dX1_act_155 rfl (lv_at hl 3 rfl) ?_
          refine lv_iload hx hb dX1_act_156 (lv_at hl 0 rfl) ?_
          refine lv_if_eq (tgt := 168) hx hb dX1_act_158 (by decide) (fun c_97 => ?_) (fun c_97 => ?_)
          · refine lv_aload_n hx hb dX1_act_168 rfl (lv_at hl 3 rfl) ?_
            refine va_get (D := (dC, dI)) (ci := 1) (v := .int a3) (C := RX1) (T := TX1) (N := 13) hx hb hts (fun _ h => List.mem_cons_of_mem _ (List.mem_append_right _ h)) hown hK hP 0 rfl rfl 3 (by decide) (hts (.fieldLink RX1 50 "FileStatusModel" "position" "I") (by decide +kernel)) (fun _ h9 => h9) rfl dX1_act_169 ?_
            refine lv_goto (tgt := 177) hx hb dX1_act_172 (by decide) ?_
            refine va_put (D := (dC, dI)) (ci := 1) (v := .int a3) (ty := .int) (C := RX1) (T := TX1) (N := 13) hx hb hts (fun _ h => List.mem_cons_of_mem _ (List.mem_append_right _ h)) tyX1 tyX1_ok nmX1 hown hK hP hD hS 0 rfl rfl 3 (by decide) (hts (.fieldLink RX1 50 "FileStatusModel" "position" "I") (by decide +kernel)) (fun _ h9 => h9) rfl (by decide +kernel) rfl rfl (Nat.le_of_ble_eq_true rfl) dX1_act_177 (fun H locs hP hD hS => ?_)
            have hP : va_P (dC, dI) vwCl [(h0, .inr (1, [.int 0, .int a1, .int a2, .int a3, .int (gx_X1_told_4 (fx_X1_byOutcome a1 p0 p1)), .int (gx_X1_told_5 p0), .int (gx_X1_told_6 a6 (fx_X1_byOutcome a1 p0 p1)), .int (gx_X1_told_7 a7 (fx_X1_byOutcome a1 p0 p1)), .int a8, .int 1, .int a10, .int a11, .ref h1]))] H := hP
            have hD : va_D A [(h0, .inr (1, [.int 0, .int a1, .int a2, .int a3, .int (gx_X1_told_4 (fx_X1_byOutcome a1 p0 p1)), .int (gx_X1_told_5 p0), .int (gx_X1_told_6 a6 (fx_X1_byOutcome a1 p0 p1)), .int (gx_X1_told_7 a7 (fx_X1_byOutcome a1 p0 p1)), .int a8, .int 1, .int a10, .int a11, .ref h1]))] := hD
            refine lv_iload_n hx hb dX1_act_180 rfl (lv_at hl 4 rfl) ?_
            refine lv_bipush (v := 6) hx hb dX1_act_181 (by decide) ?_
            refine lv_icmp_ne (tgt := 195) hx hb dX1_act_183 (by decide) (fun c9 => ?_) (fun c9 => absurd (c_56.symm.trans c9) (by decide))
            refine lv_iload_n hx hb dX1_act_195 rfl (lv_at hl 2 rfl) ?_
            have hP9 := hP.sub (ws' := [(h0, .inr (1, [.int 0, .int a1, .int a2, .int a3, .int (gx_X1_told_4 (fx_X1_byOutcome a1 p0 p1)), .int (gx_X1_told_5 p0), .int (gx_X1_told_6 a6 (fx_X1_byOutcome a1 p0 p1)), .int (gx_X1_told_7 a7 (fx_X1_byOutcome a1 p0 p1)), .int a8, .int 1, .int a10, .int a11, .ref h1]))]) [0] rfl
            have hD9 := hD.sub (ws' := [(h0, .inr (1, [.int 0, .int a1, .int a2, .int a3, .int (gx_X1_told_4 (fx_X1_byOutcome a1 p0 p1)), .int (gx_X1_told_5 p0), .int (gx_X1_told_6 a6 (fx_X1_byOutcome a1 p0 p1)), .int (gx_X1_told_7 a7 (fx_X1_byOutcome a1 p0 p1)), .int a8, .int 1, .int a10, .int a11, .ref h1]))]) [0] (by decide) rfl
            have hK9 := hK.sub (tys' := []) [] rfl
            have eg_0 : gx_X1_act_0 = 0 := by rfl
            have eg_3 : gx_X1_act_3 a1 a2 a3 a8 a9 a11 p0 p1 = a3 := by unfold gx_X1_act_3; rw [if_neg c_1, if_pos c_2, if_pos c_4, if_pos c_56, if_pos c_81, if_pos c_95]
            have eg_4 : gx_X1_act_4 a1 a2 a3 a4 a8 a9 a11 p0 p1 = gx_X1_told_4 (fx_X1_byOutcome a1 p0 p1) := by unfold gx_X1_act_4; rw [if_neg c_1, if_pos c_2, if_pos c_4, if_pos c_56, if_pos c_81]
            have eg_5 : gx_X1_act_5 a5 p0 = gx_X1_told_5 p0 := by unfold gx_X1_act_5; rw [if_neg c_1, if_pos c_2]
            have eg_6 : gx_X1_act_6 a1 a2 a3 a6 a8 a9 a11 p0 p1 = gx_X1_told_6 a6 (fx_X1_byOutcome a1 p0 p1) := by unfold gx_X1_act_6; rw [if_neg c_1, if_pos c_2, if_pos c_4, if_pos c_56, if_pos c_81]
            have eg_7 : gx_X1_act_7 a1 a2 a3 a7 a8 a9 a11 p0 p1 = gx_X1_told_7 a7 (fx_X1_byOutcome a1 p0 p1) := by unfold gx_X1_act_7; rw [if_neg c_1, if_pos c_2, if_pos c_4, if_pos c_56, if_pos c_81]
            have eg_8 : gx_X1_act_8 a1 a2 a3 a8 a9 p0 p1 = a8 := by unfold gx_X1_act_8; rw [if_neg c_1, if_pos c_2, if_pos c_4, if_pos c_56]
            have eg_9 : gx_X1_act_9 a1 a2 a3 a8 a9 a11 p0 p1 = 1 := by unfold gx_X1_act_9; rw [if_neg c_1, if_pos c_2, if_pos c_4, if_pos c_56, if_pos c_81, if_neg c_84, if_pos c_94]
            have eg_11 : gx_X1_act_11 a1 a2 a3 a8 a9 a11 p0 p1 = a11 := by unfold gx_X1_act_11; rw [if_neg c_1, if_pos c_2, if_pos c_4, if_pos c_56, if_pos c_81, if_neg c_84, if_pos c_94]
            have ef : fx_X1_act a1 a2 a3 a8 a9 a11 p0 p1 = fx_X1_byOutcome a1 p0 p1 := by unfold fx_X1_act; rw [if_neg c_1, if_pos c_2, if_pos c_4, if_pos c_56, if_pos c_81]
            exact W.iret (v := fx_X1_byOutcome a1 p0 p1) hx hb hr (fun t ht hW => ⟨⟨(fx_X1_byOutcome a1 p0 p1), [(h0, .inr (1, [.int 0, .int a1, .int a2, .int a3, .int (gx_X1_told_4 (fx_X1_byOutcome a1 p0 p1)), .int (gx_X1_told_5 p0), .int (gx_X1_told_6 a6 (fx_X1_byOutcome a1 p0 p1)), .int (gx_X1_told_7 a7 (fx_X1_byOutcome a1 p0 p1)), .int a8, .int 1, .int a10, .int a11, .ref h1]))], rfl, ⟨ef.symm, by rw [eg_0, eg_3, eg_4, eg_5, eg_6, eg_7, eg_8, eg_9, eg_11]⟩, by rw [ht]; exact hP9, va_K.moved hW.alike hK9, hD9⟩, hS.F ht⟩) hS.2.2 dX1_act_196
          refine lv_aload_n hx hb dX1_act_161 rfl (lv_at hl 3 rfl) ?_
          refine va_get (D := (dC, dI)) (ci := 1) (v := .int a8) (C := RX1) (T := TX1) (N := 13) hx hb hts (fun _ h => List.mem_cons_of_mem _ (List.mem_append_right _ h)) hown hK hP 0 rfl rfl 8 (by decide) (hts (.fieldLink RX1 23 "FileStatusModel" "isOpen" "Z") (by decide +kernel)) (fun _ h9 => h9) rfl dX1_act_162 ?_
          refine lv_if_ne (tgt := 175) hx hb dX1_act_165 (by decide) (fun c9 => absurd c_95 c9) (fun c9 => ?_)
          refine lv_aload_n hx hb dX1_act_168 rfl (lv_at hl 3 rfl) ?_
          refine va_get (D := (dC, dI)) (ci := 1) (v := .int a3) (C := RX1) (T := TX1) (N := 13) hx hb hts (fun _ h => List.mem_cons_of_mem _ (List.mem_append_right _ h)) hown hK hP 0 rfl rfl 3 (by decide) (hts (.fieldLink RX1 50 "FileStatusModel" "position" "I") (by decide +kernel)) (fun _ h9 => h9) rfl dX1_act_169 ?_
          refine lv_goto (tgt := 177) hx hb dX1_act_172 (by decide) ?_
          refine va_put (D := (dC, dI)) (ci := 1) (v := .int a3) (ty := .int) (C := RX1) (T := TX1) (N := 13) hx hb hts (fun _ h => List.mem_cons_of_mem _ (List.mem_append_right _ h)) tyX1 tyX1_ok nmX1 hown hK hP hD hS 0 rfl rfl 3 (by decide) (hts (.fieldLink RX1 50 "FileStatusModel" "position" "I") (by decide +kernel)) (fun _ h9 => h9) rfl (by decide +kernel) rfl rfl (Nat.le_of_ble_eq_true rfl) dX1_act_177 (fun H locs hP hD hS => ?_)
          have hP : va_P (dC, dI) vwCl [(h0, .inr (1, [.int 0, .int a1, .int a2, .int a3, .int (gx_X1_told_4 (fx_X1_byOutcome a1 p0 p1)), .int (gx_X1_told_5 p0), .int (gx_X1_told_6 a6 (fx_X1_byOutcome a1 p0 p1)), .int (gx_X1_told_7 a7 (fx_X1_byOutcome a1 p0 p1)), .int a8, .int 1, .int a10, .int a11, .ref h1]))] H := hP
          have hD : va_D A [(h0, .inr (1, [.int 0, .int a1, .int a2, .int a3, .int (gx_X1_told_4 (fx_X1_byOutcome a1 p0 p1)), .int (gx_X1_told_5 p0), .int (gx_X1_told_6 a6 (fx_X1_byOutcome a1 p0 p1)), .int (gx_X1_told_7 a7 (fx_X1_byOutcome a1 p0 p1)), .int a8, .int 1, .int a10, .int a11, .ref h1]))] := hD
          refine lv_iload_n hx hb dX1_act_180 rfl (lv_at hl 4 rfl) ?_
          refine lv_bipush (v := 6) hx hb dX1_act_181 (by decide) ?_
          refine lv_icmp_ne (tgt := 195) hx hb dX1_act_183 (by decide) (fun c9 => ?_) (fun c9 => absurd (c_56.symm.trans c9) (by decide))
          refine lv_iload_n hx hb dX1_act_195 rfl (lv_at hl 2 rfl) ?_
          have hP9 := hP.sub (ws' := [(h0, .inr (1, [.int 0, .int a1, .int a2, .int a3, .int (gx_X1_told_4 (fx_X1_byOutcome a1 p0 p1)), .int (gx_X1_told_5 p0), .int (gx_X1_told_6 a6 (fx_X1_byOutcome a1 p0 p1)), .int (gx_X1_told_7 a7 (fx_X1_byOutcome a1 p0 p1)), .int a8, .int 1, .int a10, .int a11, .ref h1]))]) [0] rfl
          have hD9 := hD.sub (ws' := [(h0, .inr (1, [.int 0, .int a1, .int a2, .int a3, .int (gx_X1_told_4 (fx_X1_byOutcome a1 p0 p1)), .int (gx_X1_told_5 p0), .int (gx_X1_told_6 a6 (fx_X1_byOutcome a1 p0 p1)), .int (gx_X1_told_7 a7 (fx_X1_byOutcome a1 p0 p1)), .int a8, .int 1, .int a10, .int a11, .ref h1]))]) [0] (by decide) rfl
          have hK9 := hK.sub (tys' := []) [] rfl
          have eg_0 : gx_X1_act_0 = 0 := by rfl
          have eg_3 : gx_X1_act_3 a1 a2 a3 a8 a9 a11 p0 p1 = a3 := by unfold gx_X1_act_3; rw [if_neg c_1, if_pos c_2, if_pos c_4, if_pos c_56, if_pos c_81, if_pos c_95]
          have eg_4 : gx_X1_act_4 a1 a2 a3 a4 a8 a9 a11 p0 p1 = gx_X1_told_4 (fx_X1_byOutcome a1 p0 p1) := by unfold gx_X1_act_4; rw [if_neg c_1, if_pos c_2, if_pos c_4, if_pos c_56, if_pos c_81]
          have eg_5 : gx_X1_act_5 a5 p0 = gx_X1_told_5 p0 := by unfold gx_X1_act_5; rw [if_neg c_1, if_pos c_2]
          have eg_6 : gx_X1_act_6 a1 a2 a3 a6 a8 a9 a11 p0 p1 = gx_X1_told_6 a6 (fx_X1_byOutcome a1 p0 p1) := by unfold gx_X1_act_6; rw [if_neg c_1, if_pos c_2, if_pos c_4, if_pos c_56, if_pos c_81]
          have eg_7 : gx_X1_act_7 a1 a2 a3 a7 a8 a9 a11 p0 p1 = gx_X1_told_7 a7 (fx_X1_byOutcome a1 p0 p1) := by unfold gx_X1_act_7; rw [if_neg c_1, if_pos c_2, if_pos c_4, if_pos c_56, if_pos c_81]
          have eg_8 : gx_X1_act_8 a1 a2 a3 a8 a9 p0 p1 = a8 := by unfold gx_X1_act_8; rw [if_neg c_1, if_pos c_2, if_pos c_4, if_pos c_56]
          have eg_9 : gx_X1_act_9 a1 a2 a3 a8 a9 a11 p0 p1 = 1 := by unfold gx_X1_act_9; rw [if_neg c_1, if_pos c_2, if_pos c_4, if_pos c_56, if_pos c_81, if_neg c_84, if_pos c_94]
          have eg_11 : gx_X1_act_11 a1 a2 a3 a8 a9 a11 p0 p1 = a11 := by unfold gx_X1_act_11; rw [if_neg c_1, if_pos c_2, if_pos c_4, if_pos c_56, if_pos c_81, if_neg c_84, if_pos c_94]
          have ef : fx_X1_act a1 a2 a3 a8 a9 a11 p0 p1 = fx_X1_byOutcome a1 p0 p1 := by unfold fx_X1_act; rw [if_neg c_1, if_pos c_2, if_pos c_4, if_pos c_56, if_pos c_81]
          exact W.iret (v := fx_X1_byOutcome a1 p0 p1) hx hb hr (fun t ht hW => ⟨⟨(fx_X1_byOutcome a1 p0 p1), [(h0, .inr (1, [.int 0, .int a1, .int a2, .int a3, .int (gx_X1_told_4 (fx_X1_byOutcome a1 p0 p1)), .int (gx_X1_told_5 p0), .int (gx_X1_told_6 a6 (fx_X1_byOutcome a1 p0 p1)), .int (gx_X1_told_7 a7 (fx_X1_byOutcome a1 p0 p1)), .int a8, .int 1, .int a10, .int a11, .ref h1]))], rfl, ⟨ef.symm, by rw [eg_0, eg_3, eg_4, eg_5, eg_6, eg_7, eg_8, eg_9, eg_11]⟩, by rw [ht]; exact hP9, va_K.moved hW.alike hK9, hD9⟩, hS.F ht⟩) hS.2.2 dX1_act_196
        refine lv_aload_n hx hb dX1_act_101 rfl (lv_at hl 1 rfl) ?_
        have hPc := hP.sub (ws' := [(h0, .inr (1, [.int 0, .int a1, .int a2, .int a3, .int (gx_X1_told_4 (fx_X1_byOutcome a1 p0 p1)), .int (gx_X1_told_5 p0), .int (gx_X1_told_6 a6 (fx_X1_byOutcome a1 p0 p1)), .int (gx_X1_told_7 a7 (fx_X1_byOutcome a1 p0 p1)), .int a8, .int 1, .int a10, .int a11, .ref h1]))]) [0] rfl
        have hDc := hD.sub (ws' := [(h0, .inr (1, [.int 0, .int a1, .int a2, .int a3, .int (gx_X1_told_4 (fx_X1_byOutcome a1 p0 p1)), .int (gx_X1_told_5 p0), .int (gx_X1_told_6 a6 (fx_X1_byOutcome a1 p0 p1)), .int (gx_X1_told_7 a7 (fx_X1_byOutcome a1 p0 p1)), .int a8, .int 1, .int a10, .int a11, .ref h1]))]) [0] (by decide) rfl
        have hKc := hK.sub (tys' := []) [] rfl
        have hFc := va_free (wc := [(h0, .inr (1, [.int 0, .int a1, .int a2, .int a3, .int (gx_X1_told_4 (fx_X1_byOutcome a1 p0 p1)), .int (gx_X1_told_5 p0), .int (gx_X1_told_6 a6 (fx_X1_byOutcome a1 p0 p1)), .int (gx_X1_told_7 a7 (fx_X1_byOutcome a1 p0 p1)), .int a8, .int 1, .int a10, .int a11, .ref h1]))]) hD hS hA [0] rfl
        refine va_calli (va_runV (As := []) (rest := []) ⟨hx, hb, hml, hown, hts⟩ (ct_X1_reads l dC dI h0 h1 H.size 0 a1 a2 a3 (gx_X1_told_4 (fx_X1_byOutcome a1 p0 p1)) (gx_X1_told_5 p0) (gx_X1_told_6 a6 (fx_X1_byOutcome a1 p0 p1)) (gx_X1_told_7 a7 (fx_X1_byOutcome a1 p0 p1)) a8 1 a10 a11) (cwV 0 hts gX1_act_X1_reads rfl rfl rfl (by decide +kernel) ⟨Nat.le_of_ble_eq_true rfl, Nat.le_of_ble_eq_true rfl⟩) ⟨fun a U g mk q => by obtain ⟨q0, q1, qP, qK, qD⟩ := q; exact ⟨q0, q1, qP, va_K.moved (u := U) (U := U.calling g mk a) (Vm.Alike.refl U.vm) qK, qD⟩, va_recv hKc hPc (ci := 1) (q0 := 0) rfl rfl, fun U hU hW => ⟨rfl, by rw [hU], by rw [hU]; exact hPc, va_K.moved hW.alike hKc, hDc.weaken (fun _ _ _ _ => trivial)⟩⟩ rfl rfl hl.1 rfl (lv_room (Nat.le_of_ble_eq_true rfl)) dX1_act_102 ⟨(Nat.zero_le _), (Nat.zero_le _)⟩) hS (fun q _ h => hFc q h) hFc (fun r_98 u t H1 locs ht hvm hw hB hz1 hk1 hS => ?_)
        obtain ⟨er, hu⟩ := hw
        subst hu
        subst er
        obtain ⟨hP1, -, hD1⟩ := hB
        rw [ht] at hP1
        obtain ⟨hP, hD⟩ := va_join (wr := []) (w1 := [(h0, .inr (1, [.int 0, .int a1, .int a2, .int a3, .int (gx_X1_told_4 (fx_X1_byOutcome a1 p0 p1)), .int (gx_X1_told_5 p0), .int (gx_X1_told_6 a6 (fx_X1_byOutcome a1 p0 p1)), .int (gx_X1_told_7 a7 (fx_X1_byOutcome a1 p0 p1)), .int a8, .int 1, .int a10, .int a11, .ref h1]))]) hP hD [0] [] rfl rfl (by decide) (by decide) hk1 hFc hP1 hD1
        generalize H1 = H at hP hS ⊢
        have hP : va_P (dC, dI) vwCl [(h0, .inr (1, [.int 0, .int a1, .int a2, .int a3, .int (gx_X1_told_4 (fx_X1_byOutcome a1 p0 p1)), .int (gx_X1_told_5 p0), .int (gx_X1_told_6 a6 (fx_X1_byOutcome a1 p0 p1)), .int (gx_X1_told_7 a7 (fx_X1_byOutcome a1 p0 p1)), .int a8, .int 1, .int a10, .int a11, .ref h1]))] H := hP
        have hD : va_D A [(h0, .inr (1, [.int 0, .int a1, .int a2, .int a3, .int (gx_X1_told_4 (fx_X1_byOutcome a1 p0 p1)), .int (gx_X1_told_5 p0), .int (gx_X1_told_6 a6 (fx_X1_byOutcome a1 p0 p1)), .int (gx_X1_told_7 a7 (fx_X1_byOutcome a1 p0 p1)), .int a8, .int 1, .int a10, .int a11, .ref h1]))] := hD
        refine lv_if_eq (tgt := 119) hx hb dX1_act_105 (by decide) (fun c_99 => ?_) (fun c_99 => ?_)
        · refine lv_iload_n hx hb dX1_act_119 rfl (lv_at hl 2 rfl) ?_
          refine lv_if_eq (tgt := 133) hx hb dX1_act_120 (by decide) (fun c9 => ?_) (fun c9 => absurd c_56 c9)
          refine lv_iconst (v := 1) hx hb dX1_act_133 (by decide) ?_
          refine lv_goto (tgt := 138) hx hb dX1_act_134 (by decide) ?_
          refine lv_istore (lv' := [(4, .int 1), (3, .int (fx_X1_byOutcome a1 p0 p1)), (0, .ref h0), (1, .int p0), (2, .int p1)]) hx hb dX1_act_138 hl (by decide) rfl (fun ls hl => ?_)
          refine lv_iload hx hb dX1_act_140 (lv_at hl 0 rfl) ?_
          refine lv_if_eq (tgt := 152) hx hb dX1_act_142 (by decide) (fun c9 => absurd c9 (by decide)) (fun c9 => ?_)
          refine lv_iload_n hx hb dX1_act_145 rfl (lv_at hl 1 rfl) ?_
          have hPc := hP.sub (ws' := []) [] rfl
          have hDc := hD.sub (ws' := []) [] (by decide) rfl
          have hKc := hK.sub (tys' := []) [] rfl
          have hFc := va_free (wc := []) hD hS hA [] rfl
          refine va_calli (va_runS (As := [.int (fx_X1_byOutcome a1 p0 p1)]) (rest := []) ⟨hx, hb, hml, hown, hts⟩ (ct_X1_moved l dC dI H.size (fx_X1_byOutcome a1 p0 p1)) (va_cwS 1 hts gX1_act_X1_moved rfl rfl rfl (by decide +kernel) ⟨Nat.le_of_ble_eq_true rfl, Nat.le_of_ble_eq_true rfl⟩) ⟨fun a U g mk q => by obtain ⟨q0, q1, qP, qK, qD⟩ := q; exact ⟨q0, q1, qP, va_K.moved (u := U) (U := U.calling g mk a) (Vm.Alike.refl U.vm) qK, qD⟩, fun U hU hW => ⟨rfl, by rw [hU], by rw [hU]; exact hPc, va_K.moved hW.alike hKc, hDc.weaken (fun _ _ _ _ => trivial)⟩⟩ rfl rfl hl.1 rfl (lv_room (Nat.le_of_ble_eq_true rfl)) dX1_act_146 ⟨(Nat.zero_le _), (Nat.zero_le _)⟩) hS (fun q _ h => hFc q h) hFc (fun r_100 u t H1 locs ht hvm hw hB hz1 hk1 hS => ?_)
          obtain ⟨er, hu⟩ := hw
          subst hu
          subst er
          obtain ⟨hP1, -, hD1⟩ := hB
          rw [ht] at hP1
          obtain ⟨hP, hD⟩ := va_join (wr := [(h0, .inr (1, [.int 0, .int a1, .int a2, .int a3, .int (gx_X1_told_4 (fx_X1_byOutcome a1 p0 p1)), .int (gx_X1_told_5 p0), .int (gx_X1_told_6 a6 (fx_X1_byOutcome a1 p0 p1)), .int (gx_X1_told_7 a7 (fx_X1_byOutcome a1 p0 p1)), .int a8, .int 1, .int a10, .int a11, .ref h1]))]) (w1 := []) hP hD [] [0] rfl rfl (by decide) (by decide) hk1 hFc hP1 hD1
          generalize H1 = H at hP hS ⊢
          have hP : va_P (dC, dI) vwCl [(h0, .inr (1, [.int 0, .int a1, .int a2, .int a3, .int (gx_X1_told_4 (fx_X1_byOutcome a1 p0 p1)), .int (gx_X1_told_5 p0), .int (gx_X1_told_6 a6 (fx_X1_byOutcome a1 p0 p1)), .int (gx_X1_told_7 a7 (fx_X1_byOutcome a1 p0 p1)), .int a8, .int 1, .int a10, .int a11, .ref h1]))] H := hP
          have hD : va_D A [(h0, .inr (1, [.int 0, .int a1, .int a2, .int a3, .int (gx_X1_told_4 (fx_X1_byOutcome a1 p0 p1)), .int (gx_X1_told_5 p0), .int (gx_X1_told_6 a6 (fx_X1_byOutcome a1 p0 p1)), .int (gx_X1_told_7 a7 (fx_X1_byOutcome a1 p0 p1)), .int a8, .int 1, .int a10, .int a11, .ref h1]))] := hD
          refine lv_goto (tgt := 153) hx hb dX1_act_149 (by decide) ?_
          refine lv_istore (lv' := [(5, .int (fx_X1_moved (fx_X1_byOutcome a1 p0 p1))), (4, .int 1), (3, .int (fx_X1_byOutcome a1 p0 p1)), (0, .ref h0), (1, .int p0), (2, .int p1)]) hx hb dX1_act_153 hl (by decide) rfl (fun ls hl => ?_)
          refine lv_aload_n hx hb dX1_act_155 rfl (lv_at hl 3 rfl) ?_
          refine lv_iload hx hb dX1_act_156 (lv_at hl 0 rfl) ?_
          refine lv_if_eq (tgt := 168) hx hb dX1_act_158 (by decide) (fun c_101 => ?_) (fun c_101 => ?_)
          · refine lv_aload_n hx hb dX1_act_168 rfl (lv_at hl 3 rfl) ?_
            refine va_get (D := (dC, dI)) (ci := 1) (v := .int a3) (C := RX1) (T := TX1) (N := 13) hx hb hts (fun _ h => List.mem_cons_of_mem _ (List.mem_append_right _ h)) hown hK hP 0 rfl rfl 3 (by decide) (hts (.fieldLink RX1 50 "FileStatusModel" "position" "I") (by decide +kernel)) (fun _ h9 => h9) rfl dX1_act_169 ?_
            refine lv_goto (tgt := 177) hx hb dX1_act_172 (by decide) ?_
            refine va_put (D := (dC, dI)) (ci := 1) (v := .int a3) (ty := .int) (C := RX1) (T := TX1) (N := 13) hx hb hts (fun _ h => List.mem_cons_of_mem _ (List.mem_append_right _ h)) tyX1 tyX1_ok nmX1 hown hK hP hD hS 0 rfl rfl 3 (by decide) (hts (.fieldLink RX1 50 "FileStatusModel" "position" "I") (by decide +kernel)) (fun _ h9 => h9) rfl (by decide +kernel) rfl rfl (Nat.le_of_ble_eq_true rfl) dX1_act_177 (fun H locs hP hD hS => ?_)
            have hP : va_P (dC, dI) vwCl [(h0, .inr (1, [.int 0, .int a1, .int a2, .int a3, .int (gx_X1_told_4 (fx_X1_byOutcome a1 p0 p1)), .int (gx_X1_told_5 p0), .int (gx_X1_told_6 a6 (fx_X1_byOutcome a1 p0 p1)), .int (gx_X1_told_7 a7 (fx_X1_byOutcome a1 p0 p1)), .int a8, .int 1, .int a10, .int a11, .ref h1]))] H := hP
            have hD : va_D A [(h0, .inr (1, [.int 0, .int a1, .int a2, .int a3, .int (gx_X1_told_4 (fx_X1_byOutcome a1 p0 p1)), .int (gx_X1_told_5 p0), .int (gx_X1_told_6 a6 (fx_X1_byOutcome a1 p0 p1)), .int (gx_X1_told_7 a7 (fx_X1_byOutcome a1 p0 p1)), .int a8, .int 1, .int a10, .int a11, .ref h1]))] := hD
            refine lv_iload_n hx hb dX1_act_180 rfl (lv_at hl 4 rfl) ?_
            refine lv_bipush (v := 6) hx hb dX1_act_181 (by decide) ?_
            refine lv_icmp_ne (tgt := 195) hx hb dX1_act_183 (by decide) (fun c9 => ?_) (fun c9 => absurd (c_56.symm.trans c9) (by decide))
            refine lv_iload_n hx hb dX1_act_195 rfl (lv_at hl 2 rfl) ?_
            have hP9 := hP.sub (ws' := [(h0, .inr (1, [.int 0, .int a1, .int a2, .int a3, .int (gx_X1_told_4 (fx_X1_byOutcome a1 p0 p1)), .int (gx_X1_told_5 p0), .int (gx_X1_told_6 a6 (fx_X1_byOutcome a1 p0 p1)), .int (gx_X1_told_7 a7 (fx_X1_byOutcome a1 p0 p1)), .int a8, .int 1, .int a10, .int a11, .ref h1]))]) [0] rfl
            have hD9 := hD.sub (ws' := [(h0, .inr (1, [.int 0, .int a1, .int a2, .int a3, .int (gx_X1_told_4 (fx_X1_byOutcome a1 p0 p1)), .int (gx_X1_told_5 p0), .int (gx_X1_told_6 a6 (fx_X1_byOutcome a1 p0 p1)), .int (gx_X1_told_7 a7 (fx_X1_byOutcome a1 p0 p1)), .int a8, .int 1, .int a10, .int a11, .ref h1]))]) [0] (by decide) rfl
            have hK9 := hK.sub (tys' := []) [] rfl
            have eg_0 : gx_X1_act_0 = 0 := by rfl
            have eg_3 : gx_X1_act_3 a1 a2 a3 a8 a9 a11 p0 p1 = a3 := by unfold gx_X1_act_3; rw [if_neg c_1, if_pos c_2, if_pos c_4, if_pos c_56, if_pos c_81, if_neg c_95, if_pos c_101]
            have eg_4 : gx_X1_act_4 a1 a2 a3 a4 a8 a9 a11 p0 p1 = gx_X1_told_4 (fx_X1_byOutcome a1 p0 p1) := by unfold gx_X1_act_4; rw [if_neg c_1, if_pos c_2, if_pos c_4, if_pos c_56, if_pos c_81]
            have eg_5 : gx_X1_act_5 a5 p0 = gx_X1_told_5 p0 := by unfold gx_X1_act_5; rw [if_neg c_1, if_pos c_2]
            have eg_6 : gx_X1_act_6 a1 a2 a3 a6 a8 a9 a11 p0 p1 = gx_X1_told_6 a6 (fx_X1_byOutcome a1 p0 p1) := by unfold gx_X1_act_6; rw [if_neg c_1, if_pos c_2, if_pos c_4, if_pos c_56, if_pos c_81]
            have eg_7 : gx_X1_act_7 a1 a2 a3 a7 a8 a9 a11 p0 p1 = gx_X1_told_7 a7 (fx_X1_byOutcome a1 p0 p1) := by unfold gx_X1_act_7; rw [if_neg c_1, if_pos c_2, if_pos c_4, if_pos c_56, if_pos c_81]
            have eg_8 : gx_X1_act_8 a1 a2 a3 a8 a9 p0 p1 = a8 := by unfold gx_X1_act_8; rw [if_neg c_1, if_pos c_2, if_pos c_4, if_pos c_56]
            have eg_9 : gx_X1_act_9 a1 a2 a3 a8 a9 a11 p0 p1 = 1 := by unfold gx_X1_act_9; rw [if_neg c_1, if_pos c_2, if_pos c_4, if_pos c_56, if_pos c_81, if_neg c_84, if_pos c_94]
            have eg_11 : gx_X1_act_11 a1 a2 a3 a8 a9 a11 p0 p1 = a11 := by unfold gx_X1_act_11; rw [if_neg c_1, if_pos c_2, if_pos c_4, if_pos c_56, if_pos c_81, if_neg c_84, if_pos c_94]
            have ef : fx_X1_act a1 a2 a3 a8 a9 a11 p0 p1 = fx_X1_byOutcome a1 p0 p1 := by unfold fx_X1_act; rw [if_neg c_1, if_pos c_2, if_pos c_4, if_pos c_56, if_pos c_81]
            exact W.iret (v := fx_X1_byOutcome a1 p0 p1) hx hb hr (fun t ht hW => ⟨⟨(fx_X1_byOutcome a1 p0 p1), [(h0, .inr (1, [.int 0, .int a1, .int a2, .int a3, .int (gx_X1_told_4 (fx_X1_byOutcome a1 p0 p1)), .int (gx_X1_told_5 p0), .int (gx_X1_told_6 a6 (fx_X1_byOutcome a1 p0 p1)), .int (gx_X1_told_7 a7 (fx_X1_byOutcome a1 p0 p1)), .int a8, .int 1, .int a10, .int a11, .ref h1]))], rfl, ⟨ef.symm, by rw [eg_0, eg_3, eg_4, eg_5, eg_6, eg_7, eg_8, eg_9, eg_11]⟩, by rw [ht]; exact hP9, va_K.moved hW.alike hK9, hD9⟩, hS.F ht⟩) hS.2.2 dX1_act_196
          refine lv_aload_n hx hb dX1_act_161 rfl (lv_at hl 3 rfl) ?_
          refine va_get (D := (dC, dI)) (ci := 1) (v := .int a8) (C := RX1) (T := TX1) (N := 13) hx hb hts (fun _ h => List.mem_cons_of_mem _ (List.mem_append_right _ h)) hown hK hP 0 rfl rfl 8 (by decide) (hts (.fieldLink RX1 23 "FileStatusModel" "isOpen" "Z") (by decide +kernel)) (fun _ h9 => h9) rfl dX1_act_162 ?_
          refine lv_if_ne (tgt := 175) hx hb dX1_act_165 (by decide) (fun c9 => ?_) (fun c9 => absurd c9 c_95)
          refine lv_iload hx hb dX1_act_175 (lv_at hl 0 rfl) ?_
          refine va_put (D := (dC, dI)) (ci := 1) (v := .int (fx_X1_moved (fx_X1_byOutcome a1 p0 p1))) (ty := .int) (C := RX1) (T := TX1) (N := 13) hx hb hts (fun _ h => List.mem_cons_of_mem _ (List.mem_append_right _ h)) tyX1 tyX1_ok nmX1 hown hK hP hD hS 0 rfl rfl 3 (by decide) (hts (.fieldLink RX1 50 "FileStatusModel" "position" "I") (by decide +kernel)) (fun _ h9 => h9) rfl (by decide +kernel) rfl rfl (Nat.le_of_ble_eq_true rfl) dX1_act_177 (fun H locs hP hD hS => ?_)
          have hP : va_P (dC, dI) vwCl [(h0, .inr (1, [.int 0, .int a1, .int a2, .int (fx_X1_moved (fx_X1_byOutcome a1 p0 p1)), .int (gx_X1_told_4 (fx_X1_byOutcome a1 p0 p1)), .int (gx_X1_told_5 p0), .int (gx_X1_told_6 a6 (fx_X1_byOutcome a1 p0 p1)), .int (gx_X1_told_7 a7 (fx_X1_byOutcome a1 p0 p1)), .int a8, .int 1, .int a10, .int a11, .ref h1]))] H := hP
          have hD : va_D A [(h0, .inr (1, [.int 0, .int a1, .int a2, .int (fx_X1_moved (fx_X1_byOutcome a1 p0 p1)), .int (gx_X1_told_4 (fx_X1_byOutcome a1 p0 p1)), .int (gx_X1_told_5 p0), .int (gx_X1_told_6 a6 (fx_X1_byOutcome a1 p0 p1)), .int (gx_X1_told_7 a7 (fx_X1_byOutcome a1 p0 p1)), .int a8, .int 1, .int a10, .int a11, .ref h1]))] := hD
          refine lv_iload_n hx hb dX1_act_180 rfl (lv_at hl 4 rfl) ?_
          refine lv_bipush (v := 6) hx hb dX1_act_181 (by decide) ?_
          refine lv_icmp_ne (tgt := 195) hx hb dX1_act_183 (by decide) (fun c9 => ?_) (fun c9 => absurd (c_56.symm.trans c9) (by decide))
          refine lv_iload_n hx hb dX1_act_195 rfl (lv_at hl 2 rfl) ?_
          have hP9 := hP.sub (ws' := [(h0, .inr (1, [.int 0, .int a1, .int a2, .int (fx_X1_moved (fx_X1_byOutcome a1 p0 p1)), .int (gx_X1_told_4 (fx_X1_byOutcome a1 p0 p1)), .int (gx_X1_told_5 p0), .int (gx_X1_told_6 a6 (fx_X1_byOutcome a1 p0 p1)), .int (gx_X1_told_7 a7 (fx_X1_byOutcome a1 p0 p1)), .int a8, .int 1, .int a10, .int a11, .ref h1]))]) [0] rfl
          have hD9 := hD.sub (ws' := [(h0, .inr (1, [.int 0, .int a1, .int a2, .int (fx_X1_moved (fx_X1_byOutcome a1 p0 p1)), .int (gx_X1_told_4 (fx_X1_byOutcome a1 p0 p1)), .int (gx_X1_told_5 p0), .int (gx_X1_told_6 a6 (fx_X1_byOutcome a1 p0 p1)), .int (gx_X1_told_7 a7 (fx_X1_byOutcome a1 p0 p1)), .int a8, .int 1, .int a10, .int a11, .ref h1]))]) [0] (by decide) rfl
          have hK9 := hK.sub (tys' := []) [] rfl
          have eg_0 : gx_X1_act_0 = 0 := by rfl
          have eg_3 : gx_X1_act_3 a1 a2 a3 a8 a9 a11 p0 p1 = fx_X1_moved (fx_X1_byOutcome a1 p0 p1) := by unfold gx_X1_act_3; rw [if_neg c_1, if_pos c_2, if_pos c_4, if_pos c_56, if_pos c_81, if_neg c_95, if_neg c_101]
          have eg_4 : gx_X1_act_4 a1 a2 a3 a4 a8 a9 a11 p0 p1 = gx_X1_told_4 (fx_X1_byOutcome a1 p0 p1) := by unfold gx_X1_act_4; rw [if_neg c_1, if_pos c_2, if_pos c_4, if_pos c_56, if_pos c_81]
          have eg_5 : gx_X1_act_5 a5 p0 = gx_X1_told_5 p0 := by unfold gx_X1_act_5; rw [if_neg c_1, if_pos c_2]
          have eg_6 : gx_X1_act_6 a1 a2 a3 a6 a8 a9 a11 p0 p1 = gx_X1_told_6 a6 (fx_X1_byOutcome a1 p0 p1) := by unfold gx_X1_act_6; rw [if_neg c_1, if_pos c_2, if_pos c_4, if_pos c_56, if_pos c_81]
          have eg_7 : gx_X1_act_7 a1 a2 a3 a7 a8 a9 a11 p0 p1 = gx_X1_told_7 a7 (fx_X1_byOutcome a1 p0 p1) := by unfold gx_X1_act_7; rw [if_neg c_1, if_pos c_2, if_pos c_4, if_pos c_56, if_pos c_81]
          have eg_8 : gx_X1_act_8 a1 a2 a3 a8 a9 p0 p1 = a8 := by unfold gx_X1_act_8; rw [if_neg c_1, if_pos c_2, if_pos c_4, if_pos c_56]
          have eg_9 : gx_X1_act_9 a1 a2 a3 a8 a9 a11 p0 p1 = 1 := by unfold gx_X1_act_9; rw [if_neg c_1, if_pos c_2, if_pos c_4, if_pos c_56, if_pos c_81, if_neg c_84, if_pos c_94]
          have eg_11 : gx_X1_act_11 a1 a2 a3 a8 a9 a11 p0 p1 = a11 := by unfold gx_X1_act_11; rw [if_neg c_1, if_pos c_2, if_pos c_4, if_pos c_56, if_pos c_81, if_neg c_84, if_pos c_94]
          have ef : fx_X1_act a1 a2 a3 a8 a9 a11 p0 p1 = fx_X1_byOutcome a1 p0 p1 := by unfold fx_X1_act; rw [if_neg c_1, if_pos c_2, if_pos c_4, if_pos c_56, if_pos c_81]
          exact W.iret (v := fx_X1_byOutcome a1 p0 p1) hx hb hr (fun t ht hW => ⟨⟨(fx_X1_byOutcome a1 p0 p1), [(h0, .inr (1, [.int 0, .int a1, .int a2, .int (fx_X1_moved (fx_X1_byOutcome a1 p0 p1)), .int (gx_X1_told_4 (fx_X1_byOutcome a1 p0 p1)), .int (gx_X1_told_5 p0), .int (gx_X1_told_6 a6 (fx_X1_byOutcome a1 p0 p1)), .int (gx_X1_told_7 a7 (fx_X1_byOutcome a1 p0 p1)), .int a8, .int 1, .int a10, .int a11, .ref h1]))], rfl, ⟨ef.symm, by rw [eg_0, eg_3, eg_4, eg_5, eg_6, eg_7, eg_8, eg_9, eg_11]⟩, by rw [ht]; exact hP9, va_K.moved hW.alike hK9, hD9⟩, hS.F ht⟩) hS.2.2 dX1_act_196
        refine lv_iload_n hx hb dX1_act_108 rfl (lv_at hl 0 rfl) ?_
        refine lv_bipush (v := 10) hx hb dX1_act_109 (by decide) ?_
        refine lv_icmp_ne (tgt := 119) hx hb dX1_act_111 (by decide) (fun c9 => ?_) (fun c9 => absurd (c_94.symm.trans c9) (by decide))
        refine lv_iload_n hx hb dX1_act_119 rfl (lv_at hl 2 rfl) ?_
        refine lv_if_eq (tgt := 133) hx hb dX1_act_120 (by decide) (fun c9 => ?_) (fun c9 => absurd c_56 c9)
        refine lv_iconst (v := 1) hx hb dX1_act_133 (by decide) ?_
        refine lv_goto (tgt := 138) hx hb dX1_act_134 (by decide) ?_
        refine lv_istore (lv' := [(4, .int 1), (3, .int (fx_X1_byOutcome a1 p0 p1)), (0, .ref h0), (1, .int p0), (2, .int p1)]) hx hb dX1_act_138 hl (by decide) rfl (fun ls hl => ?_)
        refine lv_iload hx hb dX1_act_140 (lv_at hl 0 rfl) ?_
        refine lv_if_eq (tgt := 152) hx hb dX1_act_142 (by decide) (fun c9 => absurd c9 (by decide)) (fun c9 => ?_)
        refine lv_iload_n hx hb dX1_act_145 rfl (lv_at hl 1 rfl) ?_
        have hPc := hP.sub (ws' := []) [] rfl
        have hDc := hD.sub (ws' := []) [] (by decide) rfl
        have hKc := hK.sub (tys' := []) [] rfl
        have hFc := va_free (wc := []) hD hS hA [] rfl
        refine va_calli (va_runS (As := [.int (fx_X1_byOutcome a1 p0 p1)]) (rest := []) ⟨hx, hb, hml, hown, hts⟩ (ct_X1_moved l dC dI H.size (fx_X1_byOutcome a1 p0 p1)) (va_cwS 1 hts gX1_act_X1_moved rfl rfl rfl (by decide +kernel) ⟨Nat.le_of_ble_eq_true rfl, Nat.le_of_ble_eq_true rfl⟩) ⟨fun a U g mk q => by obtain ⟨q0, q1, qP, qK, qD⟩ := q; exact ⟨q0, q1, qP, va_K.moved (u := U) (U := U.calling g mk a) (Vm.Alike.refl U.vm) qK, qD⟩, fun U hU hW => ⟨rfl, by rw [hU], by rw [hU]; exact hPc, va_K.moved hW.alike hKc, hDc.weaken (fun _ _ _ _ => trivial)⟩⟩ rfl rfl hl.1 rfl (lv_room (Nat.le_of_ble_eq_true rfl)) dX1_act_146 ⟨(Nat.zero_le _), (Nat.zero_le _)⟩) hS (fun q _ h => hFc q h) hFc (fun r_102 u t H1 locs ht hvm hw hB hz1 hk1 hS => ?_)
        obtain ⟨er, hu⟩ := hw
        subst hu
        subst er
        obtain ⟨hP1, -, hD1⟩ := hB
        rw [ht] at hP1
        obtain ⟨hP, hD⟩ := va_join (wr := [(h0, .inr (1, [.int 0, .int a1, .int a2, .int a3, .int (gx_X1_told_4 (fx_X1_byOutcome a1 p0 p1)), .int (gx_X1_told_5 p0), .int (gx_X1_told_6 a6 (fx_X1_byOutcome a1 p0 p1)), .int (gx_X1_told_7 a7 (fx_X1_byOutcome a1 p0 p1)), .int a8, .int 1, .int a10, .int a11, .ref h1]))]) (w1 := []) hP hD [] [0] rfl rfl (by decide) (by decide) hk1 hFc hP1 hD1
        generalize H1 = H at hP hS ⊢
        have hP : va_P (dC, dI) vwCl [(h0, .inr (1, [.int 0, .int a1, .int a2, .int a3, .int (gx_X1_told_4 (fx_X1_byOutcome a1 p0 p1)), .int (gx_X1_told_5 p0), .int (gx_X1_told_6 a6 (fx_X1_byOutcome a1 p0 p1)), .int (gx_X1_told_7 a7 (fx_X1_byOutcome a1 p0 p1)), .int a8, .int 1, .int a10, .int a11, .ref h1]))] H := hP
        have hD : va_D A [(h0, .inr (1, [.int 0, .int a1, .int a2, .int a3, .int (gx_X1_told_4 (fx_X1_byOutcome a1 p0 p1)), .int (gx_X1_told_5 p0), .int (gx_X1_told_6 a6 (fx_X1_byOutcome a1 p0 p1)), .int (gx_X1_told_7 a7 (fx_X1_byOutcome a1 p0 p1)), .int a8, .int 1, .int a10, .int a11, .ref h1]))] := hD
        refine lv_goto (tgt := 153) hx hb dX1_act_149 (by decide) ?_
        refine lv_istore (lv' := [(5, .int (fx_X1_moved (fx_X1_byOutcome a1 p0 p1))), (4, .int 1), (3, .int (fx_X1_byOutcome a1 p0 p1)), (0, .ref h0), (1, .int p0), (2, .int p1)]) hx hb dX1_act_153 hl (by decide) rfl (fun ls hl => ?_)
        refine lv_aload_n hx hb dX1_act_155 rfl (lv_at hl 3 rfl) ?_
        refine lv_iload hx hb dX1_act_156 (lv_at hl 0 rfl) ?_
        refine lv_if_eq (tgt := 168) hx hb dX1_act_158 (by decide) (fun c_103 => ?_) (fun c_103 => ?_)
        · refine lv_aload_n hx hb dX1_act_168 rfl (lv_at hl 3 rfl) ?_
          refine va_get (D := (dC, dI)) (ci := 1) (v := .int a3) (C := RX1) (T := TX1) (N := 13) hx hb hts (fun _ h => List.mem_cons_of_mem _ (List.mem_append_right _ h)) hown hK hP 0 rfl rfl 3 (by decide) (hts (.fieldLink RX1 50 "FileStatusModel" "position" "I") (by decide +kernel)) (fun _ h9 => h9) rfl dX1_act_169 ?_
          refine lv_goto (tgt := 177) hx hb dX1_act_172 (by decide) ?_
          refine va_put (D := (dC, dI)) (ci := 1) (v := .int a3) (ty := .int) (C := RX1) (T := TX1) (N := 13) hx hb hts (fun _ h => List.mem_cons_of_mem _ (List.mem_append_right _ h)) tyX1 tyX1_ok nmX1 hown hK hP hD hS 0 rfl rfl 3 (by decide) (hts (.fieldLink RX1 50 "FileStatusModel" "position" "I") (by decide +kernel)) (fun _ h9 => h9) rfl (by decide +kernel) rfl rfl (Nat.le_of_ble_eq_true rfl) dX1_act_177 (fun H locs hP hD hS => ?_)
          have hP : va_P (dC, dI) vwCl [(h0, .inr (1, [.int 0, .int a1, .int a2, .int a3, .int (gx_X1_told_4 (fx_X1_byOutcome a1 p0 p1)), .int (gx_X1_told_5 p0), .int (gx_X1_told_6 a6 (fx_X1_byOutcome a1 p0 p1)), .int (gx_X1_told_7 a7 (fx_X1_byOutcome a1 p0 p1)), .int a8, .int 1, .int a10, .int a11, .ref h1]))] H := hP
          have hD : va_D A [(h0, .inr (1, [.int 0, .int a1, .int a2, .int a3, .int (gx_X1_told_4 (fx_X1_byOutcome a1 p0 p1)), .int (gx_X1_told_5 p0), .int (gx_X1_told_6 a6 (fx_X1_byOutcome a1 p0 p1)), .int (gx_X1_told_7 a7 (fx_X1_byOutcome a1 p0 p1)), .int a8, .int 1, .int a10, .int a11, .ref h1]))] := hD
          refine lv_iload_n hx hb dX1_act_180 rfl (lv_at hl 4 rfl) ?_
          refine lv_bipush (v := 6) hx hb dX1_act_181 (by decide) ?_
          refine lv_icmp_ne (tgt := 195) hx hb dX1_act_183 (by decide) (fun c9 => ?_) (fun c9 => absurd (c_56.symm.trans c9) (by decide))
          refine lv_iload_n hx hb dX1_act_195 rfl (lv_at hl 2 rfl) ?_
          have hP9 := hP.sub (ws' := [(h0, .inr (1, [.int 0, .int a1, .int a2, .int a3, .int (gx_X1_told_4 (fx_X1_byOutcome a1 p0 p1)), .int (gx_X1_told_5 p0), .int (gx_X1_told_6 a6 (fx_X1_byOutcome a1 p0 p1)), .int (gx_X1_told_7 a7 (fx_X1_byOutcome a1 p0 p1)), .int a8, .int 1, .int a10, .int a11, .ref h1]))]) [0] rfl
          have hD9 := hD.sub (ws' := [(h0, .inr (1, [.int 0, .int a1, .int a2, .int a3, .int (gx_X1_told_4 (fx_X1_byOutcome a1 p0 p1)), .int (gx_X1_told_5 p0), .int (gx_X1_told_6 a6 (fx_X1_byOutcome a1 p0 p1)), .int (gx_X1_told_7 a7 (fx_X1_byOutcome a1 p0 p1)), .int a8, .int 1, .int a10, .int a11, .ref h1]))]) [0] (by decide) rfl
          have hK9 := hK.sub (tys' := []) [] rfl
          have eg_0 : gx_X1_act_0 = 0 := by rfl
          have eg_3 : gx_X1_act_3 a1 a2 a3 a8 a9 a11 p0 p1 = a3 := by unfold gx_X1_act_3; rw [if_neg c_1, if_pos c_2, if_pos c_4, if_pos c_56, if_pos c_81, if_neg c_95, if_pos c_103]
          have eg_4 : gx_X1_act_4 a1 a2 a3 a4 a8 a9 a11 p0 p1 = gx_X1_told_4 (fx_X1_byOutcome a1 p0 p1) := by unfold gx_X1_act_4; rw [if_neg c_1, if_pos c_2, if_pos c_4, if_pos c_56, if_pos c_81]
          have eg_5 : gx_X1_act_5 a5 p0 = gx_X1_told_5 p0 := by unfold gx_X1_act_5; rw [if_neg c_1, if_pos c_2]
          have eg_6 : gx_X1_act_6 a1 a2 a3 a6 a8 a9 a11 p0 p1 = gx_X1_told_6 a6 (fx_X1_byOutcome a1 p0 p1) := by unfold gx_X1_act_6; rw [if_neg c_1, if_pos c_2, if_pos c_4, if_pos c_56, if_pos c_81]
          have eg_7 : gx_X1_act_7 a1 a2 a3 a7 a8 a9 a11 p0 p1 = gx_X1_told_7 a7 (fx_X1_byOutcome a1 p0 p1) := by unfold gx_X1_act_7; rw [if_neg c_1, if_pos c_2, if_pos c_4, if_pos c_56, if_pos c_81]
          have eg_8 : gx_X1_act_8 a1 a2 a3 a8 a9 p0 p1 = a8 := by unfold gx_X1_act_8; rw [if_neg c_1, if_pos c_2, if_pos c_4, if_pos c_56]
          have eg_9 : gx_X1_act_9 a1 a2 a3 a8 a9 a11 p0 p1 = 1 := by unfold gx_X1_act_9; rw [if_neg c_1, if_pos c_2, if_pos c_4, if_pos c_56, if_pos c_81, if_neg c_84, if_pos c_94]
          have eg_11 : gx_X1_act_11 a1 a2 a3 a8 a9 a11 p0 p1 = a11 := by unfold gx_X1_act_11; rw [if_neg c_1, if_pos c_2, if_pos c_4, if_pos c_56, if_pos c_81, if_neg c_84, if_pos c_94]
          have ef : fx_X1_act a1 a2 a3 a8 a9 a11 p0 p1 = fx_X1_byOutcome a1 p0 p1 := by unfold fx_X1_act; rw [if_neg c_1, if_pos c_2, if_pos c_4, if_pos c_56, if_pos c_81]
          exact W.iret (v := fx_X1_byOutcome a1 p0 p1) hx hb hr (fun t ht hW => ⟨⟨(fx_X1_byOutcome a1 p0 p1), [(h0, .inr (1, [.int 0, .int a1, .int a2, .int a3, .int (gx_X1_told_4 (fx_X1_byOutcome a1 p0 p1)), .int (gx_X1_told_5 p0), .int (gx_X1_told_6 a6 (fx_X1_byOutcome a1 p0 p1)), .int (gx_X1_told_7 a7 (fx_X1_byOutcome a1 p0 p1)), .int a8, .int 1, .int a10, .int a11, .ref h1]))], rfl, ⟨ef.symm, by rw [eg_0, eg_3, eg_4, eg_5, eg_6, eg_7, eg_8, eg_9, eg_11]⟩, by rw [ht]; exact hP9, va_K.moved hW.alike hK9, hD9⟩, hS.F ht⟩) hS.2.2 dX1_act_196
        refine lv_aload_n hx hb dX1_act_161 rfl (lv_at hl 3 rfl) ?_
        refine va_get (D := (dC, dI)) (ci := 1) (v := .int a8) (C := RX1) (T := TX1) (N := 13) hx hb hts (fun _ h => List.mem_cons_of_mem _ (List.mem_append_right _ h)) hown hK hP 0 rfl rfl 8 (by decide) (hts (.fieldLink RX1 23 "FileStatusModel" "isOpen" "Z") (by decide +kernel)) (fun _ h9 => h9) rfl dX1_act_162 ?_
        refine lv_if_ne (tgt := 175) hx hb dX1_act_165 (by decide) (fun c9 => ?_) (fun c9 => absurd c9 c_95)
        refine lv_iload hx hb dX1_act_175 (lv_at hl 0 rfl) ?_
        refine va_put (D := (dC, dI)) (ci := 1) (v := .int (fx_X1_moved (fx_X1_byOutcome a1 p0 p1))) (ty := .int) (C := RX1) (T := TX1) (N := 13) hx hb hts (fun _ h => List.mem_cons_of_mem _ (List.mem_append_right _ h)) tyX1 tyX1_ok nmX1 hown hK hP hD hS 0 rfl rfl 3 (by decide) (hts (.fieldLink RX1 50 "FileStatusModel" "position" "I") (by decide +kernel)) (fun _ h9 => h9) rfl (by decide +kernel) rfl rfl (Nat.le_of_ble_eq_true rfl) dX1_act_177 (fun H locs hP hD hS => ?_)
        have hP : va_P (dC, dI) vwCl [(h0, .inr (1, [.int 0, .int a1, .int a2, .int (fx_X1_moved (fx_X1_byOutcome a1 p0 p1)), .int (gx_X1_told_4 (fx_X1_byOutcome a1 p0 p1)), .int (gx_X1_told_5 p0), .int (gx_X1_told_6 a6 (fx_X1_byOutcome a1 p0 p1)), .int (gx_X1_told_7 a7 (fx_X1_byOutcome a1 p0 p1)), .int a8, .int 1, .int a10, .int a11, .ref h1]))] H := hP
        have hD : va_D A [(h0, .inr (1, [.int 0, .int a1, .int a2, .int (fx_X1_moved (fx_X1_byOutcome a1 p0 p1)), .int (gx_X1_told_4 (fx_X1_byOutcome a1 p0 p1)), .int (gx_X1_told_5 p0), .int (gx_X1_told_6 a6 (fx_X1_byOutcome a1 p0 p1)), .int (gx_X1_told_7 a7 (fx_X1_byOutcome a1 p0 p1)), .int a8, .int 1, .int a10, .int a11, .ref h1]))] := hD
        refine lv_iload_n hx hb dX1_act_180 rfl (lv_at hl 4 rfl) ?_
        refine lv_bipush (v := 6) hx hb dX1_act_181 (by decide) ?_
        refine lv_icmp_ne (tgt := 195) hx hb dX1_act_183 (by decide) (fun c9 => ?_) (fun c9 => absurd (c_56.symm.trans c9) (by decide))
        refine lv_iload_n hx hb dX1_act_195 rfl (lv_at hl 2 rfl) ?_
        have hP9 := hP.sub (ws' := [(h0, .inr (1, [.int 0, .int a1, .int a2, .int (fx_X1_moved (fx_X1_byOutcome a1 p0 p1)), .int (gx_X1_told_4 (fx_X1_byOutcome a1 p0 p1)), .int (gx_X1_told_5 p0), .int (gx_X1_told_6 a6 (fx_X1_byOutcome a1 p0 p1)), .int (gx_X1_told_7 a7 (fx_X1_byOutcome a1 p0 p1)), .int a8, .int 1, .int a10, .int a11, .ref h1]))]) [0] rfl
        have hD9 := hD.sub (ws' := [(h0, .inr (1, [.int 0, .int a1, .int a2, .int (fx_X1_moved (fx_X1_byOutcome a1 p0 p1)), .int (gx_X1_told_4 (fx_X1_byOutcome a1 p0 p1)), .int (gx_X1_told_5 p0), .int (gx_X1_told_6 a6 (fx_X1_byOutcome a1 p0 p1)), .int (gx_X1_told_7 a7 (fx_X1_byOutcome a1 p0 p1)), .int a8, .int 1, .int a10, .int a11, .ref h1]))]) [0] (by decide) rfl
        have hK9 := hK.sub (tys' := []) [] rfl
        have eg_0 : gx_X1_act_0 = 0 := by rfl
        have eg_3 : gx_X1_act_3 a1 a2 a3 a8 a9 a11 p0 p1 = fx_X1_moved (fx_X1_byOutcome a1 p0 p1) := by unfold gx_X1_act_3; rw [if_neg c_1, if_pos c_2, if_pos c_4, if_pos c_56, if_pos c_81, if_neg c_95, if_neg c_103]
        have eg_4 : gx_X1_act_4 a1 a2 a3 a4 a8 a9 a11 p0 p1 = gx_X1_told_4 (fx_X1_byOutcome a1 p0 p1) := by unfold gx_X1_act_4; rw [if_neg c_1, if_pos c_2, if_pos c_4, if_pos c_56, if_pos c_81]
        have eg_5 : gx_X1_act_5 a5 p0 = gx_X1_told_5 p0 := by unfold gx_X1_act_5; rw [if_neg c_1, if_pos c_2]
        have eg_6 : gx_X1_act_6 a1 a2 a3 a6 a8 a9 a11 p0 p1 = gx_X1_told_6 a6 (fx_X1_byOutcome a1 p0 p1) := by unfold gx_X1_act_6; rw [if_neg c_1, if_pos c_2, if_pos c_4, if_pos c_56, if_pos c_81]
        have eg_7 : gx_X1_act_7 a1 a2 a3 a7 a8 a9 a11 p0 p1 = gx_X1_told_7 a7 (fx_X1_byOutcome a1 p0 p1) := by unfold gx_X1_act_7; rw [if_neg c_1, if_pos c_2, if_pos c_4, if_pos c_56, if_pos c_81]
        have eg_8 : gx_X1_act_8 a1 a2 a3 a8 a9 p0 p1 = a8 := by unfold gx_X1_act_8; rw [if_neg c_1, if_pos c_2, if_pos c_4, if_pos c_56]
        have eg_9 : gx_X1_act_9 a1 a2 a3 a8 a9 a11 p0 p1 = 1 := by unfold gx_X1_act_9; rw [if_neg c_1, if_pos c_2, if_pos c_4, if_pos c_56, if_pos c_81, if_neg c_84, if_pos c_94]
        have eg_11 : gx_X1_act_11 a1 a2 a3 a8 a9 a11 p0 p1 = a11 := by unfold gx_X1_act_11; rw [if_neg c_1, if_pos c_2, if_pos c_4, if_pos c_56, if_pos c_81, if_neg c_84, if_pos c_94]
        have ef : fx_X1_act a1 a2 a3 a8 a9 a11 p0 p1 = fx_X1_byOutcome a1 p0 p1 := by unfold fx_X1_act; rw [if_neg c_1, if_pos c_2, if_pos c_4, if_pos c_56, if_pos c_81]
        exact W.iret (v := fx_X1_byOutcome a1 p0 p1) hx hb hr (fun t ht hW => ⟨⟨(fx_X1_byOutcome a1 p0 p1), [(h0, .inr (1, [.int 0, .int a1, .int a2, .int (fx_X1_moved (fx_X1_byOutcome a1 p0 p1)), .int (gx_X1_told_4 (fx_X1_byOutcome a1 p0 p1)), .int (gx_X1_told_5 p0), .int (gx_X1_told_6 a6 (fx_X1_byOutcome a1 p0 p1)), .int (gx_X1_told_7 a7 (fx_X1_byOutcome a1 p0 p1)), .int a8, .int 1, .int a10, .int a11, .ref h1]))], rfl, ⟨ef.symm, by rw [eg_0, eg_3, eg_4, eg_5, eg_6, eg_7, eg_8, eg_9, eg_11]⟩, by rw [ht]; exact hP9, va_K.moved hW.alike hK9, hD9⟩, hS.F ht⟩) hS.2.2 dX1_act_196
      refine lv_iload_n hx hb dX1_act_77 rfl (lv_at hl 0 rfl) ?_
      refine lv_iconst (v := 4) hx hb dX1_act_78 (by decide) ?_
      refine lv_icmp_ne (tgt := 86) hx hb dX1_act_79 (by decide) (fun c_104 => ?_) (fun c_104 => ?_)
      · refine lv_iconst (v := 0) hx hb dX1_act_86 (by decide) ?_
        refine va_put (D := (dC, dI)) (ci := 1) (v := .int 0) (ty := .boolean) (C := RX1) (T := TX1) (N := 13) hx hb hts (fun _ h => List.mem_cons_of_mem _ (List.mem_append_right _ h)) tyX1 tyX1_ok nmX1 hown hK hP hD hS 0 rfl rfl 9 (by decide) (hts (.fieldLink RX1 47 "FileStatusModel" "permit" "Z") (by decide +kernel)) (fun _ h9 => h9) rfl (by decide +kernel) rfl rfl (Nat.le_of_ble_eq_true rfl) dX1_act_87 (fun H locs hP hD hS => ?_)
        have hP : va_P (dC, dI) vwCl [(h0, .inr (1, [.int 0, .int a1, .int a2, .int a3, .int (gx_X1_told_4 (fx_X1_byOutcome a1 p0 p1)), .int (gx_X1_told_5 p0), .int (gx_X1_told_6 a6 (fx_X1_byOutcome a1 p0 p1)), .int (gx_X1_told_7 a7 (fx_X1_byOutcome a1 p0 p1)), .int a8, .int 0, .int a10, .int a11, .ref h1]))] H := hP
        have hD : va_D A [(h0, .inr (1, [.int 0, .int a1, .int a2, .int a3, .int (gx_X1_told_4 (fx_X1_byOutcome a1 p0 p1)), .int (gx_X1_told_5 p0), .int (gx_X1_told_6 a6 (fx_X1_byOutcome a1 p0 p1)), .int (gx_X1_told_7 a7 (fx_X1_byOutcome a1 p0 p1)), .int a8, .int 0, .int a10, .int a11, .ref h1]))] := hD
        refine lv_iload_n hx hb dX1_act_90 rfl (lv_at hl 2 rfl) ?_
        refine lv_if_ne (tgt := 119) hx hb dX1_act_91 (by decide) (fun c9 => absurd c_56 c9) (fun c9 => ?_)
        refine lv_aload_n hx hb dX1_act_94 rfl (lv_at hl 1 rfl) ?_
        refine va_get (D := (dC, dI)) (ci := 1) (v := .int a8) (C := RX1) (T := TX1) (N := 13) hx hb hts (fun _ h => List.mem_cons_of_mem _ (List.mem_append_right _ h)) hown hK hP 0 rfl rfl 8 (by decide) (hts (.fieldLink RX1 23 "FileStatusModel" "isOpen" "Z") (by decide +kernel)) (fun _ h9 => h9) rfl dX1_act_95 ?_
        refine lv_if_eq (tgt := 119) hx hb dX1_act_98 (by decide) (fun c_105 => ?_) (fun c_105 => ?_)
        · refine lv_iload_n hx hb dX1_act_119 rfl (lv_at hl 2 rfl) ?_
          refine lv_if_eq (tgt := 133) hx hb dX1_act_120 (by decide) (fun c9 => ?_) (fun c9 => absurd c_56 c9)
          refine lv_iconst (v := 1) hx hb dX1_act_133 (by decide) ?_
          refine lv_goto (tgt := 138) hx hb dX1_act_134 (by decide) ?_
          refine lv_istore (lv' := [(4, .int 1), (3, .int (fx_X1_byOutcome a1 p0 p1)), (0, .ref h0), (1, .int p0), (2, .int p1)]) hx hb dX1_act_138 hl (by decide) rfl (fun ls hl => ?_)
          refine lv_iload hx hb dX1_act_140 (lv_at hl 0 rfl) ?_
          refine lv_if_eq (tgt := 152) hx hb dX1_act_142 (by decide) (fun c9 => absurd c9 (by decide)) (fun c9 => ?_)
          refine lv_iload_n hx hb dX1_act_145 rfl (lv_at hl 1 rfl) ?_
          have hPc := hP.sub (ws' := []) [] rfl
          have hDc := hD.sub (ws' := []) [] (by decide) rfl
          have hKc := hK.sub (tys' := []) [] rfl
          have hFc := va_free (wc := []) hD hS hA [] rfl
          refine va_calli (va_runS (As := [.int (fx_X1_byOutcome a1 p0 p1)]) (rest := []) ⟨hx, hb, hml, hown, hts⟩ (ct_X1_moved l dC dI H.size (fx_X1_byOutcome a1 p0 p1)) (va_cwS 1 hts gX1_act_X1_moved rfl rfl rfl (by decide +kernel) ⟨Nat.le_of_ble_eq_true rfl, Nat.le_of_ble_eq_true rfl⟩) ⟨fun a U g mk q => by obtain ⟨q0, q1, qP, qK, qD⟩ := q; exact ⟨q0, q1, qP, va_K.moved (u := U) (U := U.calling g mk a) (Vm.Alike.refl U.vm) qK, qD⟩, fun U hU hW => ⟨rfl, by rw [hU], by rw [hU]; exact hPc, va_K.moved hW.alike hKc, hDc.weaken (fun _ _ _ _ => trivial)⟩⟩ rfl rfl hl.1 rfl (lv_room (Nat.le_of_ble_eq_true rfl)) dX1_act_146 ⟨(Nat.zero_le _), (Nat.zero_le _)⟩) hS (fun q _ h => hFc q h) hFc (fun r_106 u t H1 locs ht hvm hw hB hz1 hk1 hS => ?_)
          obtain ⟨er, hu⟩ := hw
          subst hu
          subst er
          obtain ⟨hP1, -, hD1⟩ := hB
          rw [ht] at hP1
          obtain ⟨hP, hD⟩ := va_join (wr := [(h0, .inr (1, [.int 0, .int a1, .int a2, .int a3, .int (gx_X1_told_4 (fx_X1_byOutcome a1 p0 p1)), .int (gx_X1_told_5 p0), .int (gx_X1_told_6 a6 (fx_X1_byOutcome a1 p0 p1)), .int (gx_X1_told_7 a7 (fx_X1_byOutcome a1 p0 p1)), .int a8, .int 0, .int a10, .int a11, .ref h1]))]) (w1 := []) hP hD [] [0] rfl rfl (by decide) (by decide) hk1 hFc hP1 hD1
          generalize H1 = H at hP hS ⊢
          have hP : va_P (dC, dI) vwCl [(h0, .inr (1, [.int 0, .int a1, .int a2, .int a3, .int (gx_X1_told_4 (fx_X1_byOutcome a1 p0 p1)), .int (gx_X1_told_5 p0), .int (gx_X1_told_6 a6 (fx_X1_byOutcome a1 p0 p1)), .int (gx_X1_told_7 a7 (fx_X1_byOutcome a1 p0 p1)), .int a8, .int 0, .int a10, .int a11, .ref h1]))] H := hP
          have hD : va_D A [(h0, .inr (1, [.int 0, .int a1, .int a2, .int a3, .int (gx_X1_told_4 (fx_X1_byOutcome a1 p0 p1)), .int (gx_X1_told_5 p0), .int (gx_X1_told_6 a6 (fx_X1_byOutcome a1 p0 p1)), .int (gx_X1_told_7 a7 (fx_X1_byOutcome a1 p0 p1)), .int a8, .int 0, .int a10, .int a11, .ref h1]))] := hD
          refine lv_goto (tgt := 153) hx hb dX1_act_149 (by decide) ?_
          refine lv_istore (lv' := [(5, .int (fx_X1_moved (fx_X1_byOutcome a1 p0 p1))), (4, .int 1), (3, .int (fx_X1_byOutcome a1 p0 p1)), (0, .ref h0), (1, .int p0), (2, .int p1)]) hx hb dX1_act_153 hl (by decide) rfl (fun ls hl => ?_)
          refine lv_aload_n hx hb dX1_act_155 rfl (lv_at hl 3 rfl) ?_
          refine lv_iload hx hb dX1_act_156 (lv_at hl 0 rfl) ?_
          refine lv_if_eq (tgt := 168) hx hb dX1_act_158 (by decide) (fun c_107 => ?_) (fun c_107 => ?_)
          · refine lv_aload_n hx hb dX1_act_168 rfl (lv_at hl 3 rfl) ?_
            refine va_get (D := (dC, dI)) (ci := 1) (v := .int a3) (C := RX1) (T := TX1) (N := 13) hx hb hts (fun _ h => List.mem_cons_of_mem _ (List.mem_append_right _ h)) hown hK hP 0 rfl rfl 3 (by decide) (hts (.fieldLink RX1 50 "FileStatusModel" "position" "I") (by decide +kernel)) (fun _ h9 => h9) rfl dX1_act_169 ?_
            refine lv_goto (tgt := 177) hx hb dX1_act_172 (by decide) ?_
            refine va_put (D := (dC, dI)) (ci := 1) (v := .int a3) (ty := .int) (C := RX1) (T := TX1) (N := 13) hx hb hts (fun _ h => List.mem_cons_of_mem _ (List.mem_append_right _ h)) tyX1 tyX1_ok nmX1 hown hK hP hD hS 0 rfl rfl 3 (by decide) (hts (.fieldLink RX1 50 "FileStatusModel" "position" "I") (by decide +kernel)) (fun _ h9 => h9) rfl (by decide +kernel) rfl rfl (Nat.le_of_ble_eq_true rfl) dX1_act_177 (fun H locs hP hD hS => ?_)
            have hP : va_P (dC, dI) vwCl [(h0, .inr (1, [.int 0, .int a1, .int a2, .int a3, .int (gx_X1_told_4 (fx_X1_byOutcome a1 p0 p1)), .int (gx_X1_told_5 p0), .int (gx_X1_told_6 a6 (fx_X1_byOutcome a1 p0 p1)), .int (gx_X1_told_7 a7 (fx_X1_byOutcome a1 p0 p1)), .int a8, .int 0, .int a10, .int a11, .ref h1]))] H := hP
            have hD : va_D A [(h0, .inr (1, [.int 0, .int a1, .int a2, .int a3, .int (gx_X1_told_4 (fx_X1_byOutcome a1 p0 p1)), .int (gx_X1_told_5 p0), .int (gx_X1_told_6 a6 (fx_X1_byOutcome a1 p0 p1)), .int (gx_X1_told_7 a7 (fx_X1_byOutcome a1 p0 p1)), .int a8, .int 0, .int a10, .int a11, .ref h1]))] := hD
            refine lv_iload_n hx hb dX1_act_180 rfl (lv_at hl 4 rfl) ?_
            refine lv_bipush (v := 6) hx hb dX1_act_181 (by decide) ?_
            refine lv_icmp_ne (tgt := 195) hx hb dX1_act_183 (by decide) (fun c9 => ?_) (fun c9 => absurd (c_56.symm.trans c9) (by decide))
            refine lv_iload_n hx hb dX1_act_195 rfl (lv_at hl 2 rfl) ?_
            have hP9 := hP.sub (ws' := [(h0, .inr (1, [.int 0, .int a1, .int a2, .int a3, .int (gx_X1_told_4 (fx_X1_byOutcome a1 p0 p1)), .int (gx_X1_told_5 p0), .int (gx_X1_told_6 a6 (fx_X1_byOutcome a1 p0 p1)), .int (gx_X1_told_7 a7 (fx_X1_byOutcome a1 p0 p1)), .int a8, .int 0, .int a10, .int a11, .ref h1]))]) [0] rfl
            have hD9 := hD.sub (ws' := [(h0, .inr (1, [.int 0, .int a1, .int a2, .int a3, .int (gx_X1_told_4 (fx_X1_byOutcome a1 p0 p1)), .int (gx_X1_told_5 p0), .int (gx_X1_told_6 a6 (fx_X1_byOutcome a1 p0 p1)), .int (gx_X1_told_7 a7 (fx_X1_byOutcome a1 p0 p1)), .int a8, .int 0, .int a10, .int a11, .ref h1]))]) [0] (by decide) rfl
            have hK9 := hK.sub (tys' := []) [] rfl
            have eg_0 : gx_X1_act_0 = 0 := by rfl
            have eg_3 : gx_X1_act_3 a1 a2 a3 a8 a9 a11 p0 p1 = a3 := by unfold gx_X1_act_3; rw [if_neg c_1, if_pos c_2, if_pos c_4, if_pos c_56, if_pos c_81, if_pos c_105]
            have eg_4 : gx_X1_act_4 a1 a2 a3 a4 a8 a9 a11 p0 p1 = gx_X1_told_4 (fx_X1_byOutcome a1 p0 p1) := by unfold gx_X1_act_4; rw [if_neg c_1, if_pos c_2, if_pos c_4, if_pos c_56, if_pos c_81]
            have eg_5 : gx_X1_act_5 a5 p0 = gx_X1_told_5 p0 := by unfold gx_X1_act_5; rw [if_neg c_1, if_pos c_2]
            have eg_6 : gx_X1_act_6 a1 a2 a3 a6 a8 a9 a11 p0 p1 = gx_X1_told_6 a6 (fx_X1_byOutcome a1 p0 p1) := by unfold gx_X1_act_6; rw [if_neg c_1, if_pos c_2, if_pos c_4, if_pos c_56, if_pos c_81]
            have eg_7 : gx_X1_act_7 a1 a2 a3 a7 a8 a9 a11 p0 p1 = gx_X1_told_7 a7 (fx_X1_byOutcome a1 p0 p1) := by unfold gx_X1_act_7; rw [if_neg c_1, if_pos c_2, if_pos c_4, if_pos c_56, if_pos c_81]
            have eg_8 : gx_X1_act_8 a1 a2 a3 a8 a9 p0 p1 = a8 := by unfold gx_X1_act_8; rw [if_neg c_1, if_pos c_2, if_pos c_4, if_pos c_56]
            have eg_9 : gx_X1_act_9 a1 a2 a3 a8 a9 a11 p0 p1 = 0 := by unfold gx_X1_act_9; rw [if_neg c_1, if_pos c_2, if_pos c_4, if_pos c_56, if_pos c_81, if_neg c_84, if_neg c_94, if_neg c_104]
            have eg_11 : gx_X1_act_11 a1 a2 a3 a8 a9 a11 p0 p1 = a11 := by unfold gx_X1_act_11; rw [if_neg c_1, if_pos c_2, if_pos c_4, if_pos c_56, if_pos c_81, if_neg c_84, if_neg c_94, if_neg c_104, if_pos c_105]
            have ef : fx_X1_act a1 a2 a3 a8 a9 a11 p0 p1 = fx_X1_byOutcome a1 p0 p1 := by unfold fx_X1_act; rw [if_neg c_1, if_pos c_2, if_pos c_4, if_pos c_56, if_pos c_81]
            exact W.iret (v := fx_X1_byOutcome a1 p0 p1) hx hb hr (fun t ht hW => ⟨⟨(fx_X1_byOutcome a1 p0 p1), [(h0, .inr (1, [.int 0, .int a1, .int a2, .int a3, .int (gx_X1_told_4 (fx_X1_byOutcome a1 p0 p1)), .int (gx_X1_told_5 p0), .int (gx_X1_told_6 a6 (fx_X1_byOutcome a1 p0 p1)), .int (gx_X1_told_7 a7 (fx_X1_byOutcome a1 p0 p1)), .int a8, .int 0, .int a10, .int a11, .ref h1]))], rfl, ⟨ef.symm, by rw [eg_0, eg_3, eg_4, eg_5, eg_6, eg_7, eg_8, eg_9, eg_11]⟩, by rw [ht]; exact hP9, va_K.moved hW.alike hK9, hD9⟩, hS.F ht⟩) hS.2.2 dX1_act_196
          refine lv_aload_n hx hb dX1_act_161 rfl (lv_at hl 3 rfl) ?_
          refine va_get (D := (dC, dI)) (ci := 1) (v := .int a8) (C := RX1) (T := TX1) (N := 13) hx hb hts (fun _ h => List.mem_cons_of_mem _ (List.mem_append_right _ h)) hown hK hP 0 rfl rfl 8 (by decide) (hts (.fieldLink RX1 23 "FileStatusModel" "isOpen" "Z") (by decide +kernel)) (fun _ h9 => h9) rfl dX1_act_162 ?_
          refine lv_if_ne (tgt := 175) hx hb dX1_act_165 (by decide) (fun c9 => absurd c_105 c9) (fun c9 => ?_)
          refine lv_aload_n hx hb dX1_act_168 rfl (lv_at hl 3 rfl) ?_
          refine va_get (D := (dC, dI)) (ci := 1) (v := .int a3) (C := RX1) (T := TX1) (N := 13) hx hb hts (fun _ h => List.mem_cons_of_mem _ (List.mem_append_right _ h)) hown hK hP 0 rfl rfl 3 (by decide) (hts (.fieldLink RX1 50 "FileStatusModel" "position" "I") (by decide +kernel)) (fun _ h9 => h9) rfl dX1_act_169 ?_
          refine lv_goto (tgt := 177) hx hb dX1_act_172 (by decide) ?_
          refine va_put (D := (dC, dI)) (ci := 1) (v := .int a3) (ty := .int) (C := RX1) (T := TX1) (N := 13) hx hb hts (fun _ h => List.mem_cons_of_mem _ (List.mem_append_right _ h)) tyX1 tyX1_ok nmX1 hown hK hP hD hS 0 rfl rfl 3 (by decide) (hts (.fieldLink RX1 50 "FileStatusModel" "position" "I") (by decide +kernel)) (fun _ h9 => h9) rfl (by decide +kernel) rfl rfl (Nat.le_of_ble_eq_true rfl) dX1_act_177 (fun H locs hP hD hS => ?_)
          have hP : va_P (dC, dI) vwCl [(h0, .inr (1, [.int 0, .int a1, .int a2, .int a3, .int (gx_X1_told_4 (fx_X1_byOutcome a1 p0 p1)), .int (gx_X1_told_5 p0), .int (gx_X1_told_6 a6 (fx_X1_byOutcome a1 p0 p1)), .int (gx_X1_told_7 a7 (fx_X1_byOutcome a1 p0 p1)), .int a8, .int 0, .int a10, .int a11, .ref h1]))] H := hP
          have hD : va_D A [(h0, .inr (1, [.int 0, .int a1, .int a2, .int a3, .int (gx_X1_told_4 (fx_X1_byOutcome a1 p0 p1)), .int (gx_X1_told_5 p0), .int (gx_X1_told_6 a6 (fx_X1_byOutcome a1 p0 p1)), .int (gx_X1_told_7 a7 (fx_X1_byOutcome a1 p0 p1)), .int a8, .int 0, .int a10, .int a11, .ref h1]))] := hD
          refine lv_iload_n hx hb dX1_act_180 rfl (lv_at hl 4 rfl) ?_
          refine lv_bipush (v := 6) hx hb dX1_act_181 (by decide) ?_
          refine lv_icmp_ne (tgt := 195) hx hb dX1_act_183 (by decide) (fun c9 => ?_) (fun c9 => absurd (c_56.symm.trans c9) (by decide))
          refine lv_iload_n hx hb dX1_act_195 rfl (lv_at hl 2 rfl) ?_
          have hP9 := hP.sub (ws' := [(h0, .inr (1, [.int 0, .int a1, .int a2, .int a3, .int (gx_X1_told_4 (fx_X1_byOutcome a1 p0 p1)), .int (gx_X1_told_5 p0), .int (gx_X1_told_6 a6 (fx_X1_byOutcome a1 p0 p1)), .int (gx_X1_told_7 a7 (fx_X1_byOutcome a1 p0 p1)), .int a8, .int 0, .int a10, .int a11, .ref h1]))]) [0] rfl
          have hD9 := hD.sub (ws' := [(h0, .inr (1, [.int 0, .int a1, .int a2, .int a3, .int (gx_X1_told_4 (fx_X1_byOutcome a1 p0 p1)), .int (gx_X1_told_5 p0), .int (gx_X1_told_6 a6 (fx_X1_byOutcome a1 p0 p1)), .int (gx_X1_told_7 a7 (fx_X1_byOutcome a1 p0 p1)), .int a8, .int 0, .int a10, .int a11, .ref h1]))]) [0] (by decide) rfl
          have hK9 := hK.sub (tys' := []) [] rfl
          have eg_0 : gx_X1_act_0 = 0 := by rfl
          have eg_3 : gx_X1_act_3 a1 a2 a3 a8 a9 a11 p0 p1 = a3 := by unfold gx_X1_act_3; rw [if_neg c_1, if_pos c_2, if_pos c_4, if_pos c_56, if_pos c_81, if_pos c_105]
          have eg_4 : gx_X1_act_4 a1 a2 a3 a4 a8 a9 a11 p0 p1 = gx_X1_told_4 (fx_X1_byOutcome a1 p0 p1) := by unfold gx_X1_act_4; rw [if_neg c_1, if_pos c_2, if_pos c_4, if_pos c_56, if_pos c_81]
          have eg_5 : gx_X1_act_5 a5 p0 = gx_X1_told_5 p0 := by unfold gx_X1_act_5; rw [if_neg c_1, if_pos c_2]
          have eg_6 : gx_X1_act_6 a1 a2 a3 a6 a8 a9 a11 p0 p1 = gx_X1_told_6 a6 (fx_X1_byOutcome a1 p0 p1) := by unfold gx_X1_act_6; rw [if_neg c_1, if_pos c_2, if_pos c_4, if_pos c_56, if_pos c_81]
          have eg_7 : gx_X1_act_7 a1 a2 a3 a7 a8 a9 a11 p0 p1 = gx_X1_told_7 a7 (fx_X1_byOutcome a1 p0 p1) := by unfold gx_X1_act_7; rw [if_neg c_1, if_pos c_2, if_pos c_4, if_pos c_56, if_pos c_81]
          have eg_8 : gx_X1_act_8 a1 a2 a3 a8 a9 p0 p1 = a8 := by unfold gx_X1_act_8; rw [if_neg c_1, if_pos c_2, if_pos c_4, if_pos c_56]
          have eg_9 : gx_X1_act_9 a1 a2 a3 a8 a9 a11 p0 p1 = 0 := by unfold gx_X1_act_9; rw [if_neg c_1, if_pos c_2, if_pos c_4, if_pos c_56, if_pos c_81, if_neg c_84, if_neg c_94, if_neg c_104]
          have eg_11 : gx_X1_act_11 a1 a2 a3 a8 a9 a11 p0 p1 = a11 := by unfold gx_X1_act_11; rw [if_neg c_1, if_pos c_2, if_pos c_4, if_pos c_56, if_pos c_81, if_neg c_84, if_neg c_94, if_neg c_104, if_pos c_105]
          have ef : fx_X1_act a1 a2 a3 a8 a9 a11 p0 p1 = fx_X1_byOutcome a1 p0 p1 := by unfold fx_X1_act; rw [if_neg c_1, if_pos c_2, if_pos c_4, if_pos c_56, if_pos c_81]
          exact W.iret (v := fx_X1_byOutcome a1 p0 p1) hx hb hr (fun t ht hW => ⟨⟨(fx_X1_byOutcome a1 p0 p1), [(h0, .inr (1, [.int 0, .int a1, .int a2, .int a3, .int (gx_X1_told_4 (fx_X1_byOutcome a1 p0 p1)), .int (gx_X1_told_5 p0), .int (gx_X1_told_6 a6 (fx_X1_byOutcome a1 p0 p1)), .int (gx_X1_told_7 a7 (fx_X1_byOutcome a1 p0 p1)), .int a8, .int 0, .int a10, .int a11, .ref h1]))], rfl, ⟨ef.symm, by rw [eg_0, eg_3, eg_4, eg_5, eg_6, eg_7, eg_8, eg_9, eg_11]⟩, by rw [ht]; exact hP9, va_K.moved hW.alike hK9, hD9⟩, hS.F ht⟩) hS.2.2 dX1_act_196
        refine lv_aload_n hx hb dX1_act_101 rfl (lv_at hl 1 rfl) ?_
        have hPc := hP.sub (ws' := [(h0, .inr (1, [.int 0, .int a1, .int a2, .int a3, .int (gx_X1_told_4 (fx_X1_byOutcome a1 p0 p1)), .int (gx_X1_told_5 p0), .int (gx_X1_told_6 a6 (fx_X1_byOutcome a1 p0 p1)), .int (gx_X1_told_7 a7 (fx_X1_byOutcome a1 p0 p1)), .int a8, .int 0, .int a10, .int a11, .ref h1]))]) [0] rfl
        have hDc := hD.sub (ws' := [(h0, .inr (1, [.int 0, .int a1, .int a2, .int a3, .int (gx_X1_told_4 (fx_X1_byOutcome a1 p0 p1)), .int (gx_X1_told_5 p0), .int (gx_X1_told_6 a6 (fx_X1_byOutcome a1 p0 p1)), .int (gx_X1_told_7 a7 (fx_X1_byOutcome a1 p0 p1)), .int a8, .int 0, .int a10, .int a11, .ref h1]))]) [0] (by decide) rfl
        have hKc := hK.sub (tys' := []) [] rfl
        have hFc := va_free (wc := [(h0, .inr (1, [.int 0, .int a1, .int a2, .int a3, .int (gx_X1_told_4 (fx_X1_byOutcome a1 p0 p1)), .int (gx_X1_told_5 p0), .int (gx_X1_told_6 a6 (fx_X1_byOutcome a1 p0 p1)), .int (gx_X1_told_7 a7 (fx_X1_byOutcome a1 p0 p1)), .int a8, .int 0, .int a10, .int a11, .ref h1]))]) hD hS hA [0] rfl
        refine va_calli (va_runV (As := []) (rest := []) ⟨hx, hb, hml, hown, hts⟩ (ct_X1_reads l dC dI h0 h1 H.size 0 a1 a2 a3 (gx_X1_told_4 (fx_X1_byOutcome a1 p0 p1)) (gx_X1_told_5 p0) (gx_X1_told_6 a6 (fx_X1_byOutcome a1 p0 p1)) (gx_X1_told_7 a7 (fx_X1_byOutcome a1 p0 p1)) a8 0 a10 a11) (cwV 0 hts gX1_act_X1_reads rfl rfl rfl (by decide +kernel) ⟨Nat.le_of_ble_eq_true rfl, Nat.le_of_ble_eq_true rfl⟩) ⟨fun a U g mk q => by obtain ⟨q0, q1, qP, qK, qD⟩ := q; exact ⟨q0, q1, qP, va_K.moved (u := U) (U := U.calling g mk a) (Vm.Alike.refl U.vm) qK, qD⟩, va_recv hKc hPc (ci := 1) (q0 := 0) rfl rfl, fun U hU hW => ⟨rfl, by rw [hU], by rw [hU]; exact hPc, va_K.moved hW.alike hKc, hDc.weaken (fun _ _ _ _ => trivial)⟩⟩ rfl rfl hl.1 rfl (lv_room (Nat.le_of_ble_eq_true rfl)) dX1_act_102 ⟨(Nat.zero_le _), (Nat.zero_le _)⟩) hS (fun q _ h => hFc q h) hFc (fun r_108 u t H1 locs ht hvm hw hB hz1 hk1 hS => ?_)
        obtain ⟨er, hu⟩ := hw
        subst hu
        subst er
        obtain ⟨hP1, -, hD1⟩ := hB
        rw [ht] at hP1
        obtain ⟨hP, hD⟩ := va_join (wr := []) (w1 := [(h0, .inr (1, [.int 0, .int a1, .int a2, .int a3, .int (gx_X1_told_4 (fx_X1_byOutcome a1 p0 p1)), .int (gx_X1_told_5 p0), .int (gx_X1_told_6 a6 (fx_X1_byOutcome a1 p0 p1)), .int (gx_X1_told_7 a7 (fx_X1_byOutcome a1 p0 p1)), .int a8, .int 0, .int a10, .int a11, .ref h1]))]) hP hD [0] [] rfl rfl (by decide) (by decide) hk1 hFc hP1 hD1
        generalize H1 = H at hP hS ⊢
        have hP : va_P (dC, dI) vwCl [(h0, .inr (1, [.int 0, .int a1, .int a2, .int a3, .int (gx_X1_told_4 (fx_X1_byOutcome a1 p0 p1)), .int (gx_X1_told_5 p0), .int (gx_X1_told_6 a6 (fx_X1_byOutcome a1 p0 p1)), .int (gx_X1_told_7 a7 (fx_X1_byOutcome a1 p0 p1)), .int a8, .int 0, .int a10, .int a11, .ref h1]))] H := hP
        have hD : va_D A [(h0, .inr (1, [.int 0, .int a1, .int a2, .int a3, .int (gx_X1_told_4 (fx_X1_byOutcome a1 p0 p1)), .int (gx_X1_told_5 p0), .int (gx_X1_told_6 a6 (fx_X1_byOutcome a1 p0 p1)), .int (gx_X1_told_7 a7 (fx_X1_byOutcome a1 p0 p1)), .int a8, .int 0, .int a10, .int a11, .ref h1]))] := hD
        refine lv_if_eq (tgt := 119) hx hb dX1_act_105 (by decide) (fun c_109 => ?_) (fun c_109 => ?_)
        · refine lv_iload_n hx hb dX1_act_119 rfl (lv_at hl 2 rfl) ?_
          refine lv_if_eq (tgt := 133) hx hb dX1_act_120 (by decide) (fun c9 => ?_) (fun c9 => absurd c_56 c9)
          refine lv_iconst (v := 1) hx hb dX1_act_133 (by decide) ?_
          refine lv_goto (tgt := 138) hx hb dX1_act_134 (by decide) ?_
          refine lv_istore (lv' := [(4, .int 1), (3, .int (fx_X1_byOutcome a1 p0 p1)), (0, .ref h0), (1, .int p0), (2, .int p1)]) hx hb dX1_act_138 hl (by decide) rfl (fun ls hl => ?_)
          refine lv_iload hx hb dX1_act_140 (lv_at hl 0 rfl) ?_
          refine lv_if_eq (tgt := 152) hx hb dX1_act_142 (by decide) (fun c9 => absurd c9 (by decide)) (fun c9 => ?_)
          refine lv_iload_n hx hb dX1_act_145 rfl (lv_at hl 1 rfl) ?_
          have hPc := hP.sub (ws' := []) [] rfl
          have hDc := hD.sub (ws' := []) [] (by decide) rfl
          have hKc := hK.sub (tys' := []) [] rfl
          have hFc := va_free (wc := []) hD hS hA [] rfl
          refine va_calli (va_runS (As := [.int (fx_X1_byOutcome a1 p0 p1)]) (rest := []) ⟨hx, hb, hml, hown, hts⟩ (ct_X1_moved l dC dI H.size (fx_X1_byOutcome a1 p0 p1)) (va_cwS 1 hts gX1_act_X1_moved rfl rfl rfl (by decide +kernel) ⟨Nat.le_of_ble_eq_true rfl, Nat.le_of_ble_eq_true rfl⟩) ⟨fun a U g mk q => by obtain ⟨q0, q1, qP, qK, qD⟩ := q; exact ⟨q0, q1, qP, va_K.moved (u := U) (U := U.calling g mk a) (Vm.Alike.refl U.vm) qK, qD⟩, fun U hU hW => ⟨rfl, by rw [hU], by rw [hU]; exact hPc, va_K.moved hW.alike hKc, hDc.weaken (fun _ _ _ _ => trivial)⟩⟩ rfl rfl hl.1 rfl (lv_room (Nat.le_of_ble_eq_true rfl)) dX1_act_146 ⟨(Nat.zero_le _), (Nat.zero_le _)⟩) hS (fun q _ h => hFc q h) hFc (fun r_110 u t H1 locs ht hvm hw hB hz1 hk1 hS => ?_)
          obtain ⟨er, hu⟩ := hw
          subst hu
          subst er
          obtain ⟨hP1, -, hD1⟩ := hB
          rw [ht] at hP1
          obtain ⟨hP, hD⟩ := va_join (wr := [(h0, .inr (1, [.int 0, .int a1, .int a2, .int a3, .int (gx_X1_told_4 (fx_X1_byOutcome a1 p0 p1)), .int (gx_X1_told_5 p0), .int (gx_X1_told_6 a6 (fx_X1_byOutcome a1 p0 p1)), .int (gx_X1_told_7 a7 (fx_X1_byOutcome a1 p0 p1)), .int a8, .int 0, .int a10, .int a11, .ref h1]))]) (w1 := []) hP hD [] [0] rfl rfl (by decide) (by decide) hk1 hFc hP1 hD1
          generalize H1 = H at hP hS ⊢
          have hP : va_P (dC, dI) vwCl [(h0, .inr (1, [.int 0, .int a1, .int a2, .int a3, .int (gx_X1_told_4 (fx_X1_byOutcome a1 p0 p1)), .int (gx_X1_told_5 p0), .int (gx_X1_told_6 a6 (fx_X1_byOutcome a1 p0 p1)), .int (gx_X1_told_7 a7 (fx_X1_byOutcome a1 p0 p1)), .int a8, .int 0, .int a10, .int a11, .ref h1]))] H := hP
          have hD : va_D A [(h0, .inr (1, [.int 0, .int a1, .int a2, .int a3, .int (gx_X1_told_4 (fx_X1_byOutcome a1 p0 p1)), .int (gx_X1_told_5 p0), .int (gx_X1_told_6 a6 (fx_X1_byOutcome a1 p0 p1)), .int (gx_X1_told_7 a7 (fx_X1_byOutcome a1 p0 p1)), .int a8, .int 0, .int a10, .int a11, .ref h1]))] := hD
          refine lv_goto (tgt := 153) hx hb dX1_act_149 (by decide) ?_
          refine lv_istore (lv' := [(5, .int (fx_X1_moved (fx_X1_byOutcome a1 p0 p1))), (4, .int 1), (3, .int (fx_X1_byOutcome a1 p0 p1)), (0, .ref h0), (1, .int p0), (2, .int p1)]) hx hb dX1_act_153 hl (by decide) rfl (fun ls hl => ?_)
          refine lv_aload_n hx hb dX1_act_155 rfl (lv_at hl 3 rfl) ?_
          refine lv_iload hx hb dX1_act_156 (lv_at hl 0 rfl) ?_
          refine lv_if_eq (tgt := 168) hx hb dX1_act_158 (by decide) (fun c_111 => ?_) (fun c_111 => ?_)
          · refine lv_aload_n hx hb dX1_act_168 rfl (lv_at hl 3 rfl) ?_
            refine va_get (D := (dC, dI)) (ci := 1) (v := .int a3) (C := RX1) (T := TX1) (N := 13) hx hb hts (fun _ h => List.mem_cons_of_mem _ (List.mem_append_right _ h)) hown hK hP 0 rfl rfl 3 (by decide) (hts (.fieldLink RX1 50 "FileStatusModel" "position" "I") (by decide +kernel)) (fun _ h9 => h9) rfl dX1_act_169 ?_
            refine lv_goto (tgt := 177) hx hb dX1_act_172 (by decide) ?_
            refine va_put (D := (dC, dI)) (ci := 1) (v := .int a3) (ty := .int) (C := RX1) (T := TX1) (N := 13) hx hb hts (fun _ h => List.mem_cons_of_mem _ (List.mem_append_right _ h)) tyX1 tyX1_ok nmX1 hown hK hP hD hS 0 rfl rfl 3 (by decide) (hts (.fieldLink RX1 50 "FileStatusModel" "position" "I") (by decide +kernel)) (fun _ h9 => h9) rfl (by decide +kernel) rfl rfl (Nat.le_of_ble_eq_true rfl) dX1_act_177 (fun H locs hP hD hS => ?_)
            have hP : va_P (dC, dI) vwCl [(h0, .inr (1, [.int 0, .int a1, .int a2, .int a3, .int (gx_X1_told_4 (fx_X1_byOutcome a1 p0 p1)), .int (gx_X1_told_5 p0), .int (gx_X1_told_6 a6 (fx_X1_byOutcome a1 p0 p1)), .int (gx_X1_told_7 a7 (fx_X1_byOutcome a1 p0 p1)), .int a8, .int 0, .int a10, .int a11, .ref h1]))] H := hP
            have hD : va_D A [(h0, .inr (1, [.int 0, .int a1, .int a2, .int a3, .int (gx_X1_told_4 (fx_X1_byOutcome a1 p0 p1)), .int (gx_X1_told_5 p0), .int (gx_X1_told_6 a6 (fx_X1_byOutcome a1 p0 p1)), .int (gx_X1_told_7 a7 (fx_X1_byOutcome a1 p0 p1)), .int a8, .int 0, .int a10, .int a11, .ref h1]))] := hD
            refine lv_iload_n hx hb dX1_act_180 rfl (lv_at hl 4 rfl) ?_
            refine lv_bipush (v := 6) hx hb dX1_act_181 (by decide) ?_
            refine lv_icmp_ne (tgt := 195) hx hb dX1_act_183 (by decide) (fun c9 => ?_) (fun c9 => absurd (c_56.symm.trans c9) (by decide))
            refine lv_iload_n hx hb dX1_act_195 rfl (lv_at hl 2 rfl) ?_
            have hP9 := hP.sub (ws' := [(h0, .inr (1, [.int 0, .int a1, .int a2, .int a3, .int (gx_X1_told_4 (fx_X1_byOutcome a1 p0 p1)), .int (gx_X1_told_5 p0), .int (gx_X1_told_6 a6 (fx_X1_byOutcome a1 p0 p1)), .int (gx_X1_told_7 a7 (fx_X1_byOutcome a1 p0 p1)), .int a8, .int 0, .int a10, .int a11, .ref h1]))]) [0] rfl
            have hD9 := hD.sub (ws' := [(h0, .inr (1, [.int 0, .int a1, .int a2, .int a3, .int (gx_X1_told_4 (fx_X1_byOutcome a1 p0 p1)), .int (gx_X1_told_5 p0), .int (gx_X1_told_6 a6 (fx_X1_byOutcome a1 p0 p1)), .int (gx_X1_told_7 a7 (fx_X1_byOutcome a1 p0 p1)), .int a8, .int 0, .int a10, .int a11, .ref h1]))]) [0] (by decide) rfl
            have hK9 := hK.sub (tys' := []) [] rfl
            have eg_0 : gx_X1_act_0 = 0 := by rfl
            have eg_3 : gx_X1_act_3 a1 a2 a3 a8 a9 a11 p0 p1 = a3 := by unfold gx_X1_act_3; rw [if_neg c_1, if_pos c_2, if_pos c_4, if_pos c_56, if_pos c_81, if_neg c_105, if_pos c_111]
            have eg_4 : gx_X1_act_4 a1 a2 a3 a4 a8 a9 a11 p0 p1 = gx_X1_told_4 (fx_X1_byOutcome a1 p0 p1) := by unfold gx_X1_act_4; rw [if_neg c_1, if_pos c_2, if_pos c_4, if_pos c_56, if_pos c_81]
            have eg_5 : gx_X1_act_5 a5 p0 = gx_X1_told_5 p0 := by unfold gx_X1_act_5; rw [if_neg c_1, if_pos c_2]
            have eg_6 : gx_X1_act_6 a1 a2 a3 a6 a8 a9 a11 p0 p1 = gx_X1_told_6 a6 (fx_X1_byOutcome a1 p0 p1) := by unfold gx_X1_act_6; rw [if_neg c_1, if_pos c_2, if_pos c_4, if_pos c_56, if_pos c_81]
            have eg_7 : gx_X1_act_7 a1 a2 a3 a7 a8 a9 a11 p0 p1 = gx_X1_told_7 a7 (fx_X1_byOutcome a1 p0 p1) := by unfold gx_X1_act_7; rw [if_neg c_1, if_pos c_2, if_pos c_4, if_pos c_56, if_pos c_81]
            have eg_8 : gx_X1_act_8 a1 a2 a3 a8 a9 p0 p1 = a8 := by unfold gx_X1_act_8; rw [if_neg c_1, if_pos c_2, if_pos c_4, if_pos c_56]
            have eg_9 : gx_X1_act_9 a1 a2 a3 a8 a9 a11 p0 p1 = 0 := by unfold gx_X1_act_9; rw [if_neg c_1, if_pos c_2, if_pos c_4, if_pos c_56, if_pos c_81, if_neg c_84, if_neg c_94, if_neg c_104]
            have eg_11 : gx_X1_act_11 a1 a2 a3 a8 a9 a11 p0 p1 = a11 := by unfold gx_X1_act_11; rw [if_neg c_1, if_pos c_2, if_pos c_4, if_pos c_56, if_pos c_81, if_neg c_84, if_neg c_94, if_neg c_104, if_neg c_105, if_pos c_109]
            have ef : fx_X1_act a1 a2 a3 a8 a9 a11 p0 p1 = fx_X1_byOutcome a1 p0 p1 := by unfold fx_X1_act; rw [if_neg c_1, if_pos c_2, if_pos c_4, if_pos c_56, if_pos c_81]
            exact W.iret (v := fx_X1_byOutcome a1 p0 p1) hx hb hr (fun t ht hW => ⟨⟨(fx_X1_byOutcome a1 p0 p1), [(h0, .inr (1, [.int 0, .int a1, .int a2, .int a3, .int (gx_X1_told_4 (fx_X1_byOutcome a1 p0 p1)), .int (gx_X1_told_5 p0), .int (gx_X1_told_6 a6 (fx_X1_byOutcome a1 p0 p1)), .int (gx_X1_told_7 a7 (fx_X1_byOutcome a1 p0 p1)), .int a8, .int 0, .int a10, .int a11, .ref h1]))], rfl, ⟨ef.symm, by rw [eg_0, eg_3, eg_4, eg_5, eg_6, eg_7, eg_8, eg_9, eg_11]⟩, by rw [ht]; exact hP9, va_K.moved hW.alike hK9, hD9⟩, hS.F ht⟩) hS.2.2 dX1_act_196
          refine lv_aload_n hx hb dX1_act_161 rfl (lv_at hl 3 rfl) ?_
          refine va_get (D := (dC, dI)) (ci := 1) (v := .int a8) (C := RX1) (T := TX1) (N := 13) hx hb hts (fun _ h => List.mem_cons_of_mem _ (List.mem_append_right _ h)) hown hK hP 0 rfl rfl 8 (by decide) (hts (.fieldLink RX1 23 "FileStatusModel" "isOpen" "Z") (by decide +kernel)) (fun _ h9 => h9) rfl dX1_act_162 ?_
          refine lv_if_ne (tgt := 175) hx hb dX1_act_165 (by decide) (fun c9 => ?_) (fun c9 => absurd c9 c_105)
          refine lv_iload hx hb dX1_act_175 (lv_at hl 0 rfl) ?_
          refine va_put (D := (dC, dI)) (ci := 1) (v := .int (fx_X1_moved (fx_X1_byOutcome a1 p0 p1))) (ty := .int) (C := RX1) (T := TX1) (N := 13) hx hb hts (fun _ h => List.mem_cons_of_mem _ (List.mem_append_right _ h)) tyX1 tyX1_ok nmX1 hown hK hP hD hS 0 rfl rfl 3 (by decide) (hts (.fieldLink RX1 50 "FileStatusModel" "position" "I") (by decide +kernel)) (fun _ h9 => h9) rfl (by decide +kernel) rfl rfl (Nat.le_of_ble_eq_true rfl) dX1_act_177 (fun H locs hP hD hS => ?_)
          have hP : va_P (dC, dI) vwCl [(h0, .inr (1, [.int 0, .int a1, .int a2, .int (fx_X1_moved (fx_X1_byOutcome a1 p0 p1)), .int (gx_X1_told_4 (fx_X1_byOutcome a1 p0 p1)), .int (gx_X1_told_5 p0), .int (gx_X1_told_6 a6 (fx_X1_byOutcome a1 p0 p1)), .int (gx_X1_told_7 a7 (fx_X1_byOutcome a1 p0 p1)), .int a8, .int 0, .int a10, .int a11, .ref h1]))] H := hP
          have hD : va_D A [(h0, .inr (1, [.int 0, .int a1, .int a2, .int (fx_X1_moved (fx_X1_byOutcome a1 p0 p1)), .int (gx_X1_told_4 (fx_X1_byOutcome a1 p0 p1)), .int (gx_X1_told_5 p0), .int (gx_X1_told_6 a6 (fx_X1_byOutcome a1 p0 p1)), .int (gx_X1_told_7 a7 (fx_X1_byOutcome a1 p0 p1)), .int a8, .int 0, .int a10, .int a11, .ref h1]))] := hD
          refine lv_iload_n hx hb dX1_act_180 rfl (lv_at hl 4 rfl) ?_
          refine lv_bipush (v := 6) hx hb dX1_act_181 (by decide) ?_
          refine lv_icmp_ne (tgt := 195) hx hb dX1_act_183 (by decide) (fun c9 => ?_) (fun c9 => absurd (c_56.symm.trans c9) (by decide))
          refine lv_iload_n hx hb dX1_act_195 rfl (lv_at hl 2 rfl) ?_
          have hP9 := hP.sub (ws' := [(h0, .inr (1, [.int 0, .int a1, .int a2, .int (fx_X1_moved (fx_X1_byOutcome a1 p0 p1)), .int (gx_X1_told_4 (fx_X1_byOutcome a1 p0 p1)), .int (gx_X1_told_5 p0), .int (gx_X1_told_6 a6 (fx_X1_byOutcome a1 p0 p1)), .int (gx_X1_told_7 a7 (fx_X1_byOutcome a1 p0 p1)), .int a8, .int 0, .int a10, .int a11, .ref h1]))]) [0] rfl
          have hD9 := hD.sub (ws' := [(h0, .inr (1, [.int 0, .int a1, .int a2, .int (fx_X1_moved (fx_X1_byOutcome a1 p0 p1)), .int (gx_X1_told_4 (fx_X1_byOutcome a1 p0 p1)), .int (gx_X1_told_5 p0), .int (gx_X1_told_6 a6 (fx_X1_byOutcome a1 p0 p1)), .int (gx_X1_told_7 a7 (fx_X1_byOutcome a1 p0 p1)), .int a8, .int 0, .int a10, .int a11, .ref h1]))]) [0] (by decide) rfl
          have hK9 := hK.sub (tys' := []) [] rfl
          have eg_0 : gx_X1_act_0 = 0 := by rfl
          have eg_3 : gx_X1_act_3 a1 a2 a3 a8 a9 a11 p0 p1 = fx_X1_moved (fx_X1_byOutcome a1 p0 p1) := by unfold gx_X1_act_3; rw [if_neg c_1, if_pos c_2, if_pos c_4, if_pos c_56, if_pos c_81, if_neg c_105, if_neg c_111]
          have eg_4 : gx_X1_act_4 a1 a2 a3 a4 a8 a9 a11 p0 p1 = gx_X1_told_4 (fx_X1_byOutcome a1 p0 p1) := by unfold gx_X1_act_4; rw [if_neg c_1, if_pos c_2, if_pos c_4, if_pos c_56, if_pos c_81]
          have eg_5 : gx_X1_act_5 a5 p0 = gx_X1_told_5 p0 := by unfold gx_X1_act_5; rw [if_neg c_1, if_pos c_2]
          have eg_6 : gx_X1_act_6 a1 a2 a3 a6 a8 a9 a11 p0 p1 = gx_X1_told_6 a6 (fx_X1_byOutcome a1 p0 p1) := by unfold gx_X1_act_6; rw [if_neg c_1, if_pos c_2, if_pos c_4, if_pos c_56, if_pos c_81]
          have eg_7 : gx_X1_act_7 a1 a2 a3 a7 a8 a9 a11 p0 p1 = gx_X1_told_7 a7 (fx_X1_byOutcome a1 p0 p1) := by unfold gx_X1_act_7; rw [if_neg c_1, if_pos c_2, if_pos c_4, if_pos c_56, if_pos c_81]
          have eg_8 : gx_X1_act_8 a1 a2 a3 a8 a9 p0 p1 = a8 := by unfold gx_X1_act_8; rw [if_neg c_1, if_pos c_2, if_pos c_4, if_pos c_56]
          have eg_9 : gx_X1_act_9 a1 a2 a3 a8 a9 a11 p0 p1 = 0 := by unfold gx_X1_act_9; rw [if_neg c_1, if_pos c_2, if_pos c_4, if_pos c_56, if_pos c_81, if_neg c_84, if_neg c_94, if_neg c_104]
          have eg_11 : gx_X1_act_11 a1 a2 a3 a8 a9 a11 p0 p1 = a11 := by unfold gx_X1_act_11; rw [if_neg c_1, if_pos c_2, if_pos c_4, if_pos c_56, if_pos c_81, if_neg c_84, if_neg c_94, if_neg c_104, if_neg c_105, if_pos c_109]
          have ef : fx_X1_act a1 a2 a3 a8 a9 a11 p0 p1 = fx_X1_byOutcome a1 p0 p1 := by unfold fx_X1_act; rw [if_neg c_1, if_pos c_2, if_pos c_4, if_pos c_56, if_pos c_81]
          exact W.iret (v := fx_X1_byOutcome a1 p0 p1) hx hb hr (fun t ht hW => ⟨⟨(fx_X1_byOutcome a1 p0 p1), [(h0, .inr (1, [.int 0, .int a1, .int a2, .int (fx_X1_moved (fx_X1_byOutcome a1 p0 p1)), .int (gx_X1_told_4 (fx_X1_byOutcome a1 p0 p1)), .int (gx_X1_told_5 p0), .int (gx_X1_told_6 a6 (fx_X1_byOutcome a1 p0 p1)), .int (gx_X1_told_7 a7 (fx_X1_byOutcome a1 p0 p1)), .int a8, .int 0, .int a10, .int a11, .ref h1]))], rfl, ⟨ef.symm, by rw [eg_0, eg_3, eg_4, eg_5, eg_6, eg_7, eg_8, eg_9, eg_11]⟩, by rw [ht]; exact hP9, va_K.moved hW.alike hK9, hD9⟩, hS.F ht⟩) hS.2.2 dX1_act_196
        refine lv_iload_n hx hb dX1_act_108 rfl (lv_at hl 0 rfl) ?_
        refine lv_bipush (v := 10) hx hb dX1_act_109 (by decide) ?_
        refine lv_icmp_ne (tgt := 119) hx hb dX1_act_111 (by decide) (fun c_112 => ?_) (fun c_112 => ?_)
        · refine lv_iload_n hx hb dX1_act_119 rfl (lv_at hl 2 rfl) ?_
          refine lv_if_eq (tgt := 133) hx hb dX1_act_120 (by decide) (fun c9 => ?_) (fun c9 => absurd c_56 c9)
          refine lv_iconst (v := 1) hx hb dX1_act_133 (by decide) ?_
          refine lv_goto (tgt := 138) hx hb dX1_act_134 (by decide) ?_
          refine lv_istore (lv' := [(4, .int 1), (3, .int (fx_X1_byOutcome a1 p0 p1)), (0, .ref h0), (1, .int p0), (2, .int p1)]) hx hb dX1_act_138 hl (by decide) rfl (fun ls hl => ?_)
          refine lv_iload hx hb dX1_act_140 (lv_at hl 0 rfl) ?_
          refine lv_if_eq (tgt := 152) hx hb dX1_act_142 (by decide) (fun c9 => absurd c9 (by decide)) (fun c9 => ?_)
          refine lv_iload_n hx hb dX1_act_145 rfl (lv_at hl 1 rfl) ?_
          have hPc := hP.sub (ws' := []) [] rfl
          have hDc := hD.sub (ws' := []) [] (by decide) rfl
          have hKc := hK.sub (tys' := []) [] rfl
          have hFc := va_free (wc := []) hD hS hA [] rfl
          refine va_calli (va_runS (As := [.int (fx_X1_byOutcome a1 p0 p1)]) (rest := []) ⟨hx, hb, hml, hown, hts⟩ (ct_X1_moved l dC dI H.size (fx_X1_byOutcome a1 p0 p1)) (va_cwS 1 hts gX1_act_X1_moved rfl rfl rfl (by decide +kernel) ⟨Nat.le_of_ble_eq_true rfl, Nat.le_of_ble_eq_true rfl⟩) ⟨fun a U g mk q => by obtain ⟨q0, q1, qP, qK, qD⟩ := q; exact ⟨q0, q1, qP, va_K.moved (u := U) (U := U.calling g mk a) (Vm.Alike.refl U.vm) qK, qD⟩, fun U hU hW => ⟨rfl, by rw [hU], by rw [hU]; exact hPc, va_K.moved hW.alike hKc, hDc.weaken (fun _ _ _ _ => trivial)⟩⟩ rfl rfl hl.1 rfl (lv_room (Nat.le_of_ble_eq_true rfl)) dX1_act_146 ⟨(Nat.zero_le _), (Nat.zero_le _)⟩) hS (fun q _ h => hFc q h) hFc (fun r_113 u t H1 locs ht hvm hw hB hz1 hk1 hS => ?_)
          obtain ⟨er, hu⟩ := hw
          subst hu
          subst er
          obtain ⟨hP1, -, hD1⟩ := hB
          rw [ht] at hP1
          obtain ⟨hP, hD⟩ := va_join (wr := [(h0, .inr (1, [.int 0, .int a1, .int a2, .int a3, .int (gx_X1_told_4 (fx_X1_byOutcome a1 p0 p1)), .int (gx_X1_told_5 p0), .int (gx_X1_told_6 a6 (fx_X1_byOutcome a1 p0 p1)), .int (gx_X1_told_7 a7 (fx_X1_byOutcome a1 p0 p1)), .int a8, .int 0, .int a10, .int a11, .ref h1]))]) (w1 := []) hP hD [] [0] rfl rfl (by decide) (by decide) hk1 hFc hP1 hD1
          generalize H1 = H at hP hS ⊢
          have hP : va_P (dC, dI) vwCl [(h0, .inr (1, [.int 0, .int a1, .int a2, .int a3, .int (gx_X1_told_4 (fx_X1_byOutcome a1 p0 p1)), .int (gx_X1_told_5 p0), .int (gx_X1_told_6 a6 (fx_X1_byOutcome a1 p0 p1)), .int (gx_X1_told_7 a7 (fx_X1_byOutcome a1 p0 p1)), .int a8, .int 0, .int a10, .int a11, .ref h1]))] H := hP
          have hD : va_D A [(h0, .inr (1, [.int 0, .int a1, .int a2, .int a3, .int (gx_X1_told_4 (fx_X1_byOutcome a1 p0 p1)), .int (gx_X1_told_5 p0), .int (gx_X1_told_6 a6 (fx_X1_byOutcome a1 p0 p1)), .int (gx_X1_told_7 a7 (fx_X1_byOutcome a1 p0 p1)), .int a8, .int 0, .int a10, .int a11, .ref h1]))] := hD
          refine lv_goto (tgt := 153) hx hb dX1_act_149 (by decide) ?_
          refine lv_istore (lv' := [(5, .int (fx_X1_moved (fx_X1_byOutcome a1 p0 p1))), (4, .int 1), (3, .int (fx_X1_byOutcome a1 p0 p1)), (0, .ref h0), (1, .int p0), (2, .int p1)]) hx hb dX1_act_153 hl (by decide) rfl (fun ls hl => ?_)
          refine lv_aload_n hx hb dX1_act_155 rfl (lv_at hl 3 rfl) ?_
          refine lv_iload hx hb dX1_act_156 (lv_at hl 0 rfl) ?_
          refine lv_if_eq (tgt := 168) hx hb dX1_act_158 (by decide) (fun c_114 => ?_) (fun c_114 => ?_)
          · refine lv_aload_n hx hb dX1_act_168 rfl (lv_at hl 3 rfl) ?_
            refine va_get (D := (dC, dI)) (ci := 1) (v := .int a3) (C := RX1) (T := TX1) (N := 13) hx hb hts (fun _ h => List.mem_cons_of_mem _ (List.mem_append_right _ h)) hown hK hP 0 rfl rfl 3 (by decide) (hts (.fieldLink RX1 50 "FileStatusModel" "position" "I") (by decide +kernel)) (fun _ h9 => h9) rfl dX1_act_169 ?_
            refine lv_goto (tgt := 177) hx hb dX1_act_172 (by decide) ?_
            refine va_put (D := (dC, dI)) (ci := 1) (v := .int a3) (ty := .int) (C := RX1) (T := TX1) (N := 13) hx hb hts (fun _ h => List.mem_cons_of_mem _ (List.mem_append_right _ h)) tyX1 tyX1_ok nmX1 hown hK hP hD hS 0 rfl rfl 3 (by decide) (hts (.fieldLink RX1 50 "FileStatusModel" "position" "I") (by decide +kernel)) (fun _ h9 => h9) rfl (by decide +kernel) rfl rfl (Nat.le_of_ble_eq_true rfl) dX1_act_177 (fun H locs hP hD hS => ?_)
            have hP : va_P (dC, dI) vwCl [(h0, .inr (1, [.int 0, .int a1, .int a2, .int a3, .int (gx_X1_told_4 (fx_X1_byOutcome a1 p0 p1)), .int (gx_X1_told_5 p0), .int (gx_X1_told_6 a6 (fx_X1_byOutcome a1 p0 p1)), .int (gx_X1_told_7 a7 (fx_X1_byOutcome a1 p0 p1)), .int a8, .int 0, .int a10, .int a11, .ref h1]))] H := hP
            have hD : va_D A [(h0, .inr (1, [.int 0, .int a1, .int a2, .int a3, .int (gx_X1_told_4 (fx_X1_byOutcome a1 p0 p1)), .int (gx_X1_told_5 p0), .int (gx_X1_told_6 a6 (fx_X1_byOutcome a1 p0 p1)), .int (gx_X1_told_7 a7 (fx_X1_byOutcome a1 p0 p1)), .int a8, .int 0, .int a10, .int a11, .ref h1]))] := hD
            refine lv_iload_n hx hb dX1_act_180 rfl (lv_at hl 4 rfl) ?_
            refine lv_bipush (v := 6) hx hb dX1_act_181 (by decide) ?_
            refine lv_icmp_ne (tgt := 195) hx hb dX1_act_183 (by decide) (fun c9 => ?_) (fun c9 => absurd (c_56.symm.trans c9) (by decide))
            refine lv_iload_n hx hb dX1_act_195 rfl (lv_at hl 2 rfl) ?_
            have hP9 := hP.sub (ws' := [(h0, .inr (1, [.int 0, .int a1, .int a2, .int a3, .int (gx_X1_told_4 (fx_X1_byOutcome a1 p0 p1)), .int (gx_X1_told_5 p0), .int (gx_X1_told_6 a6 (fx_X1_byOutcome a1 p0 p1)), .int (gx_X1_told_7 a7 (fx_X1_byOutcome a1 p0 p1)), .int a8, .int 0, .int a10, .int a11, .ref h1]))]) [0] rfl
            have hD9 := hD.sub (ws' := [(h0, .inr (1, [.int 0, .int a1, .int a2, .int a3, .int (gx_X1_told_4 (fx_X1_byOutcome a1 p0 p1)), .int (gx_X1_told_5 p0), .int (gx_X1_told_6 a6 (fx_X1_byOutcome a1 p0 p1)), .int (gx_X1_told_7 a7 (fx_X1_byOutcome a1 p0 p1)), .int a8, .int 0, .int a10, .int a11, .ref h1]))]) [0] (by decide) rfl
            have hK9 := hK.sub (tys' := []) [] rfl
            have eg_0 : gx_X1_act_0 = 0 := by rfl
            have eg_3 : gx_X1_act_3 a1 a2 a3 a8 a9 a11 p0 p1 = a3 := by unfold gx_X1_act_3; rw [if_neg c_1, if_pos c_2, if_pos c_4, if_pos c_56, if_pos c_81, if_neg c_105, if_pos c_114]
            have eg_4 : gx_X1_act_4 a1 a2 a3 a4 a8 a9 a11 p0 p1 = gx_X1_told_4 (fx_X1_byOutcome a1 p0 p1) := by unfold gx_X1_act_4; rw [if_neg c_1, if_pos c_2, if_pos c_4, if_pos c_56, if_pos c_81]
            have eg_5 : gx_X1_act_5 a5 p0 = gx_X1_told_5 p0 := by unfold gx_X1_act_5; rw [if_neg c_1, if_pos c_2]
            have eg_6 : gx_X1_act_6 a1 a2 a3 a6 a8 a9 a11 p0 p1 = gx_X1_told_6 a6 (fx_X1_byOutcome a1 p0 p1) := by unfold gx_X1_act_6; rw [if_neg c_1, if_pos c_2, if_pos c_4, if_pos c_56, if_pos c_81]
            have eg_7 : gx_X1_act_7 a1 a2 a3 a7 a8 a9 a11 p0 p1 = gx_X1_told_7 a7 (fx_X1_byOutcome a1 p0 p1) := by unfold gx_X1_act_7; rw [if_neg c_1, if_pos c_2, if_pos c_4, if_pos c_56, if_pos c_81]
            have eg_8 : gx_X1_act_8 a1 a2 a3 a8 a9 p0 p1 = a8 := by unfold gx_X1_act_8; rw [if_neg c_1, if_pos c_2, if_pos c_4, if_pos c_56]
            have eg_9 : gx_X1_act_9 a1 a2 a3 a8 a9 a11 p0 p1 = 0 := by unfold gx_X1_act_9; rw [if_neg c_1, if_pos c_2, if_pos c_4, if_pos c_56, if_pos c_81, if_neg c_84, if_neg c_94, if_neg c_104]
            have eg_11 : gx_X1_act_11 a1 a2 a3 a8 a9 a11 p0 p1 = a11 := by unfold gx_X1_act_11; rw [if_neg c_1, if_pos c_2, if_pos c_4, if_pos c_56, if_pos c_81, if_neg c_84, if_neg c_94, if_neg c_104, if_neg c_105, if_neg c_109, if_neg c_112]
            have ef : fx_X1_act a1 a2 a3 a8 a9 a11 p0 p1 = fx_X1_byOutcome a1 p0 p1 := by unfold fx_X1_act; rw [if_neg c_1, if_pos c_2, if_pos c_4, if_pos c_56, if_pos c_81]
            exact W.iret (v := fx_X1_byOutcome a1 p0 p1) hx hb hr (fun t ht hW => ⟨⟨(fx_X1_byOutcome a1 p0 p1), [(h0, .inr (1, [.int 0, .int a1, .int a2, .int a3, .int (gx_X1_told_4 (fx_X1_byOutcome a1 p0 p1)), .int (gx_X1_told_5 p0), .int (gx_X1_told_6 a6 (fx_X1_byOutcome a1 p0 p1)), .int (gx_X1_told_7 a7 (fx_X1_byOutcome a1 p0 p1)), .int a8, .int 0, .int a10, .int a11, .ref h1]))], rfl, ⟨ef.symm, by rw [eg_0, eg_3, eg_4, eg_5, eg_6, eg_7, eg_8, eg_9, eg_11]⟩, by rw [ht]; exact hP9, va_K.moved hW.alike hK9, hD9⟩, hS.F ht⟩) hS.2.2 dX1_act_196
          refine lv_aload_n hx hb dX1_act_161 rfl (lv_at hl 3 rfl) ?_
          refine va_get (D := (dC, dI)) (ci := 1) (v := .int a8) (C := RX1) (T := TX1) (N := 13) hx hb hts (fun _ h => List.mem_cons_of_mem _ (List.mem_append_right _ h)) hown hK hP 0 rfl rfl 8 (by decide) (hts (.fieldLink RX1 23 "FileStatusModel" "isOpen" "Z") (by decide +kernel)) (fun _ h9 => h9) rfl dX1_act_162 ?_
          refine lv_if_ne (tgt := 175) hx hb dX1_act_165 (by decide) (fun c9 => ?_) (fun c9 => absurd c9 c_105)
          refine lv_iload hx hb dX1_act_175 (lv_at hl 0 rfl) ?_
          refine va_put (D := (dC, dI)) (ci := 1) (v := .int (fx_X1_moved (fx_X1_byOutcome a1 p0 p1))) (ty := .int) (C := RX1) (T := TX1) (N := 13) hx hb hts (fun _ h => List.mem_cons_of_mem _ (List.mem_append_right _ h)) tyX1 tyX1_ok nmX1 hown hK hP hD hS 0 rfl rfl 3 (by decide) (hts (.fieldLink RX1 50 "FileStatusModel" "position" "I") (by decide +kernel)) (fun _ h9 => h9) rfl (by decide +kernel) rfl rfl (Nat.le_of_ble_eq_true rfl) dX1_act_177 (fun H locs hP hD hS => ?_)
          have hP : va_P (dC, dI) vwCl [(h0, .inr (1, [.int 0, .int a1, .int a2, .int (fx_X1_moved (fx_X1_byOutcome a1 p0 p1)), .int (gx_X1_told_4 (fx_X1_byOutcome a1 p0 p1)), .int (gx_X1_told_5 p0), .int (gx_X1_told_6 a6 (fx_X1_byOutcome a1 p0 p1)), .int (gx_X1_told_7 a7 (fx_X1_byOutcome a1 p0 p1)), .int a8, .int 0, .int a10, .int a11, .ref h1]))] H := hP
          have hD : va_D A [(h0, .inr (1, [.int 0, .int a1, .int a2, .int (fx_X1_moved (fx_X1_byOutcome a1 p0 p1)), .int (gx_X1_told_4 (fx_X1_byOutcome a1 p0 p1)), .int (gx_X1_told_5 p0), .int (gx_X1_told_6 a6 (fx_X1_byOutcome a1 p0 p1)), .int (gx_X1_told_7 a7 (fx_X1_byOutcome a1 p0 p1)), .int a8, .int 0, .int a10, .int a11, .ref h1]))] := hD
          refine lv_iload_n hx hb dX1_act_180 rfl (lv_at hl 4 rfl) ?_
          refine lv_bipush (v := 6) hx hb dX1_act_181 (by decide) ?_
          refine lv_icmp_ne (tgt := 195) hx hb dX1_act_183 (by decide) (fun c9 => ?_) (fun c9 => absurd (c_56.symm.trans c9) (by decide))
          refine lv_iload_n hx hb dX1_act_195 rfl (lv_at hl 2 rfl) ?_
          have hP9 := hP.sub (ws' := [(h0, .inr (1, [.int 0, .int a1, .int a2, .int (fx_X1_moved (fx_X1_byOutcome a1 p0 p1)), .int (gx_X1_told_4 (fx_X1_byOutcome a1 p0 p1)), .int (gx_X1_told_5 p0), .int (gx_X1_told_6 a6 (fx_X1_byOutcome a1 p0 p1)), .int (gx_X1_told_7 a7 (fx_X1_byOutcome a1 p0 p1)), .int a8, .int 0, .int a10, .int a11, .ref h1]))]) [0] rfl
          have hD9 := hD.sub (ws' := [(h0, .inr (1, [.int 0, .int a1, .int a2, .int (fx_X1_moved (fx_X1_byOutcome a1 p0 p1)), .int (gx_X1_told_4 (fx_X1_byOutcome a1 p0 p1)), .int (gx_X1_told_5 p0), .int (gx_X1_told_6 a6 (fx_X1_byOutcome a1 p0 p1)), .int (gx_X1_told_7 a7 (fx_X1_byOutcome a1 p0 p1)), .int a8, .int 0, .int a10, .int a11, .ref h1]))]) [0] (by decide) rfl
          have hK9 := hK.sub (tys' := []) [] rfl
          have eg_0 : gx_X1_act_0 = 0 := by rfl
          have eg_3 : gx_X1_act_3 a1 a2 a3 a8 a9 a11 p0 p1 = fx_X1_moved (fx_X1_byOutcome a1 p0 p1) := by unfold gx_X1_act_3; rw [if_neg c_1, if_pos c_2, if_pos c_4, if_pos c_56, if_pos c_81, if_neg c_105, if_neg c_114]
          have eg_4 : gx_X1_act_4 a1 a2 a3 a4 a8 a9 a11 p0 p1 = gx_X1_told_4 (fx_X1_byOutcome a1 p0 p1) := by unfold gx_X1_act_4; rw [if_neg c_1, if_pos c_2, if_pos c_4, if_pos c_56, if_pos c_81]
          have eg_5 : gx_X1_act_5 a5 p0 = gx_X1_told_5 p0 := by unfold gx_X1_act_5; rw [if_neg c_1, if_pos c_2]
          have eg_6 : gx_X1_act_6 a1 a2 a3 a6 a8 a9 a11 p0 p1 = gx_X1_told_6 a6 (fx_X1_byOutcome a1 p0 p1) := by unfold gx_X1_act_6; rw [if_neg c_1, if_pos c_2, if_pos c_4, if_pos c_56, if_pos c_81]
          have eg_7 : gx_X1_act_7 a1 a2 a3 a7 a8 a9 a11 p0 p1 = gx_X1_told_7 a7 (fx_X1_byOutcome a1 p0 p1) := by unfold gx_X1_act_7; rw [if_neg c_1, if_pos c_2, if_pos c_4, if_pos c_56, if_pos c_81]
          have eg_8 : gx_X1_act_8 a1 a2 a3 a8 a9 p0 p1 = a8 := by unfold gx_X1_act_8; rw [if_neg c_1, if_pos c_2, if_pos c_4, if_pos c_56]
          have eg_9 : gx_X1_act_9 a1 a2 a3 a8 a9 a11 p0 p1 = 0 := by unfold gx_X1_act_9; rw [if_neg c_1, if_pos c_2, if_pos c_4, if_pos c_56, if_pos c_81, if_neg c_84, if_neg c_94, if_neg c_104]
          have eg_11 : gx_X1_act_11 a1 a2 a3 a8 a9 a11 p0 p1 = a11 := by unfold gx_X1_act_11; rw [if_neg c_1, if_pos c_2, if_pos c_4, if_pos c_56, if_pos c_81, if_neg c_84, if_neg c_94, if_neg c_104, if_neg c_105, if_neg c_109, if_neg c_112]
          have ef : fx_X1_act a1 a2 a3 a8 a9 a11 p0 p1 = fx_X1_byOutcome a1 p0 p1 := by unfold fx_X1_act; rw [if_neg c_1, if_pos c_2, if_pos c_4, if_pos c_56, if_pos c_81]
          exact W.iret (v := fx_X1_byOutcome a1 p0 p1) hx hb hr (fun t ht hW => ⟨⟨(fx_X1_byOutcome a1 p0 p1), [(h0, .inr (1, [.int 0, .int a1, .int a2, .int (fx_X1_moved (fx_X1_byOutcome a1 p0 p1)), .int (gx_X1_told_4 (fx_X1_byOutcome a1 p0 p1)), .int (gx_X1_told_5 p0), .int (gx_X1_told_6 a6 (fx_X1_byOutcome a1 p0 p1)), .int (gx_X1_told_7 a7 (fx_X1_byOutcome a1 p0 p1)), .int a8, .int 0, .int a10, .int a11, .ref h1]))], rfl, ⟨ef.symm, by rw [eg_0, eg_3, eg_4, eg_5, eg_6, eg_7, eg_8, eg_9, eg_11]⟩, by rw [ht]; exact hP9, va_K.moved hW.alike hK9, hD9⟩, hS.F ht⟩) hS.2.2 dX1_act_196
        refine lv_aload_n hx hb dX1_act_114 rfl (lv_at hl 1 rfl) ?_
        refine lv_iconst (v := 0) hx hb dX1_act_115 (by decide) ?_
        refine va_put (D := (dC, dI)) (ci := 1) (v := .int 0) (ty := .boolean) (C := RX1) (T := TX1) (N := 13) hx hb hts (fun _ h => List.mem_cons_of_mem _ (List.mem_append_right _ h)) tyX1 tyX1_ok nmX1 hown hK hP hD hS 0 rfl rfl 11 (by decide) (hts (.fieldLink RX1 53 "FileStatusModel" "nothing" "Z") (by decide +kernel)) (fun _ h9 => h9) rfl (by decide +kernel) rfl rfl (Nat.le_of_ble_eq_true rfl) dX1_act_116 (fun H locs hP hD hS => ?_)
        have hP : va_P (dC, dI) vwCl [(h0, .inr (1, [.int 0, .int a1, .int a2, .int a3, .int (gx_X1_told_4 (fx_X1_byOutcome a1 p0 p1)), .int (gx_X1_told_5 p0), .int (gx_X1_told_6 a6 (fx_X1_byOutcome a1 p0 p1)), .int (gx_X1_told_7 a7 (fx_X1_byOutcome a1 p0 p1)), .int a8, .int 0, .int a10, .int 0, .ref h1]))] H := hP
        have hD : va_D A [(h0, .inr (1, [.int 0, .int a1, .int a2, .int a3, .int (gx_X1_told_4 (fx_X1_byOutcome a1 p0 p1)), .int (gx_X1_told_5 p0), .int (gx_X1_told_6 a6 (fx_X1_byOutcome a1 p0 p1)), .int (gx_X1_told_7 a7 (fx_X1_byOutcome a1 p0 p1)), .int a8, .int 0, .int a10, .int 0, .ref h1]))] := hD
        refine lv_iload_n hx hb dX1_act_119 rfl (lv_at hl 2 rfl) ?_
        refine lv_if_eq (tgt := 133) hx hb dX1_act_120 (by decide) (fun c9 => ?_) (fun c9 => absurd c_56 c9)
        refine lv_iconst (v := 1) hx hb dX1_act_133 (by decide) ?_
        refine lv_goto (tgt := 138) hx hb dX1_act_134 (by decide) ?_
        refine lv_istore (lv' := [(4, .int 1), (3, .int (fx_X1_byOutcome a1 p0 p1)), (0, .ref h0), (1, .int p0), (2, .int p1)]) hx hb dX1_act_138 hl (by decide) rfl (fun ls hl => ?_)
        refine lv_iload hx hb dX1_act_140 (lv_at hl 0 rfl) ?_
        refine lv_if_eq (tgt := 152) hx hb dX1_act_142 (by decide) (fun c9 => absurd c9 (by decide)) (fun c9 => ?_)
        refine lv_iload_n hx hb dX1_act_145 rfl (lv_at hl 1 rfl) ?_
        have hPc := hP.sub (ws' := []) [] rfl
        have hDc := hD.sub (ws' := []) [] (by decide) rfl
        have hKc := hK.sub (tys' := []) [] rfl
        have hFc := va_free (wc := []) hD hS hA [] rfl
        refine va_calli (va_runS (As := [.int (fx_X1_byOutcome a1 p0 p1)]) (rest := []) ⟨hx, hb, hml, hown, hts⟩ (ct_X1_moved l dC dI H.size (fx_X1_byOutcome a1 p0 p1)) (va_cwS 1 hts gX1_act_X1_moved rfl rfl rfl (by decide +kernel) ⟨Nat.le_of_ble_eq_true rfl, Nat.le_of_ble_eq_true rfl⟩) ⟨fun a U g mk q => by obtain ⟨q0, q1, qP, qK, qD⟩ := q; exact ⟨q0, q1, qP, va_K.moved (u := U) (U := U.calling g mk a) (Vm.Alike.refl U.vm) qK, qD⟩, fun U hU hW => ⟨rfl, by rw [hU], by rw [hU]; exact hPc, va_K.moved hW.alike hKc, hDc.weaken (fun _ _ _ _ => trivial)⟩⟩ rfl rfl hl.1 rfl (lv_room (Nat.le_of_ble_eq_true rfl)) dX1_act_146 ⟨(Nat.zero_le _), (Nat.zero_le _)⟩) hS (fun q _ h => hFc q h) hFc (fun r_115 u t H1 locs ht hvm hw hB hz1 hk1 hS => ?_)
        obtain ⟨er, hu⟩ := hw
        subst hu
        subst er
        obtain ⟨hP1, -, hD1⟩ := hB
        rw [ht] at hP1
        obtain ⟨hP, hD⟩ := va_join (wr := [(h0, .inr (1, [.int 0, .int a1, .int a2, .int a3, .int (gx_X1_told_4 (fx_X1_byOutcome a1 p0 p1)), .int (gx_X1_told_5 p0), .int (gx_X1_told_6 a6 (fx_X1_byOutcome a1 p0 p1)), .int (gx_X1_told_7 a7 (fx_X1_byOutcome a1 p0 p1)), .int a8, .int 0, .int a10, .int 0, .ref h1]))]) (w1 := []) hP hD [] [0] rfl rfl (by decide) (by decide) hk1 hFc hP1 hD1
        generalize H1 = H at hP hS ⊢
        have hP : va_P (dC, dI) vwCl [(h0, .inr (1, [.int 0, .int a1, .int a2, .int a3, .int (gx_X1_told_4 (fx_X1_byOutcome a1 p0 p1)), .int (gx_X1_told_5 p0), .int (gx_X1_told_6 a6 (fx_X1_byOutcome a1 p0 p1)), .int (gx_X1_told_7 a7 (fx_X1_byOutcome a1 p0 p1)), .int a8, .int 0, .int a10, .int 0, .ref h1]))] H := hP
        have hD : va_D A [(h0, .inr (1, [.int 0, .int a1, .int a2, .int a3, .int (gx_X1_told_4 (fx_X1_byOutcome a1 p0 p1)), .int (gx_X1_told_5 p0), .int (gx_X1_told_6 a6 (fx_X1_byOutcome a1 p0 p1)), .int (gx_X1_told_7 a7 (fx_X1_byOutcome a1 p0 p1)), .int a8, .int 0, .int a10, .int 0, .ref h1]))] := hD
        refine lv_goto (tgt := 153) hx hb dX1_act_149 (by decide) ?_
        refine lv_istore (lv' := [(5, .int (fx_X1_moved (fx_X1_byOutcome a1 p0 p1))), (4, .int 1), (3, .int (fx_X1_byOutcome a1 p0 p1)), (0, .ref h0), (1, .int p0), (2, .int p1)]) hx hb dX1_act_153 hl (by decide) rfl (fun ls hl => ?_)
        refine lv_aload_n hx hb dX1_act_155 rfl (lv_at hl 3 rfl) ?_
        refine lv_iload hx hb dX1_act_156 (lv_at hl 0 rfl) ?_
        refine lv_if_eq (tgt := 168) hx hb dX1_act_158 (by decide) (fun c_116 => ?_) (fun c_116 => ?_)
        · refine lv_aload_n hx hb dX1_act_168 rfl (lv_at hl 3 rfl) ?_
          refine va_get (D := (dC, dI)) (ci := 1) (v := .int a3) (C := RX1) (T := TX1) (N := 13) hx hb hts (fun _ h => List.mem_cons_of_mem _ (List.mem_append_right _ h)) hown hK hP 0 rfl rfl 3 (by decide) (hts (.fieldLink RX1 50 "FileStatusModel" "position" "I") (by decide +kernel)) (fun _ h9 => h9) rfl dX1_act_169 ?_
          refine lv_goto (tgt := 177) hx hb dX1_act_172 (by decide) ?_
          refine va_put (D := (dC, dI)) (ci := 1) (v := .int a3) (ty := .int) (C := RX1) (T := TX1) (N := 13) hx hb hts (fun _ h => List.mem_cons_of_mem _ (List.mem_append_right _ h)) tyX1 tyX1_ok nmX1 hown hK hP hD hS 0 rfl rfl 3 (by decide) (hts (.fieldLink RX1 50 "FileStatusModel" "position" "I") (by decide +kernel)) (fun _ h9 => h9) rfl (by decide +kernel) rfl rfl (Nat.le_of_ble_eq_true rfl) dX1_act_177 (fun H locs hP hD hS => ?_)
          have hP : va_P (dC, dI) vwCl [(h0, .inr (1, [.int 0, .int a1, .int a2, .int a3, .int (gx_X1_told_4 (fx_X1_byOutcome a1 p0 p1)), .int (gx_X1_told_5 p0), .int (gx_X1_told_6 a6 (fx_X1_byOutcome a1 p0 p1)), .int (gx_X1_told_7 a7 (fx_X1_byOutcome a1 p0 p1)), .int a8, .int 0, .int a10, .int 0, .ref h1]))] H := hP
          have hD : va_D A [(h0, .inr (1, [.int 0, .int a1, .int a2, .int a3, .int (gx_X1_told_4 (fx_X1_byOutcome a1 p0 p1)), .int (gx_X1_told_5 p0), .int (gx_X1_told_6 a6 (fx_X1_byOutcome a1 p0 p1)), .int (gx_X1_told_7 a7 (fx_X1_byOutcome a1 p0 p1)), .int a8, .int 0, .int a10, .int 0, .ref h1]))] := hD
          refine lv_iload_n hx hb dX1_act_180 rfl (lv_at hl 4 rfl) ?_
          refine lv_bipush (v := 6) hx hb dX1_act_181 (by decide) ?_
          refine lv_icmp_ne (tgt := 195) hx hb dX1_act_183 (by decide) (fun c9 => ?_) (fun c9 => absurd (c_56.symm.trans c9) (by decide))
          refine lv_iload_n hx hb dX1_act_195 rfl (lv_at hl 2 rfl) ?_
          have hP9 := hP.sub (ws' := [(h0, .inr (1, [.int 0, .int a1, .int a2, .int a3, .int (gx_X1_told_4 (fx_X1_byOutcome a1 p0 p1)), .int (gx_X1_told_5 p0), .int (gx_X1_told_6 a6 (fx_X1_byOutcome a1 p0 p1)), .int (gx_X1_told_7 a7 (fx_X1_byOutcome a1 p0 p1)), .int a8, .int 0, .int a10, .int 0, .ref h1]))]) [0] rfl
          have hD9 := hD.sub (ws' := [(h0, .inr (1, [.int 0, .int a1, .int a2, .int a3, .int (gx_X1_told_4 (fx_X1_byOutcome a1 p0 p1)), .int (gx_X1_told_5 p0), .int (gx_X1_told_6 a6 (fx_X1_byOutcome a1 p0 p1)), .int (gx_X1_told_7 a7 (fx_X1_byOutcome a1 p0 p1)), .int a8, .int 0, .int a10, .int 0, .ref h1]))]) [0] (by decide) rfl
          have hK9 := hK.sub (tys' := []) [] rfl
          have eg_0 : gx_X1_act_0 = 0 := by rfl
          have eg_3 : gx_X1_act_3 a1 a2 a3 a8 a9 a11 p0 p1 = a3 := by unfold gx_X1_act_3; rw [if_neg c_1, if_pos c_2, if_pos c_4, if_pos c_56, if_pos c_81, if_neg c_105, if_pos c_116]
          have eg_4 : gx_X1_act_4 a1 a2 a3 a4 a8 a9 a11 p0 p1 = gx_X1_told_4 (fx_X1_byOutcome a1 p0 p1) := by unfold gx_X1_act_4; rw [if_neg c_1, if_pos c_2, if_pos c_4, if_pos c_56, if_pos c_81]
          have eg_5 : gx_X1_act_5 a5 p0 = gx_X1_told_5 p0 := by unfold gx_X1_act_5; rw [if_neg c_1, if_pos c_2]
          have eg_6 : gx_X1_act_6 a1 a2 a3 a6 a8 a9 a11 p0 p1 = gx_X1_told_6 a6 (fx_X1_byOutcome a1 p0 p1) := by unfold gx_X1_act_6; rw [if_neg c_1, if_pos c_2, if_pos c_4, if_pos c_56, if_pos c_81]
          have eg_7 : gx_X1_act_7 a1 a2 a3 a7 a8 a9 a11 p0 p1 = gx_X1_told_7 a7 (fx_X1_byOutcome a1 p0 p1) := by unfold gx_X1_act_7; rw [if_neg c_1, if_pos c_2, if_pos c_4, if_pos c_56, if_pos c_81]
          have eg_8 : gx_X1_act_8 a1 a2 a3 a8 a9 p0 p1 = a8 := by unfold gx_X1_act_8; rw [if_neg c_1, if_pos c_2, if_pos c_4, if_pos c_56]
          have eg_9 : gx_X1_act_9 a1 a2 a3 a8 a9 a11 p0 p1 = 0 := by unfold gx_X1_act_9; rw [if_neg c_1, if_pos c_2, if_pos c_4, if_pos c_56, if_pos c_81, if_neg c_84, if_neg c_94, if_neg c_104]
          have eg_11 : gx_X1_act_11 a1 a2 a3 a8 a9 a11 p0 p1 = 0 := by unfold gx_X1_act_11; rw [if_neg c_1, if_pos c_2, if_pos c_4, if_pos c_56, if_pos c_81, if_neg c_84, if_neg c_94, if_neg c_104, if_neg c_105, if_neg c_109, if_pos c_112]
          have ef : fx_X1_act a1 a2 a3 a8 a9 a11 p0 p1 = fx_X1_byOutcome a1 p0 p1 := by unfold fx_X1_act; rw [if_neg c_1, if_pos c_2, if_pos c_4, if_pos c_56, if_pos c_81]
          exact W.iret (v := fx_X1_byOutcome a1 p0 p1) hx hb hr (fun t ht hW => ⟨⟨(fx_X1_byOutcome a1 p0 p1), [(h0, .inr (1, [.int 0, .int a1, .int a2, .int a3, .int (gx_X1_told_4 (fx_X1_byOutcome a1 p0 p1)), .int (gx_X1_told_5 p0), .int (gx_X1_told_6 a6 (fx_X1_byOutcome a1 p0 p1)), .int (gx_X1_told_7 a7 (fx_X1_byOutcome a1 p0 p1)), .int a8, .int 0, .int a10, .int 0, .ref h1]))], rfl, ⟨ef.symm, by rw [eg_0, eg_3, eg_4, eg_5, eg_6, eg_7, eg_8, eg_9, eg_11]⟩, by rw [ht]; exact hP9, va_K.moved hW.alike hK9, hD9⟩, hS.F ht⟩) hS.2.2 dX1_act_196
        refine lv_aload_n hx hb dX1_act_161 rfl (lv_at hl 3 rfl) ?_
        refine va_get (D := (dC, dI)) (ci := 1) (v := .int a8) (C := RX1) (T := TX1) (N := 13) hx hb hts (fun _ h => List.mem_cons_of_mem _ (List.mem_append_right _ h)) hown hK hP 0 rfl rfl 8 (by decide) (hts (.fieldLink RX1 23 "FileStatusModel" "isOpen" "Z") (by decide +kernel)) (fun _ h9 => h9) rfl dX1_act_162 ?_
        refine lv_if_ne (tgt := 175) hx hb dX1_act_165 (by decide) (fun c9 => ?_) (fun c9 => absurd c9 c_105)
        refine lv_iload hx hb dX1_act_175 (lv_at hl 0 rfl) ?_
        refine va_put (D := (dC, dI)) (ci := 1) (v := .int (fx_X1_moved (fx_X1_byOutcome a1 p0 p1))) (ty := .int) (C := RX1) (T := TX1) (N := 13) hx hb hts (fun _ h => List.mem_cons_of_mem _ (List.mem_append_right _ h)) tyX1 tyX1_ok nmX1 hown hK hP hD hS 0 rfl rfl 3 (by decide) (hts (.fieldLink RX1 50 "FileStatusModel" "position" "I") (by decide +kernel)) (fun _ h9 => h9) rfl (by decide +kernel) rfl rfl (Nat.le_of_ble_eq_true rfl) dX1_act_177 (fun H locs hP hD hS => ?_)
        have hP : va_P (dC, dI) vwCl [(h0, .inr (1, [.int 0, .int a1, .int a2, .int (fx_X1_moved (fx_X1_byOutcome a1 p0 p1)), .int (gx_X1_told_4 (fx_X1_byOutcome a1 p0 p1)), .int (gx_X1_told_5 p0), .int (gx_X1_told_6 a6 (fx_X1_byOutcome a1 p0 p1)), .int (gx_X1_told_7 a7 (fx_X1_byOutcome a1 p0 p1)), .int a8, .int 0, .int a10, .int 0, .ref h1]))] H := hP
        have hD : va_D A [(h0, .inr (1, [.int 0, .int a1, .int a2, .int (fx_X1_moved (fx_X1_byOutcome a1 p0 p1)), .int (gx_X1_told_4 (fx_X1_byOutcome a1 p0 p1)), .int (gx_X1_told_5 p0), .int (gx_X1_told_6 a6 (fx_X1_byOutcome a1 p0 p1)), .int (gx_X1_told_7 a7 (fx_X1_byOutcome a1 p0 p1)), .int a8, .int 0, .int a10, .int 0, .ref h1]))] := hD
        refine lv_iload_n hx hb dX1_act_180 rfl (lv_at hl 4 rfl) ?_
        refine lv_bipush (v := 6) hx hb dX1_act_181 (by decide) ?_
        refine lv_icmp_ne (tgt := 195) hx hb dX1_act_183 (by decide) (fun c9 => ?_) (fun c9 => absurd (c_56.symm.trans c9) (by decide))
        refine lv_iload_n hx hb dX1_act_195 rfl (lv_at hl 2 rfl) ?_
        have hP9 := hP.sub (ws' := [(h0, .inr (1, [.int 0, .int a1, .int a2, .int (fx_X1_moved (fx_X1_byOutcome a1 p0 p1)), .int (gx_X1_told_4 (fx_X1_byOutcome a1 p0 p1)), .int (gx_X1_told_5 p0), .int (gx_X1_told_6 a6 (fx_X1_byOutcome a1 p0 p1)), .int (gx_X1_told_7 a7 (fx_X1_byOutcome a1 p0 p1)), .int a8, .int 0, .int a10, .int 0, .ref h1]))]) [0] rfl
        have hD9 := hD.sub (ws' := [(h0, .inr (1, [.int 0, .int a1, .int a2, .int (fx_X1_moved (fx_X1_byOutcome a1 p0 p1)), .int (gx_X1_told_4 (fx_X1_byOutcome a1 p0 p1)), .int (gx_X1_told_5 p0), .int (gx_X1_told_6 a6 (fx_X1_byOutcome a1 p0 p1)), .int (gx_X1_told_7 a7 (fx_X1_byOutcome a1 p0 p1)), .int a8, .int 0, .int a10, .int 0, .ref h1]))]) [0] (by decide) rfl
        have hK9 := hK.sub (tys' := []) [] rfl
        have eg_0 : gx_X1_act_0 = 0 := by rfl
        have eg_3 : gx_X1_act_3 a1 a2 a3 a8 a9 a11 p0 p1 = fx_X1_moved (fx_X1_byOutcome a1 p0 p1) := by unfold gx_X1_act_3; rw [if_neg c_1, if_pos c_2, if_pos c_4, if_pos c_56, if_pos c_81, if_neg c_105, if_neg c_116]
        have eg_4 : gx_X1_act_4 a1 a2 a3 a4 a8 a9 a11 p0 p1 = gx_X1_told_4 (fx_X1_byOutcome a1 p0 p1) := by unfold gx_X1_act_4; rw [if_neg c_1, if_pos c_2, if_pos c_4, if_pos c_56, if_pos c_81]
        have eg_5 : gx_X1_act_5 a5 p0 = gx_X1_told_5 p0 := by unfold gx_X1_act_5; rw [if_neg c_1, if_pos c_2]
        have eg_6 : gx_X1_act_6 a1 a2 a3 a6 a8 a9 a11 p0 p1 = gx_X1_told_6 a6 (fx_X1_byOutcome a1 p0 p1) := by unfold gx_X1_act_6; rw [if_neg c_1, if_pos c_2, if_pos c_4, if_pos c_56, if_pos c_81]
        have eg_7 : gx_X1_act_7 a1 a2 a3 a7 a8 a9 a11 p0 p1 = gx_X1_told_7 a7 (fx_X1_byOutcome a1 p0 p1) := by unfold gx_X1_act_7; rw [if_neg c_1, if_pos c_2, if_pos c_4, if_pos c_56, if_pos c_81]
        have eg_8 : gx_X1_act_8 a1 a2 a3 a8 a9 p0 p1 = a8 := by unfold gx_X1_act_8; rw [if_neg c_1, if_pos c_2, if_pos c_4, if_pos c_56]
        have eg_9 : gx_X1_act_9 a1 a2 a3 a8 a9 a11 p0 p1 = 0 := by unfold gx_X1_act_9; rw [if_neg c_1, if_pos c_2, if_pos c_4, if_pos c_56, if_pos c_81, if_neg c_84, if_neg c_94, if_neg c_104]
        have eg_11 : gx_X1_act_11 a1 a2 a3 a8 a9 a11 p0 p1 = 0 := by unfold gx_X1_act_11; rw [if_neg c_1, if_pos c_2, if_pos c_4, if_pos c_56, if_pos c_81, if_neg c_84, if_neg c_94, if_neg c_104, if_neg c_105, if_neg c_109, if_pos c_112]
        have ef : fx_X1_act a1 a2 a3 a8 a9 a11 p0 p1 = fx_X1_byOutcome a1 p0 p1 := by unfold fx_X1_act; rw [if_neg c_1, if_pos c_2, if_pos c_4, if_pos c_56, if_pos c_81]
        exact W.iret (v := fx_X1_byOutcome a1 p0 p1) hx hb hr (fun t ht hW => ⟨⟨(fx_X1_byOutcome a1 p0 p1), [(h0, .inr (1, [.int 0, .int a1, .int a2, .int (fx_X1_moved (fx_X1_byOutcome a1 p0 p1)), .int (gx_X1_told_4 (fx_X1_byOutcome a1 p0 p1)), .int (gx_X1_told_5 p0), .int (gx_X1_told_6 a6 (fx_X1_byOutcome a1 p0 p1)), .int (gx_X1_told_7 a7 (fx_X1_byOutcome a1 p0 p1)), .int a8, .int 0, .int a10, .int 0, .ref h1]))], rfl, ⟨ef.symm, by rw [eg_0, eg_3, eg_4, eg_5, eg_6, eg_7, eg_8, eg_9, eg_11]⟩, by rw [ht]; exact hP9, va_K.moved hW.alike hK9, hD9⟩, hS.F ht⟩) hS.2.2 dX1_act_196
      refine lv_iconst (v := 1) hx hb dX1_act_82 (by decide) ?_
      refine lv_goto (tgt := 87) hx hb dX1_act_83 (by decide) ?_
      refine va_put (D := (dC, dI)) (ci := 1) (v := .int 1) (ty := .boolean) (C := RX1) (T := TX1) (N := 13) hx hb hts (fun _ h => List.mem_cons_of_mem _ (List.mem_append_right _ h)) tyX1 tyX1_ok nmX1 hown hK hP hD hS 0 rfl rfl 9 (by decide) (hts (.fieldLink RX1 47 "FileStatusModel" "permit" "Z") (by decide +kernel)) (fun _ h9 => h9) rfl (by decide +kernel) rfl rfl (Nat.le_of_ble_eq_true rfl) dX1_act_87 (fun H locs hP hD hS => ?_)
      have hP : va_P (dC, dI) vwCl [(h0, .inr (1, [.int 0, .int a1, .int a2, .int a3, .int (gx_X1_told_4 (fx_X1_byOutcome a1 p0 p1)), .int (gx_X1_told_5 p0), .int (gx_X1_told_6 a6 (fx_X1_byOutcome a1 p0 p1)), .int (gx_X1_told_7 a7 (fx_X1_byOutcome a1 p0 p1)), .int a8, .int 1, .int a10, .int a11, .ref h1]))] H := hP
      have hD : va_D A [(h0, .inr (1, [.int 0, .int a1, .int a2, .int a3, .int (gx_X1_told_4 (fx_X1_byOutcome a1 p0 p1)), .int (gx_X1_told_5 p0), .int (gx_X1_told_6 a6 (fx_X1_byOutcome a1 p0 p1)), .int (gx_X1_told_7 a7 (fx_X1_byOutcome a1 p0 p1)), .int a8, .int 1, .int a10, .int a11, .ref h1]))] := hD
      refine lv_iload_n hx hb dX1_act_90 rfl (lv_at hl 2 rfl) ?_
      refine lv_if_ne (tgt := 119) hx hb dX1_act_91 (by decide) (fun c9 => absurd c_56 c9) (fun c9 => ?_)
      refine lv_aload_n hx hb dX1_act_94 rfl (lv_at hl 1 rfl) ?_
      refine va_get (D := (dC, dI)) (ci := 1) (v := .int a8) (C := RX1) (T := TX1) (N := 13) hx hb hts (fun _ h => List.mem_cons_of_mem _ (List.mem_append_right _ h)) hown hK hP 0 rfl rfl 8 (by decide) (hts (.fieldLink RX1 23 "FileStatusModel" "isOpen" "Z") (by decide +kernel)) (fun _ h9 => h9) rfl dX1_act_95 ?_
      refine lv_if_eq (tgt := 119) hx hb dX1_act_98 (by decide) (fun c_117 => ?_) (fun c_117 => ?_)
      · refine lv_iload_n hx hb dX1_act_119 rfl (lv_at hl 2 rfl) ?_
        refine lv_if_eq (tgt := 133) hx hb dX1_act_120 (by decide) (fun c9 => ?_) (fun c9 => absurd c_56 c9)
        refine lv_iconst (v := 1) hx hb dX1_act_133 (by decide) ?_
        refine lv_goto (tgt := 138) hx hb dX1_act_134 (by decide) ?_
        refine lv_istore (lv' := [(4, .int 1), (3, .int (fx_X1_byOutcome a1 p0 p1)), (0, .ref h0), (1, .int p0), (2, .int p1)]) hx hb dX1_act_138 hl (by decide) rfl (fun ls hl => ?_)
        refine lv_iload hx hb dX1_act_140 (lv_at hl 0 rfl) ?_
        refine lv_if_eq (tgt := 152) hx hb dX1_act_142 (by decide) (fun c9 => absurd c9 (by decide)) (fun c9 => ?_)
        refine lv_iload_n hx hb dX1_act_145 rfl (lv_at hl 1 rfl) ?_
        have hPc := hP.sub (ws' := []) [] rfl
        have hDc := hD.sub (ws' := []) [] (by decide) rfl
        have hKc := hK.sub (tys' := []) [] rfl
        have hFc := va_free (wc := []) hD hS hA [] rfl
        refine va_calli (va_runS (As := [.int (fx_X1_byOutcome a1 p0 p1)]) (rest := []) ⟨hx, hb, hml, hown, hts⟩ (ct_X1_moved l dC dI H.size (fx_X1_byOutcome a1 p0 p1)) (va_cwS 1 hts gX1_act_X1_moved rfl rfl rfl (by decide +kernel) ⟨Nat.le_of_ble_eq_true rfl, Nat.le_of_ble_eq_true rfl⟩) ⟨fun a U g mk q => by obtain ⟨q0, q1, qP, qK, qD⟩ := q; exact ⟨q0, q1, qP, va_K.moved (u := U) (U := U.calling g mk a) (Vm.Alike.refl U.vm) qK, qD⟩, fun U hU hW => ⟨rfl, by rw [hU], by rw [hU]; exact hPc, va_K.moved hW.alike hKc, hDc.weaken (fun _ _ _ _ => trivial)⟩⟩ rfl rfl hl.1 rfl (lv_room (Nat.le_of_ble_eq_true rfl)) dX1_act_146 ⟨(Nat.zero_le _), (Nat.zero_le _)⟩) hS (fun q _ h => hFc q h) hFc (fun r_118 u t H1 locs ht hvm hw hB hz1 hk1 hS => ?_)
        obtain ⟨er, hu⟩ := hw
        subst hu
        subst er
        obtain ⟨hP1, -, hD1⟩ := hB
        rw [ht] at hP1
        obtain ⟨hP, hD⟩ := va_join (wr := [(h0, .inr (1, [.int 0, .int a1, .int a2, .int a3, .int (gx_X1_told_4 (fx_X1_byOutcome a1 p0 p1)), .int (gx_X1_told_5 p0), .int (gx_X1_told_6 a6 (fx_X1_byOutcome a1 p0 p1)), .int (gx_X1_told_7 a7 (fx_X1_byOutcome a1 p0 p1)), .int a8, .int 1, .int a10, .int a11, .ref h1]))]) (w1 := []) hP hD [] [0] rfl rfl (by decide) (by decide) hk1 hFc hP1 hD1
        generalize H1 = H at hP hS ⊢
        have hP : va_P (dC, dI) vwCl [(h0, .inr (1, [.int 0, .int a1, .int a2, .int a3, .int (gx_X1_told_4 (fx_X1_byOutcome a1 p0 p1)), .int (gx_X1_told_5 p0), .int (gx_X1_told_6 a6 (fx_X1_byOutcome a1 p0 p1)), .int (gx_X1_told_7 a7 (fx_X1_byOutcome a1 p0 p1)), .int a8, .int 1, .int a10, .int a11, .ref h1]))] H := hP
        have hD : va_D A [(h0, .inr (1, [.int 0, .int a1, .int a2, .int a3, .int (gx_X1_told_4 (fx_X1_byOutcome a1 p0 p1)), .int (gx_X1_told_5 p0), .int (gx_X1_told_6 a6 (fx_X1_byOutcome a1 p0 p1)), .int (gx_X1_told_7 a7 (fx_X1_byOutcome a1 p0 p1)), .int a8, .int 1, .int a10, .int a11, .ref h1]))] := hD
        refine lv_goto (tgt := 153) hx hb dX1_act_149 (by decide) ?_
        refine lv_istore (lv' := [(5, .int (fx_X1_moved (fx_X1_byOutcome a1 p0 p1))), (4, .int 1), (3, .int (fx_X1_byOutcome a1 p0 p1)), (0, .ref h0), (1, .int p0), (2, .int p1)]) hx hb dX1_act_153 hl (by decide) rfl (fun ls hl => ?_)
        refine lv_aload_n hx hb dX1_act_155 rfl (lv_at hl 3 rfl) ?_
        refine lv_iload hx hb dX1_act_156 (lv_at hl 0 rfl) ?_
        refine lv_if_eq (tgt := 168) hx hb dX1_act_158 (by decide) (fun c_119 => ?_) (fun c_119 => ?_)
        · refine lv_aload_n hx hb dX1_act_168 rfl (lv_at hl 3 rfl) ?_
          refine va_get (D := (dC, dI)) (ci := 1) (v := .int a3) (C := RX1) (T := TX1) (N := 13) hx hb hts (fun _ h => List.mem_cons_of_mem _ (List.mem_append_right _ h)) hown hK hP 0 rfl rfl 3 (by decide) (hts (.fieldLink RX1 50 "FileStatusModel" "position" "I") (by decide +kernel)) (fun _ h9 => h9) rfl dX1_act_169 ?_
          refine lv_goto (tgt := 177) hx hb dX1_act_172 (by decide) ?_
          refine va_put (D := (dC, dI)) (ci := 1) (v := .int a3) (ty := .int) (C := RX1) (T := TX1) (N := 13) hx hb hts (fun _ h => List.mem_cons_of_mem _ (List.mem_append_right _ h)) tyX1 tyX1_ok nmX1 hown hK hP hD hS 0 rfl rfl 3 (by decide) (hts (.fieldLink RX1 50 "FileStatusModel" "position" "I") (by decide +kernel)) (fun _ h9 => h9) rfl (by decide +kernel) rfl rfl (Nat.le_of_ble_eq_true rfl) dX1_act_177 (fun H locs hP hD hS => ?_)
          have hP : va_P (dC, dI) vwCl [(h0, .inr (1, [.int 0, .int a1, .int a2, .int a3, .int (gx_X1_told_4 (fx_X1_byOutcome a1 p0 p1)), .int (gx_X1_told_5 p0), .int (gx_X1_told_6 a6 (fx_X1_byOutcome a1 p0 p1)), .int (gx_X1_told_7 a7 (fx_X1_byOutcome a1 p0 p1)), .int a8, .int 1, .int a10, .int a11, .ref h1]))] H := hP
          have hD : va_D A [(h0, .inr (1, [.int 0, .int a1, .int a2, .int a3, .int (gx_X1_told_4 (fx_X1_byOutcome a1 p0 p1)), .int (gx_X1_told_5 p0), .int (gx_X1_told_6 a6 (fx_X1_byOutcome a1 p0 p1)), .int (gx_X1_told_7 a7 (fx_X1_byOutcome a1 p0 p1)), .int a8, .int 1, .int a10, .int a11, .ref h1]))] := hD
          refine lv_iload_n hx hb dX1_act_180 rfl (lv_at hl 4 rfl) ?_
          refine lv_bipush (v := 6) hx hb dX1_act_181 (by decide) ?_
          refine lv_icmp_ne (tgt := 195) hx hb dX1_act_183 (by decide) (fun c9 => ?_) (fun c9 => absurd (c_56.symm.trans c9) (by decide))
          refine lv_iload_n hx hb dX1_act_195 rfl (lv_at hl 2 rfl) ?_
          have hP9 := hP.sub (ws' := [(h0, .inr (1, [.int 0, .int a1, .int a2, .int a3, .int (gx_X1_told_4 (fx_X1_byOutcome a1 p0 p1)), .int (gx_X1_told_5 p0), .int (gx_X1_told_6 a6 (fx_X1_byOutcome a1 p0 p1)), .int (gx_X1_told_7 a7 (fx_X1_byOutcome a1 p0 p1)), .int a8, .int 1, .int a10, .int a11, .ref h1]))]) [0] rfl
          have hD9 := hD.sub (ws' := [(h0, .inr (1, [.int 0, .int a1, .int a2, .int a3, .int (gx_X1_told_4 (fx_X1_byOutcome a1 p0 p1)), .int (gx_X1_told_5 p0), .int (gx_X1_told_6 a6 (fx_X1_byOutcome a1 p0 p1)), .int (gx_X1_told_7 a7 (fx_X1_byOutcome a1 p0 p1)), .int a8, .int 1, .int a10, .int a11, .ref h1]))]) [0] (by decide) rfl
          have hK9 := hK.sub (tys' := []) [] rfl
          have eg_0 : gx_X1_act_0 = 0 := by rfl
          have eg_3 : gx_X1_act_3 a1 a2 a3 a8 a9 a11 p0 p1 = a3 := by unfold gx_X1_act_3; rw [if_neg c_1, if_pos c_2, if_pos c_4, if_pos c_56, if_pos c_81, if_pos c_117]
          have eg_4 : gx_X1_act_4 a1 a2 a3 a4 a8 a9 a11 p0 p1 = gx_X1_told_4 (fx_X1_byOutcome a1 p0 p1) := by unfold gx_X1_act_4; rw [if_neg c_1, if_pos c_2, if_pos c_4, if_pos c_56, if_pos c_81]
          have eg_5 : gx_X1_act_5 a5 p0 = gx_X1_told_5 p0 := by unfold gx_X1_act_5; rw [if_neg c_1, if_pos c_2]
          have eg_6 : gx_X1_act_6 a1 a2 a3 a6 a8 a9 a11 p0 p1 = gx_X1_told_6 a6 (fx_X1_byOutcome a1 p0 p1) := by unfold gx_X1_act_6; rw [if_neg c_1, if_pos c_2, if_pos c_4, if_pos c_56, if_pos c_81]
          have eg_7 : gx_X1_act_7 a1 a2 a3 a7 a8 a9 a11 p0 p1 = gx_X1_told_7 a7 (fx_X1_byOutcome a1 p0 p1) := by unfold gx_X1_act_7; rw [if_neg c_1, if_pos c_2, if_pos c_4, if_pos c_56, if_pos c_81]
          have eg_8 : gx_X1_act_8 a1 a2 a3 a8 a9 p0 p1 = a8 := by unfold gx_X1_act_8; rw [if_neg c_1, if_pos c_2, if_pos c_4, if_pos c_56]
          have eg_9 : gx_X1_act_9 a1 a2 a3 a8 a9 a11 p0 p1 = 1 := by unfold gx_X1_act_9; rw [if_neg c_1, if_pos c_2, if_pos c_4, if_pos c_56, if_pos c_81, if_neg c_84, if_neg c_94, if_pos c_104]
          have eg_11 : gx_X1_act_11 a1 a2 a3 a8 a9 a11 p0 p1 = a11 := by unfold gx_X1_act_11; rw [if_neg c_1, if_pos c_2, if_pos c_4, if_pos c_56, if_pos c_81, if_neg c_84, if_neg c_94, if_pos c_104]
          have ef : fx_X1_act a1 a2 a3 a8 a9 a11 p0 p1 = fx_X1_byOutcome a1 p0 p1 := by unfold fx_X1_act; rw [if_neg c_1, if_pos c_2, if_pos c_4, if_pos c_56, if_pos c_81]
          exact W.iret (v := fx_X1_byOutcome a1 p0 p1) hx hb hr (fun t ht hW => ⟨⟨(fx_X1_byOutcome a1 p0 p1), [(h0, .inr (1, [.int 0, .int a1, .int a2, .int a3, .int (gx_X1_told_4 (fx_X1_byOutcome a1 p0 p1)), .int (gx_X1_told_5 p0), .int (gx_X1_told_6 a6 (fx_X1_byOutcome a1 p0 p1)), .int (gx_X1_told_7 a7 (fx_X1_byOutcome a1 p0 p1)), .int a8, .int 1, .int a10, .int a11, .ref h1]))], rfl, ⟨ef.symm, by rw [eg_0, eg_3, eg_4, eg_5, eg_6, eg_7, eg_8, eg_9, eg_11]⟩, by rw [ht]; exact hP9, va_K.moved hW.alike hK9, hD9⟩, hS.F ht⟩) hS.2.2 dX1_act_196
        refine lv_aload_n hx hb dX1_act_161 rfl (lv_at hl 3 rfl) ?_
        refine va_get (D := (dC, dI)) (ci := 1) (v := .int a8) (C := RX1) (T := TX1) (N := 13) hx hb hts (fun _ h => List.mem_cons_of_mem _ (List.mem_append_right _ h)) hown hK hP 0 rfl rfl 8 (by decide) (hts (.fieldLink RX1 23 "FileStatusModel" "isOpen" "Z") (by decide +kernel)) (fun _ h9 => h9) rfl dX1_act_162 ?_
        refine lv_if_ne (tgt := 175) hx hb dX1_act_165 (by decide) (fun c9 => absurd c_117 c9) (fun c9 => ?_)
        refine lv_aload_n hx hb dX1_act_168 rfl (lv_at hl 3 rfl) ?_
        refine va_get (D := (dC, dI)) (ci := 1) (v := .int a3) (C := RX1) (T := TX1) (N := 13) hx hb hts (fun _ h => List.mem_cons_of_mem _ (List.mem_append_right _ h)) hown hK hP 0 rfl rfl 3 (by decide) (hts (.fieldLink RX1 50 "FileStatusModel" "position" "I") (by decide +kernel)) (fun _ h9 => h9) rfl dX1_act_169 ?_
        refine lv_goto (tgt := 177) hx hb dX1_act_172 (by decide) ?_
        refine va_put (D := (dC, dI)) (ci := 1) (v := .int a3) (ty := .int) (C := RX1) (T := TX1) (N := 13) hx hb hts (fun _ h => List.mem_cons_of_mem _ (List.mem_append_right _ h)) tyX1 tyX1_ok nmX1 hown hK hP hD hS 0 rfl rfl 3 (by decide) (hts (.fieldLink RX1 50 "FileStatusModel" "position" "I") (by decide +kernel)) (fun _ h9 => h9) rfl (by decide +kernel) rfl rfl (Nat.le_of_ble_eq_true rfl) dX1_act_177 (fun H locs hP hD hS => ?_)
        have hP : va_P (dC, dI) vwCl [(h0, .inr (1, [.int 0, .int a1, .int a2, .int a3, .int (gx_X1_told_4 (fx_X1_byOutcome a1 p0 p1)), .int (gx_X1_told_5 p0), .int (gx_X1_told_6 a6 (fx_X1_byOutcome a1 p0 p1)), .int (gx_X1_told_7 a7 (fx_X1_byOutcome a1 p0 p1)), .int a8, .int 1, .int a10, .int a11, .ref h1]))] H := hP
        have hD : va_D A [(h0, .inr (1, [.int 0, .int a1, .int a2, .int a3, .int (gx_X1_told_4 (fx_X1_byOutcome a1 p0 p1)), .int (gx_X1_told_5 p0), .int (gx_X1_told_6 a6 (fx_X1_byOutcome a1 p0 p1)), .int (gx_X1_told_7 a7 (fx_X1_byOutcome a1 p0 p1)), .int a8, .int 1, .int a10, .int a11, .ref h1]))] := hD
        refine lv_iload_n hx hb dX1_act_180 rfl (lv_at hl 4 rfl) ?_
        refine lv_bipush (v := 6) hx hb dX1_act_181 (by decide) ?_
        refine lv_icmp_ne (tgt := 195) hx hb dX1_act_183 (by decide) (fun c9 => ?_) (fun c9 => absurd (c_56.symm.trans c9) (by decide))
        refine lv_iload_n hx hb dX1_act_195 rfl (lv_at hl 2 rfl) ?_
        have hP9 := hP.sub (ws' := [(h0, .inr (1, [.int 0, .int a1, .int a2, .int a3, .int (gx_X1_told_4 (fx_X1_byOutcome a1 p0 p1)), .int (gx_X1_told_5 p0), .int (gx_X1_told_6 a6 (fx_X1_byOutcome a1 p0 p1)), .int (gx_X1_told_7 a7 (fx_X1_byOutcome a1 p0 p1)), .int a8, .int 1, .int a10, .int a11, .ref h1]))]) [0] rfl
        have hD9 := hD.sub (ws' := [(h0, .inr (1, [.int 0, .int a1, .int a2, .int a3, .int (gx_X1_told_4 (fx_X1_byOutcome a1 p0 p1)), .int (gx_X1_told_5 p0), .int (gx_X1_told_6 a6 (fx_X1_byOutcome a1 p0 p1)), .int (gx_X1_told_7 a7 (fx_X1_byOutcome a1 p0 p1)), .int a8, .int 1, .int a10, .int a11, .ref h1]))]) [0] (by decide) rfl
        have hK9 := hK.sub (tys' := []) [] rfl
        have eg_0 : gx_X1_act_0 = 0 := by rfl
        have eg_3 : gx_X1_act_3 a1 a2 a3 a8 a9 a11 p0 p1 = a3 := by unfold gx_X1_act_3; rw [if_neg c_1, if_pos c_2, if_pos c_4, if_pos c_56, if_pos c_81, if_pos c_117]
        have eg_4 : gx_X1_act_4 a1 a2 a3 a4 a8 a9 a11 p0 p1 = gx_X1_told_4 (fx_X1_byOutcome a1 p0 p1) := by unfold gx_X1_act_4; rw [if_neg c_1, if_pos c_2, if_pos c_4, if_pos c_56, if_pos c_81]
        have eg_5 : gx_X1_act_5 a5 p0 = gx_X1_told_5 p0 := by unfold gx_X1_act_5; rw [if_neg c_1, if_pos c_2]
        have eg_6 : gx_X1_act_6 a1 a2 a3 a6 a8 a9 a11 p0 p1 = gx_X1_told_6 a6 (fx_X1_byOutcome a1 p0 p1) := by unfold gx_X1_act_6; rw [if_neg c_1, if_pos c_2, if_pos c_4, if_pos c_56, if_pos c_81]
        have eg_7 : gx_X1_act_7 a1 a2 a3 a7 a8 a9 a11 p0 p1 = gx_X1_told_7 a7 (fx_X1_byOutcome a1 p0 p1) := by unfold gx_X1_act_7; rw [if_neg c_1, if_pos c_2, if_pos c_4, if_pos c_56, if_pos c_81]
        have eg_8 : gx_X1_act_8 a1 a2 a3 a8 a9 p0 p1 = a8 := by unfold gx_X1_act_8; rw [if_neg c_1, if_pos c_2, if_pos c_4, if_pos c_56]
        have eg_9 : gx_X1_act_9 a1 a2 a3 a8 a9 a11 p0 p1 = 1 := by unfold gx_X1_act_9; rw [if_neg c_1, if_pos c_2, if_pos c_4, if_pos c_56, if_pos c_81, if_neg c_84, if_neg c_94, if_pos c_104]
        have eg_11 : gx_X1_act_11 a1 a2 a3 a8 a9 a11 p0 p1 = a11 := by unfold gx_X1_act_11; rw [if_neg c_1, if_pos c_2, if_pos c_4, if_pos c_56, if_pos c_81, if_neg c_84, if_neg c_94, if_pos c_104]
        have ef : fx_X1_act a1 a2 a3 a8 a9 a11 p0 p1 = fx_X1_byOutcome a1 p0 p1 := by unfold fx_X1_act; rw [if_neg c_1, if_pos c_2, if_pos c_4, if_pos c_56, if_pos c_81]
        exact W.iret (v := fx_X1_byOutcome a1 p0 p1) hx hb hr (fun t ht hW => ⟨⟨(fx_X1_byOutcome a1 p0 p1), [(h0, .inr (1, [.int 0, .int a1, .int a2, .int a3, .int (gx_X1_told_4 (fx_X1_byOutcome a1 p0 p1)), .int (gx_X1_told_5 p0), .int (gx_X1_told_6 a6 (fx_X1_byOutcome a1 p0 p1)), .int (gx_X1_told_7 a7 (fx_X1_byOutcome a1 p0 p1)), .int a8, .int 1, .int a10, .int a11, .ref h1]))], rfl, ⟨ef.symm, by rw [eg_0, eg_3, eg_4, eg_5, eg_6, eg_7, eg_8, eg_9, eg_11]⟩, by rw [ht]; exact hP9, va_K.moved hW.alike hK9, hD9⟩, hS.F ht⟩) hS.2.2 dX1_act_196
      refine lv_aload_n hx hb dX1_act_101 rfl (lv_at hl 1 rfl) ?_
      have hPc := hP.sub (ws' := [(h0, .inr (1, [.int 0, .int a1, .int a2, .int a3, .int (gx_X1_told_4 (fx_X1_byOutcome a1 p0 p1)), .int (gx_X1_told_5 p0), .int (gx_X1_told_6 a6 (fx_X1_byOutcome a1 p0 p1)), .int (gx_X1_told_7 a7 (fx_X1_byOutcome a1 p0 p1)), .int a8, .int 1, .int a10, .int a11, .ref h1]))]) [0] rfl
      have hDc := hD.sub (ws' := [(h0, .inr (1, [.int 0, .int a1, .int a2, .int a3, .int (gx_X1_told_4 (fx_X1_byOutcome a1 p0 p1)), .int (gx_X1_told_5 p0), .int (gx_X1_told_6 a6 (fx_X1_byOutcome a1 p0 p1)), .int (gx_X1_told_7 a7 (fx_X1_byOutcome a1 p0 p1)), .int a8, .int 1, .int a10, .int a11, .ref h1]))]) [0] (by decide) rfl
      have hKc := hK.sub (tys' := []) [] rfl
      have hFc := va_free (wc := [(h0, .inr (1, [.int 0, .int a1, .int a2, .int a3, .int (gx_X1_told_4 (fx_X1_byOutcome a1 p0 p1)), .int (gx_X1_told_5 p0), .int (gx_X1_told_6 a6 (fx_X1_byOutcome a1 p0 p1)), .int (gx_X1_told_7 a7 (fx_X1_byOutcome a1 p0 p1)), .int a8, .int 1, .int a10, .int a11, .ref h1]))]) hD hS hA [0] rfl
      refine va_calli (va_runV (As := []) (rest := []) ⟨hx, hb, hml, hown, hts⟩ (ct_X1_reads l dC dI h0 h1 H.size 0 a1 a2 a3 (gx_X1_told_4 (fx_X1_byOutcome a1 p0 p1)) (gx_X1_told_5 p0) (gx_X1_told_6 a6 (fx_X1_byOutcome a1 p0 p1)) (gx_X1_told_7 a7 (fx_X1_byOutcome a1 p0 p1)) a8 1 a10 a11) (cwV 0 hts gX1_act_X1_reads rfl rfl rfl (by decide +kernel) ⟨Nat.le_of_ble_eq_true rfl, Nat.le_of_ble_eq_true rfl⟩) ⟨fun a U g mk q => by obtain ⟨q0, q1, qP, qK, qD⟩ := q; exact ⟨q0, q1, qP, va_K.moved (u := U) (U := U.calling g mk a) (Vm.Alike.refl U.vm) qK, qD⟩, va_recv hKc hPc (ci := 1) (q0 := 0) rfl rfl, fun U hU hW => ⟨rfl, by rw [hU], by rw [hU]; exact hPc, va_K.moved hW.alike hKc, hDc.weaken (fun _ _ _ _ => trivial)⟩⟩ rfl rfl hl.1 rfl (lv_room (Nat.le_of_ble_eq_true rfl)) dX1_act_102 ⟨(Nat.zero_le _), (Nat.zero_le _)⟩) hS (fun q _ h => hFc q h) hFc (fun r_120 u t H1 locs ht hvm hw hB hz1 hk1 hS => ?_)
      obtain ⟨er, hu⟩ := hw
      subst hu
      subst er
      obtain ⟨hP1, -, hD1⟩ := hB
      rw [ht] at hP1
      obtain ⟨hP, hD⟩ := va_join (wr := []) (w1 := [(h0, .inr (1, [.int 0, .int a1, .int a2, .int a3, .int (gx_X1_told_4 (fx_X1_byOutcome a1 p0 p1)), .int (gx_X1_told_5 p0), .int (gx_X1_told_6 a6 (fx_X1_byOutcome a1 p0 p1)), .int (gx_X1_told_7 a7 (fx_X1_byOutcome a1 p0 p1)), .int a8, .int 1, .int a10, .int a11, .ref h1]))]) hP hD [0] [] rfl rfl (by decide) (by decide) hk1 hFc hP1 hD1
      generalize H1 = H at hP hS ⊢
      have hP : va_P (dC, dI) vwCl [(h0, .inr (1, [.int 0, .int a1, .int a2, .int a3, .int (gx_X1_told_4 (fx_X1_byOutcome a1 p0 p1)), .int (gx_X1_told_5 p0), .int (gx_X1_told_6 a6 (fx_X1_byOutcome a1 p0 p1)), .int (gx_X1_told_7 a7 (fx_X1_byOutcome a1 p0 p1)), .int a8, .int 1, .int a10, .int a11, .ref h1]))] H := hP
      have hD : va_D A [(h0, .inr (1, [.int 0, .int a1, .int a2, .int a3, .int (gx_X1_told_4 (fx_X1_byOutcome a1 p0 p1)), .int (gx_X1_told_5 p0), .int (gx_X1_told_6 a6 (fx_X1_byOutcome a1 p0 p1)), .int (gx_X1_told_7 a7 (fx_X1_byOutcome a1 p0 p1)), .int a8, .int 1, .int a10, .int a11, .ref h1]))] := hD
      refine lv_if_eq (tgt := 119) hx hb dX1_act_105 (by decide) (fun c_121 => ?_) (fun c_121 => ?_)
      · refine lv_iload_n hx hb dX1_act_119 rfl (lv_at hl 2 rfl) ?_
        refine lv_if_eq (tgt := 133) hx hb dX1_act_120 (by decide) (fun c9 => ?_) (fun c9 => absurd c_56 c9)
        refine lv_iconst (v := 1) hx hb dX1_act_133 (by decide) ?_
        refine lv_goto (tgt := 138) hx hb dX1_act_134 (by decide) ?_
        refine lv_istore (lv' := [(4, .int 1), (3, .int (fx_X1_byOutcome a1 p0 p1)), (0, .ref h0), (1, .int p0), (2, .int p1)]) hx hb dX1_act_138 hl (by decide) rfl (fun ls hl => ?_)
        refine lv_iload hx hb dX1_act_140 (lv_at hl 0 rfl) ?_
        refine lv_if_eq (tgt := 152) hx hb dX1_act_142 (by decide) (fun c9 => absurd c9 (by decide)) (fun c9 => ?_)
        refine lv_iload_n hx hb dX1_act_145 rfl (lv_at hl 1 rfl) ?_
        have hPc := hP.sub (ws' := []) [] rfl
        have hDc := hD.sub (ws' := []) [] (by decide) rfl
        have hKc := hK.sub (tys' := []) [] rfl
        have hFc := va_free (wc := []) hD hS hA [] rfl
        refine va_calli (va_runS (As := [.int (fx_X1_byOutcome a1 p0 p1)]) (rest := []) ⟨hx, hb, hml, hown, hts⟩ (ct_X1_moved l dC dI H.size (fx_X1_byOutcome a1 p0 p1)) (va_cwS 1 hts gX1_act_X1_moved rfl rfl rfl (by decide +kernel) ⟨Nat.le_of_ble_eq_true rfl, Nat.le_of_ble_eq_true rfl⟩) ⟨fun a U g mk q => by obtain ⟨q0, q1, qP, qK, qD⟩ := q; exact ⟨q0, q1, qP, va_K.moved (u := U) (U := U.calling g mk a) (Vm.Alike.refl U.vm) qK, qD⟩, fun U hU hW => ⟨rfl, by rw [hU], by rw [hU]; exact hPc, va_K.moved hW.alike hKc, hDc.weaken (fun _ _ _ _ => trivial)⟩⟩ rfl rfl hl.1 rfl (lv_room (Nat.le_of_ble_eq_true rfl)) dX1_act_146 ⟨(Nat.zero_le _), (Nat.zero_le _)⟩) hS (fun q _ h => hFc q h) hFc (fun r_122 u t H1 locs ht hvm hw hB hz1 hk1 hS => ?_)
        obtain ⟨er, hu⟩ := hw
        subst hu
        subst er
        obtain ⟨hP1, -, hD1⟩ := hB
        rw [ht] at hP1
        obtain ⟨hP, hD⟩ := va_join (wr := [(h0, .inr (1, [.int 0, .int a1, .int a2, .int a3, .int (gx_X1_told_4 (fx_X1_byOutcome a1 p0 p1)), .int (gx_X1_told_5 p0), .int (gx_X1_told_6 a6 (fx_X1_byOutcome a1 p0 p1)), .int (gx_X1_told_7 a7 (fx_X1_byOutcome a1 p0 p1)), .int a8, .int 1, .int a10, .int a11, .ref h1]))]) (w1 := []) hP hD [] [0] rfl rfl (by decide) (by decide) hk1 hFc hP1 hD1
        generalize H1 = H at hP hS ⊢
        have hP : va_P (dC, dI) vwCl [(h0, .inr (1, [.int 0, .int a1, .int a2, .int a3, .int (gx_X1_told_4 (fx_X1_byOutcome a1 p0 p1)), .int (gx_X1_told_5 p0), .int (gx_X1_told_6 a6 (fx_X1_byOutcome a1 p0 p1)), .int (gx_X1_told_7 a7 (fx_X1_byOutcome a1 p0 p1)), .int a8, .int 1, .int a10, .int a11, .ref h1]))] H := hP
        have hD : va_D A [(h0, .inr (1, [.int 0, .int a1, .int a2, .int a3, .int (gx_X1_told_4 (fx_X1_byOutcome a1 p0 p1)), .int (gx_X1_told_5 p0), .int (gx_X1_told_6 a6 (fx_X1_byOutcome a1 p0 p1)), .int (gx_X1_told_7 a7 (fx_X1_byOutcome a1 p0 p1)), .int a8, .int 1, .int a10, .int a11, .ref h1]))] := hD
        refine lv_goto (tgt := 153) hx hb dX1_act_149 (by decide) ?_
        refine lv_istore (lv' := [(5, .int (fx_X1_moved (fx_X1_byOutcome a1 p0 p1))), (4, .int 1), (3, .int (fx_X1_byOutcome a1 p0 p1)), (0, .ref h0), (1, .int p0), (2, .int p1)]) hx hb dX1_act_153 hl (by decide) rfl (fun ls hl => ?_)
        refine lv_aload_n hx hb dX1_act_155 rfl (lv_at hl 3 rfl) ?_
        refine lv_iload hx hb dX1_act_156 (lv_at hl 0 rfl) ?_
        refine lv_if_eq (tgt := 168) hx hb dX1_act_158 (by decide) (fun c_123 => ?_) (fun c_123 => ?_)
        · refine lv_aload_n hx hb dX1_act_168 rfl (lv_at hl 3 rfl) ?_
          refine va_get (D := (dC, dI)) (ci := 1) (v := .int a3) (C := RX1) (T := TX1) (N := 13) hx hb hts (fun _ h => List.mem_cons_of_mem _ (List.mem_append_right _ h)) hown hK hP 0 rfl rfl 3 (by decide) (hts (.fieldLink RX1 50 "FileStatusModel" "position" "I") (by decide +kernel)) (fun _ h9 => h9) rfl dX1_act_169 ?_
          refine lv_goto (tgt := 177) hx hb dX1_act_172 (by decide) ?_
          refine va_put (D := (dC, dI)) (ci := 1) (v := .int a3) (ty := .int) (C := RX1) (T := TX1) (N := 13) hx hb hts (fun _ h => List.mem_cons_of_mem _ (List.mem_append_right _ h)) tyX1 tyX1_ok nmX1 hown hK hP hD hS 0 rfl rfl 3 (by decide) (hts (.fieldLink RX1 50 "FileStatusModel" "position" "I") (by decide +kernel)) (fun _ h9 => h9) rfl (by decide +kernel) rfl rfl (Nat.le_of_ble_eq_true rfl) dX1_act_177 (fun H locs hP hD hS => ?_)
          have hP : va_P (dC, dI) vwCl [(h0, .inr (1, [.int 0, .int a1, .int a2, .int a3, .int (gx_X1_told_4 (fx_X1_byOutcome a1 p0 p1)), .int (gx_X1_told_5 p0), .int (gx_X1_told_6 a6 (fx_X1_byOutcome a1 p0 p1)), .int (gx_X1_told_7 a7 (fx_X1_byOutcome a1 p0 p1)), .int a8, .int 1, .int a10, .int a11, .ref h1]))] H := hP
          have hD : va_D A [(h0, .inr (1, [.int 0, .int a1, .int a2, .int a3, .int (gx_X1_told_4 (fx_X1_byOutcome a1 p0 p1)), .int (gx_X1_told_5 p0), .int (gx_X1_told_6 a6 (fx_X1_byOutcome a1 p0 p1)), .int (gx_X1_told_7 a7 (fx_X1_byOutcome a1 p0 p1)), .int a8, .int 1, .int a10, .int a11, .ref h1]))] := hD
          refine lv_iload_n hx hb dX1_act_180 rfl (lv_at hl 4 rfl) ?_
          refine lv_bipush (v := 6) hx hb dX1_act_181 (by decide) ?_
          refine lv_icmp_ne (tgt := 195) hx hb dX1_act_183 (by decide) (fun c9 => ?_) (fun c9 => absurd (c_56.symm.trans c9) (by decide))
          refine lv_iload_n hx hb dX1_act_195 rfl (lv_at hl 2 rfl) ?_
          have hP9 := hP.sub (ws' := [(h0, .inr (1, [.int 0, .int a1, .int a2, .int a3, .int (gx_X1_told_4 (fx_X1_byOutcome a1 p0 p1)), .int (gx_X1_told_5 p0), .int (gx_X1_told_6 a6 (fx_X1_byOutcome a1 p0 p1)), .int (gx_X1_told_7 a7 (fx_X1_byOutcome a1 p0 p1)), .int a8, .int 1, .int a10, .int a11, .ref h1]))]) [0] rfl
          have hD9 := hD.sub (ws' := [(h0, .inr (1, [.int 0, .int a1, .int a2, .int a3, .int (gx_X1_told_4 (fx_X1_byOutcome a1 p0 p1)), .int (gx_X1_told_5 p0), .int (gx_X1_told_6 a6 (fx_X1_byOutcome a1 p0 p1)), .int (gx_X1_told_7 a7 (fx_X1_byOutcome a1 p0 p1)), .int a8, .int 1, .int a10, .int a11, .ref h1]))]) [0] (by decide) rfl
          have hK9 := hK.sub (tys' := []) [] rfl
          have eg_0 : gx_X1_act_0 = 0 := by rfl
          have eg_3 : gx_X1_act_3 a1 a2 a3 a8 a9 a11 p0 p1 = a3 := by unfold gx_X1_act_3; rw [if_neg c_1, if_pos c_2, if_pos c_4, if_pos c_56, if_pos c_81, if_neg c_117, if_pos c_123]
          have eg_4 : gx_X1_act_4 a1 a2 a3 a4 a8 a9 a11 p0 p1 = gx_X1_told_4 (fx_X1_byOutcome a1 p0 p1) := by unfold gx_X1_act_4; rw [if_neg c_1, if_pos c_2, if_pos c_4, if_pos c_56, if_pos c_81]
          have eg_5 : gx_X1_act_5 a5 p0 = gx_X1_told_5 p0 := by unfold gx_X1_act_5; rw [if_neg c_1, if_pos c_2]
          have eg_6 : gx_X1_act_6 a1 a2 a3 a6 a8 a9 a11 p0 p1 = gx_X1_told_6 a6 (fx_X1_byOutcome a1 p0 p1) := by unfold gx_X1_act_6; rw [if_neg c_1, if_pos c_2, if_pos c_4, if_pos c_56, if_pos c_81]
          have eg_7 : gx_X1_act_7 a1 a2 a3 a7 a8 a9 a11 p0 p1 = gx_X1_told_7 a7 (fx_X1_byOutcome a1 p0 p1) := by unfold gx_X1_act_7; rw [if_neg c_1, if_pos c_2, if_pos c_4, if_pos c_56, if_pos c_81]
          have eg_8 : gx_X1_act_8 a1 a2 a3 a8 a9 p0 p1 = a8 := by unfold gx_X1_act_8; rw [if_neg c_1, if_pos c_2, if_pos c_4, if_pos c_56]
          have eg_9 : gx_X1_act_9 a1 a2 a3 a8 a9 a11 p0 p1 = 1 := by unfold gx_X1_act_9; rw [if_neg c_1, if_pos c_2, if_pos c_4, if_pos c_56, if_pos c_81, if_neg c_84, if_neg c_94, if_pos c_104]
          have eg_11 : gx_X1_act_11 a1 a2 a3 a8 a9 a11 p0 p1 = a11 := by unfold gx_X1_act_11; rw [if_neg c_1, if_pos c_2, if_pos c_4, if_pos c_56, if_pos c_81, if_neg c_84, if_neg c_94, if_pos c_104]
          have ef : fx_X1_act a1 a2 a3 a8 a9 a11 p0 p1 = fx_X1_byOutcome a1 p0 p1 := by unfold fx_X1_act; rw [if_neg c_1, if_pos c_2, if_pos c_4, if_pos c_56, if_pos c_81]
          exact W.iret (v := fx_X1_byOutcome a1 p0 p1) hx hb hr (fun t ht hW => ⟨⟨(fx_X1_byOutcome a1 p0 p1), [(h0, .inr (1, [.int 0, .int a1, .int a2, .int a3, .int (gx_X1_told_4 (fx_X1_byOutcome a1 p0 p1)), .int (gx_X1_told_5 p0), .int (gx_X1_told_6 a6 (fx_X1_byOutcome a1 p0 p1)), .int (gx_X1_told_7 a7 (fx_X1_byOutcome a1 p0 p1)), .int a8, .int 1, .int a10, .int a11, .ref h1]))], rfl, ⟨ef.symm, by rw [eg_0, eg_3, eg_4, eg_5, eg_6, eg_7, eg_8, eg_9, eg_11]⟩, by rw [ht]; exact hP9, va_K.moved hW.alike hK9, hD9⟩, hS.F ht⟩) hS.2.2 dX1_act_196
        refine lv_aload_n hx hb dX1_act_161 rfl (lv_at hl 3 rfl) ?_
        refine va_get (D := (dC, dI)) (ci := 1) (v := .int a8) (C := RX1) (T := TX1) (N := 13) hx hb hts (fun _ h => List.mem_cons_of_mem _ (List.mem_append_right _ h)) hown hK hP 0 rfl rfl 8 (by decide) (hts (.fieldLink RX1 23 "FileStatusModel" "isOpen" "Z") (by decide +kernel)) (fun _ h9 => h9) rfl dX1_act_162 ?_
        refine lv_if_ne (tgt := 175) hx hb dX1_act_165 (by decide) (fun c9 => ?_) (fun c9 => absurd c9 c_117)
        refine lv_iload hx hb dX1_act_175 (lv_at hl 0 rfl) ?_
        refine va_put (D := (dC, dI)) (ci := 1) (v := .int (fx_X1_moved (fx_X1_byOutcome a1 p0 p1))) (ty := .int) (C := RX1) (T := TX1) (N := 13) hx hb hts (fun _ h => List.mem_cons_of_mem _ (List.mem_append_right _ h)) tyX1 tyX1_ok nmX1 hown hK hP hD hS 0 rfl rfl 3 (by decide) (hts (.fieldLink RX1 50 "FileStatusModel" "position" "I") (by decide +kernel)) (fun _ h9 => h9) rfl (by decide +kernel) rfl rfl (Nat.le_of_ble_eq_true rfl) dX1_act_177 (fun H locs hP hD hS => ?_)
        have hP : va_P (dC, dI) vwCl [(h0, .inr (1, [.int 0, .int a1, .int a2, .int (fx_X1_moved (fx_X1_byOutcome a1 p0 p1)), .int (gx_X1_told_4 (fx_X1_byOutcome a1 p0 p1)), .int (gx_X1_told_5 p0), .int (gx_X1_told_6 a6 (fx_X1_byOutcome a1 p0 p1)), .int (gx_X1_told_7 a7 (fx_X1_byOutcome a1 p0 p1)), .int a8, .int 1, .int a10, .int a11, .ref h1]))] H := hP
        have hD : va_D A [(h0, .inr (1, [.int 0, .int a1, .int a2, .int (fx_X1_moved (fx_X1_byOutcome a1 p0 p1)), .int (gx_X1_told_4 (fx_X1_byOutcome a1 p0 p1)), .int (gx_X1_told_5 p0), .int (gx_X1_told_6 a6 (fx_X1_byOutcome a1 p0 p1)), .int (gx_X1_told_7 a7 (fx_X1_byOutcome a1 p0 p1)), .int a8, .int 1, .int a10, .int a11, .ref h1]))] := hD
        refine lv_iload_n hx hb dX1_act_180 rfl (lv_at hl 4 rfl) ?_
        refine lv_bipush (v := 6) hx hb dX1_act_181 (by decide) ?_
        refine lv_icmp_ne (tgt := 195) hx hb dX1_act_183 (by decide) (fun c9 => ?_) (fun c9 => absurd (c_56.symm.trans c9) (by decide))
        refine lv_iload_n hx hb dX1_act_195 rfl (lv_at hl 2 rfl) ?_
        have hP9 := hP.sub (ws' := [(h0, .inr (1, [.int 0, .int a1, .int a2, .int (fx_X1_moved (fx_X1_byOutcome a1 p0 p1)), .int (gx_X1_told_4 (fx_X1_byOutcome a1 p0 p1)), .int (gx_X1_told_5 p0), .int (gx_X1_told_6 a6 (fx_X1_byOutcome a1 p0 p1)), .int (gx_X1_told_7 a7 (fx_X1_byOutcome a1 p0 p1)), .int a8, .int 1, .int a10, .int a11, .ref h1]))]) [0] rfl
        have hD9 := hD.sub (ws' := [(h0, .inr (1, [.int 0, .int a1, .int a2, .int (fx_X1_moved (fx_X1_byOutcome a1 p0 p1)), .int (gx_X1_told_4 (fx_X1_byOutcome a1 p0 p1)), .int (gx_X1_told_5 p0), .int (gx_X1_told_6 a6 (fx_X1_byOutcome a1 p0 p1)), .int (gx_X1_told_7 a7 (fx_X1_byOutcome a1 p0 p1)), .int a8, .int 1, .int a10, .int a11, .ref h1]))]) [0] (by decide) rfl
        have hK9 := hK.sub (tys' := []) [] rfl
        have eg_0 : gx_X1_act_0 = 0 := by rfl
        have eg_3 : gx_X1_act_3 a1 a2 a3 a8 a9 a11 p0 p1 = fx_X1_moved (fx_X1_byOutcome a1 p0 p1) := by unfold gx_X1_act_3; rw [if_neg c_1, if_pos c_2, if_pos c_4, if_pos c_56, if_pos c_81, if_neg c_117, if_neg c_123]
        have eg_4 : gx_X1_act_4 a1 a2 a3 a4 a8 a9 a11 p0 p1 = gx_X1_told_4 (fx_X1_byOutcome a1 p0 p1) := by unfold gx_X1_act_4; rw [if_neg c_1, if_pos c_2, if_pos c_4, if_pos c_56, if_pos c_81]
        have eg_5 : gx_X1_act_5 a5 p0 = gx_X1_told_5 p0 := by unfold gx_X1_act_5; rw [if_neg c_1, if_pos c_2]
        have eg_6 : gx_X1_act_6 a1 a2 a3 a6 a8 a9 a11 p0 p1 = gx_X1_told_6 a6 (fx_X1_byOutcome a1 p0 p1) := by unfold gx_X1_act_6; rw [if_neg c_1, if_pos c_2, if_pos c_4, if_pos c_56, if_pos c_81]
        have eg_7 : gx_X1_act_7 a1 a2 a3 a7 a8 a9 a11 p0 p1 = gx_X1_told_7 a7 (fx_X1_byOutcome a1 p0 p1) := by unfold gx_X1_act_7; rw [if_neg c_1, if_pos c_2, if_pos c_4, if_pos c_56, if_pos c_81]
        have eg_8 : gx_X1_act_8 a1 a2 a3 a8 a9 p0 p1 = a8 := by unfold gx_X1_act_8; rw [if_neg c_1, if_pos c_2, if_pos c_4, if_pos c_56]
        have eg_9 : gx_X1_act_9 a1 a2 a3 a8 a9 a11 p0 p1 = 1 := by unfold gx_X1_act_9; rw [if_neg c_1, if_pos c_2, if_pos c_4, if_pos c_56, if_pos c_81, if_neg c_84, if_neg c_94, if_pos c_104]
        have eg_11 : gx_X1_act_11 a1 a2 a3 a8 a9 a11 p0 p1 = a11 := by unfold gx_X1_act_11; rw [if_neg c_1, if_pos c_2, if_pos c_4, if_pos c_56, if_pos c_81, if_neg c_84, if_neg c_94, if_pos c_104]
        have ef : fx_X1_act a1 a2 a3 a8 a9 a11 p0 p1 = fx_X1_byOutcome a1 p0 p1 := by unfold fx_X1_act; rw [if_neg c_1, if_pos c_2, if_pos c_4, if_pos c_56, if_pos c_81]
        exact W.iret (v := fx_X1_byOutcome a1 p0 p1) hx hb hr (fun t ht hW => ⟨⟨(fx_X1_byOutcome a1 p0 p1), [(h0, .inr (1, [.int 0, .int a1, .int a2, .int (fx_X1_moved (fx_X1_byOutcome a1 p0 p1)), .int (gx_X1_told_4 (fx_X1_byOutcome a1 p0 p1)), .int (gx_X1_told_5 p0), .int (gx_X1_told_6 a6 (fx_X1_byOutcome a1 p0 p1)), .int (gx_X1_told_7 a7 (fx_X1_byOutcome a1 p0 p1)), .int a8, .int 1, .int a10, .int a11, .ref h1]))], rfl, ⟨ef.symm, by rw [eg_0, eg_3, eg_4, eg_5, eg_6, eg_7, eg_8, eg_9, eg_11]⟩, by rw [ht]; exact hP9, va_K.moved hW.alike hK9, hD9⟩, hS.F ht⟩) hS.2.2 dX1_act_196
      refine lv_iload_n hx hb dX1_act_108 rfl (lv_at hl 0 rfl) ?_
      refine lv_bipush (v := 10) hx hb dX1_act_109 (by decide) ?_
      refine lv_icmp_ne (tgt := 119) hx hb dX1_act_111 (by decide) (fun c9 => ?_) (fun c9 => absurd (c_104.symm.trans c9) (by decide))
      refine lv_iload_n hx hb dX1_act_119 rfl (lv_at hl 2 rfl) ?_
      refine lv_if_eq (tgt := 133) hx hb dX1_act_120 (by decide) (fun c9 => ?_) (fun c9 => absurd c_56 c9)
      refine lv_iconst (v := 1) hx hb dX1_act_133 (by decide) ?_
      refine lv_goto (tgt := 138) hx hb dX1_act_134 (by decide) ?_
      refine lv_istore (lv' := [(4, .int 1), (3, .int (fx_X1_byOutcome a1 p0 p1)), (0, .ref h0), (1, .int p0), (2, .int p1)]) hx hb dX1_act_138 hl (by decide) rfl (fun ls hl => ?_)
      refine lv_iload hx hb dX1_act_140 (lv_at hl 0 rfl) ?_
      refine lv_if_eq (tgt := 152) hx hb dX1_act_142 (by decide) (fun c9 => absurd c9 (by decide)) (fun c9 => ?_)
      refine lv_iload_n hx hb dX1_act_145 rfl (lv_at hl 1 rfl) ?_
      have hPc := hP.sub (ws' := []) [] rfl
      have hDc := hD.sub (ws' := []) [] (by decide) rfl
      have hKc := hK.sub (tys' := []) [] rfl
      have hFc := va_free (wc := []) hD hS hA [] rfl
      refine va_calli (va_runS (As := [.int (fx_X1_byOutcome a1 p0 p1)]) (rest := []) ⟨hx, hb, hml, hown, hts⟩ (ct_X1_moved l dC dI H.size (fx_X1_byOutcome a1 p0 p1)) (va_cwS 1 hts gX1_act_X1_moved rfl rfl rfl (by decide +kernel) ⟨Nat.le_of_ble_eq_true rfl, Nat.le_of_ble_eq_true rfl⟩) ⟨fun a U g mk q => by obtain ⟨q0, q1, qP, qK, qD⟩ := q; exact ⟨q0, q1, qP, va_K.moved (u := U) (U := U.calling g mk a) (Vm.Alike.refl U.vm) qK, qD⟩, fun U hU hW => ⟨rfl, by rw [hU], by rw [hU]; exact hPc, va_K.moved hW.alike hKc, hDc.weaken (fun _ _ _ _ => trivial)⟩⟩ rfl rfl hl.1 rfl (lv_room (Nat.le_of_ble_eq_true rfl)) dX1_act_146 ⟨(Nat.zero_le _), (Nat.zero_le _)⟩) hS (fun q _ h => hFc q h) hFc (fun r_124 u t H1 locs ht hvm hw hB hz1 hk1 hS => ?_)
      obtain ⟨er, hu⟩ := hw
      subst hu
      subst er
      obtain ⟨hP1, -, hD1⟩ := hB
      rw [ht] at hP1
      obtain ⟨hP, hD⟩ := va_join (wr := [(h0, .inr (1, [.int 0, .int a1, .int a2, .int a3, .int (gx_X1_told_4 (fx_X1_byOutcome a1 p0 p1)), .int (gx_X1_told_5 p0), .int (gx_X1_told_6 a6 (fx_X1_byOutcome a1 p0 p1)), .int (gx_X1_told_7 a7 (fx_X1_byOutcome a1 p0 p1)), .int a8, .int 1, .int a10, .int a11, .ref h1]))]) (w1 := []) hP hD [] [0] rfl rfl (by decide) (by decide) hk1 hFc hP1 hD1
      generalize H1 = H at hP hS ⊢
      have hP : va_P (dC, dI) vwCl [(h0, .inr (1, [.int 0, .int a1, .int a2, .int a3, .int (gx_X1_told_4 (fx_X1_byOutcome a1 p0 p1)), .int (gx_X1_told_5 p0), .int (gx_X1_told_6 a6 (fx_X1_byOutcome a1 p0 p1)), .int (gx_X1_told_7 a7 (fx_X1_byOutcome a1 p0 p1)), .int a8, .int 1, .int a10, .int a11, .ref h1]))] H := hP
      have hD : va_D A [(h0, .inr (1, [.int 0, .int a1, .int a2, .int a3, .int (gx_X1_told_4 (fx_X1_byOutcome a1 p0 p1)), .int (gx_X1_told_5 p0), .int (gx_X1_told_6 a6 (fx_X1_byOutcome a1 p0 p1)), .int (gx_X1_told_7 a7 (fx_X1_byOutcome a1 p0 p1)), .int a8, .int 1, .int a10, .int a11, .ref h1]))] := hD
      refine lv_goto (tgt := 153) hx hb dX1_act_149 (by decide) ?_
      refine lv_istore (lv' := [(5, .int (fx_X1_moved (fx_X1_byOutcome a1 p0 p1))), (4, .int 1), (3, .int (fx_X1_byOutcome a1 p0 p1)), (0, .ref h0), (1, .int p0), (2, .int p1)]) hx hb dX1_act_153 hl (by decide) rfl (fun ls hl => ?_)
      refine lv_aload_n hx hb dX1_act_155 rfl (lv_at hl 3 rfl) ?_
      refine lv_iload hx hb dX1_act_156 (lv_at hl 0 rfl) ?_
      refine lv_if_eq (tgt := 168) hx hb dX1_act_158 (by decide) (fun c_125 => ?_) (fun c_125 => ?_)
      · refine lv_aload_n hx hb dX1_act_168 rfl (lv_at hl 3 rfl) ?_
        refine va_get (D := (dC, dI)) (ci := 1) (v := .int a3) (C := RX1) (T := TX1) (N := 13) hx hb hts (fun _ h => List.mem_cons_of_mem _ (List.mem_append_right _ h)) hown hK hP 0 rfl rfl 3 (by decide) (hts (.fieldLink RX1 50 "FileStatusModel" "position" "I") (by decide +kernel)) (fun _ h9 => h9) rfl dX1_act_169 ?_
        refine lv_goto (tgt := 177) hx hb dX1_act_172 (by decide) ?_
        refine va_put (D := (dC, dI)) (ci := 1) (v := .int a3) (ty := .int) (C := RX1) (T := TX1) (N := 13) hx hb hts (fun _ h => List.mem_cons_of_mem _ (List.mem_append_right _ h)) tyX1 tyX1_ok nmX1 hown hK hP hD hS 0 rfl rfl 3 (by decide) (hts (.fieldLink RX1 50 "FileStatusModel" "position" "I") (by decide +kernel)) (fun _ h9 => h9) rfl (by decide +kernel) rfl rfl (Nat.le_of_ble_eq_true rfl) dX1_act_177 (fun H locs hP hD hS => ?_)
        have hP : va_P (dC, dI) vwCl [(h0, .inr (1, [.int 0, .int a1, .int a2, .int a3, .int (gx_X1_told_4 (fx_X1_byOutcome a1 p0 p1)), .int (gx_X1_told_5 p0), .int (gx_X1_told_6 a6 (fx_X1_byOutcome a1 p0 p1)), .int (gx_X1_told_7 a7 (fx_X1_byOutcome a1 p0 p1)), .int a8, .int 1, .int a10, .int a11, .ref h1]))] H := hP
        have hD : va_D A [(h0, .inr (1, [.int 0, .int a1, .int a2, .int a3, .int (gx_X1_told_4 (fx_X1_byOutcome a1 p0 p1)), .int (gx_X1_told_5 p0), .int (gx_X1_told_6 a6 (fx_X1_byOutcome a1 p0 p1)), .int (gx_X1_told_7 a7 (fx_X1_byOutcome a1 p0 p1)), .int a8, .int 1, .int a10, .int a11, .ref h1]))] := hD
        refine lv_iload_n hx hb dX1_act_180 rfl (lv_at hl 4 rfl) ?_
        refine lv_bipush (v := 6) hx hb dX1_act_181 (by decide) ?_
        refine lv_icmp_ne (tgt := 195) hx hb dX1_act_183 (by decide) (fun c9 => ?_) (fun c9 => absurd (c_56.symm.trans c9) (by decide))
        refine lv_iload_n hx hb dX1_act_195 rfl (lv_at hl 2 rfl) ?_
        have hP9 := hP.sub (ws' := [(h0, .inr (1, [.int 0, .int a1, .int a2, .int a3, .int (gx_X1_told_4 (fx_X1_byOutcome a1 p0 p1)), .int (gx_X1_told_5 p0), .int (gx_X1_told_6 a6 (fx_X1_byOutcome a1 p0 p1)), .int (gx_X1_told_7 a7 (fx_X1_byOutcome a1 p0 p1)), .int a8, .int 1, .int a10, .int a11, .ref h1]))]) [0] rfl
        have hD9 := hD.sub (ws' := [(h0, .inr (1, [.int 0, .int a1, .int a2, .int a3, .int (gx_X1_told_4 (fx_X1_byOutcome a1 p0 p1)), .int (gx_X1_told_5 p0), .int (gx_X1_told_6 a6 (fx_X1_byOutcome a1 p0 p1)), .int (gx_X1_told_7 a7 (fx_X1_byOutcome a1 p0 p1)), .int a8, .int 1, .int a10, .int a11, .ref h1]))]) [0] (by decide) rfl
        have hK9 := hK.sub (tys' := []) [] rfl
        have eg_0 : gx_X1_act_0 = 0 := by rfl
        have eg_3 : gx_X1_act_3 a1 a2 a3 a8 a9 a11 p0 p1 = a3 := by unfold gx_X1_act_3; rw [if_neg c_1, if_pos c_2, if_pos c_4, if_pos c_56, if_pos c_81, if_neg c_117, if_pos c_125]
        have eg_4 : gx_X1_act_4 a1 a2 a3 a4 a8 a9 a11 p0 p1 = gx_X1_told_4 (fx_X1_byOutcome a1 p0 p1) := by unfold gx_X1_act_4; rw [if_neg c_1, if_pos c_2, if_pos c_4, if_pos c_56, if_pos c_81]
        have eg_5 : gx_X1_act_5 a5 p0 = gx_X1_told_5 p0 := by unfold gx_X1_act_5; rw [if_neg c_1, if_pos c_2]
        have eg_6 : gx_X1_act_6 a1 a2 a3 a6 a8 a9 a11 p0 p1 = gx_X1_told_6 a6 (fx_X1_byOutcome a1 p0 p1) := by unfold gx_X1_act_6; rw [if_neg c_1, if_pos c_2, if_pos c_4, if_pos c_56, if_pos c_81]
        have eg_7 : gx_X1_act_7 a1 a2 a3 a7 a8 a9 a11 p0 p1 = gx_X1_told_7 a7 (fx_X1_byOutcome a1 p0 p1) := by unfold gx_X1_act_7; rw [if_neg c_1, if_pos c_2, if_pos c_4, if_pos c_56, if_pos c_81]
        have eg_8 : gx_X1_act_8 a1 a2 a3 a8 a9 p0 p1 = a8 := by unfold gx_X1_act_8; rw [if_neg c_1, if_pos c_2, if_pos c_4, if_pos c_56]
        have eg_9 : gx_X1_act_9 a1 a2 a3 a8 a9 a11 p0 p1 = 1 := by unfold gx_X1_act_9; rw [if_neg c_1, if_pos c_2, if_pos c_4, if_pos c_56, if_pos c_81, if_neg c_84, if_neg c_94, if_pos c_104]
        have eg_11 : gx_X1_act_11 a1 a2 a3 a8 a9 a11 p0 p1 = a11 := by unfold gx_X1_act_11; rw [if_neg c_1, if_pos c_2, if_pos c_4, if_pos c_56, if_pos c_81, if_neg c_84, if_neg c_94, if_pos c_104]
        have ef : fx_X1_act a1 a2 a3 a8 a9 a11 p0 p1 = fx_X1_byOutcome a1 p0 p1 := by unfold fx_X1_act; rw [if_neg c_1, if_pos c_2, if_pos c_4, if_pos c_56, if_pos c_81]
        exact W.iret (v := fx_X1_byOutcome a1 p0 p1) hx hb hr (fun t ht hW => ⟨⟨(fx_X1_byOutcome a1 p0 p1), [(h0, .inr (1, [.int 0, .int a1, .int a2, .int a3, .int (gx_X1_told_4 (fx_X1_byOutcome a1 p0 p1)), .int (gx_X1_told_5 p0), .int (gx_X1_told_6 a6 (fx_X1_byOutcome a1 p0 p1)), .int (gx_X1_told_7 a7 (fx_X1_byOutcome a1 p0 p1)), .int a8, .int 1, .int a10, .int a11, .ref h1]))], rfl, ⟨ef.symm, by rw [eg_0, eg_3, eg_4, eg_5, eg_6, eg_7, eg_8, eg_9, eg_11]⟩, by rw [ht]; exact hP9, va_K.moved hW.alike hK9, hD9⟩, hS.F ht⟩) hS.2.2 dX1_act_196
      refine lv_aload_n hx hb dX1_act_161 rfl (lv_at hl 3 rfl) ?_
      refine va_get (D := (dC, dI)) (ci := 1) (v := .int a8) (C := RX1) (T := TX1) (N := 13) hx hb hts (fun _ h => List.mem_cons_of_mem _ (List.mem_append_right _ h)) hown hK hP 0 rfl rfl 8 (by decide) (hts (.fieldLink RX1 23 "FileStatusModel" "isOpen" "Z") (by decide +kernel)) (fun _ h9 => h9) rfl dX1_act_162 ?_
      refine lv_if_ne (tgt := 175) hx hb dX1_act_165 (by decide) (fun c9 => ?_) (fun c9 => absurd c9 c_117)
      refine lv_iload hx hb dX1_act_175 (lv_at hl 0 rfl) ?_
      refine va_put (D := (dC, dI)) (ci := 1) (v := .int (fx_X1_moved (fx_X1_byOutcome a1 p0 p1))) (ty := .int) (C := RX1) (T := TX1) (N := 13) hx hb hts (fun _ h => List.mem_cons_of_mem _ (List.mem_append_right _ h)) tyX1 tyX1_ok nmX1 hown hK hP hD hS 0 rfl rfl 3 (by decide) (hts (.fieldLink RX1 50 "FileStatusModel" "position" "I") (by decide +kernel)) (fun _ h9 => h9) rfl (by decide +kernel) rfl rfl (Nat.le_of_ble_eq_true rfl) dX1_act_177 (fun H locs hP hD hS => ?_)
      have hP : va_P (dC, dI) vwCl [(h0, .inr (1, [.int 0, .int a1, .int a2, .int (fx_X1_moved (fx_X1_byOutcome a1 p0 p1)), .int (gx_X1_told_4 (fx_X1_byOutcome a1 p0 p1)), .int (gx_X1_told_5 p0), .int (gx_X1_told_6 a6 (fx_X1_byOutcome a1 p0 p1)), .int (gx_X1_told_7 a7 (fx_X1_byOutcome a1 p0 p1)), .int a8, .int 1, .int a10, .int a11, .ref h1]))] H := hP
      have hD : va_D A [(h0, .inr (1, [.int 0, .int a1, .int a2, .int (fx_X1_moved (fx_X1_byOutcome a1 p0 p1)), .int (gx_X1_told_4 (fx_X1_byOutcome a1 p0 p1)), .int (gx_X1_told_5 p0), .int (gx_X1_told_6 a6 (fx_X1_byOutcome a1 p0 p1)), .int (gx_X1_told_7 a7 (fx_X1_byOutcome a1 p0 p1)), .int a8, .int 1, .int a10, .int a11, .ref h1]))] := hD
      refine lv_iload_n hx hb dX1_act_180 rfl (lv_at hl 4 rfl) ?_
      refine lv_bipush (v := 6) hx hb dX1_act_181 (by decide) ?_
      refine lv_icmp_ne (tgt := 195) hx hb dX1_act_183 (by decide) (fun c9 => ?_) (fun c9 => absurd (c_56.symm.trans c9) (by decide))
      refine lv_iload_n hx hb dX1_act_195 rfl (lv_at hl 2 rfl) ?_
      have hP9 := hP.sub (ws' := [(h0, .inr (1, [.int 0, .int a1, .int a2, .int (fx_X1_moved (fx_X1_byOutcome a1 p0 p1)), .int (gx_X1_told_4 (fx_X1_byOutcome a1 p0 p1)), .int (gx_X1_told_5 p0), .int (gx_X1_told_6 a6 (fx_X1_byOutcome a1 p0 p1)), .int (gx_X1_told_7 a7 (fx_X1_byOutcome a1 p0 p1)), .int a8, .int 1, .int a10, .int a11, .ref h1]))]) [0] rfl
      have hD9 := hD.sub (ws' := [(h0, .inr (1, [.int 0, .int a1, .int a2, .int (fx_X1_moved (fx_X1_byOutcome a1 p0 p1)), .int (gx_X1_told_4 (fx_X1_byOutcome a1 p0 p1)), .int (gx_X1_told_5 p0), .int (gx_X1_told_6 a6 (fx_X1_byOutcome a1 p0 p1)), .int (gx_X1_told_7 a7 (fx_X1_byOutcome a1 p0 p1)), .int a8, .int 1, .int a10, .int a11, .ref h1]))]) [0] (by decide) rfl
      have hK9 := hK.sub (tys' := []) [] rfl
      have eg_0 : gx_X1_act_0 = 0 := by rfl
      have eg_3 : gx_X1_act_3 a1 a2 a3 a8 a9 a11 p0 p1 = fx_X1_moved (fx_X1_byOutcome a1 p0 p1) := by unfold gx_X1_act_3; rw [if_neg c_1, if_pos c_2, if_pos c_4, if_pos c_56, if_pos c_81, if_neg c_117, if_neg c_125]
      have eg_4 : gx_X1_act_4 a1 a2 a3 a4 a8 a9 a11 p0 p1 = gx_X1_told_4 (fx_X1_byOutcome a1 p0 p1) := by unfold gx_X1_act_4; rw [if_neg c_1, if_pos c_2, if_pos c_4, if_pos c_56, if_pos c_81]
      have eg_5 : gx_X1_act_5 a5 p0 = gx_X1_told_5 p0 := by unfold gx_X1_act_5; rw [if_neg c_1, if_pos c_2]
      have eg_6 : gx_X1_act_6 a1 a2 a3 a6 a8 a9 a11 p0 p1 = gx_X1_told_6 a6 (fx_X1_byOutcome a1 p0 p1) := by unfold gx_X1_act_6; rw [if_neg c_1, if_pos c_2, if_pos c_4, if_pos c_56, if_pos c_81]
      have eg_7 : gx_X1_act_7 a1 a2 a3 a7 a8 a9 a11 p0 p1 = gx_X1_told_7 a7 (fx_X1_byOutcome a1 p0 p1) := by unfold gx_X1_act_7; rw [if_neg c_1, if_pos c_2, if_pos c_4, if_pos c_56, if_pos c_81]
      have eg_8 : gx_X1_act_8 a1 a2 a3 a8 a9 p0 p1 = a8 := by unfold gx_X1_act_8; rw [if_neg c_1, if_pos c_2, if_pos c_4, if_pos c_56]
      have eg_9 : gx_X1_act_9 a1 a2 a3 a8 a9 a11 p0 p1 = 1 := by unfold gx_X1_act_9; rw [if_neg c_1, if_pos c_2, if_pos c_4, if_pos c_56, if_pos c_81, if_neg c_84, if_neg c_94, if_pos c_104]
      have eg_11 : gx_X1_act_11 a1 a2 a3 a8 a9 a11 p0 p1 = a11 := by unfold gx_X1_act_11; rw [if_neg c_1, if_pos c_2, if_pos c_4, if_pos c_56, if_pos c_81, if_neg c_84, if_neg c_94, if_pos c_104]
      have ef : fx_X1_act a1 a2 a3 a8 a9 a11 p0 p1 = fx_X1_byOutcome a1 p0 p1 := by unfold fx_X1_act; rw [if_neg c_1, if_pos c_2, if_pos c_4, if_pos c_56, if_pos c_81]
      exact W.iret (v := fx_X1_byOutcome a1 p0 p1) hx hb hr (fun t ht hW => ⟨⟨(fx_X1_byOutcome a1 p0 p1), [(h0, .inr (1, [.int 0, .int a1, .int a2, .int (fx_X1_moved (fx_X1_byOutcome a1 p0 p1)), .int (gx_X1_told_4 (fx_X1_byOutcome a1 p0 p1)), .int (gx_X1_told_5 p0), .int (gx_X1_told_6 a6 (fx_X1_byOutcome a1 p0 p1)), .int (gx_X1_told_7 a7 (fx_X1_byOutcome a1 p0 p1)), .int a8, .int 1, .int a10, .int a11, .ref h1]))], rfl, ⟨ef.symm, by rw [eg_0, eg_3, eg_4, eg_5, eg_6, eg_7, eg_8, eg_9, eg_11]⟩, by rw [ht]; exact hP9, va_K.moved hW.alike hK9, hD9⟩, hS.F ht⟩) hS.2.2 dX1_act_196
    refine lv_bipush (v := 10) hx hb dX1_act_39 (by decide) ?_
    refine lv_goto (tgt := 50) hx hb dX1_act_41 (by decide) ?_
    refine lv_istore_n (lv' := [(3, .int 10), (0, .ref h0), (1, .int p0), (2, .int p1)]) hx hb dX1_act_50 rfl hl (by decide) rfl (fun ls hl => ?_)
    refine lv_aload_n hx hb dX1_act_51 rfl (lv_at hl 1 rfl) ?_
    refine lv_iload_n hx hb dX1_act_52 rfl (lv_at hl 0 rfl) ?_
    refine lv_iload_n hx hb dX1_act_53 rfl (lv_at hl 2 rfl) ?_
    have hPc := hP.sub (ws' := [(h0, .inr (1, [.int 0, .int a1, .int a2, .int a3, .int a4, .int a5, .int a6, .int a7, .int a8, .int a9, .int a10, .int a11, .ref h1]))]) [0] rfl
    have hDc := hD.sub (ws' := [(h0, .inr (1, [.int 0, .int a1, .int a2, .int a3, .int a4, .int a5, .int a6, .int a7, .int a8, .int a9, .int a10, .int a11, .ref h1]))]) [0] (by decide) rfl
    have hKc := hK.sub (tys' := []) [] rfl
    have hFc := va_free (wc := [(h0, .inr (1, [.int 0, .int a1, .int a2, .int a3, .int a4, .int a5, .int a6, .int a7, .int a8, .int a9, .int a10, .int a11, .ref h1]))]) hD hS hA [0] rfl
    refine va_calli (va_runV (As := [.int 10, .int p0]) (rest := []) ⟨hx, hb, hml, hown, hts⟩ (ct_X1_told l dC dI h0 h1 H.size 0 a1 a2 a3 a4 a5 a6 a7 a8 a9 a10 a11 10 p0) (cwV 2 hts gX1_act_X1_told rfl rfl rfl (by decide +kernel) ⟨Nat.le_of_ble_eq_true rfl, Nat.le_of_ble_eq_true rfl⟩) ⟨fun a U g mk q => by obtain ⟨q0, q1, qP, qK, qD⟩ := q; exact ⟨q0, q1, qP, va_K.moved (u := U) (U := U.calling g mk a) (Vm.Alike.refl U.vm) qK, qD⟩, va_recv hKc hPc (ci := 1) (q0 := 0) rfl rfl, fun U hU hW => ⟨rfl, by rw [hU], by rw [hU]; exact hPc, va_K.moved hW.alike hKc, hDc.weaken (fun _ _ _ _ => trivial)⟩⟩ rfl rfl hl.1 rfl (lv_room (Nat.le_of_ble_eq_true rfl)) dX1_act_54 ⟨(Nat.zero_le _), (Nat.zero_le _)⟩) hS (fun q _ h => hFc q h) hFc (fun r_126 u t H1 locs ht hvm hw hB hz1 hk1 hS => ?_)
    obtain ⟨er, hu⟩ := hw
    subst hu
    subst er
    obtain ⟨hP1, -, hD1⟩ := hB
    rw [ht] at hP1
    obtain ⟨hP, hD⟩ := va_join (wr := []) (w1 := [(h0, .inr (1, [.int 0, .int a1, .int a2, .int a3, .int (gx_X1_told_4 10), .int (gx_X1_told_5 p0), .int (gx_X1_told_6 a6 10), .int (gx_X1_told_7 a7 10), .int a8, .int a9, .int a10, .int a11, .ref h1]))]) hP hD [0] [] rfl rfl (by decide) (by decide) hk1 hFc hP1 hD1
    generalize H1 = H at hP hS ⊢
    have hP : va_P (dC, dI) vwCl [(h0, .inr (1, [.int 0, .int a1, .int a2, .int a3, .int (gx_X1_told_4 10), .int (gx_X1_told_5 p0), .int (gx_X1_told_6 a6 10), .int (gx_X1_told_7 a7 10), .int a8, .int a9, .int a10, .int a11, .ref h1]))] H := hP
    have hD : va_D A [(h0, .inr (1, [.int 0, .int a1, .int a2, .int a3, .int (gx_X1_told_4 10), .int (gx_X1_told_5 p0), .int (gx_X1_told_6 a6 10), .int (gx_X1_told_7 a7 10), .int a8, .int a9, .int a10, .int a11, .ref h1]))] := hD
    refine lv_pop hx hb dX1_act_57 rfl ?_
    refine lv_aload_n hx hb dX1_act_58 rfl (lv_at hl 1 rfl) ?_
    refine lv_iload_n hx hb dX1_act_59 rfl (lv_at hl 2 rfl) ?_
    refine lv_if_eq (tgt := 68) hx hb dX1_act_60 (by decide) (fun c9 => ?_) (fun c9 => absurd c_56 c9)
    refine lv_iload_n hx hb dX1_act_68 rfl (lv_at hl 0 rfl) ?_
    refine lv_if_eq (tgt := 82) hx hb dX1_act_69 (by decide) (fun c9 => absurd c9 (by decide)) (fun c9 => ?_)
    refine lv_iload_n hx hb dX1_act_72 rfl (lv_at hl 0 rfl) ?_
    refine lv_iconst (v := 2) hx hb dX1_act_73 (by decide) ?_
    refine lv_icmp_eq (tgt := 82) hx hb dX1_act_74 (by decide) (fun c9 => absurd c9 (by decide)) (fun c9 => ?_)
    refine lv_iload_n hx hb dX1_act_77 rfl (lv_at hl 0 rfl) ?_
    refine lv_iconst (v := 4) hx hb dX1_act_78 (by decide) ?_
    refine lv_icmp_ne (tgt := 86) hx hb dX1_act_79 (by decide) (fun c9 => ?_) (fun c9 => absurd c9 (by decide))
    refine lv_iconst (v := 0) hx hb dX1_act_86 (by decide) ?_
    refine va_put (D := (dC, dI)) (ci := 1) (v := .int 0) (ty := .boolean) (C := RX1) (T := TX1) (N := 13) hx hb hts (fun _ h => List.mem_cons_of_mem _ (List.mem_append_right _ h)) tyX1 tyX1_ok nmX1 hown hK hP hD hS 0 rfl rfl 9 (by decide) (hts (.fieldLink RX1 47 "FileStatusModel" "permit" "Z") (by decide +kernel)) (fun _ h9 => h9) rfl (by decide +kernel) rfl rfl (Nat.le_of_ble_eq_true rfl) dX1_act_87 (fun H locs hP hD hS => ?_)
    have hP : va_P (dC, dI) vwCl [(h0, .inr (1, [.int 0, .int a1, .int a2, .int a3, .int (gx_X1_told_4 10), .int (gx_X1_told_5 p0), .int (gx_X1_told_6 a6 10), .int (gx_X1_told_7 a7 10), .int a8, .int 0, .int a10, .int a11, .ref h1]))] H := hP
    have hD : va_D A [(h0, .inr (1, [.int 0, .int a1, .int a2, .int a3, .int (gx_X1_told_4 10), .int (gx_X1_told_5 p0), .int (gx_X1_told_6 a6 10), .int (gx_X1_told_7 a7 10), .int a8, .int 0, .int a10, .int a11, .ref h1]))] := hD
    refine lv_iload_n hx hb dX1_act_90 rfl (lv_at hl 2 rfl) ?_
    refine lv_if_ne (tgt := 119) hx hb dX1_act_91 (by decide) (fun c9 => absurd c_56 c9) (fun c9 => ?_)
    refine lv_aload_n hx hb dX1_act_94 rfl (lv_at hl 1 rfl) ?_
    refine va_get (D := (dC, dI)) (ci := 1) (v := .int a8) (C := RX1) (T := TX1) (N := 13) hx hb hts (fun _ h => List.mem_cons_of_mem _ (List.mem_append_right _ h)) hown hK hP 0 rfl rfl 8 (by decide) (hts (.fieldLink RX1 23 "FileStatusModel" "isOpen" "Z") (by decide +kernel)) (fun _ h9 => h9) rfl dX1_act_95 ?_
    refine lv_if_eq (tgt := 119) hx hb dX1_act_98 (by decide) (fun c_127 => ?_) (fun c_127 => ?_)
    · refine lv_iload_n hx hb dX1_act_119 rfl (lv_at hl 2 rfl) ?_
      refine lv_if_eq (tgt := 133) hx hb dX1_act_120 (by decide) (fun c9 => ?_) (fun c9 => absurd c_56 c9)
      refine lv_iconst (v := 1) hx hb dX1_act_133 (by decide) ?_
      refine lv_goto (tgt := 138) hx hb dX1_act_134 (by decide) ?_
      refine lv_istore (lv' := [(4, .int 1), (3, .int 10), (0, .ref h0), (1, .int p0), (2, .int p1)]) hx hb dX1_act_138 hl (by decide) rfl (fun ls hl => ?_)
      refine lv_iload hx hb dX1_act_140 (lv_at hl 0 rfl) ?_
      refine lv_if_eq (tgt := 152) hx hb dX1_act_142 (by decide) (fun c9 => absurd c9 (by decide)) (fun c9 => ?_)
      refine lv_iload_n hx hb dX1_act_145 rfl (lv_at hl 1 rfl) ?_
      have hPc := hP.sub (ws' := []) [] rfl
      have hDc := hD.sub (ws' := []) [] (by decide) rfl
      have hKc := hK.sub (tys' := []) [] rfl
      have hFc := va_free (wc := []) hD hS hA [] rfl
      refine va_calli (va_runS (As := [.int 10]) (rest := []) ⟨hx, hb, hml, hown, hts⟩ (ct_X1_moved l dC dI H.size 10) (va_cwS 1 hts gX1_act_X1_moved rfl rfl rfl (by decide +kernel) ⟨Nat.le_of_ble_eq_true rfl, Nat.le_of_ble_eq_true rfl⟩) ⟨fun a U g mk q => by obtain ⟨q0, q1, qP, qK, qD⟩ := q; exact ⟨q0, q1, qP, va_K.moved (u := U) (U := U.calling g mk a) (Vm.Alike.refl U.vm) qK, qD⟩, fun U hU hW => ⟨rfl, by rw [hU], by rw [hU]; exact hPc, va_K.moved hW.alike hKc, hDc.weaken (fun _ _ _ _ => trivial)⟩⟩ rfl rfl hl.1 rfl (lv_room (Nat.le_of_ble_eq_true rfl)) dX1_act_146 ⟨(Nat.zero_le _), (Nat.zero_le _)⟩) hS (fun q _ h => hFc q h) hFc (fun r_128 u t H1 locs ht hvm hw hB hz1 hk1 hS => ?_)
      obtain ⟨er, hu⟩ := hw
      subst hu
      subst er
      obtain ⟨hP1, -, hD1⟩ := hB
      rw [ht] at hP1
      obtain ⟨hP, hD⟩ := va_join (wr := [(h0, .inr (1, [.int 0, .int a1, .int a2, .int a3, .int (gx_X1_told_4 10), .int (gx_X1_told_5 p0), .int (gx_X1_told_6 a6 10), .int (gx_X1_told_7 a7 10), .int a8, .int 0, .int a10, .int a11, .ref h1]))]) (w1 := []) hP hD [] [0] rfl rfl (by decide) (by decide) hk1 hFc hP1 hD1
      generalize H1 = H at hP hS ⊢
      have hP : va_P (dC, dI) vwCl [(h0, .inr (1, [.int 0, .int a1, .int a2, .int a3, .int (gx_X1_told_4 10), .int (gx_X1_told_5 p0), .int (gx_X1_told_6 a6 10), .int (gx_X1_told_7 a7 10), .int a8, .int 0, .int a10, .int a11, .ref h1]))] H := hP
      have hD : va_D A [(h0, .inr (1, [.int 0, .int a1, .int a2, .int a3, .int (gx_X1_told_4 10), .int (gx_X1_told_5 p0), .int (gx_X1_told_6 a6 10), .int (gx_X1_told_7 a7 10), .int a8, .int 0, .int a10, .int a11, .ref h1]))] := hD
      refine lv_goto (tgt := 153) hx hb dX1_act_149 (by decide) ?_
      refine lv_istore (lv' := [(5, .int (fx_X1_moved 10)), (4, .int 1), (3, .int 10), (0, .ref h0), (1, .int p0), (2, .int p1)]) hx hb dX1_act_153 hl (by decide) rfl (fun ls hl => ?_)
      refine lv_aload_n hx hb dX1_act_155 rfl (lv_at hl 3 rfl) ?_
      refine lv_iload hx hb dX1_act_156 (lv_at hl 0 rfl) ?_
      refine lv_if_eq (tgt := 168) hx hb dX1_act_158 (by decide) (fun c_129 => ?_) (fun c_129 => ?_)
      · refine lv_aload_n hx hb dX1_act_168 rfl (lv_at hl 3 rfl) ?_
        refine va_get (D := (dC, dI)) (ci := 1) (v := .int a3) (C := RX1) (T := TX1) (N := 13) hx hb hts (fun _ h => List.mem_cons_of_mem _ (List.mem_append_right _ h)) hown hK hP 0 rfl rfl 3 (by decide) (hts (.fieldLink RX1 50 "FileStatusModel" "position" "I") (by decide +kernel)) (fun _ h9 => h9) rfl dX1_act_169 ?_
        refine lv_goto (tgt := 177) hx hb dX1_act_172 (by decide) ?_
        refine va_put (D := (dC, dI)) (ci := 1) (v := .int a3) (ty := .int) (C := RX1) (T := TX1) (N := 13) hx hb hts (fun _ h => List.mem_cons_of_mem _ (List.mem_append_right _ h)) tyX1 tyX1_ok nmX1 hown hK hP hD hS 0 rfl rfl 3 (by decide) (hts (.fieldLink RX1 50 "FileStatusModel" "position" "I") (by decide +kernel)) (fun _ h9 => h9) rfl (by decide +kernel) rfl rfl (Nat.le_of_ble_eq_true rfl) dX1_act_177 (fun H locs hP hD hS => ?_)
        have hP : va_P (dC, dI) vwCl [(h0, .inr (1, [.int 0, .int a1, .int a2, .int a3, .int (gx_X1_told_4 10), .int (gx_X1_told_5 p0), .int (gx_X1_told_6 a6 10), .int (gx_X1_told_7 a7 10), .int a8, .int 0, .int a10, .int a11, .ref h1]))] H := hP
        have hD : va_D A [(h0, .inr (1, [.int 0, .int a1, .int a2, .int a3, .int (gx_X1_told_4 10), .int (gx_X1_told_5 p0), .int (gx_X1_told_6 a6 10), .int (gx_X1_told_7 a7 10), .int a8, .int 0, .int a10, .int a11, .ref h1]))] := hD
        refine lv_iload_n hx hb dX1_act_180 rfl (lv_at hl 4 rfl) ?_
        refine lv_bipush (v := 6) hx hb dX1_act_181 (by decide) ?_
        refine lv_icmp_ne (tgt := 195) hx hb dX1_act_183 (by decide) (fun c9 => ?_) (fun c9 => absurd (c_56.symm.trans c9) (by decide))
        refine lv_iload_n hx hb dX1_act_195 rfl (lv_at hl 2 rfl) ?_
        have hP9 := hP.sub (ws' := [(h0, .inr (1, [.int 0, .int a1, .int a2, .int a3, .int (gx_X1_told_4 10), .int (gx_X1_told_5 p0), .int (gx_X1_told_6 a6 10), .int (gx_X1_told_7 a7 10), .int a8, .int 0, .int a10, .int a11, .ref h1]))]) [0] rfl
        have hD9 := hD.sub (ws' := [(h0, .inr (1, [.int 0, .int a1, .int a2, .int a3, .int (gx_X1_told_4 10), .int (gx_X1_told_5 p0), .int (gx_X1_told_6 a6 10), .int (gx_X1_told_7 a7 10), .int a8, .int 0, .int a10, .int a11, .ref h1]))]) [0] (by decide) rfl
        have hK9 := hK.sub (tys' := []) [] rfl
        have eg_0 : gx_X1_act_0 = 0 := by rfl
        have eg_3 : gx_X1_act_3 a1 a2 a3 a8 a9 a11 p0 p1 = a3 := by unfold gx_X1_act_3; rw [if_neg c_1, if_pos c_2, if_pos c_4, if_pos c_56, if_neg c_81, if_pos c_127]
        have eg_4 : gx_X1_act_4 a1 a2 a3 a4 a8 a9 a11 p0 p1 = gx_X1_told_4 10 := by unfold gx_X1_act_4; rw [if_neg c_1, if_pos c_2, if_pos c_4, if_pos c_56, if_neg c_81]
        have eg_5 : gx_X1_act_5 a5 p0 = gx_X1_told_5 p0 := by unfold gx_X1_act_5; rw [if_neg c_1, if_pos c_2]
        have eg_6 : gx_X1_act_6 a1 a2 a3 a6 a8 a9 a11 p0 p1 = gx_X1_told_6 a6 10 := by unfold gx_X1_act_6; rw [if_neg c_1, if_pos c_2, if_pos c_4, if_pos c_56, if_neg c_81]
        have eg_7 : gx_X1_act_7 a1 a2 a3 a7 a8 a9 a11 p0 p1 = gx_X1_told_7 a7 10 := by unfold gx_X1_act_7; rw [if_neg c_1, if_pos c_2, if_pos c_4, if_pos c_56, if_neg c_81]
        have eg_8 : gx_X1_act_8 a1 a2 a3 a8 a9 p0 p1 = a8 := by unfold gx_X1_act_8; rw [if_neg c_1, if_pos c_2, if_pos c_4, if_pos c_56]
        have eg_9 : gx_X1_act_9 a1 a2 a3 a8 a9 a11 p0 p1 = 0 := by unfold gx_X1_act_9; rw [if_neg c_1, if_pos c_2, if_pos c_4, if_pos c_56, if_neg c_81]
        have eg_11 : gx_X1_act_11 a1 a2 a3 a8 a9 a11 p0 p1 = a11 := by unfold gx_X1_act_11; rw [if_neg c_1, if_pos c_2, if_pos c_4, if_pos c_56, if_neg c_81, if_pos c_127]
        have ef : fx_X1_act a1 a2 a3 a8 a9 a11 p0 p1 = 10 := by unfold fx_X1_act; rw [if_neg c_1, if_pos c_2, if_pos c_4, if_pos c_56, if_neg c_81]
        exact W.iret (v := 10) hx hb hr (fun t ht hW => ⟨⟨10, [(h0, .inr (1, [.int 0, .int a1, .int a2, .int a3, .int (gx_X1_told_4 10), .int (gx_X1_told_5 p0), .int (gx_X1_told_6 a6 10), .int (gx_X1_told_7 a7 10), .int a8, .int 0, .int a10, .int a11, .ref h1]))], rfl, ⟨ef.symm, by rw [eg_0, eg_3, eg_4, eg_5, eg_6, eg_7, eg_8, eg_9, eg_11]⟩, by rw [ht]; exact hP9, va_K.moved hW.alike hK9, hD9⟩, hS.F ht⟩) hS.2.2 dX1_act_196
      refine lv_aload_n hx hb dX1_act_161 rfl (lv_at hl 3 rfl) ?_
      refine va_get (D := (dC, dI)) (ci := 1) (v := .int a8) (C := RX1) (T := TX1) (N := 13) hx hb hts (fun _ h => List.mem_cons_of_mem _ (List.mem_append_right _ h)) hown hK hP 0 rfl rfl 8 (by decide) (hts (.fieldLink RX1 23 "FileStatusModel" "isOpen" "Z") (by decide +kernel)) (fun _ h9 => h9) rfl dX1_act_162 ?_
      refine lv_if_ne (tgt := 175) hx hb dX1_act_165 (by decide) (fun c9 => absurd c_127 c9) (fun c9 => ?_)
      refine lv_aload_n hx hb dX1_act_168 rfl (lv_at hl 3 rfl) ?_
      refine va_get (D := (dC, dI)) (ci := 1) (v := .int a3) (C := RX1) (T := TX1) (N := 13) hx hb hts (fun _ h => List.mem_cons_of_mem _ (List.mem_append_right _ h)) hown hK hP 0 rfl rfl 3 (by decide) (hts (.fieldLink RX1 50 "FileStatusModel" "position" "I") (by decide +kernel)) (fun _ h9 => h9) rfl dX1_act_169 ?_
      refine lv_goto (tgt := 177) hx hb dX1_act_172 (by decide) ?_
      refine va_put (D := (dC, dI)) (ci := 1) (v := .int a3) (ty := .int) (C := RX1) (T := TX1) (N := 13) hx hb hts (fun _ h => List.mem_cons_of_mem _ (List.mem_append_right _ h)) tyX1 tyX1_ok nmX1 hown hK hP hD hS 0 rfl rfl 3 (by decide) (hts (.fieldLink RX1 50 "FileStatusModel" "position" "I") (by decide +kernel)) (fun _ h9 => h9) rfl (by decide +kernel) rfl rfl (Nat.le_of_ble_eq_true rfl) dX1_act_177 (fun H locs hP hD hS => ?_)
      have hP : va_P (dC, dI) vwCl [(h0, .inr (1, [.int 0, .int a1, .int a2, .int a3, .int (gx_X1_told_4 10), .int (gx_X1_told_5 p0), .int (gx_X1_told_6 a6 10), .int (gx_X1_told_7 a7 10), .int a8, .int 0, .int a10, .int a11, .ref h1]))] H := hP
      have hD : va_D A [(h0, .inr (1, [.int 0, .int a1, .int a2, .int a3, .int (gx_X1_told_4 10), .int (gx_X1_told_5 p0), .int (gx_X1_told_6 a6 10), .int (gx_X1_told_7 a7 10), .int a8, .int 0, .int a10, .int a11, .ref h1]))] := hD
      refine lv_iload_n hx hb dX1_act_180 rfl (lv_at hl 4 rfl) ?_
      refine lv_bipush (v := 6) hx hb dX1_act_181 (by decide) ?_
      refine lv_icmp_ne (tgt := 195) hx hb dX1_act_183 (by decide) (fun c9 => ?_) (fun c9 => absurd (c_56.symm.trans c9) (by decide))
      refine lv_iload_n hx hb dX1_act_195 rfl (lv_at hl 2 rfl) ?_
      have hP9 := hP.sub (ws' := [(h0, .inr (1, [.int 0, .int a1, .int a2, .int a3, .int (gx_X1_told_4 10), .int (gx_X1_told_5 p0), .int (gx_X1_told_6 a6 10), .int (gx_X1_told_7 a7 10), .int a8, .int 0, .int a10, .int a11, .ref h1]))]) [0] rfl
      have hD9 := hD.sub (ws' := [(h0, .inr (1, [.int 0, .int a1, .int a2, .int a3, .int (gx_X1_told_4 10), .int (gx_X1_told_5 p0), .int (gx_X1_told_6 a6 10), .int (gx_X1_told_7 a7 10), .int a8, .int 0, .int a10, .int a11, .ref h1]))]) [0] (by decide) rfl
      have hK9 := hK.sub (tys' := []) [] rfl
      have eg_0 : gx_X1_act_0 = 0 := by rfl
      have eg_3 : gx_X1_act_3 a1 a2 a3 a8 a9 a11 p0 p1 = a3 := by unfold gx_X1_act_3; rw [if_neg c_1, if_pos c_2, if_pos c_4, if_pos c_56, if_neg c_81, if_pos c_127]
      have eg_4 : gx_X1_act_4 a1 a2 a3 a4 a8 a9 a11 p0 p1 = gx_X1_told_4 10 := by unfold gx_X1_act_4; rw [if_neg c_1, if_pos c_2, if_pos c_4, if_pos c_56, if_neg c_81]
      have eg_5 : gx_X1_act_5 a5 p0 = gx_X1_told_5 p0 := by unfold gx_X1_act_5; rw [if_neg c_1, if_pos c_2]
      have eg_6 : gx_X1_act_6 a1 a2 a3 a6 a8 a9 a11 p0 p1 = gx_X1_told_6 a6 10 := by unfold gx_X1_act_6; rw [if_neg c_1, if_pos c_2, if_pos c_4, if_pos c_56, if_neg c_81]
      have eg_7 : gx_X1_act_7 a1 a2 a3 a7 a8 a9 a11 p0 p1 = gx_X1_told_7 a7 10 := by unfold gx_X1_act_7; rw [if_neg c_1, if_pos c_2, if_pos c_4, if_pos c_56, if_neg c_81]
      have eg_8 : gx_X1_act_8 a1 a2 a3 a8 a9 p0 p1 = a8 := by unfold gx_X1_act_8; rw [if_neg c_1, if_pos c_2, if_pos c_4, if_pos c_56]
      have eg_9 : gx_X1_act_9 a1 a2 a3 a8 a9 a11 p0 p1 = 0 := by unfold gx_X1_act_9; rw [if_neg c_1, if_pos c_2, if_pos c_4, if_pos c_56, if_neg c_81]
      have eg_11 : gx_X1_act_11 a1 a2 a3 a8 a9 a11 p0 p1 = a11 := by unfold gx_X1_act_11; rw [if_neg c_1, if_pos c_2, if_pos c_4, if_pos c_56, if_neg c_81, if_pos c_127]
      have ef : fx_X1_act a1 a2 a3 a8 a9 a11 p0 p1 = 10 := by unfold fx_X1_act; rw [if_neg c_1, if_pos c_2, if_pos c_4, if_pos c_56, if_neg c_81]
      exact W.iret (v := 10) hx hb hr (fun t ht hW => ⟨⟨10, [(h0, .inr (1, [.int 0, .int a1, .int a2, .int a3, .int (gx_X1_told_4 10), .int (gx_X1_told_5 p0), .int (gx_X1_told_6 a6 10), .int (gx_X1_told_7 a7 10), .int a8, .int 0, .int a10, .int a11, .ref h1]))], rfl, ⟨ef.symm, by rw [eg_0, eg_3, eg_4, eg_5, eg_6, eg_7, eg_8, eg_9, eg_11]⟩, by rw [ht]; exact hP9, va_K.moved hW.alike hK9, hD9⟩, hS.F ht⟩) hS.2.2 dX1_act_196
    refine lv_aload_n hx hb dX1_act_101 rfl (lv_at hl 1 rfl) ?_
    have hPc := hP.sub (ws' := [(h0, .inr (1, [.int 0, .int a1, .int a2, .int a3, .int (gx_X1_told_4 10), .int (gx_X1_told_5 p0), .int (gx_X1_told_6 a6 10), .int (gx_X1_told_7 a7 10), .int a8, .int 0, .int a10, .int a11, .ref h1]))]) [0] rfl
    have hDc := hD.sub (ws' := [(h0, .inr (1, [.int 0, .int a1, .int a2, .int a3, .int (gx_X1_told_4 10), .int (gx_X1_told_5 p0), .int (gx_X1_told_6 a6 10), .int (gx_X1_told_7 a7 10), .int a8, .int 0, .int a10, .int a11, .ref h1]))]) [0] (by decide) rfl
    have hKc := hK.sub (tys' := []) [] rfl
    have hFc := va_free (wc := [(h0, .inr (1, [.int 0, .int a1, .int a2, .int a3, .int (gx_X1_told_4 10), .int (gx_X1_told_5 p0), .int (gx_X1_told_6 a6 10), .int (gx_X1_told_7 a7 10), .int a8, .int 0, .int a10, .int a11, .ref h1]))]) hD hS hA [0] rfl
    refine va_calli (va_runV (As := []) (rest := []) ⟨hx, hb, hml, hown, hts⟩ (ct_X1_reads l dC dI h0 h1 H.size 0 a1 a2 a3 (gx_X1_told_4 10) (gx_X1_told_5 p0) (gx_X1_told_6 a6 10) (gx_X1_told_7 a7 10) a8 0 a10 a11) (cwV 0 hts gX1_act_X1_reads rfl rfl rfl (by decide +kernel) ⟨Nat.le_of_ble_eq_true rfl, Nat.le_of_ble_eq_true rfl⟩) ⟨fun a U g mk q => by obtain ⟨q0, q1, qP, qK, qD⟩ := q; exact ⟨q0, q1, qP, va_K.moved (u := U) (U := U.calling g mk a) (Vm.Alike.refl U.vm) qK, qD⟩, va_recv hKc hPc (ci := 1) (q0 := 0) rfl rfl, fun U hU hW => ⟨rfl, by rw [hU], by rw [hU]; exact hPc, va_K.moved hW.alike hKc, hDc.weaken (fun _ _ _ _ => trivial)⟩⟩ rfl rfl hl.1 rfl (lv_room (Nat.le_of_ble_eq_true rfl)) dX1_act_102 ⟨(Nat.zero_le _), (Nat.zero_le _)⟩) hS (fun q _ h => hFc q h) hFc (fun r_130 u t H1 locs ht hvm hw hB hz1 hk1 hS => ?_)
    obtain ⟨er, hu⟩ := hw
    subst hu
    subst er
    obtain ⟨hP1, -, hD1⟩ := hB
    rw [ht] at hP1
    obtain ⟨hP, hD⟩ := va_join (wr := []) (w1 := [(h0, .inr (1, [.int 0, .int a1, .int a2, .int a3, .int (gx_X1_told_4 10), .int (gx_X1_told_5 p0), .int (gx_X1_told_6 a6 10), .int (gx_X1_told_7 a7 10), .int a8, .int 0, .int a10, .int a11, .ref h1]))]) hP hD [0] [] rfl rfl (by decide) (by decide) hk1 hFc hP1 hD1
    generalize H1 = H at hP hS ⊢
    have hP : va_P (dC, dI) vwCl [(h0, .inr (1, [.int 0, .int a1, .int a2, .int a3, .int (gx_X1_told_4 10), .int (gx_X1_told_5 p0), .int (gx_X1_told_6 a6 10), .int (gx_X1_told_7 a7 10), .int a8, .int 0, .int a10, .int a11, .ref h1]))] H := hP
    have hD : va_D A [(h0, .inr (1, [.int 0, .int a1, .int a2, .int a3, .int (gx_X1_told_4 10), .int (gx_X1_told_5 p0), .int (gx_X1_told_6 a6 10), .int (gx_X1_told_7 a7 10), .int a8, .int 0, .int a10, .int a11, .ref h1]))] := hD
    refine lv_if_eq (tgt := 119) hx hb dX1_act_105 (by decide) (fun c_131 => ?_) (fun c_131 => ?_)
    · refine lv_iload_n hx hb dX1_act_119 rfl (lv_at hl 2 rfl) ?_
      refine lv_if_eq (tgt := 133) hx hb dX1_act_120 (by decide) (fun c9 => ?_) (fun c9 => absurd c_56 c9)
      refine lv_iconst (v := 1) hx hb dX1_act_133 (by decide) ?_
      refine lv_goto (tgt := 138) hx hb dX1_act_134 (by decide) ?_
      refine lv_istore (lv' := [(4, .int 1), (3, .int 10), (0, .ref h0), (1, .int p0), (2, .int p1)]) hx hb dX1_act_138 hl (by decide) rfl (fun ls hl => ?_)
      refine lv_iload hx hb dX1_act_140 (lv_at hl 0 rfl) ?_
      refine lv_if_eq (tgt := 152) hx hb dX1_act_142 (by decide) (fun c9 => absurd c9 (by decide)) (fun c9 => ?_)
      refine lv_iload_n hx hb dX1_act_145 rfl (lv_at hl 1 rfl) ?_
      have hPc := hP.sub (ws' := []) [] rfl
      have hDc := hD.sub (ws' := []) [] (by decide) rfl
      have hKc := hK.sub (tys' := []) [] rfl
      have hFc := va_free (wc := []) hD hS hA [] rfl
      refine va_calli (va_runS (As := [.int 10]) (rest := []) ⟨hx, hb, hml, hown, hts⟩ (ct_X1_moved l dC dI H.size 10) (va_cwS 1 hts gX1_act_X1_moved rfl rfl rfl (by decide +kernel) ⟨Nat.le_of_ble_eq_true rfl, Nat.le_of_ble_eq_true rfl⟩) ⟨fun a U g mk q => by obtain ⟨q0, q1, qP, qK, qD⟩ := q; exact ⟨q0, q1, qP, va_K.moved (u := U) (U := U.calling g mk a) (Vm.Alike.refl U.vm) qK, qD⟩, fun U hU hW => ⟨rfl, by rw [hU], by rw [hU]; exact hPc, va_K.moved hW.alike hKc, hDc.weaken (fun _ _ _ _ => trivial)⟩⟩ rfl rfl hl.1 rfl (lv_room (Nat.le_of_ble_eq_true rfl)) dX1_act_146 ⟨(Nat.zero_le _), (Nat.zero_le _)⟩) hS (fun q _ h => hFc q h) hFc (fun r_132 u t H1 locs ht hvm hw hB hz1 hk1 hS => ?_)
      obtain ⟨er, hu⟩ := hw
      subst hu
      subst er
      obtain ⟨hP1, -, hD1⟩ := hB
      rw [ht] at hP1
      obtain ⟨hP, hD⟩ := va_join (wr := [(h0, .inr (1, [.int 0, .int a1, .int a2, .int a3, .int (gx_X1_told_4 10), .int (gx_X1_told_5 p0), .int (gx_X1_told_6 a6 10), .int (gx_X1_told_7 a7 10), .int a8, .int 0, .int a10, .int a11, .ref h1]))]) (w1 := []) hP hD [] [0] rfl rfl (by decide) (by decide) hk1 hFc hP1 hD1
      generalize H1 = H at hP hS ⊢
      have hP : va_P (dC, dI) vwCl [(h0, .inr (1, [.int 0, .int a1, .int a2, .int a3, .int (gx_X1_told_4 10), .int (gx_X1_told_5 p0), .int (gx_X1_told_6 a6 10), .int (gx_X1_told_7 a7 10), .int a8, .int 0, .int a10, .int a11, .ref h1]))] H := hP
      have hD : va_D A [(h0, .inr (1, [.int 0, .int a1, .int a2, .int a3, .int (gx_X1_told_4 10), .int (gx_X1_told_5 p0), .int (gx_X1_told_6 a6 10), .int (gx_X1_told_7 a7 10), .int a8, .int 0, .int a10, .int a11, .ref h1]))] := hD
      refine lv_goto (tgt := 153) hx hb dX1_act_149 (by decide) ?_
      refine lv_istore (lv' := [(5, .int (fx_X1_moved 10)), (4, .int 1), (3, .int 10), (0, .ref h0), (1, .int p0), (2, .int p1)]) hx hb dX1_act_153 hl (by decide) rfl (fun ls hl => ?_)
      refine lv_aload_n hx hb dX1_act_155 rfl (lv_at hl 3 rfl) ?_
      refine lv_iload hx hb dX1_act_156 (lv_at hl 0 rfl) ?_
      refine lv_if_eq (tgt := 168) hx hb dX1_act_158 (by decide) (fun c_133 => ?_) (fun c_133 => ?_)
      · refine lv_aload_n hx hb dX1_act_168 rfl (lv_at hl 3 rfl) ?_
        refine va_get (D := (dC, dI)) (ci := 1) (v := .int a3) (C := RX1) (T := TX1) (N := 13) hx hb hts (fun _ h => List.mem_cons_of_mem _ (List.mem_append_right _ h)) hown hK hP 0 rfl rfl 3 (by decide) (hts (.fieldLink RX1 50 "FileStatusModel" "position" "I") (by decide +kernel)) (fun _ h9 => h9) rfl dX1_act_169 ?_
        refine lv_goto (tgt := 177) hx hb dX1_act_172 (by decide) ?_
        refine va_put (D := (dC, dI)) (ci := 1) (v := .int a3) (ty := .int) (C := RX1) (T := TX1) (N := 13) hx hb hts (fun _ h => List.mem_cons_of_mem _ (List.mem_append_right _ h)) tyX1 tyX1_ok nmX1 hown hK hP hD hS 0 rfl rfl 3 (by decide) (hts (.fieldLink RX1 50 "FileStatusModel" "position" "I") (by decide +kernel)) (fun _ h9 => h9) rfl (by decide +kernel) rfl rfl (Nat.le_of_ble_eq_true rfl) dX1_act_177 (fun H locs hP hD hS => ?_)
        have hP : va_P (dC, dI) vwCl [(h0, .inr (1, [.int 0, .int a1, .int a2, .int a3, .int (gx_X1_told_4 10), .int (gx_X1_told_5 p0), .int (gx_X1_told_6 a6 10), .int (gx_X1_told_7 a7 10), .int a8, .int 0, .int a10, .int a11, .ref h1]))] H := hP
        have hD : va_D A [(h0, .inr (1, [.int 0, .int a1, .int a2, .int a3, .int (gx_X1_told_4 10), .int (gx_X1_told_5 p0), .int (gx_X1_told_6 a6 10), .int (gx_X1_told_7 a7 10), .int a8, .int 0, .int a10, .int a11, .ref h1]))] := hD
        refine lv_iload_n hx hb dX1_act_180 rfl (lv_at hl 4 rfl) ?_
        refine lv_bipush (v := 6) hx hb dX1_act_181 (by decide) ?_
        refine lv_icmp_ne (tgt := 195) hx hb dX1_act_183 (by decide) (fun c9 => ?_) (fun c9 => absurd (c_56.symm.trans c9) (by decide))
        refine lv_iload_n hx hb dX1_act_195 rfl (lv_at hl 2 rfl) ?_
        have hP9 := hP.sub (ws' := [(h0, .inr (1, [.int 0, .int a1, .int a2, .int a3, .int (gx_X1_told_4 10), .int (gx_X1_told_5 p0), .int (gx_X1_told_6 a6 10), .int (gx_X1_told_7 a7 10), .int a8, .int 0, .int a10, .int a11, .ref h1]))]) [0] rfl
        have hD9 := hD.sub (ws' := [(h0, .inr (1, [.int 0, .int a1, .int a2, .int a3, .int (gx_X1_told_4 10), .int (gx_X1_told_5 p0), .int (gx_X1_told_6 a6 10), .int (gx_X1_told_7 a7 10), .int a8, .int 0, .int a10, .int a11, .ref h1]))]) [0] (by decide) rfl
        have hK9 := hK.sub (tys' := []) [] rfl
        have eg_0 : gx_X1_act_0 = 0 := by rfl
        have eg_3 : gx_X1_act_3 a1 a2 a3 a8 a9 a11 p0 p1 = a3 := by unfold gx_X1_act_3; rw [if_neg c_1, if_pos c_2, if_pos c_4, if_pos c_56, if_neg c_81, if_neg c_127, if_pos c_133]
        have eg_4 : gx_X1_act_4 a1 a2 a3 a4 a8 a9 a11 p0 p1 = gx_X1_told_4 10 := by unfold gx_X1_act_4; rw [if_neg c_1, if_pos c_2, if_pos c_4, if_pos c_56, if_neg c_81]
        have eg_5 : gx_X1_act_5 a5 p0 = gx_X1_told_5 p0 := by unfold gx_X1_act_5; rw [if_neg c_1, if_pos c_2]
        have eg_6 : gx_X1_act_6 a1 a2 a3 a6 a8 a9 a11 p0 p1 = gx_X1_told_6 a6 10 := by unfold gx_X1_act_6; rw [if_neg c_1, if_pos c_2, if_pos c_4, if_pos c_56, if_neg c_81]
        have eg_7 : gx_X1_act_7 a1 a2 a3 a7 a8 a9 a11 p0 p1 = gx_X1_told_7 a7 10 := by unfold gx_X1_act_7; rw [if_neg c_1, if_pos c_2, if_pos c_4, if_pos c_56, if_neg c_81]
        have eg_8 : gx_X1_act_8 a1 a2 a3 a8 a9 p0 p1 = a8 := by unfold gx_X1_act_8; rw [if_neg c_1, if_pos c_2, if_pos c_4, if_pos c_56]
        have eg_9 : gx_X1_act_9 a1 a2 a3 a8 a9 a11 p0 p1 = 0 := by unfold gx_X1_act_9; rw [if_neg c_1, if_pos c_2, if_pos c_4, if_pos c_56, if_neg c_81]
        have eg_11 : gx_X1_act_11 a1 a2 a3 a8 a9 a11 p0 p1 = a11 := by unfold gx_X1_act_11; rw [if_neg c_1, if_pos c_2, if_pos c_4, if_pos c_56, if_neg c_81, if_neg c_127, if_pos c_131]
        have ef : fx_X1_act a1 a2 a3 a8 a9 a11 p0 p1 = 10 := by unfold fx_X1_act; rw [if_neg c_1, if_pos c_2, if_pos c_4, if_pos c_56, if_neg c_81]
        exact W.iret (v := 10) hx hb hr (fun t ht hW => ⟨⟨10, [(h0, .inr (1, [.int 0, .int a1, .int a2, .int a3, .int (gx_X1_told_4 10), .int (gx_X1_told_5 p0), .int (gx_X1_told_6 a6 10), .int (gx_X1_told_7 a7 10), .int a8, .int 0, .int a10, .int a11, .ref h1]))], rfl, ⟨ef.symm, by rw [eg_0, eg_3, eg_4, eg_5, eg_6, eg_7, eg_8, eg_9, eg_11]⟩, by rw [ht]; exact hP9, va_K.moved hW.alike hK9, hD9⟩, hS.F ht⟩) hS.2.2 dX1_act_196
      refine lv_aload_n hx hb dX1_act_161 rfl (lv_at hl 3 rfl) ?_
      refine va_get (D := (dC, dI)) (ci := 1) (v := .int a8) (C := RX1) (T := TX1) (N := 13) hx hb hts (fun _ h => List.mem_cons_of_mem _ (List.mem_append_right _ h)) hown hK hP 0 rfl rfl 8 (by decide) (hts (.fieldLink RX1 23 "FileStatusModel" "isOpen" "Z") (by decide +kernel)) (fun _ h9 => h9) rfl dX1_act_162 ?_
      refine lv_if_ne (tgt := 175) hx hb dX1_act_165 (by decide) (fun c9 => ?_) (fun c9 => absurd c9 c_127)
      refine lv_iload hx hb dX1_act_175 (lv_at hl 0 rfl) ?_
      refine va_put (D := (dC, dI)) (ci := 1) (v := .int (fx_X1_moved 10)) (ty := .int) (C := RX1) (T := TX1) (N := 13) hx hb hts (fun _ h => List.mem_cons_of_mem _ (List.mem_append_right _ h)) tyX1 tyX1_ok nmX1 hown hK hP hD hS 0 rfl rfl 3 (by decide) (hts (.fieldLink RX1 50 "FileStatusModel" "position" "I") (by decide +kernel)) (fun _ h9 => h9) rfl (by decide +kernel) rfl rfl (Nat.le_of_ble_eq_true rfl) dX1_act_177 (fun H locs hP hD hS => ?_)
      have hP : va_P (dC, dI) vwCl [(h0, .inr (1, [.int 0, .int a1, .int a2, .int (fx_X1_moved 10), .int (gx_X1_told_4 10), .int (gx_X1_told_5 p0), .int (gx_X1_told_6 a6 10), .int (gx_X1_told_7 a7 10), .int a8, .int 0, .int a10, .int a11, .ref h1]))] H := hP
      have hD : va_D A [(h0, .inr (1, [.int 0, .int a1, .int a2, .int (fx_X1_moved 10), .int (gx_X1_told_4 10), .int (gx_X1_told_5 p0), .int (gx_X1_told_6 a6 10), .int (gx_X1_told_7 a7 10), .int a8, .int 0, .int a10, .int a11, .ref h1]))] := hD
      refine lv_iload_n hx hb dX1_act_180 rfl (lv_at hl 4 rfl) ?_
      refine lv_bipush (v := 6) hx hb dX1_act_181 (by decide) ?_
      refine lv_icmp_ne (tgt := 195) hx hb dX1_act_183 (by decide) (fun c9 => ?_) (fun c9 => absurd (c_56.symm.trans c9) (by decide))
      refine lv_iload_n hx hb dX1_act_195 rfl (lv_at hl 2 rfl) ?_
      have hP9 := hP.sub (ws' := [(h0, .inr (1, [.int 0, .int a1, .int a2, .int (fx_X1_moved 10), .int (gx_X1_told_4 10), .int (gx_X1_told_5 p0), .int (gx_X1_told_6 a6 10), .int (gx_X1_told_7 a7 10), .int a8, .int 0, .int a10, .int a11, .ref h1]))]) [0] rfl
      have hD9 := hD.sub (ws' := [(h0, .inr (1, [.int 0, .int a1, .int a2, .int (fx_X1_moved 10), .int (gx_X1_told_4 10), .int (gx_X1_told_5 p0), .int (gx_X1_told_6 a6 10), .int (gx_X1_told_7 a7 10), .int a8, .int 0, .int a10, .int a11, .ref h1]))]) [0] (by decide) rfl
      have hK9 := hK.sub (tys' := []) [] rfl
      have eg_0 : gx_X1_act_0 = 0 := by rfl
      have eg_3 : gx_X1_act_3 a1 a2 a3 a8 a9 a11 p0 p1 = fx_X1_moved 10 := by unfold gx_X1_act_3; rw [if_neg c_1, if_pos c_2, if_pos c_4, if_pos c_56, if_neg c_81, if_neg c_127, if_neg c_133]
      have eg_4 : gx_X1_act_4 a1 a2 a3 a4 a8 a9 a11 p0 p1 = gx_X1_told_4 10 := by unfold gx_X1_act_4; rw [if_neg c_1, if_pos c_2, if_pos c_4, if_pos c_56, if_neg c_81]
      have eg_5 : gx_X1_act_5 a5 p0 = gx_X1_told_5 p0 := by unfold gx_X1_act_5; rw [if_neg c_1, if_pos c_2]
      have eg_6 : gx_X1_act_6 a1 a2 a3 a6 a8 a9 a11 p0 p1 = gx_X1_told_6 a6 10 := by unfold gx_X1_act_6; rw [if_neg c_1, if_pos c_2, if_pos c_4, if_pos c_56, if_neg c_81]
      have eg_7 : gx_X1_act_7 a1 a2 a3 a7 a8 a9 a11 p0 p1 = gx_X1_told_7 a7 10 := by unfold gx_X1_act_7; rw [if_neg c_1, if_pos c_2, if_pos c_4, if_pos c_56, if_neg c_81]
      have eg_8 : gx_X1_act_8 a1 a2 a3 a8 a9 p0 p1 = a8 := by unfold gx_X1_act_8; rw [if_neg c_1, if_pos c_2, if_pos c_4, if_pos c_56]
      have eg_9 : gx_X1_act_9 a1 a2 a3 a8 a9 a11 p0 p1 = 0 := by unfold gx_X1_act_9; rw [if_neg c_1, if_pos c_2, if_pos c_4, if_pos c_56, if_neg c_81]
      have eg_11 : gx_X1_act_11 a1 a2 a3 a8 a9 a11 p0 p1 = a11 := by unfold gx_X1_act_11; rw [if_neg c_1, if_pos c_2, if_pos c_4, if_pos c_56, if_neg c_81, if_neg c_127, if_pos c_131]
      have ef : fx_X1_act a1 a2 a3 a8 a9 a11 p0 p1 = 10 := by unfold fx_X1_act; rw [if_neg c_1, if_pos c_2, if_pos c_4, if_pos c_56, if_neg c_81]
      exact W.iret (v := 10) hx hb hr (fun t ht hW => ⟨⟨10, [(h0, .inr (1, [.int 0, .int a1, .int a2, .int (fx_X1_moved 10), .int (gx_X1_told_4 10), .int (gx_X1_told_5 p0), .int (gx_X1_told_6 a6 10), .int (gx_X1_told_7 a7 10), .int a8, .int 0, .int a10, .int a11, .ref h1]))], rfl, ⟨ef.symm, by rw [eg_0, eg_3, eg_4, eg_5, eg_6, eg_7, eg_8, eg_9, eg_11]⟩, by rw [ht]; exact hP9, va_K.moved hW.alike hK9, hD9⟩, hS.F ht⟩) hS.2.2 dX1_act_196
    refine lv_iload_n hx hb dX1_act_108 rfl (lv_at hl 0 rfl) ?_
    refine lv_bipush (v := 10) hx hb dX1_act_109 (by decide) ?_
    refine lv_icmp_ne (tgt := 119) hx hb dX1_act_111 (by decide) (fun c9 => absurd c9 (by decide)) (fun c9 => ?_)
    refine lv_aload_n hx hb dX1_act_114 rfl (lv_at hl 1 rfl) ?_
    refine lv_iconst (v := 0) hx hb dX1_act_115 (by decide) ?_
    refine va_put (D := (dC, dI)) (ci := 1) (v := .int 0) (ty := .boolean) (C := RX1) (T := TX1) (N := 13) hx hb hts (fun _ h => List.mem_cons_of_mem _ (List.mem_append_right _ h)) tyX1 tyX1_ok nmX1 hown hK hP hD hS 0 rfl rfl 11 (by decide) (hts (.fieldLink RX1 53 "FileStatusModel" "nothing" "Z") (by decide +kernel)) (fun _ h9 => h9) rfl (by decide +kernel) rfl rfl (Nat.le_of_ble_eq_true rfl) dX1_act_116 (fun H locs hP hD hS => ?_)
    have hP : va_P (dC, dI) vwCl [(h0, .inr (1, [.int 0, .int a1, .int a2, .int a3, .int (gx_X1_told_4 10), .int (gx_X1_told_5 p0), .int (gx_X1_told_6 a6 10), .int (gx_X1_told_7 a7 10), .int a8, .int 0, .int a10, .int 0, .ref h1]))] H := hP
    have hD : va_D A [(h0, .inr (1, [.int 0, .int a1, .int a2, .int a3, .int (gx_X1_told_4 10), .int (gx_X1_told_5 p0), .int (gx_X1_told_6 a6 10), .int (gx_X1_told_7 a7 10), .int a8, .int 0, .int a10, .int 0, .ref h1]))] := hD
    refine lv_iload_n hx hb dX1_act_119 rfl (lv_at hl 2 rfl) ?_
    refine lv_if_eq (tgt := 133) hx hb dX1_act_120 (by decide) (fun c9 => ?_) (fun c9 => absurd c_56 c9)
    refine lv_iconst (v := 1) hx hb dX1_act_133 (by decide) ?_
    refine lv_goto (tgt := 138) hx hb dX1_act_134 (by decide) ?_
    refine lv_istore (lv' := [(4, .int 1), (3, .int 10), (0, .ref h0), (1, .int p0), (2, .int p1)]) hx hb dX1_act_138 hl (by decide) rfl (fun ls hl => ?_)
    refine lv_iload hx hb dX1_act_140 (lv_at hl 0 rfl) ?_
    refine lv_if_eq (tgt := 152) hx hb dX1_act_142 (by decide) (fun c9 => absurd c9 (by decide)) (fun c9 => ?_)
    refine lv_iload_n hx hb dX1_act_145 rfl (lv_at hl 1 rfl) ?_
    have hPc := hP.sub (ws' := []) [] rfl
    have hDc := hD.sub (ws' := []) [] (by decide) rfl
    have hKc := hK.sub (tys' := []) [] rfl
    have hFc := va_free (wc := []) hD hS hA [] rfl
    refine va_calli (va_runS (As := [.int 10]) (rest := []) ⟨hx, hb, hml, hown, hts⟩ (ct_X1_moved l dC dI H.size 10) (va_cwS 1 hts gX1_act_X1_moved rfl rfl rfl (by decide +kernel) ⟨Nat.le_of_ble_eq_true rfl, Nat.le_of_ble_eq_true rfl⟩) ⟨fun a U g mk q => by obtain ⟨q0, q1, qP, qK, qD⟩ := q; exact ⟨q0, q1, qP, va_K.moved (u := U) (U := U.calling g mk a) (Vm.Alike.refl U.vm) qK, qD⟩, fun U hU hW => ⟨rfl, by rw [hU], by rw [hU]; exact hPc, va_K.moved hW.alike hKc, hDc.weaken (fun _ _ _ _ => trivial)⟩⟩ rfl rfl hl.1 rfl (lv_room (Nat.le_of_ble_eq_true rfl)) dX1_act_146 ⟨(Nat.zero_le _), (Nat.zero_le _)⟩) hS (fun q _ h => hFc q h) hFc (fun r_134 u t H1 locs ht hvm hw hB hz1 hk1 hS => ?_)
    obtain ⟨er, hu⟩ := hw
    subst hu
    subst er
    obtain ⟨hP1, -, hD1⟩ := hB
    rw [ht] at hP1
    obtain ⟨hP, hD⟩ := va_join (wr := [(h0, .inr (1, [.int 0, .int a1, .int a2, .int a3, .int (gx_X1_told_4 10), .int (gx_X1_told_5 p0), .int (gx_X1_told_6 a6 10), .int (gx_X1_told_7 a7 10), .int a8, .int 0, .int a10, .int 0, .ref h1]))]) (w1 := []) hP hD [] [0] rfl rfl (by decide) (by decide) hk1 hFc hP1 hD1
    generalize H1 = H at hP hS ⊢
    have hP : va_P (dC, dI) vwCl [(h0, .inr (1, [.int 0, .int a1, .int a2, .int a3, .int (gx_X1_told_4 10), .int (gx_X1_told_5 p0), .int (gx_X1_told_6 a6 10), .int (gx_X1_told_7 a7 10), .int a8, .int 0, .int a10, .int 0, .ref h1]))] H := hP
    have hD : va_D A [(h0, .inr (1, [.int 0, .int a1, .int a2, .int a3, .int (gx_X1_told_4 10), .int (gx_X1_told_5 p0), .int (gx_X1_told_6 a6 10), .int (gx_X1_told_7 a7 10), .int a8, .int 0, .int a10, .int 0, .ref h1]))] := hD
    refine lv_goto (tgt := 153) hx hb dX1_act_149 (by decide) ?_
    refine lv_istore (lv' := [(5, .int (fx_X1_moved 10)), (4, .int 1), (3, .int 10), (0, .ref h0), (1, .int p0), (2, .int p1)]) hx hb dX1_act_153 hl (by decide) rfl (fun ls hl => ?_)
    refine lv_aload_n hx hb dX1_act_155 rfl (lv_at hl 3 rfl) ?_
    refine lv_iload hx hb dX1_act_156 (lv_at hl 0 rfl) ?_
    refine lv_if_eq (tgt := 168) hx hb dX1_act_158 (by decide) (fun c_135 => ?_) (fun c_135 => ?_)
    · refine lv_aload_n hx hb dX1_act_168 rfl (lv_at hl 3 rfl) ?_
      refine va_get (D := (dC, dI)) (ci := 1) (v := .int a3) (C := RX1) (T := TX1) (N := 13) hx hb hts (fun _ h => List.mem_cons_of_mem _ (List.mem_append_right _ h)) hown hK hP 0 rfl rfl 3 (by decide) (hts (.fieldLink RX1 50 "FileStatusModel" "position" "I") (by decide +kernel)) (fun _ h9 => h9) rfl dX1_act_169 ?_
      refine lv_goto (tgt := 177) hx hb dX1_act_172 (by decide) ?_
      refine va_put (D := (dC, dI)) (ci := 1) (v := .int a3) (ty := .int) (C := RX1) (T := TX1) (N := 13) hx hb hts (fun _ h => List.mem_cons_of_mem _ (List.mem_append_right _ h)) tyX1 tyX1_ok nmX1 hown hK hP hD hS 0 rfl rfl 3 (by decide) (hts (.fieldLink RX1 50 "FileStatusModel" "position" "I") (by decide +kernel)) (fun _ h9 => h9) rfl (by decide +kernel) rfl rfl (Nat.le_of_ble_eq_true rfl) dX1_act_177 (fun H locs hP hD hS => ?_)
      have hP : va_P (dC, dI) vwCl [(h0, .inr (1, [.int 0, .int a1, .int a2, .int a3, .int (gx_X1_told_4 10), .int (gx_X1_told_5 p0), .int (gx_X1_told_6 a6 10), .int (gx_X1_told_7 a7 10), .int a8, .int 0, .int a10, .int 0, .ref h1]))] H := hP
      have hD : va_D A [(h0, .inr (1, [.int 0, .int a1, .int a2, .int a3, .int (gx_X1_told_4 10), .int (gx_X1_told_5 p0), .int (gx_X1_told_6 a6 10), .int (gx_X1_told_7 a7 10), .int a8, .int 0, .int a10, .int 0, .ref h1]))] := hD
      refine lv_iload_n hx hb dX1_act_180 rfl (lv_at hl 4 rfl) ?_
      refine lv_bipush (v := 6) hx hb dX1_act_181 (by decide) ?_
      refine lv_icmp_ne (tgt := 195) hx hb dX1_act_183 (by decide) (fun c9 => ?_) (fun c9 => absurd (c_56.symm.trans c9) (by decide))
      refine lv_iload_n hx hb dX1_act_195 rfl (lv_at hl 2 rfl) ?_
      have hP9 := hP.sub (ws' := [(h0, .inr (1, [.int 0, .int a1, .int a2, .int a3, .int (gx_X1_told_4 10), .int (gx_X1_told_5 p0), .int (gx_X1_told_6 a6 10), .int (gx_X1_told_7 a7 10), .int a8, .int 0, .int a10, .int 0, .ref h1]))]) [0] rfl
      have hD9 := hD.sub (ws' := [(h0, .inr (1, [.int 0, .int a1, .int a2, .int a3, .int (gx_X1_told_4 10), .int (gx_X1_told_5 p0), .int (gx_X1_told_6 a6 10), .int (gx_X1_told_7 a7 10), .int a8, .int 0, .int a10, .int 0, .ref h1]))]) [0] (by decide) rfl
      have hK9 := hK.sub (tys' := []) [] rfl
      have eg_0 : gx_X1_act_0 = 0 := by rfl
      have eg_3 : gx_X1_act_3 a1 a2 a3 a8 a9 a11 p0 p1 = a3 := by unfold gx_X1_act_3; rw [if_neg c_1, if_pos c_2, if_pos c_4, if_pos c_56, if_neg c_81, if_neg c_127, if_pos c_135]
      have eg_4 : gx_X1_act_4 a1 a2 a3 a4 a8 a9 a11 p0 p1 = gx_X1_told_4 10 := by unfold gx_X1_act_4; rw [if_neg c_1, if_pos c_2, if_pos c_4, if_pos c_56, if_neg c_81]
      have eg_5 : gx_X1_act_5 a5 p0 = gx_X1_told_5 p0 := by unfold gx_X1_act_5; rw [if_neg c_1, if_pos c_2]
      have eg_6 : gx_X1_act_6 a1 a2 a3 a6 a8 a9 a11 p0 p1 = gx_X1_told_6 a6 10 := by unfold gx_X1_act_6; rw [if_neg c_1, if_pos c_2, if_pos c_4, if_pos c_56, if_neg c_81]
      have eg_7 : gx_X1_act_7 a1 a2 a3 a7 a8 a9 a11 p0 p1 = gx_X1_told_7 a7 10 := by unfold gx_X1_act_7; rw [if_neg c_1, if_pos c_2, if_pos c_4, if_pos c_56, if_neg c_81]
      have eg_8 : gx_X1_act_8 a1 a2 a3 a8 a9 p0 p1 = a8 := by unfold gx_X1_act_8; rw [if_neg c_1, if_pos c_2, if_pos c_4, if_pos c_56]
      have eg_9 : gx_X1_act_9 a1 a2 a3 a8 a9 a11 p0 p1 = 0 := by unfold gx_X1_act_9; rw [if_neg c_1, if_pos c_2, if_pos c_4, if_pos c_56, if_neg c_81]
      have eg_11 : gx_X1_act_11 a1 a2 a3 a8 a9 a11 p0 p1 = 0 := by unfold gx_X1_act_11; rw [if_neg c_1, if_pos c_2, if_pos c_4, if_pos c_56, if_neg c_81, if_neg c_127, if_neg c_131]
      have ef : fx_X1_act a1 a2 a3 a8 a9 a11 p0 p1 = 10 := by unfold fx_X1_act; rw [if_neg c_1, if_pos c_2, if_pos c_4, if_pos c_56, if_neg c_81]
      exact W.iret (v := 10) hx hb hr (fun t ht hW => ⟨⟨10, [(h0, .inr (1, [.int 0, .int a1, .int a2, .int a3, .int (gx_X1_told_4 10), .int (gx_X1_told_5 p0), .int (gx_X1_told_6 a6 10), .int (gx_X1_told_7 a7 10), .int a8, .int 0, .int a10, .int 0, .ref h1]))], rfl, ⟨ef.symm, by rw [eg_0, eg_3, eg_4, eg_5, eg_6, eg_7, eg_8, eg_9, eg_11]⟩, by rw [ht]; exact hP9, va_K.moved hW.alike hK9, hD9⟩, hS.F ht⟩) hS.2.2 dX1_act_196
    refine lv_aload_n hx hb dX1_act_161 rfl (lv_at hl 3 rfl) ?_
    refine va_get (D := (dC, dI)) (ci := 1) (v := .int a8) (C := RX1) (T := TX1) (N := 13) hx hb hts (fun _ h => List.mem_cons_of_mem _ (List.mem_append_right _ h)) hown hK hP 0 rfl rfl 8 (by decide) (hts (.fieldLink RX1 23 "FileStatusModel" "isOpen" "Z") (by decide +kernel)) (fun _ h9 => h9) rfl dX1_act_162 ?_
    refine lv_if_ne (tgt := 175) hx hb dX1_act_165 (by decide) (fun c9 => ?_) (fun c9 => absurd c9 c_127)
    refine lv_iload hx hb dX1_act_175 (lv_at hl 0 rfl) ?_
    refine va_put (D := (dC, dI)) (ci := 1) (v := .int (fx_X1_moved 10)) (ty := .int) (C := RX1) (T := TX1) (N := 13) hx hb hts (fun _ h => List.mem_cons_of_mem _ (List.mem_append_right _ h)) tyX1 tyX1_ok nmX1 hown hK hP hD hS 0 rfl rfl 3 (by decide) (hts (.fieldLink RX1 50 "FileStatusModel" "position" "I") (by decide +kernel)) (fun _ h9 => h9) rfl (by decide +kernel) rfl rfl (Nat.le_of_ble_eq_true rfl) dX1_act_177 (fun H locs hP hD hS => ?_)
    have hP : va_P (dC, dI) vwCl [(h0, .inr (1, [.int 0, .int a1, .int a2, .int (fx_X1_moved 10), .int (gx_X1_told_4 10), .int (gx_X1_told_5 p0), .int (gx_X1_told_6 a6 10), .int (gx_X1_told_7 a7 10), .int a8, .int 0, .int a10, .int 0, .ref h1]))] H := hP
    have hD : va_D A [(h0, .inr (1, [.int 0, .int a1, .int a2, .int (fx_X1_moved 10), .int (gx_X1_told_4 10), .int (gx_X1_told_5 p0), .int (gx_X1_told_6 a6 10), .int (gx_X1_told_7 a7 10), .int a8, .int 0, .int a10, .int 0, .ref h1]))] := hD
    refine lv_iload_n hx hb dX1_act_180 rfl (lv_at hl 4 rfl) ?_
    refine lv_bipush (v := 6) hx hb dX1_act_181 (by decide) ?_
    refine lv_icmp_ne (tgt := 195) hx hb dX1_act_183 (by decide) (fun c9 => ?_) (fun c9 => absurd (c_56.symm.trans c9) (by decide))
    refine lv_iload_n hx hb dX1_act_195 rfl (lv_at hl 2 rfl) ?_
    have hP9 := hP.sub (ws' := [(h0, .inr (1, [.int 0, .int a1, .int a2, .int (fx_X1_moved 10), .int (gx_X1_told_4 10), .int (gx_X1_told_5 p0), .int (gx_X1_told_6 a6 10), .int (gx_X1_told_7 a7 10), .int a8, .int 0, .int a10, .int 0, .ref h1]))]) [0] rfl
    have hD9 := hD.sub (ws' := [(h0, .inr (1, [.int 0, .int a1, .int a2, .int (fx_X1_moved 10), .int (gx_X1_told_4 10), .int (gx_X1_told_5 p0), .int (gx_X1_told_6 a6 10), .int (gx_X1_told_7 a7 10), .int a8, .int 0, .int a10, .int 0, .ref h1]))]) [0] (by decide) rfl
    have hK9 := hK.sub (tys' := []) [] rfl
    have eg_0 : gx_X1_act_0 = 0 := by rfl
    have eg_3 : gx_X1_act_3 a1 a2 a3 a8 a9 a11 p0 p1 = fx_X1_moved 10 := by unfold gx_X1_act_3; rw [if_neg c_1, if_pos c_2, if_pos c_4, if_pos c_56, if_neg c_81, if_neg c_127, if_neg c_135]
    have eg_4 : gx_X1_act_4 a1 a2 a3 a4 a8 a9 a11 p0 p1 = gx_X1_told_4 10 := by unfold gx_X1_act_4; rw [if_neg c_1, if_pos c_2, if_pos c_4, if_pos c_56, if_neg c_81]
    have eg_5 : gx_X1_act_5 a5 p0 = gx_X1_told_5 p0 := by unfold gx_X1_act_5; rw [if_neg c_1, if_pos c_2]
    have eg_6 : gx_X1_act_6 a1 a2 a3 a6 a8 a9 a11 p0 p1 = gx_X1_told_6 a6 10 := by unfold gx_X1_act_6; rw [if_neg c_1, if_pos c_2, if_pos c_4, if_pos c_56, if_neg c_81]
    have eg_7 : gx_X1_act_7 a1 a2 a3 a7 a8 a9 a11 p0 p1 = gx_X1_told_7 a7 10 := by unfold gx_X1_act_7; rw [if_neg c_1, if_pos c_2, if_pos c_4, if_pos c_56, if_neg c_81]
    have eg_8 : gx_X1_act_8 a1 a2 a3 a8 a9 p0 p1 = a8 := by unfold gx_X1_act_8; rw [if_neg c_1, if_pos c_2, if_pos c_4, if_pos c_56]
    have eg_9 : gx_X1_act_9 a1 a2 a3 a8 a9 a11 p0 p1 = 0 := by unfold gx_X1_act_9; rw [if_neg c_1, if_pos c_2, if_pos c_4, if_pos c_56, if_neg c_81]
    have eg_11 : gx_X1_act_11 a1 a2 a3 a8 a9 a11 p0 p1 = 0 := by unfold gx_X1_act_11; rw [if_neg c_1, if_pos c_2, if_pos c_4, if_pos c_56, if_neg c_81, if_neg c_127, if_neg c_131]
    have ef : fx_X1_act a1 a2 a3 a8 a9 a11 p0 p1 = 10 := by unfold fx_X1_act; rw [if_neg c_1, if_pos c_2, if_pos c_4, if_pos c_56, if_neg c_81]
    exact W.iret (v := 10) hx hb hr (fun t ht hW => ⟨⟨10, [(h0, .inr (1, [.int 0, .int a1, .int a2, .int (fx_X1_moved 10), .int (gx_X1_told_4 10), .int (gx_X1_told_5 p0), .int (gx_X1_told_6 a6 10), .int (gx_X1_told_7 a7 10), .int a8, .int 0, .int a10, .int 0, .ref h1]))], rfl, ⟨ef.symm, by rw [eg_0, eg_3, eg_4, eg_5, eg_6, eg_7, eg_8, eg_9, eg_11]⟩, by rw [ht]; exact hP9, va_K.moved hW.alike hK9, hD9⟩, hS.F ht⟩) hS.2.2 dX1_act_196
  refine lv_bipush (v := (-4)) hx hb dX1_act_15 (by decide) ?_
  have hP9 := hP.sub (ws' := [(h0, .inr (1, [.int 0, .int a1, .int a2, .int a3, .int a4, .int a5, .int a6, .int a7, .int a8, .int a9, .int a10, .int a11, .ref h1]))]) [0] rfl
  have hD9 := hD.sub (ws' := [(h0, .inr (1, [.int 0, .int a1, .int a2, .int a3, .int a4, .int a5, .int a6, .int a7, .int a8, .int a9, .int a10, .int a11, .ref h1]))]) [0] (by decide) rfl
  have hK9 := hK.sub (tys' := []) [] rfl
  have eg_0 : gx_X1_act_0 = 0 := by rfl
  have eg_3 : gx_X1_act_3 a1 a2 a3 a8 a9 a11 p0 p1 = a3 := by unfold gx_X1_act_3; rw [if_neg c_1, if_neg c_2]
  have eg_4 : gx_X1_act_4 a1 a2 a3 a4 a8 a9 a11 p0 p1 = a4 := by unfold gx_X1_act_4; rw [if_neg c_1, if_neg c_2]
  have eg_5 : gx_X1_act_5 a5 p0 = a5 := by unfold gx_X1_act_5; rw [if_neg c_1, if_neg c_2]
  have eg_6 : gx_X1_act_6 a1 a2 a3 a6 a8 a9 a11 p0 p1 = a6 := by unfold gx_X1_act_6; rw [if_neg c_1, if_neg c_2]
  have eg_7 : gx_X1_act_7 a1 a2 a3 a7 a8 a9 a11 p0 p1 = a7 := by unfold gx_X1_act_7; rw [if_neg c_1, if_neg c_2]
  have eg_8 : gx_X1_act_8 a1 a2 a3 a8 a9 p0 p1 = a8 := by unfold gx_X1_act_8; rw [if_neg c_1, if_neg c_2]
  have eg_9 : gx_X1_act_9 a1 a2 a3 a8 a9 a11 p0 p1 = a9 := by unfold gx_X1_act_9; rw [if_neg c_1, if_neg c_2]
  have eg_11 : gx_X1_act_11 a1 a2 a3 a8 a9 a11 p0 p1 = a11 := by unfold gx_X1_act_11; rw [if_neg c_1, if_neg c_2]
  have ef : fx_X1_act a1 a2 a3 a8 a9 a11 p0 p1 = (-4) := by unfold fx_X1_act; rw [if_neg c_1, if_neg c_2]
  exact W.iret (v := (-4)) hx hb hr (fun t ht hW => ⟨⟨(-4), [(h0, .inr (1, [.int 0, .int a1, .int a2, .int a3, .int a4, .int a5, .int a6, .int a7, .int a8, .int a9, .int a10, .int a11, .ref h1]))], rfl, ⟨ef.symm, by rw [eg_0, eg_3, eg_4, eg_5, eg_6, eg_7, eg_8, eg_9, eg_11]⟩, by rw [ht]; exact hP9, va_K.moved hW.alike hK9, hD9⟩, hS.F ht⟩) hS.2.2 dX1_act_17
