set_option maxHeartbeats 4000000 in
set_option maxRecDepth 100000 in
theorem ct_X1_init (l : Launch) (dC : Nat → ClassId) (dI : Nat → Nat → Nat) (h0 : Nat) (sz : Nat) (p0 : Int32) : Met l yX1_init wsX1_init ({ frames := 1, cells := 1, slots := 7, locals := 12 }) (va_Pc [.ref h0, .int p0] (fun U => U.heap.size = sz ∧ va_P (dC, dI) vwCl [(h0, .inr (1, [.int 0, .int 0, .int 0, .int 0, .int 0, .int 0, .int 0, .int 0, .int 0, .int 0, .int 0, .int 0, .null]))] U.heap ∧ va_K (dC, dI) vwCl [] U ∧ va_D (fun _ => True) [(h0, .inr (1, [.int 0, .int 0, .int 0, .int 0, .int 0, .int 0, .int 0, .int 0, .int 0, .int 0, .int 0, .int 0, .null]))])) (va_Qv (fun _ : Nat × ClassId => True) (fun (u : Nat × ClassId) (t : State) => at_W dC dI [(u.2, .boolean)] (va_A [(h0, .inr (1, [.int 0, .int 0, .int 0, .int 0, .int 0, .int 0, .int 0, .int 0, .int 0, .int 0, .int 0, .int 0, .null]))] sz) [(h0, .inr (1, [.int 0, .int (gx_X1_init_1 p0), .int 0, .int 0, .int 0, .int gx_X1_init_5, .int 0, .int 0, .int 0, .int 0, .int 0, .int 0, .ref u.1])), (u.1, .inl (u.2, 7, .inl (fun _ => 0)))] t) (va_A [(h0, .inr (1, [.int 0, .int 0, .int 0, .int 0, .int 0, .int 0, .int 0, .int 0, .int 0, .int 0, .int 0, .int 0, .null]))] sz)) 1 7 (va_A [(h0, .inr (1, [.int 0, .int 0, .int 0, .int 0, .int 0, .int 0, .int 0, .int 0, .int 0, .int 0, .int 0, .int 0, .null]))] sz) := by
  refine Met.ofW (cc := cX1_init) (maxL := 2) (ret := none) (by decide) rfl ?_
  intro p e s m args below meth c s₁ B hml hv
  obtain ⟨rfl, hsz, hP, hK, hD0⟩ := hv
  have hx := B.exec
  have hb := B.bytes
  have hr := B.returns
  have hts := atoms_spec (ws := wsX1_init) B.pre
  have hown : s.vm.findClass RX1 = some m.cls := findClass_of_methodNamed B.named
  have hlocks := B.notSynchronized
  have hin : meth.name = "<init>" := (name_of_methodNamed B.named B.method).1
  subst hsz
  have hD := hD0.self (sz := s.heap.size)
  generalize hAe : va_A [(h0, .inr (1, [.int 0, .int 0, .int 0, .int 0, .int 0, .int 0, .int 0, .int 0, .int 0, .int 0, .int 0, .int 0, .null]))] s.heap.size = A at hD ⊢
  have hA : ∀ q : Nat, s.heap.size ≤ q → A q := fun q h => by rw [← hAe]; exact Or.inr h
  have hS : va_S A s.heap s.heap [] := va_S.rf
  have hP : va_P (dC, dI) vwCl [(h0, .inr (1, [.int 0, .int 0, .int 0, .int 0, .int 0, .int 0, .int 0, .int 0, .int 0, .int 0, .int 0, .int 0, .null]))] s.heap := hP
  have hl := lv_entry ([.ref h0, .int p0]) (n := 2) (Nat.le_of_ble_eq_true rfl)
  rw [lg_entry_eq]
  generalize (lg_sl ([.ref h0, .int p0]) ++ List.replicate (2 - (lg_sl ([.ref h0, .int p0])).length) Slot.unset).toArray = ls at hl ⊢
  have hl : lv_has ls 2 [(0, .ref h0), (1, .int p0)] := hl
  refine lv_aload_n hx hb dX1_init_0 rfl (lv_at hl 0 rfl) ?_
  refine W.objInit hx hb hown (hts (.methodLink RX1 1 objectInit) (by decide +kernel)) (hts (.instanceMethod objectInit) (by decide +kernel)) (hts _ (List.mem_of_getElem? (i := 3) rfl)) rfl (by rw [hml]; exact hl.1) rfl dX1_init_1 (Nat.le_of_ble_eq_true rfl) (Nat.le_of_ble_eq_true rfl) ?_
  refine W.eq (g2 := F0 m 4 ls []) rfl ?_
  refine lv_aload_n hx hb dX1_init_4 rfl (lv_at hl 0 rfl) ?_
  refine lv_bipush (v := 9) hx hb dX1_init_5 (by decide) ?_
  refine va_put (D := (dC, dI)) (ci := 1) (v := .int 9) (ty := .int) (C := RX1) (T := TX1) (N := 13) hx hb hts (fun _ h => List.mem_cons_of_mem _ (List.mem_append_right _ h)) tyX1 tyX1_ok nmX1 hown hK hP hD hS 0 rfl rfl 5 (by decide) (hts (.fieldLink RX1 7 "FileStatusModel" "act" "I") (by decide +kernel)) (fun _ h9 => h9) rfl (by decide +kernel) rfl rfl (Nat.le_of_ble_eq_true rfl) dX1_init_7 (fun H locs hP hD hS => ?_)
  have hP : va_P (dC, dI) vwCl [(h0, .inr (1, [.int 0, .int 0, .int 0, .int 0, .int 0, .int 9, .int 0, .int 0, .int 0, .int 0, .int 0, .int 0, .null]))] H := hP
  have hD : va_D A [(h0, .inr (1, [.int 0, .int 0, .int 0, .int 0, .int 0, .int 9, .int 0, .int 0, .int 0, .int 0, .int 0, .int 0, .null]))] := hD
  refine lv_aload_n hx hb dX1_init_10 rfl (lv_at hl 0 rfl) ?_
  refine lv_bipush (v := 7) hx hb dX1_init_11 (by decide) ?_
  refine va_newa (atype := .boolean) (ty := .boolean) (a0 := (7, .inl (fun _ => 0))) (N' := 7) hx hb (hts (.arrayClass .boolean) (by decide +kernel)) rfl hK hP hD hS hA (fun _ => rfl) (by decide) (by decide) (by decide) (Nat.le_of_ble_eq_true rfl) (Nat.le_of_ble_eq_true rfl) dX1_init_13 (fun q9 cA H hK hP hD hS => ?_)
  refine W.widen (k := 1) (n := 7) (by omega) (by omega) ?_
  have hP : va_P (dC, dI) vwCl [(h0, .inr (1, [.int 0, .int 0, .int 0, .int 0, .int 0, .int 9, .int 0, .int 0, .int 0, .int 0, .int 0, .int 0, .null])), (q9, .inl (cA, 7, .inl (fun _ => 0)))] H := hP
  have hD : va_D A [(h0, .inr (1, [.int 0, .int 0, .int 0, .int 0, .int 0, .int 9, .int 0, .int 0, .int 0, .int 0, .int 0, .int 0, .null])), (q9, .inl (cA, 7, .inl (fun _ => 0)))] := hD
  have hK : va_K (dC, dI) vwCl [(cA, .boolean)] s := hK
  refine va_putF (D := (dC, dI)) (ci := 1) (v := .ref q9) (ty := (.array .boolean)) (C := RX1) (T := TX1) (N := 13) hx hb hts (fun _ h => List.mem_cons_of_mem _ (List.mem_append_right _ h)) tyX1 tyX1_ok nmX1 hown hK hP hD hS 0 rfl rfl 12 (by decide) (hts (.fieldLink RX1 13 "FileStatusModel" "declared" "[Z") (by decide +kernel)) (fun _ h9 => h9) rfl hin rfl (by decide +kernel) rfl rfl (Nat.le_of_ble_eq_true rfl) dX1_init_15 (fun H locs hP hD hS => ?_)
  have hP : va_P (dC, dI) vwCl [(h0, .inr (1, [.int 0, .int 0, .int 0, .int 0, .int 0, .int 9, .int 0, .int 0, .int 0, .int 0, .int 0, .int 0, .ref q9])), (q9, .inl (cA, 7, .inl (fun _ => 0)))] H := hP
  have hD : va_D A [(h0, .inr (1, [.int 0, .int 0, .int 0, .int 0, .int 0, .int 9, .int 0, .int 0, .int 0, .int 0, .int 0, .int 0, .ref q9])), (q9, .inl (cA, 7, .inl (fun _ => 0)))] := hD
  refine lv_aload_n hx hb dX1_init_18 rfl (lv_at hl 0 rfl) ?_
  refine lv_iload_n hx hb dX1_init_19 rfl (lv_at hl 1 rfl) ?_
  refine lv_if_ge (tgt := 27) hx hb dX1_init_20 (by decide) (fun c_1 => ?_) (fun c_1 => ?_)
  · refine lv_iload_n hx hb dX1_init_27 rfl (lv_at hl 1 rfl) ?_
    refine lv_iconst (v := 2) hx hb dX1_init_28 (by decide) ?_
    refine lv_icmp_le (tgt := 36) hx hb dX1_init_29 (by decide) (fun c_2 => ?_) (fun c_2 => ?_)
    · refine lv_iload_n hx hb dX1_init_36 rfl (lv_at hl 1 rfl) ?_
      refine va_putF (D := (dC, dI)) (ci := 1) (v := .int p0) (ty := .int) (C := RX1) (T := TX1) (N := 13) hx hb hts (fun _ h => List.mem_cons_of_mem _ (List.mem_append_right _ h)) tyX1 tyX1_ok nmX1 hown hK hP hD hS 0 rfl rfl 1 (by decide) (hts (.fieldLink RX1 17 "FileStatusModel" "organisation" "I") (by decide +kernel)) (fun _ h9 => h9) rfl hin rfl (by decide +kernel) rfl rfl (Nat.le_of_ble_eq_true rfl) dX1_init_37 (fun H locs hP hD hS => ?_)
      have hP : va_P (dC, dI) vwCl [(h0, .inr (1, [.int 0, .int p0, .int 0, .int 0, .int 0, .int 9, .int 0, .int 0, .int 0, .int 0, .int 0, .int 0, .ref q9])), (q9, .inl (cA, 7, .inl (fun _ => 0)))] H := hP
      have hD : va_D A [(h0, .inr (1, [.int 0, .int p0, .int 0, .int 0, .int 0, .int 9, .int 0, .int 0, .int 0, .int 0, .int 0, .int 0, .ref q9])), (q9, .inl (cA, 7, .inl (fun _ => 0)))] := hD
      have hP9 := hP.sub (ws' := [(h0, .inr (1, [.int 0, .int p0, .int 0, .int 0, .int 0, .int 9, .int 0, .int 0, .int 0, .int 0, .int 0, .int 0, .ref q9])), (q9, .inl (cA, 7, .inl (fun _ => 0)))]) [0, 1] rfl
      have hD9 := hD.sub (ws' := [(h0, .inr (1, [.int 0, .int p0, .int 0, .int 0, .int 0, .int 9, .int 0, .int 0, .int 0, .int 0, .int 0, .int 0, .ref q9])), (q9, .inl (cA, 7, .inl (fun _ => 0)))]) [0, 1] (by decide) rfl
      have hK9 := hK.sub (tys' := [(cA, .boolean)]) [0] rfl
      have eg_1 : gx_X1_init_1 p0 = p0 := by unfold gx_X1_init_1; rw [if_pos c_1, if_pos c_2]
      have eg_5 : gx_X1_init_5 = 9 := by rfl
      exact W.vret hx hb hr (fun t ht hW => ⟨⟨(q9, cA), rfl, trivial, (by rw [ht, eg_1, eg_5]; exact hP9), va_K.moved hW.alike hK9, by rw [eg_1, eg_5]; exact hD9⟩, hS.F ht⟩) hS.2.2 dX1_init_40
    refine lv_iconst (v := 2) hx hb dX1_init_32 (by decide) ?_
    refine lv_goto (tgt := 37) hx hb dX1_init_33 (by decide) ?_
    refine va_putF (D := (dC, dI)) (ci := 1) (v := .int 2) (ty := .int) (C := RX1) (T := TX1) (N := 13) hx hb hts (fun _ h => List.mem_cons_of_mem _ (List.mem_append_right _ h)) tyX1 tyX1_ok nmX1 hown hK hP hD hS 0 rfl rfl 1 (by decide) (hts (.fieldLink RX1 17 "FileStatusModel" "organisation" "I") (by decide +kernel)) (fun _ h9 => h9) rfl hin rfl (by decide +kernel) rfl rfl (Nat.le_of_ble_eq_true rfl) dX1_init_37 (fun H locs hP hD hS => ?_)
    have hP : va_P (dC, dI) vwCl [(h0, .inr (1, [.int 0, .int 2, .int 0, .int 0, .int 0, .int 9, .int 0, .int 0, .int 0, .int 0, .int 0, .int 0, .ref q9])), (q9, .inl (cA, 7, .inl (fun _ => 0)))] H := hP
    have hD : va_D A [(h0, .inr (1, [.int 0, .int 2, .int 0, .int 0, .int 0, .int 9, .int 0, .int 0, .int 0, .int 0, .int 0, .int 0, .ref q9])), (q9, .inl (cA, 7, .inl (fun _ => 0)))] := hD
    have hP9 := hP.sub (ws' := [(h0, .inr (1, [.int 0, .int 2, .int 0, .int 0, .int 0, .int 9, .int 0, .int 0, .int 0, .int 0, .int 0, .int 0, .ref q9])), (q9, .inl (cA, 7, .inl (fun _ => 0)))]) [0, 1] rfl
    have hD9 := hD.sub (ws' := [(h0, .inr (1, [.int 0, .int 2, .int 0, .int 0, .int 0, .int 9, .int 0, .int 0, .int 0, .int 0, .int 0, .int 0, .ref q9])), (q9, .inl (cA, 7, .inl (fun _ => 0)))]) [0, 1] (by decide) rfl
    have hK9 := hK.sub (tys' := [(cA, .boolean)]) [0] rfl
    have eg_1 : gx_X1_init_1 p0 = 2 := by unfold gx_X1_init_1; rw [if_pos c_1, if_neg c_2]
    have eg_5 : gx_X1_init_5 = 9 := by rfl
    exact W.vret hx hb hr (fun t ht hW => ⟨⟨(q9, cA), rfl, trivial, (by rw [ht, eg_1, eg_5]; exact hP9), va_K.moved hW.alike hK9, by rw [eg_1, eg_5]; exact hD9⟩, hS.F ht⟩) hS.2.2 dX1_init_40
  refine lv_iconst (v := 0) hx hb dX1_init_23 (by decide) ?_
  refine lv_goto (tgt := 37) hx hb dX1_init_24 (by decide) ?_
  refine va_putF (D := (dC, dI)) (ci := 1) (v := .int 0) (ty := .int) (C := RX1) (T := TX1) (N := 13) hx hb hts (fun _ h => List.mem_cons_of_mem _ (List.mem_append_right _ h)) tyX1 tyX1_ok nmX1 hown hK hP hD hS 0 rfl rfl 1 (by decide) (hts (.fieldLink RX1 17 "FileStatusModel" "organisation" "I") (by decide +kernel)) (fun _ h9 => h9) rfl hin rfl (by decide +kernel) rfl rfl (Nat.le_of_ble_eq_true rfl) dX1_init_37 (fun H locs hP hD hS => ?_)
  have hP : va_P (dC, dI) vwCl [(h0, .inr (1, [.int 0, .int 0, .int 0, .int 0, .int 0, .int 9, .int 0, .int 0, .int 0, .int 0, .int 0, .int 0, .ref q9])), (q9, .inl (cA, 7, .inl (fun _ => 0)))] H := hP
  have hD : va_D A [(h0, .inr (1, [.int 0, .int 0, .int 0, .int 0, .int 0, .int 9, .int 0, .int 0, .int 0, .int 0, .int 0, .int 0, .ref q9])), (q9, .inl (cA, 7, .inl (fun _ => 0)))] := hD
  have hP9 := hP.sub (ws' := [(h0, .inr (1, [.int 0, .int 0, .int 0, .int 0, .int 0, .int 9, .int 0, .int 0, .int 0, .int 0, .int 0, .int 0, .ref q9])), (q9, .inl (cA, 7, .inl (fun _ => 0)))]) [0, 1] rfl
  have hD9 := hD.sub (ws' := [(h0, .inr (1, [.int 0, .int 0, .int 0, .int 0, .int 0, .int 9, .int 0, .int 0, .int 0, .int 0, .int 0, .int 0, .ref q9])), (q9, .inl (cA, 7, .inl (fun _ => 0)))]) [0, 1] (by decide) rfl
  have hK9 := hK.sub (tys' := [(cA, .boolean)]) [0] rfl
  have eg_1 : gx_X1_init_1 p0 = 0 := by unfold gx_X1_init_1; rw [if_neg c_1]
  have eg_5 : gx_X1_init_5 = 9 := by rfl
  exact W.vret hx hb hr (fun t ht hW => ⟨⟨(q9, cA), rfl, trivial, (by rw [ht, eg_1, eg_5]; exact hP9), va_K.moved hW.alike hK9, by rw [eg_1, eg_5]; exact hD9⟩, hS.F ht⟩) hS.2.2 dX1_init_40
set_option maxHeartbeats 4000000 in
set_option maxRecDepth 100000 in
theorem ct_X1_mode (l : Launch) (dC : Nat → ClassId) (dI : Nat → Nat → Nat) (h0 : Nat) (h1 : Nat) (sz : Nat) (a0 a1 a2 a3 a4 a5 a6 a7 a8 a9 a10 a11 p0 : Int32) : Met l yX1_mode wsX1_mode ({ frames := 0, cells := 0, slots := 0, locals := 0 }) (va_Pc [.ref h0, .int p0] (fun U => U.heap.size = sz ∧ va_P (dC, dI) vwCl [(h0, .inr (1, [.int a0, .int a1, .int a2, .int a3, .int a4, .int a5, .int a6, .int a7, .int a8, .int a9, .int a10, .int a11, .ref h1]))] U.heap ∧ va_K (dC, dI) vwCl [] U ∧ va_D (fun _ => True) [(h0, .inr (1, [.int a0, .int a1, .int a2, .int a3, .int a4, .int a5, .int a6, .int a7, .int a8, .int a9, .int a10, .int a11, .ref h1]))])) (va_Qi (fun (r : Int32) (u : va_W) => r = fx_X1_mode a2 a8 p0 ∧ u = [(h0, .inr (1, [.int gx_X1_mode_0, .int a1, .int (gx_X1_mode_2 a2 a8 p0), .int a3, .int a4, .int a5, .int a6, .int a7, .int a8, .int a9, .int a10, .int a11, .ref h1]))]) (at_W dC dI [] (va_A [(h0, .inr (1, [.int a0, .int a1, .int a2, .int a3, .int a4, .int a5, .int a6, .int a7, .int a8, .int a9, .int a10, .int a11, .ref h1]))] sz)) (va_A [(h0, .inr (1, [.int a0, .int a1, .int a2, .int a3, .int a4, .int a5, .int a6, .int a7, .int a8, .int a9, .int a10, .int a11, .ref h1]))] sz)) 0 0 (va_A [(h0, .inr (1, [.int a0, .int a1, .int a2, .int a3, .int a4, .int a5, .int a6, .int a7, .int a8, .int a9, .int a10, .int a11, .ref h1]))] sz) := by
  refine Met.ofW (cc := cX1_mode) (maxL := 3) (ret := (some .int)) (by decide) rfl ?_
  intro p e s m args below meth c s₁ B hml hv
  obtain ⟨rfl, hsz, hP, hK, hD0⟩ := hv
  have hx := B.exec
  have hb := B.bytes
  have hr := B.returns
  have hts := atoms_spec (ws := wsX1_mode) B.pre
  have hown : s.vm.findClass RX1 = some m.cls := findClass_of_methodNamed B.named
  have hlocks := B.notSynchronized
  subst hsz
  have hD := hD0.self (sz := s.heap.size)
  generalize hAe : va_A [(h0, .inr (1, [.int a0, .int a1, .int a2, .int a3, .int a4, .int a5, .int a6, .int a7, .int a8, .int a9, .int a10, .int a11, .ref h1]))] s.heap.size = A at hD ⊢
  have hA : ∀ q : Nat, s.heap.size ≤ q → A q := fun q h => by rw [← hAe]; exact Or.inr h
  have hS : va_S A s.heap s.heap [] := va_S.rf
  have hP : va_P (dC, dI) vwCl [(h0, .inr (1, [.int a0, .int a1, .int a2, .int a3, .int a4, .int a5, .int a6, .int a7, .int a8, .int a9, .int a10, .int a11, .ref h1]))] s.heap := hP
  have hl := lv_entry ([.ref h0, .int p0]) (n := 3) (Nat.le_of_ble_eq_true rfl)
  rw [lg_entry_eq]
  generalize (lg_sl ([.ref h0, .int p0]) ++ List.replicate (3 - (lg_sl ([.ref h0, .int p0])).length) Slot.unset).toArray = ls at hl ⊢
  have hl : lv_has ls 3 [(0, .ref h0), (1, .int p0)] := hl
  refine lv_aload_n hx hb dX1_mode_0 rfl (lv_at hl 0 rfl) ?_
  refine lv_iconst (v := 0) hx hb dX1_mode_1 (by decide) ?_
  refine va_put (D := (dC, dI)) (ci := 1) (v := .int 0) (ty := .int) (C := RX1) (T := TX1) (N := 13) hx hb hts (fun _ h => List.mem_cons_of_mem _ (List.mem_append_right _ h)) tyX1 tyX1_ok nmX1 hown hK hP hD hS 0 rfl rfl 0 (by decide) (hts (.fieldLink RX1 20 "FileStatusModel" "code" "I") (by decide +kernel)) (fun _ h9 => h9) rfl (by decide +kernel) rfl rfl (Nat.le_of_ble_eq_true rfl) dX1_mode_2 (fun H locs hP hD hS => ?_)
  have hP : va_P (dC, dI) vwCl [(h0, .inr (1, [.int 0, .int a1, .int a2, .int a3, .int a4, .int a5, .int a6, .int a7, .int a8, .int a9, .int a10, .int a11, .ref h1]))] H := hP
  have hD : va_D A [(h0, .inr (1, [.int 0, .int a1, .int a2, .int a3, .int a4, .int a5, .int a6, .int a7, .int a8, .int a9, .int a10, .int a11, .ref h1]))] := hD
  refine lv_aload_n hx hb dX1_mode_5 rfl (lv_at hl 0 rfl) ?_
  refine va_get (D := (dC, dI)) (ci := 1) (v := .int a8) (C := RX1) (T := TX1) (N := 13) hx hb hts (fun _ h => List.mem_cons_of_mem _ (List.mem_append_right _ h)) hown hK hP 0 rfl rfl 8 (by decide) (hts (.fieldLink RX1 23 "FileStatusModel" "isOpen" "Z") (by decide +kernel)) (fun _ h9 => h9) rfl dX1_mode_6 ?_
  refine lv_if_eq (tgt := 15) hx hb dX1_mode_9 (by decide) (fun c_1 => ?_) (fun c_1 => ?_)
  · refine lv_iload_n hx hb dX1_mode_15 rfl (lv_at hl 1 rfl) ?_
    refine lv_if_lt (tgt := 24) hx hb dX1_mode_16 (by decide) (fun c_2 => ?_) (fun c_2 => ?_)
    · refine lv_bipush (v := (-4)) hx hb dX1_mode_24 (by decide) ?_
      have hP9 := hP.sub (ws' := [(h0, .inr (1, [.int 0, .int a1, .int a2, .int a3, .int a4, .int a5, .int a6, .int a7, .int a8, .int a9, .int a10, .int a11, .ref h1]))]) [0] rfl
      have hD9 := hD.sub (ws' := [(h0, .inr (1, [.int 0, .int a1, .int a2, .int a3, .int a4, .int a5, .int a6, .int a7, .int a8, .int a9, .int a10, .int a11, .ref h1]))]) [0] (by decide) rfl
      have hK9 := hK.sub (tys' := []) [] rfl
      have eg_0 : gx_X1_mode_0 = 0 := by rfl
      have eg_2 : gx_X1_mode_2 a2 a8 p0 = a2 := by unfold gx_X1_mode_2; rw [if_pos c_1, if_pos c_2]
      have ef : fx_X1_mode a2 a8 p0 = (-4) := by unfold fx_X1_mode; rw [if_pos c_1, if_pos c_2]
      exact W.iret (v := (-4)) hx hb hr (fun t ht hW => ⟨⟨(-4), [(h0, .inr (1, [.int 0, .int a1, .int a2, .int a3, .int a4, .int a5, .int a6, .int a7, .int a8, .int a9, .int a10, .int a11, .ref h1]))], rfl, ⟨ef.symm, by rw [eg_0, eg_2]⟩, by rw [ht]; exact hP9, va_K.moved hW.alike hK9, hD9⟩, hS.F ht⟩) hS.2.2 dX1_mode_26
    refine lv_iload_n hx hb dX1_mode_19 rfl (lv_at hl 1 rfl) ?_
    refine lv_iconst (v := 3) hx hb dX1_mode_20 (by decide) ?_
    refine lv_icmp_le (tgt := 27) hx hb dX1_mode_21 (by decide) (fun c_3 => ?_) (fun c_3 => ?_)
    · refine lv_aload_n hx hb dX1_mode_27 rfl (lv_at hl 0 rfl) ?_
      refine va_get (D := (dC, dI)) (ci := 1) (v := .int a2) (C := RX1) (T := TX1) (N := 13) hx hb hts (fun _ h => List.mem_cons_of_mem _ (List.mem_append_right _ h)) hown hK hP 0 rfl rfl 2 (by decide) (hts (.fieldLink RX1 27 "FileStatusModel" "mode" "I") (by decide +kernel)) (fun _ h9 => h9) rfl dX1_mode_28 ?_
      refine lv_istore_n (lv' := [(2, .int a2), (0, .ref h0), (1, .int p0)]) hx hb dX1_mode_31 rfl hl (by decide) rfl (fun ls hl => ?_)
      refine lv_aload_n hx hb dX1_mode_32 rfl (lv_at hl 1 rfl) ?_
      refine lv_iload_n hx hb dX1_mode_33 rfl (lv_at hl 2 rfl) ?_
      refine va_put (D := (dC, dI)) (ci := 1) (v := .int p0) (ty := .int) (C := RX1) (T := TX1) (N := 13) hx hb hts (fun _ h => List.mem_cons_of_mem _ (List.mem_append_right _ h)) tyX1 tyX1_ok nmX1 hown hK hP hD hS 0 rfl rfl 2 (by decide) (hts (.fieldLink RX1 27 "FileStatusModel" "mode" "I") (by decide +kernel)) (fun _ h9 => h9) rfl (by decide +kernel) rfl rfl (Nat.le_of_ble_eq_true rfl) dX1_mode_34 (fun H locs hP hD hS => ?_)
      have hP : va_P (dC, dI) vwCl [(h0, .inr (1, [.int 0, .int a1, .int p0, .int a3, .int a4, .int a5, .int a6, .int a7, .int a8, .int a9, .int a10, .int a11, .ref h1]))] H := hP
      have hD : va_D A [(h0, .inr (1, [.int 0, .int a1, .int p0, .int a3, .int a4, .int a5, .int a6, .int a7, .int a8, .int a9, .int a10, .int a11, .ref h1]))] := hD
      refine lv_iload_n hx hb dX1_mode_37 rfl (lv_at hl 0 rfl) ?_
      have hP9 := hP.sub (ws' := [(h0, .inr (1, [.int 0, .int a1, .int p0, .int a3, .int a4, .int a5, .int a6, .int a7, .int a8, .int a9, .int a10, .int a11, .ref h1]))]) [0] rfl
      have hD9 := hD.sub (ws' := [(h0, .inr (1, [.int 0, .int a1, .int p0, .int a3, .int a4, .int a5, .int a6, .int a7, .int a8, .int a9, .int a10, .int a11, .ref h1]))]) [0] (by decide) rfl
      have hK9 := hK.sub (tys' := []) [] rfl
      have eg_0 : gx_X1_mode_0 = 0 := by rfl
      have eg_2 : gx_X1_mode_2 a2 a8 p0 = p0 := by unfold gx_X1_mode_2; rw [if_pos c_1, if_neg c_2, if_pos c_3]
      have ef : fx_X1_mode a2 a8 p0 = a2 := by unfold fx_X1_mode; rw [if_pos c_1, if_neg c_2, if_pos c_3]
      exact W.iret (v := a2) hx hb hr (fun t ht hW => ⟨⟨a2, [(h0, .inr (1, [.int 0, .int a1, .int p0, .int a3, .int a4, .int a5, .int a6, .int a7, .int a8, .int a9, .int a10, .int a11, .ref h1]))], rfl, ⟨ef.symm, by rw [eg_0, eg_2]⟩, by rw [ht]; exact hP9, va_K.moved hW.alike hK9, hD9⟩, hS.F ht⟩) hS.2.2 dX1_mode_38
    refine lv_bipush (v := (-4)) hx hb dX1_mode_24 (by decide) ?_
    have hP9 := hP.sub (ws' := [(h0, .inr (1, [.int 0, .int a1, .int a2, .int a3, .int a4, .int a5, .int a6, .int a7, .int a8, .int a9, .int a10, .int a11, .ref h1]))]) [0] rfl
    have hD9 := hD.sub (ws' := [(h0, .inr (1, [.int 0, .int a1, .int a2, .int a3, .int a4, .int a5, .int a6, .int a7, .int a8, .int a9, .int a10, .int a11, .ref h1]))]) [0] (by decide) rfl
    have hK9 := hK.sub (tys' := []) [] rfl
    have eg_0 : gx_X1_mode_0 = 0 := by rfl
    have eg_2 : gx_X1_mode_2 a2 a8 p0 = a2 := by unfold gx_X1_mode_2; rw [if_pos c_1, if_neg c_2, if_neg c_3]
    have ef : fx_X1_mode a2 a8 p0 = (-4) := by unfold fx_X1_mode; rw [if_pos c_1, if_neg c_2, if_neg c_3]
    exact W.iret (v := (-4)) hx hb hr (fun t ht hW => ⟨⟨(-4), [(h0, .inr (1, [.int 0, .int a1, .int a2, .int a3, .int a4, .int a5, .int a6, .int a7, .int a8, .int a9, .int a10, .int a11, .ref h1]))], rfl, ⟨ef.symm, by rw [eg_0, eg_2]⟩, by rw [ht]; exact hP9, va_K.moved hW.alike hK9, hD9⟩, hS.F ht⟩) hS.2.2 dX1_mode_26
  refine lv_bipush (v := (-5)) hx hb dX1_mode_12 (by decide) ?_
  have hP9 := hP.sub (ws' := [(h0, .inr (1, [.int 0, .int a1, .int a2, .int a3, .int a4, .int a5, .int a6, .int a7, .int a8, .int a9, .int a10, .int a11, .ref h1]))]) [0] rfl
  have hD9 := hD.sub (ws' := [(h0, .inr (1, [.int 0, .int a1, .int a2, .int a3, .int a4, .int a5, .int a6, .int a7, .int a8, .int a9, .int a10, .int a11, .ref h1]))]) [0] (by decide) rfl
  have hK9 := hK.sub (tys' := []) [] rfl
  have eg_0 : gx_X1_mode_0 = 0 := by rfl
  have eg_2 : gx_X1_mode_2 a2 a8 p0 = a2 := by unfold gx_X1_mode_2; rw [if_neg c_1]
  have ef : fx_X1_mode a2 a8 p0 = (-5) := by unfold fx_X1_mode; rw [if_neg c_1]
  exact W.iret (v := (-5)) hx hb hr (fun t ht hW => ⟨⟨(-5), [(h0, .inr (1, [.int 0, .int a1, .int a2, .int a3, .int a4, .int a5, .int a6, .int a7, .int a8, .int a9, .int a10, .int a11, .ref h1]))], rfl, ⟨ef.symm, by rw [eg_0, eg_2]⟩, by rw [ht]; exact hP9, va_K.moved hW.alike hK9, hD9⟩, hS.F ht⟩) hS.2.2 dX1_mode_14
set_option maxHeartbeats 4000000 in
set_option maxRecDepth 100000 in
theorem ct_X1_told (l : Launch) (dC : Nat → ClassId) (dI : Nat → Nat → Nat) (h0 : Nat) (h1 : Nat) (sz : Nat) (a0 a1 a2 a3 a4 a5 a6 a7 a8 a9 a10 a11 p0 p1 : Int32) : Met l yX1_told wsX1_told ({ frames := 0, cells := 0, slots := 0, locals := 0 }) (va_Pc [.ref h0, .int p0, .int p1] (fun U => U.heap.size = sz ∧ va_P (dC, dI) vwCl [(h0, .inr (1, [.int a0, .int a1, .int a2, .int a3, .int a4, .int a5, .int a6, .int a7, .int a8, .int a9, .int a10, .int a11, .ref h1]))] U.heap ∧ va_K (dC, dI) vwCl [] U ∧ va_D (fun _ => True) [(h0, .inr (1, [.int a0, .int a1, .int a2, .int a3, .int a4, .int a5, .int a6, .int a7, .int a8, .int a9, .int a10, .int a11, .ref h1]))])) (va_Qi (fun (r : Int32) (u : va_W) => r = fx_X1_told p0 ∧ u = [(h0, .inr (1, [.int a0, .int a1, .int a2, .int a3, .int (gx_X1_told_4 p0), .int (gx_X1_told_5 p1), .int (gx_X1_told_6 a6 p0), .int (gx_X1_told_7 a7 p0), .int a8, .int a9, .int a10, .int a11, .ref h1]))]) (at_W dC dI [] (va_A [(h0, .inr (1, [.int a0, .int a1, .int a2, .int a3, .int a4, .int a5, .int a6, .int a7, .int a8, .int a9, .int a10, .int a11, .ref h1]))] sz)) (va_A [(h0, .inr (1, [.int a0, .int a1, .int a2, .int a3, .int a4, .int a5, .int a6, .int a7, .int a8, .int a9, .int a10, .int a11, .ref h1]))] sz)) 0 0 (va_A [(h0, .inr (1, [.int a0, .int a1, .int a2, .int a3, .int a4, .int a5, .int a6, .int a7, .int a8, .int a9, .int a10, .int a11, .ref h1]))] sz) := by
  refine Met.ofW (cc := cX1_told) (maxL := 3) (ret := (some .int)) (by decide) rfl ?_
  intro p e s m args below meth c s₁ B hml hv
  obtain ⟨rfl, hsz, hP, hK, hD0⟩ := hv
  have hx := B.exec
  have hb := B.bytes
  have hr := B.returns
  have hts := atoms_spec (ws := wsX1_told) B.pre
  have hown : s.vm.findClass RX1 = some m.cls := findClass_of_methodNamed B.named
  have hlocks := B.notSynchronized
  subst hsz
  have hD := hD0.self (sz := s.heap.size)
  generalize hAe : va_A [(h0, .inr (1, [.int a0, .int a1, .int a2, .int a3, .int a4, .int a5, .int a6, .int a7, .int a8, .int a9, .int a10, .int a11, .ref h1]))] s.heap.size = A at hD ⊢
  have hA : ∀ q : Nat, s.heap.size ≤ q → A q := fun q h => by rw [← hAe]; exact Or.inr h
  have hS : va_S A s.heap s.heap [] := va_S.rf
  have hP : va_P (dC, dI) vwCl [(h0, .inr (1, [.int a0, .int a1, .int a2, .int a3, .int a4, .int a5, .int a6, .int a7, .int a8, .int a9, .int a10, .int a11, .ref h1]))] s.heap := hP
  have hl := lv_entry ([.ref h0, .int p0, .int p1]) (n := 3) (Nat.le_of_ble_eq_true rfl)
  rw [lg_entry_eq]
  generalize (lg_sl ([.ref h0, .int p0, .int p1]) ++ List.replicate (3 - (lg_sl ([.ref h0, .int p0, .int p1])).length) Slot.unset).toArray = ls at hl ⊢
  have hl : lv_has ls 3 [(0, .ref h0), (1, .int p0), (2, .int p1)] := hl
  refine lv_aload_n hx hb dX1_told_0 rfl (lv_at hl 0 rfl) ?_
  refine lv_iload_n hx hb dX1_told_1 rfl (lv_at hl 1 rfl) ?_
  refine va_put (D := (dC, dI)) (ci := 1) (v := .int p0) (ty := .int) (C := RX1) (T := TX1) (N := 13) hx hb hts (fun _ h => List.mem_cons_of_mem _ (List.mem_append_right _ h)) tyX1 tyX1_ok nmX1 hown hK hP hD hS 0 rfl rfl 4 (by decide) (hts (.fieldLink RX1 30 "FileStatusModel" "latest" "I") (by decide +kernel)) (fun _ h9 => h9) rfl (by decide +kernel) rfl rfl (Nat.le_of_ble_eq_true rfl) dX1_told_2 (fun H locs hP hD hS => ?_)
  have hP : va_P (dC, dI) vwCl [(h0, .inr (1, [.int a0, .int a1, .int a2, .int a3, .int p0, .int a5, .int a6, .int a7, .int a8, .int a9, .int a10, .int a11, .ref h1]))] H := hP
  have hD : va_D A [(h0, .inr (1, [.int a0, .int a1, .int a2, .int a3, .int p0, .int a5, .int a6, .int a7, .int a8, .int a9, .int a10, .int a11, .ref h1]))] := hD
  refine lv_aload_n hx hb dX1_told_5 rfl (lv_at hl 0 rfl) ?_
  refine lv_iload_n hx hb dX1_told_6 rfl (lv_at hl 2 rfl) ?_
  refine va_put (D := (dC, dI)) (ci := 1) (v := .int p1) (ty := .int) (C := RX1) (T := TX1) (N := 13) hx hb hts (fun _ h => List.mem_cons_of_mem _ (List.mem_append_right _ h)) tyX1 tyX1_ok nmX1 hown hK hP hD hS 0 rfl rfl 5 (by decide) (hts (.fieldLink RX1 7 "FileStatusModel" "act" "I") (by decide +kernel)) (fun _ h9 => h9) rfl (by decide +kernel) rfl rfl (Nat.le_of_ble_eq_true rfl) dX1_told_7 (fun H locs hP hD hS => ?_)
  have hP : va_P (dC, dI) vwCl [(h0, .inr (1, [.int a0, .int a1, .int a2, .int a3, .int p0, .int p1, .int a6, .int a7, .int a8, .int a9, .int a10, .int a11, .ref h1]))] H := hP
  have hD : va_D A [(h0, .inr (1, [.int a0, .int a1, .int a2, .int a3, .int p0, .int p1, .int a6, .int a7, .int a8, .int a9, .int a10, .int a11, .ref h1]))] := hD
  refine lv_aload_n hx hb dX1_told_10 rfl (lv_at hl 0 rfl) ?_
  refine lv_dup hx hb dX1_told_11 rfl ?_
  refine va_get (D := (dC, dI)) (ci := 1) (v := .int a6) (C := RX1) (T := TX1) (N := 13) hx hb hts (fun _ h => List.mem_cons_of_mem _ (List.mem_append_right _ h)) hown hK hP 0 rfl rfl 6 (by decide) (hts (.fieldLink RX1 33 "FileStatusModel" "good" "I") (by decide +kernel)) (fun _ h9 => h9) rfl dX1_told_12 ?_
  refine lv_iload_n hx hb dX1_told_15 rfl (lv_at hl 1 rfl) ?_
  refine lv_bipush (v := 10) hx hb dX1_told_16 (by decide) ?_
  refine lv_icmp_ge (tgt := 25) hx hb dX1_told_18 (by decide) (fun c_1 => ?_) (fun c_1 => ?_)
  · refine lv_iconst (v := 0) hx hb dX1_told_25 (by decide) ?_
    refine lv_iadd hx hb dX1_told_26 ?_
    refine va_put (D := (dC, dI)) (ci := 1) (v := .int (a6 + 0)) (ty := .int) (C := RX1) (T := TX1) (N := 13) hx hb hts (fun _ h => List.mem_cons_of_mem _ (List.mem_append_right _ h)) tyX1 tyX1_ok nmX1 hown hK hP hD hS 0 rfl rfl 6 (by decide) (hts (.fieldLink RX1 33 "FileStatusModel" "good" "I") (by decide +kernel)) (fun _ h9 => h9) rfl (by decide +kernel) rfl rfl (Nat.le_of_ble_eq_true rfl) dX1_told_27 (fun H locs hP hD hS => ?_)
    have hP : va_P (dC, dI) vwCl [(h0, .inr (1, [.int a0, .int a1, .int a2, .int a3, .int p0, .int p1, .int (a6 + 0), .int a7, .int a8, .int a9, .int a10, .int a11, .ref h1]))] H := hP
    have hD : va_D A [(h0, .inr (1, [.int a0, .int a1, .int a2, .int a3, .int p0, .int p1, .int (a6 + 0), .int a7, .int a8, .int a9, .int a10, .int a11, .ref h1]))] := hD
    refine lv_aload_n hx hb dX1_told_30 rfl (lv_at hl 0 rfl) ?_
    refine lv_dup hx hb dX1_told_31 rfl ?_
    refine va_get (D := (dC, dI)) (ci := 1) (v := .int a7) (C := RX1) (T := TX1) (N := 13) hx hb hts (fun _ h => List.mem_cons_of_mem _ (List.mem_append_right _ h)) hown hK hP 0 rfl rfl 7 (by decide) (hts (.fieldLink RX1 36 "FileStatusModel" "bad" "I") (by decide +kernel)) (fun _ h9 => h9) rfl dX1_told_32 ?_
    refine lv_iload_n hx hb dX1_told_35 rfl (lv_at hl 1 rfl) ?_
    refine lv_bipush (v := 10) hx hb dX1_told_36 (by decide) ?_
    refine lv_icmp_ge (tgt := 45) hx hb dX1_told_38 (by decide) (fun c9 => ?_) (fun c9 => absurd c_1 c9)
    refine lv_iconst (v := 1) hx hb dX1_told_45 (by decide) ?_
    refine lv_iadd hx hb dX1_told_46 ?_
    refine va_put (D := (dC, dI)) (ci := 1) (v := .int (a7 + 1)) (ty := .int) (C := RX1) (T := TX1) (N := 13) hx hb hts (fun _ h => List.mem_cons_of_mem _ (List.mem_append_right _ h)) tyX1 tyX1_ok nmX1 hown hK hP hD hS 0 rfl rfl 7 (by decide) (hts (.fieldLink RX1 36 "FileStatusModel" "bad" "I") (by decide +kernel)) (fun _ h9 => h9) rfl (by decide +kernel) rfl rfl (Nat.le_of_ble_eq_true rfl) dX1_told_47 (fun H locs hP hD hS => ?_)
    have hP : va_P (dC, dI) vwCl [(h0, .inr (1, [.int a0, .int a1, .int a2, .int a3, .int p0, .int p1, .int (a6 + 0), .int (a7 + 1), .int a8, .int a9, .int a10, .int a11, .ref h1]))] H := hP
    have hD : va_D A [(h0, .inr (1, [.int a0, .int a1, .int a2, .int a3, .int p0, .int p1, .int (a6 + 0), .int (a7 + 1), .int a8, .int a9, .int a10, .int a11, .ref h1]))] := hD
    refine lv_iload_n hx hb dX1_told_50 rfl (lv_at hl 1 rfl) ?_
    have hP9 := hP.sub (ws' := [(h0, .inr (1, [.int a0, .int a1, .int a2, .int a3, .int p0, .int p1, .int (a6 + 0), .int (a7 + 1), .int a8, .int a9, .int a10, .int a11, .ref h1]))]) [0] rfl
    have hD9 := hD.sub (ws' := [(h0, .inr (1, [.int a0, .int a1, .int a2, .int a3, .int p0, .int p1, .int (a6 + 0), .int (a7 + 1), .int a8, .int a9, .int a10, .int a11, .ref h1]))]) [0] (by decide) rfl
    have hK9 := hK.sub (tys' := []) [] rfl
    have eg_4 : gx_X1_told_4 p0 = p0 := by rfl
    have eg_5 : gx_X1_told_5 p1 = p1 := by rfl
    have eg_6 : gx_X1_told_6 a6 p0 = a6 + 0 := by unfold gx_X1_told_6; rw [if_pos c_1]
    have eg_7 : gx_X1_told_7 a7 p0 = a7 + 1 := by unfold gx_X1_told_7; rw [if_pos c_1]
    have ef : fx_X1_told p0 = p0 := by rfl
    exact W.iret (v := p0) hx hb hr (fun t ht hW => ⟨⟨p0, [(h0, .inr (1, [.int a0, .int a1, .int a2, .int a3, .int p0, .int p1, .int (a6 + 0), .int (a7 + 1), .int a8, .int a9, .int a10, .int a11, .ref h1]))], rfl, ⟨ef.symm, by rw [eg_4, eg_5, eg_6, eg_7]⟩, by rw [ht]; exact hP9, va_K.moved hW.alike hK9, hD9⟩, hS.F ht⟩) hS.2.2 dX1_told_51
  refine lv_iconst (v := 1) hx hb dX1_told_21 (by decide) ?_
  refine lv_goto (tgt := 26) hx hb dX1_told_22 (by decide) ?_
  refine lv_iadd hx hb dX1_told_26 ?_
  refine va_put (D := (dC, dI)) (ci := 1) (v := .int (a6 + 1)) (ty := .int) (C := RX1) (T := TX1) (N := 13) hx hb hts (fun _ h => List.mem_cons_of_mem _ (List.mem_append_right _ h)) tyX1 tyX1_ok nmX1 hown hK hP hD hS 0 rfl rfl 6 (by decide) (hts (.fieldLink RX1 33 "FileStatusModel" "good" "I") (by decide +kernel)) (fun _ h9 => h9) rfl (by decide +kernel) rfl rfl (Nat.le_of_ble_eq_true rfl) dX1_told_27 (fun H locs hP hD hS => ?_)
  have hP : va_P (dC, dI) vwCl [(h0, .inr (1, [.int a0, .int a1, .int a2, .int a3, .int p0, .int p1, .int (a6 + 1), .int a7, .int a8, .int a9, .int a10, .int a11, .ref h1]))] H := hP
  have hD : va_D A [(h0, .inr (1, [.int a0, .int a1, .int a2, .int a3, .int p0, .int p1, .int (a6 + 1), .int a7, .int a8, .int a9, .int a10, .int a11, .ref h1]))] := hD
  refine lv_aload_n hx hb dX1_told_30 rfl (lv_at hl 0 rfl) ?_
  refine lv_dup hx hb dX1_told_31 rfl ?_
  refine va_get (D := (dC, dI)) (ci := 1) (v := .int a7) (C := RX1) (T := TX1) (N := 13) hx hb hts (fun _ h => List.mem_cons_of_mem _ (List.mem_append_right _ h)) hown hK hP 0 rfl rfl 7 (by decide) (hts (.fieldLink RX1 36 "FileStatusModel" "bad" "I") (by decide +kernel)) (fun _ h9 => h9) rfl dX1_told_32 ?_
  refine lv_iload_n hx hb dX1_told_35 rfl (lv_at hl 1 rfl) ?_
  refine lv_bipush (v := 10) hx hb dX1_told_36 (by decide) ?_
  refine lv_icmp_ge (tgt := 45) hx hb dX1_told_38 (by decide) (fun c9 => absurd c9 c_1) (fun c9 => ?_)
  refine lv_iconst (v := 0) hx hb dX1_told_41 (by decide) ?_
  refine lv_goto (tgt := 46) hx hb dX1_told_42 (by decide) ?_
  refine lv_iadd hx hb dX1_told_46 ?_
  refine va_put (D := (dC, dI)) (ci := 1) (v := .int (a7 + 0)) (ty := .int) (C := RX1) (T := TX1) (N := 13) hx hb hts (fun _ h => List.mem_cons_of_mem _ (List.mem_append_right _ h)) tyX1 tyX1_ok nmX1 hown hK hP hD hS 0 rfl rfl 7 (by decide) (hts (.fieldLink RX1 36 "FileStatusModel" "bad" "I") (by decide +kernel)) (fun _ h9 => h9) rfl (by decide +kernel) rfl rfl (Nat.le_of_ble_eq_true rfl) dX1_told_47 (fun H locs hP hD hS => ?_)
  have hP : va_P (dC, dI) vwCl [(h0, .inr (1, [.int a0, .int a1, .int a2, .int a3, .int p0, .int p1, .int (a6 + 1), .int (a7 + 0), .int a8, .int a9, .int a10, .int a11, .ref h1]))] H := hP
  have hD : va_D A [(h0, .inr (1, [.int a0, .int a1, .int a2, .int a3, .int p0, .int p1, .int (a6 + 1), .int (a7 + 0), .int a8, .int a9, .int a10, .int a11, .ref h1]))] := hD
  refine lv_iload_n hx hb dX1_told_50 rfl (lv_at hl 1 rfl) ?_
  have hP9 := hP.sub (ws' := [(h0, .inr (1, [.int a0, .int a1, .int a2, .int a3, .int p0, .int p1, .int (a6 + 1), .int (a7 + 0), .int a8, .int a9, .int a10, .int a11, .ref h1]))]) [0] rfl
  have hD9 := hD.sub (ws' := [(h0, .inr (1, [.int a0, .int a1, .int a2, .int a3, .int p0, .int p1, .int (a6 + 1), .int (a7 + 0), .int a8, .int a9, .int a10, .int a11, .ref h1]))]) [0] (by decide) rfl
  have hK9 := hK.sub (tys' := []) [] rfl
  have eg_4 : gx_X1_told_4 p0 = p0 := by rfl
  have eg_5 : gx_X1_told_5 p1 = p1 := by rfl
  have eg_6 : gx_X1_told_6 a6 p0 = a6 + 1 := by unfold gx_X1_told_6; rw [if_neg c_1]
  have eg_7 : gx_X1_told_7 a7 p0 = a7 + 0 := by unfold gx_X1_told_7; rw [if_neg c_1]
  have ef : fx_X1_told p0 = p0 := by rfl
  exact W.iret (v := p0) hx hb hr (fun t ht hW => ⟨⟨p0, [(h0, .inr (1, [.int a0, .int a1, .int a2, .int a3, .int p0, .int p1, .int (a6 + 1), .int (a7 + 0), .int a8, .int a9, .int a10, .int a11, .ref h1]))], rfl, ⟨ef.symm, by rw [eg_4, eg_5, eg_6, eg_7]⟩, by rw [ht]; exact hP9, va_K.moved hW.alike hK9, hD9⟩, hS.F ht⟩) hS.2.2 dX1_told_51
set_option maxHeartbeats 4000000 in
set_option maxRecDepth 100000 in
theorem ct_X1_opened (l : Launch) (dC : Nat → ClassId) (dI : Nat → Nat → Nat) (h0 : Nat) (h1 : Nat) (sz : Nat) (a0 a1 a2 a3 a4 a5 a6 a7 a8 a9 a10 a11 p0 : Int32) : Met l yX1_opened wsX1_opened ({ frames := 0, cells := 0, slots := 0, locals := 0 }) (va_Pc [.ref h0, .int p0] (fun U => U.heap.size = sz ∧ va_P (dC, dI) vwCl [(h0, .inr (1, [.int a0, .int a1, .int a2, .int a3, .int a4, .int a5, .int a6, .int a7, .int a8, .int a9, .int a10, .int a11, .ref h1]))] U.heap ∧ va_K (dC, dI) vwCl [] U ∧ va_D (fun _ => True) [(h0, .inr (1, [.int a0, .int a1, .int a2, .int a3, .int a4, .int a5, .int a6, .int a7, .int a8, .int a9, .int a10, .int a11, .ref h1]))])) (va_Qi (fun (r : Int32) (u : va_W) => r = fx_X1_opened a2 a8 a10 p0 ∧ u = [(h0, .inr (1, [.int a0, .int a1, .int a2, .int a3, .int a4, .int a5, .int a6, .int a7, .int a8, .int a9, .int a10, .int a11, .ref h1]))]) (at_W dC dI [] (va_A [(h0, .inr (1, [.int a0, .int a1, .int a2, .int a3, .int a4, .int a5, .int a6, .int a7, .int a8, .int a9, .int a10, .int a11, .ref h1]))] sz)) (va_A [(h0, .inr (1, [.int a0, .int a1, .int a2, .int a3, .int a4, .int a5, .int a6, .int a7, .int a8, .int a9, .int a10, .int a11, .ref h1]))] sz)) 0 0 (va_A [(h0, .inr (1, [.int a0, .int a1, .int a2, .int a3, .int a4, .int a5, .int a6, .int a7, .int a8, .int a9, .int a10, .int a11, .ref h1]))] sz) := by
  refine Met.ofW (cc := cX1_opened) (maxL := 2) (ret := (some .int)) (by decide) rfl ?_
  intro p e s m args below meth c s₁ B hml hv
  obtain ⟨rfl, hsz, hP, hK, hD0⟩ := hv
  have hx := B.exec
  have hb := B.bytes
  have hr := B.returns
  have hts := atoms_spec (ws := wsX1_opened) B.pre
  have hown : s.vm.findClass RX1 = some m.cls := findClass_of_methodNamed B.named
  have hlocks := B.notSynchronized
  subst hsz
  have hD := hD0.self (sz := s.heap.size)
  generalize hAe : va_A [(h0, .inr (1, [.int a0, .int a1, .int a2, .int a3, .int a4, .int a5, .int a6, .int a7, .int a8, .int a9, .int a10, .int a11, .ref h1]))] s.heap.size = A at hD ⊢
  have hA : ∀ q : Nat, s.heap.size ≤ q → A q := fun q h => by rw [← hAe]; exact Or.inr h
  have hS : va_S A s.heap s.heap [] := va_S.rf
  have hP : va_P (dC, dI) vwCl [(h0, .inr (1, [.int a0, .int a1, .int a2, .int a3, .int a4, .int a5, .int a6, .int a7, .int a8, .int a9, .int a10, .int a11, .ref h1]))] s.heap := hP
  have hl := lv_entry ([.ref h0, .int p0]) (n := 2) (Nat.le_of_ble_eq_true rfl)
  rw [lg_entry_eq]
  generalize (lg_sl ([.ref h0, .int p0]) ++ List.replicate (2 - (lg_sl ([.ref h0, .int p0])).length) Slot.unset).toArray = ls at hl ⊢
  have hl : lv_has ls 2 [(0, .ref h0), (1, .int p0)] := hl
  refine lv_aload_n hx hb dX1_opened_0 rfl (lv_at hl 0 rfl) ?_
  refine va_get (D := (dC, dI)) (ci := 1) (v := .int a8) (C := RX1) (T := TX1) (N := 13) hx hb hts (fun _ h => List.mem_cons_of_mem _ (List.mem_append_right _ h)) hown hK hP 0 rfl rfl 8 (by decide) (hts (.fieldLink RX1 23 "FileStatusModel" "isOpen" "Z") (by decide +kernel)) (fun _ h9 => h9) rfl dX1_opened_1 ?_
  refine lv_if_eq (tgt := 10) hx hb dX1_opened_4 (by decide) (fun c_1 => ?_) (fun c_1 => ?_)
  · refine lv_iload_n hx hb dX1_opened_10 rfl (lv_at hl 1 rfl) ?_
    by_cases c_2 : p0 = 0
    · refine lv_tableIn (off := 41) (tgt := 52) hx hb dX1_opened_11 (by rw [c_2]; decide) (by rw [c_2]; decide) (by rw [c_2]; rfl) (by decide) ?_
      refine lv_iconst (v := 0) hx hb dX1_opened_52 (by decide) ?_
      have hP9 := hP.sub (ws' := [(h0, .inr (1, [.int a0, .int a1, .int a2, .int a3, .int a4, .int a5, .int a6, .int a7, .int a8, .int a9, .int a10, .int a11, .ref h1]))]) [0] rfl
      have hD9 := hD.sub (ws' := [(h0, .inr (1, [.int a0, .int a1, .int a2, .int a3, .int a4, .int a5, .int a6, .int a7, .int a8, .int a9, .int a10, .int a11, .ref h1]))]) [0] (by decide) rfl
      have hK9 := hK.sub (tys' := []) [] rfl
      have ef : fx_X1_opened a2 a8 a10 p0 = 0 := by unfold fx_X1_opened; rw [if_pos c_1, if_pos c_2]
      exact W.iret (v := 0) hx hb hr (fun t ht hW => ⟨⟨0, [(h0, .inr (1, [.int a0, .int a1, .int a2, .int a3, .int a4, .int a5, .int a6, .int a7, .int a8, .int a9, .int a10, .int a11, .ref h1]))], rfl, ⟨ef.symm, rfl⟩, by rw [ht]; exact hP9, va_K.moved hW.alike hK9, hD9⟩, hS.F ht⟩) hS.2.2 dX1_opened_53
    by_cases c_3 : p0 = 1
    · refine lv_tableIn (off := 43) (tgt := 54) hx hb dX1_opened_11 (by rw [c_3]; decide) (by rw [c_3]; decide) (by rw [c_3]; rfl) (by decide) ?_
      refine lv_aload_n hx hb dX1_opened_54 rfl (lv_at hl 0 rfl) ?_
      refine va_get (D := (dC, dI)) (ci := 1) (v := .int a2) (C := RX1) (T := TX1) (N := 13) hx hb hts (fun _ h => List.mem_cons_of_mem _ (List.mem_append_right _ h)) hown hK hP 0 rfl rfl 2 (by decide) (hts (.fieldLink RX1 27 "FileStatusModel" "mode" "I") (by decide +kernel)) (fun _ h9 => h9) rfl dX1_opened_55 ?_
      refine lv_iconst (v := 1) hx hb dX1_opened_58 (by decide) ?_
      refine lv_icmp_ne (tgt := 66) hx hb dX1_opened_59 (by decide) (fun c_4 => ?_) (fun c_4 => ?_)
      · refine lv_aload_n hx hb dX1_opened_66 rfl (lv_at hl 0 rfl) ?_
        refine va_get (D := (dC, dI)) (ci := 1) (v := .int a10) (C := RX1) (T := TX1) (N := 13) hx hb hts (fun _ h => List.mem_cons_of_mem _ (List.mem_append_right _ h)) hown hK hP 0 rfl rfl 10 (by decide) (hts (.fieldLink RX1 56 "FileStatusModel" "optional" "Z") (by decide +kernel)) (fun _ h9 => h9) rfl dX1_opened_67 ?_
        refine lv_if_eq (tgt := 77) hx hb dX1_opened_70 (by decide) (fun c_5 => ?_) (fun c_5 => ?_)
        · refine lv_bipush (v := 35) hx hb dX1_opened_77 (by decide) ?_
          have hP9 := hP.sub (ws' := [(h0, .inr (1, [.int a0, .int a1, .int a2, .int a3, .int a4, .int a5, .int a6, .int a7, .int a8, .int a9, .int a10, .int a11, .ref h1]))]) [0] rfl
          have hD9 := hD.sub (ws' := [(h0, .inr (1, [.int a0, .int a1, .int a2, .int a3, .int a4, .int a5, .int a6, .int a7, .int a8, .int a9, .int a10, .int a11, .ref h1]))]) [0] (by decide) rfl
          have hK9 := hK.sub (tys' := []) [] rfl
          have ef : fx_X1_opened a2 a8 a10 p0 = 35 := by unfold fx_X1_opened; rw [if_pos c_1, if_neg c_2, if_pos c_3, if_neg c_4, if_pos c_5]
          exact W.iret (v := 35) hx hb hr (fun t ht hW => ⟨⟨35, [(h0, .inr (1, [.int a0, .int a1, .int a2, .int a3, .int a4, .int a5, .int a6, .int a7, .int a8, .int a9, .int a10, .int a11, .ref h1]))], rfl, ⟨ef.symm, rfl⟩, by rw [ht]; exact hP9, va_K.moved hW.alike hK9, hD9⟩, hS.F ht⟩) hS.2.2 dX1_opened_79
        refine lv_iconst (v := 5) hx hb dX1_opened_73 (by decide) ?_
        refine lv_goto (tgt := 79) hx hb dX1_opened_74 (by decide) ?_
        have hP9 := hP.sub (ws' := [(h0, .inr (1, [.int a0, .int a1, .int a2, .int a3, .int a4, .int a5, .int a6, .int a7, .int a8, .int a9, .int a10, .int a11, .ref h1]))]) [0] rfl
        have hD9 := hD.sub (ws' := [(h0, .inr (1, [.int a0, .int a1, .int a2, .int a3, .int a4, .int a5, .int a6, .int a7, .int a8, .int a9, .int a10, .int a11, .ref h1]))]) [0] (by decide) rfl
        have hK9 := hK.sub (tys' := []) [] rfl
        have ef : fx_X1_opened a2 a8 a10 p0 = 5 := by unfold fx_X1_opened; rw [if_pos c_1, if_neg c_2, if_pos c_3, if_neg c_4, if_neg c_5]
        exact W.iret (v := 5) hx hb hr (fun t ht hW => ⟨⟨5, [(h0, .inr (1, [.int a0, .int a1, .int a2, .int a3, .int a4, .int a5, .int a6, .int a7, .int a8, .int a9, .int a10, .int a11, .ref h1]))], rfl, ⟨ef.symm, rfl⟩, by rw [ht]; exact hP9, va_K.moved hW.alike hK9, hD9⟩, hS.F ht⟩) hS.2.2 dX1_opened_79
      refine lv_iconst (v := 0) hx hb dX1_opened_62 (by decide) ?_
      refine lv_goto (tgt := 79) hx hb dX1_opened_63 (by decide) ?_
      have hP9 := hP.sub (ws' := [(h0, .inr (1, [.int a0, .int a1, .int a2, .int a3, .int a4, .int a5, .int a6, .int a7, .int a8, .int a9, .int a10, .int a11, .ref h1]))]) [0] rfl
      have hD9 := hD.sub (ws' := [(h0, .inr (1, [.int a0, .int a1, .int a2, .int a3, .int a4, .int a5, .int a6, .int a7, .int a8, .int a9, .int a10, .int a11, .ref h1]))]) [0] (by decide) rfl
      have hK9 := hK.sub (tys' := []) [] rfl
      have ef : fx_X1_opened a2 a8 a10 p0 = 0 := by unfold fx_X1_opened; rw [if_pos c_1, if_neg c_2, if_pos c_3, if_pos c_4]
      exact W.iret (v := 0) hx hb hr (fun t ht hW => ⟨⟨0, [(h0, .inr (1, [.int a0, .int a1, .int a2, .int a3, .int a4, .int a5, .int a6, .int a7, .int a8, .int a9, .int a10, .int a11, .ref h1]))], rfl, ⟨ef.symm, rfl⟩, by rw [ht]; exact hP9, va_K.moved hW.alike hK9, hD9⟩, hS.F ht⟩) hS.2.2 dX1_opened_79
    by_cases c_6 : p0 = 2
    · refine lv_tableIn (off := 69) (tgt := 80) hx hb dX1_opened_11 (by rw [c_6]; decide) (by rw [c_6]; decide) (by rw [c_6]; rfl) (by decide) ?_
      refine lv_bipush (v := 37) hx hb dX1_opened_80 (by decide) ?_
      have hP9 := hP.sub (ws' := [(h0, .inr (1, [.int a0, .int a1, .int a2, .int a3, .int a4, .int a5, .int a6, .int a7, .int a8, .int a9, .int a10, .int a11, .ref h1]))]) [0] rfl
      have hD9 := hD.sub (ws' := [(h0, .inr (1, [.int a0, .int a1, .int a2, .int a3, .int a4, .int a5, .int a6, .int a7, .int a8, .int a9, .int a10, .int a11, .ref h1]))]) [0] (by decide) rfl
      have hK9 := hK.sub (tys' := []) [] rfl
      have ef : fx_X1_opened a2 a8 a10 p0 = 37 := by unfold fx_X1_opened; rw [if_pos c_1, if_neg c_2, if_neg c_3, if_pos c_6]
      exact W.iret (v := 37) hx hb hr (fun t ht hW => ⟨⟨37, [(h0, .inr (1, [.int a0, .int a1, .int a2, .int a3, .int a4, .int a5, .int a6, .int a7, .int a8, .int a9, .int a10, .int a11, .ref h1]))], rfl, ⟨ef.symm, rfl⟩, by rw [ht]; exact hP9, va_K.moved hW.alike hK9, hD9⟩, hS.F ht⟩) hS.2.2 dX1_opened_82
    by_cases c_7 : p0 = 3
    · refine lv_tableIn (off := 72) (tgt := 83) hx hb dX1_opened_11 (by rw [c_7]; decide) (by rw [c_7]; decide) (by rw [c_7]; rfl) (by decide) ?_
      refine lv_bipush (v := 39) hx hb dX1_opened_83 (by decide) ?_
      have hP9 := hP.sub (ws' := [(h0, .inr (1, [.int a0, .int a1, .int a2, .int a3, .int a4, .int a5, .int a6, .int a7, .int a8, .int a9, .int a10, .int a11, .ref h1]))]) [0] rfl
      have hD9 := hD.sub (ws' := [(h0, .inr (1, [.int a0, .int a1, .int a2, .int a3, .int a4, .int a5, .int a6, .int a7, .int a8, .int a9, .int a10, .int a11, .ref h1]))]) [0] (by decide) rfl
      have hK9 := hK.sub (tys' := []) [] rfl
      have ef : fx_X1_opened a2 a8 a10 p0 = 39 := by unfold fx_X1_opened; rw [if_pos c_1, if_neg c_2, if_neg c_3, if_neg c_6, if_pos c_7]
      exact W.iret (v := 39) hx hb hr (fun t ht hW => ⟨⟨39, [(h0, .inr (1, [.int a0, .int a1, .int a2, .int a3, .int a4, .int a5, .int a6, .int a7, .int a8, .int a9, .int a10, .int a11, .ref h1]))], rfl, ⟨ef.symm, rfl⟩, by rw [ht]; exact hP9, va_K.moved hW.alike hK9, hD9⟩, hS.F ht⟩) hS.2.2 dX1_opened_85
    by_cases c_8 : p0 = 4
    · refine lv_tableIn (off := 75) (tgt := 86) hx hb dX1_opened_11 (by rw [c_8]; decide) (by rw [c_8]; decide) (by rw [c_8]; rfl) (by decide) ?_
      refine lv_bipush (v := 38) hx hb dX1_opened_86 (by decide) ?_
      have hP9 := hP.sub (ws' := [(h0, .inr (1, [.int a0, .int a1, .int a2, .int a3, .int a4, .int a5, .int a6, .int a7, .int a8, .int a9, .int a10, .int a11, .ref h1]))]) [0] rfl
      have hD9 := hD.sub (ws' := [(h0, .inr (1, [.int a0, .int a1, .int a2, .int a3, .int a4, .int a5, .int a6, .int a7, .int a8, .int a9, .int a10, .int a11, .ref h1]))]) [0] (by decide) rfl
      have hK9 := hK.sub (tys' := []) [] rfl
      have ef : fx_X1_opened a2 a8 a10 p0 = 38 := by unfold fx_X1_opened; rw [if_pos c_1, if_neg c_2, if_neg c_3, if_neg c_6, if_neg c_7, if_pos c_8]
      exact W.iret (v := 38) hx hb hr (fun t ht hW => ⟨⟨38, [(h0, .inr (1, [.int a0, .int a1, .int a2, .int a3, .int a4, .int a5, .int a6, .int a7, .int a8, .int a9, .int a10, .int a11, .ref h1]))], rfl, ⟨ef.symm, rfl⟩, by rw [ht]; exact hP9, va_K.moved hW.alike hK9, hD9⟩, hS.F ht⟩) hS.2.2 dX1_opened_88
    by_cases c_9 : p0 = 5
    · refine lv_tableIn (off := 78) (tgt := 89) hx hb dX1_opened_11 (by rw [c_9]; decide) (by rw [c_9]; decide) (by rw [c_9]; rfl) (by decide) ?_
      refine lv_bipush (v := 30) hx hb dX1_opened_89 (by decide) ?_
      have hP9 := hP.sub (ws' := [(h0, .inr (1, [.int a0, .int a1, .int a2, .int a3, .int a4, .int a5, .int a6, .int a7, .int a8, .int a9, .int a10, .int a11, .ref h1]))]) [0] rfl
      have hD9 := hD.sub (ws' := [(h0, .inr (1, [.int a0, .int a1, .int a2, .int a3, .int a4, .int a5, .int a6, .int a7, .int a8, .int a9, .int a10, .int a11, .ref h1]))]) [0] (by decide) rfl
      have hK9 := hK.sub (tys' := []) [] rfl
      have ef : fx_X1_opened a2 a8 a10 p0 = 30 := by unfold fx_X1_opened; rw [if_pos c_1, if_neg c_2, if_neg c_3, if_neg c_6, if_neg c_7, if_neg c_8, if_pos c_9]
      exact W.iret (v := 30) hx hb hr (fun t ht hW => ⟨⟨30, [(h0, .inr (1, [.int a0, .int a1, .int a2, .int a3, .int a4, .int a5, .int a6, .int a7, .int a8, .int a9, .int a10, .int a11, .ref h1]))], rfl, ⟨ef.symm, rfl⟩, by rw [ht]; exact hP9, va_K.moved hW.alike hK9, hD9⟩, hS.F ht⟩) hS.2.2 dX1_opened_91
    by_cases c_10 : p0 = 6
    · refine lv_tableIn (off := 81) (tgt := 92) hx hb dX1_opened_11 (by rw [c_10]; decide) (by rw [c_10]; decide) (by rw [c_10]; rfl) (by decide) ?_
      refine lv_bipush (v := 61) hx hb dX1_opened_92 (by decide) ?_
      have hP9 := hP.sub (ws' := [(h0, .inr (1, [.int a0, .int a1, .int a2, .int a3, .int a4, .int a5, .int a6, .int a7, .int a8, .int a9, .int a10, .int a11, .ref h1]))]) [0] rfl
      have hD9 := hD.sub (ws' := [(h0, .inr (1, [.int a0, .int a1, .int a2, .int a3, .int a4, .int a5, .int a6, .int a7, .int a8, .int a9, .int a10, .int a11, .ref h1]))]) [0] (by decide) rfl
      have hK9 := hK.sub (tys' := []) [] rfl
      have ef : fx_X1_opened a2 a8 a10 p0 = 61 := by unfold fx_X1_opened; rw [if_pos c_1, if_neg c_2, if_neg c_3, if_neg c_6, if_neg c_7, if_neg c_8, if_neg c_9, if_pos c_10]
      exact W.iret (v := 61) hx hb hr (fun t ht hW => ⟨⟨61, [(h0, .inr (1, [.int a0, .int a1, .int a2, .int a3, .int a4, .int a5, .int a6, .int a7, .int a8, .int a9, .int a10, .int a11, .ref h1]))], rfl, ⟨ef.symm, rfl⟩, by rw [ht]; exact hP9, va_K.moved hW.alike hK9, hD9⟩, hS.F ht⟩) hS.2.2 dX1_opened_94
    refine lv_tableOut (tgt := 95) hx hb dX1_opened_11 (by have n_0 : (p0 : Int32).toInt ≠ 0 := xx_ne c_2 (by decide); have n_1 : (p0 : Int32).toInt ≠ 1 := xx_ne c_3 (by decide); have n_2 : (p0 : Int32).toInt ≠ 2 := xx_ne c_6 (by decide); have n_3 : (p0 : Int32).toInt ≠ 3 := xx_ne c_7 (by decide); have n_4 : (p0 : Int32).toInt ≠ 4 := xx_ne c_8 (by decide); have n_5 : (p0 : Int32).toInt ≠ 5 := xx_ne c_9 (by decide); have n_6 : (p0 : Int32).toInt ≠ 6 := xx_ne c_10 (by decide); omega) (by decide) ?_
    refine lv_bipush (v := 90) hx hb dX1_opened_95 (by decide) ?_
    have hP9 := hP.sub (ws' := [(h0, .inr (1, [.int a0, .int a1, .int a2, .int a3, .int a4, .int a5, .int a6, .int a7, .int a8, .int a9, .int a10, .int a11, .ref h1]))]) [0] rfl
    have hD9 := hD.sub (ws' := [(h0, .inr (1, [.int a0, .int a1, .int a2, .int a3, .int a4, .int a5, .int a6, .int a7, .int a8, .int a9, .int a10, .int a11, .ref h1]))]) [0] (by decide) rfl
    have hK9 := hK.sub (tys' := []) [] rfl
    have ef : fx_X1_opened a2 a8 a10 p0 = 90 := by unfold fx_X1_opened; rw [if_pos c_1, if_neg c_2, if_neg c_3, if_neg c_6, if_neg c_7, if_neg c_8, if_neg c_9, if_neg c_10]
    exact W.iret (v := 90) hx hb hr (fun t ht hW => ⟨⟨90, [(h0, .inr (1, [.int a0, .int a1, .int a2, .int a3, .int a4, .int a5, .int a6, .int a7, .int a8, .int a9, .int a10, .int a11, .ref h1]))], rfl, ⟨ef.symm, rfl⟩, by rw [ht]; exact hP9, va_K.moved hW.alike hK9, hD9⟩, hS.F ht⟩) hS.2.2 dX1_opened_97
  refine lv_bipush (v := 41) hx hb dX1_opened_7 (by decide) ?_
  have hP9 := hP.sub (ws' := [(h0, .inr (1, [.int a0, .int a1, .int a2, .int a3, .int a4, .int a5, .int a6, .int a7, .int a8, .int a9, .int a10, .int a11, .ref h1]))]) [0] rfl
  have hD9 := hD.sub (ws' := [(h0, .inr (1, [.int a0, .int a1, .int a2, .int a3, .int a4, .int a5, .int a6, .int a7, .int a8, .int a9, .int a10, .int a11, .ref h1]))]) [0] (by decide) rfl
  have hK9 := hK.sub (tys' := []) [] rfl
  have ef : fx_X1_opened a2 a8 a10 p0 = 41 := by unfold fx_X1_opened; rw [if_neg c_1]
  exact W.iret (v := 41) hx hb hr (fun t ht hW => ⟨⟨41, [(h0, .inr (1, [.int a0, .int a1, .int a2, .int a3, .int a4, .int a5, .int a6, .int a7, .int a8, .int a9, .int a10, .int a11, .ref h1]))], rfl, ⟨ef.symm, rfl⟩, by rw [ht]; exact hP9, va_K.moved hW.alike hK9, hD9⟩, hS.F ht⟩) hS.2.2 dX1_opened_9
set_option maxHeartbeats 4000000 in
set_option maxRecDepth 100000 in
theorem ct_X1_reads (l : Launch) (dC : Nat → ClassId) (dI : Nat → Nat → Nat) (h0 : Nat) (h1 : Nat) (sz : Nat) (a0 a1 a2 a3 a4 a5 a6 a7 a8 a9 a10 a11 : Int32) : Met l yX1_reads wsX1_reads ({ frames := 0, cells := 0, slots := 0, locals := 0 }) (va_Pc [.ref h0] (fun U => U.heap.size = sz ∧ va_P (dC, dI) vwCl [(h0, .inr (1, [.int a0, .int a1, .int a2, .int a3, .int a4, .int a5, .int a6, .int a7, .int a8, .int a9, .int a10, .int a11, .ref h1]))] U.heap ∧ va_K (dC, dI) vwCl [] U ∧ va_D (fun _ => True) [(h0, .inr (1, [.int a0, .int a1, .int a2, .int a3, .int a4, .int a5, .int a6, .int a7, .int a8, .int a9, .int a10, .int a11, .ref h1]))])) (va_Qi (fun (r : Int32) (u : va_W) => r = fx_X1_reads a2 ∧ u = [(h0, .inr (1, [.int a0, .int a1, .int a2, .int a3, .int a4, .int a5, .int a6, .int a7, .int a8, .int a9, .int a10, .int a11, .ref h1]))]) (at_W dC dI [] (va_A [(h0, .inr (1, [.int a0, .int a1, .int a2, .int a3, .int a4, .int a5, .int a6, .int a7, .int a8, .int a9, .int a10, .int a11, .ref h1]))] sz)) (va_A [(h0, .inr (1, [.int a0, .int a1, .int a2, .int a3, .int a4, .int a5, .int a6, .int a7, .int a8, .int a9, .int a10, .int a11, .ref h1]))] sz)) 0 0 (va_A [(h0, .inr (1, [.int a0, .int a1, .int a2, .int a3, .int a4, .int a5, .int a6, .int a7, .int a8, .int a9, .int a10, .int a11, .ref h1]))] sz) := by
  refine Met.ofW (cc := cX1_reads) (maxL := 1) (ret := (some .boolean)) (by decide) rfl ?_
  intro p e s m args below meth c s₁ B hml hv
  obtain ⟨rfl, hsz, hP, hK, hD0⟩ := hv
  have hx := B.exec
  have hb := B.bytes
  have hr := B.returns
  have hts := atoms_spec (ws := wsX1_reads) B.pre
  have hown : s.vm.findClass RX1 = some m.cls := findClass_of_methodNamed B.named
  have hlocks := B.notSynchronized
  subst hsz
  have hD := hD0.self (sz := s.heap.size)
  generalize hAe : va_A [(h0, .inr (1, [.int a0, .int a1, .int a2, .int a3, .int a4, .int a5, .int a6, .int a7, .int a8, .int a9, .int a10, .int a11, .ref h1]))] s.heap.size = A at hD ⊢
  have hA : ∀ q : Nat, s.heap.size ≤ q → A q := fun q h => by rw [← hAe]; exact Or.inr h
  have hS : va_S A s.heap s.heap [] := va_S.rf
  have hP : va_P (dC, dI) vwCl [(h0, .inr (1, [.int a0, .int a1, .int a2, .int a3, .int a4, .int a5, .int a6, .int a7, .int a8, .int a9, .int a10, .int a11, .ref h1]))] s.heap := hP
  have hl := lv_entry ([.ref h0]) (n := 1) (Nat.le_of_ble_eq_true rfl)
  rw [lg_entry_eq]
  generalize (lg_sl ([.ref h0]) ++ List.replicate (1 - (lg_sl ([.ref h0])).length) Slot.unset).toArray = ls at hl ⊢
  have hl : lv_has ls 1 [(0, .ref h0)] := hl
  refine lv_aload_n hx hb dX1_reads_0 rfl (lv_at hl 0 rfl) ?_
  refine va_get (D := (dC, dI)) (ci := 1) (v := .int a2) (C := RX1) (T := TX1) (N := 13) hx hb hts (fun _ h => List.mem_cons_of_mem _ (List.mem_append_right _ h)) hown hK hP 0 rfl rfl 2 (by decide) (hts (.fieldLink RX1 27 "FileStatusModel" "mode" "I") (by decide +kernel)) (fun _ h9 => h9) rfl dX1_reads_1 ?_
  refine lv_if_eq (tgt := 15) hx hb dX1_reads_4 (by decide) (fun c_1 => ?_) (fun c_1 => ?_)
  · refine lv_iconst (v := 1) hx hb dX1_reads_15 (by decide) ?_
    refine lv_goto (tgt := 20) hx hb dX1_reads_16 (by decide) ?_
    have hP9 := hP.sub (ws' := [(h0, .inr (1, [.int a0, .int a1, .int a2, .int a3, .int a4, .int a5, .int a6, .int a7, .int a8, .int a9, .int a10, .int a11, .ref h1]))]) [0] rfl
    have hD9 := hD.sub (ws' := [(h0, .inr (1, [.int a0, .int a1, .int a2, .int a3, .int a4, .int a5, .int a6, .int a7, .int a8, .int a9, .int a10, .int a11, .ref h1]))]) [0] (by decide) rfl
    have hK9 := hK.sub (tys' := []) [] rfl
    have ef : fx_X1_reads a2 = 1 := by unfold fx_X1_reads; rw [if_pos c_1]
    exact W.zret (v := 1) (ty := .boolean) hx hb hr rfl (fun t ht hW => ⟨⟨1, [(h0, .inr (1, [.int a0, .int a1, .int a2, .int a3, .int a4, .int a5, .int a6, .int a7, .int a8, .int a9, .int a10, .int a11, .ref h1]))], rfl, ⟨ef.symm, rfl⟩, by rw [ht]; exact hP9, va_K.moved hW.alike hK9, hD9⟩, hS.F ht⟩) hS.2.2 dX1_reads_20
  refine lv_aload_n hx hb dX1_reads_7 rfl (lv_at hl 0 rfl) ?_
  refine va_get (D := (dC, dI)) (ci := 1) (v := .int a2) (C := RX1) (T := TX1) (N := 13) hx hb hts (fun _ h => List.mem_cons_of_mem _ (List.mem_append_right _ h)) hown hK hP 0 rfl rfl 2 (by decide) (hts (.fieldLink RX1 27 "FileStatusModel" "mode" "I") (by decide +kernel)) (fun _ h9 => h9) rfl dX1_reads_8 ?_
  refine lv_iconst (v := 2) hx hb dX1_reads_11 (by decide) ?_
  refine lv_icmp_ne (tgt := 19) hx hb dX1_reads_12 (by decide) (fun c_2 => ?_) (fun c_2 => ?_)
  · refine lv_iconst (v := 0) hx hb dX1_reads_19 (by decide) ?_
    have hP9 := hP.sub (ws' := [(h0, .inr (1, [.int a0, .int a1, .int a2, .int a3, .int a4, .int a5, .int a6, .int a7, .int a8, .int a9, .int a10, .int a11, .ref h1]))]) [0] rfl
    have hD9 := hD.sub (ws' := [(h0, .inr (1, [.int a0, .int a1, .int a2, .int a3, .int a4, .int a5, .int a6, .int a7, .int a8, .int a9, .int a10, .int a11, .ref h1]))]) [0] (by decide) rfl
    have hK9 := hK.sub (tys' := []) [] rfl
    have ef : fx_X1_reads a2 = 0 := by unfold fx_X1_reads; rw [if_neg c_1, if_neg c_2]
    exact W.zret (v := 0) (ty := .boolean) hx hb hr rfl (fun t ht hW => ⟨⟨0, [(h0, .inr (1, [.int a0, .int a1, .int a2, .int a3, .int a4, .int a5, .int a6, .int a7, .int a8, .int a9, .int a10, .int a11, .ref h1]))], rfl, ⟨ef.symm, rfl⟩, by rw [ht]; exact hP9, va_K.moved hW.alike hK9, hD9⟩, hS.F ht⟩) hS.2.2 dX1_reads_20
  refine lv_iconst (v := 1) hx hb dX1_reads_15 (by decide) ?_
  refine lv_goto (tgt := 20) hx hb dX1_reads_16 (by decide) ?_
  have hP9 := hP.sub (ws' := [(h0, .inr (1, [.int a0, .int a1, .int a2, .int a3, .int a4, .int a5, .int a6, .int a7, .int a8, .int a9, .int a10, .int a11, .ref h1]))]) [0] rfl
  have hD9 := hD.sub (ws' := [(h0, .inr (1, [.int a0, .int a1, .int a2, .int a3, .int a4, .int a5, .int a6, .int a7, .int a8, .int a9, .int a10, .int a11, .ref h1]))]) [0] (by decide) rfl
  have hK9 := hK.sub (tys' := []) [] rfl
  have ef : fx_X1_reads a2 = 1 := by unfold fx_X1_reads; rw [if_neg c_1, if_pos c_2]
  exact W.zret (v := 1) (ty := .boolean) hx hb hr rfl (fun t ht hW => ⟨⟨1, [(h0, .inr (1, [.int a0, .int a1, .int a2, .int a3, .int a4, .int a5, .int a6, .int a7, .int a8, .int a9, .int a10, .int a11, .ref h1]))], rfl, ⟨ef.symm, rfl⟩, by rw [ht]; exact hP9, va_K.moved hW.alike hK9, hD9⟩, hS.F ht⟩) hS.2.2 dX1_reads_20
set_option maxHeartbeats 4000000 in
set_option maxRecDepth 100000 in
theorem ct_X1_ahead (l : Launch) (dC : Nat → ClassId) (dI : Nat → Nat → Nat) (h0 : Nat) (h1 : Nat) (sz : Nat) (a0 a1 a2 a3 a4 a5 a6 a7 a8 a9 a10 a11 p0 : Int32) : Met l yX1_ahead wsX1_ahead ({ frames := 1, cells := 0, slots := 0, locals := 20 }) (va_Pc [.ref h0, .int p0] (fun U => U.heap.size = sz ∧ va_P (dC, dI) vwCl [(h0, .inr (1, [.int a0, .int a1, .int a2, .int a3, .int a4, .int a5, .int a6, .int a7, .int a8, .int a9, .int a10, .int a11, .ref h1]))] U.heap ∧ va_K (dC, dI) vwCl [] U ∧ va_D (fun _ => True) [(h0, .inr (1, [.int a0, .int a1, .int a2, .int a3, .int a4, .int a5, .int a6, .int a7, .int a8, .int a9, .int a10, .int a11, .ref h1]))])) (va_Qi (fun (r : Int32) (u : va_W) => r = fx_X1_ahead a1 a2 a3 a8 a9 p0 ∧ u = [(h0, .inr (1, [.int a0, .int a1, .int a2, .int a3, .int a4, .int a5, .int a6, .int a7, .int a8, .int a9, .int a10, .int a11, .ref h1]))]) (at_W dC dI [] (va_A [(h0, .inr (1, [.int a0, .int a1, .int a2, .int a3, .int a4, .int a5, .int a6, .int a7, .int a8, .int a9, .int a10, .int a11, .ref h1]))] sz)) (va_A [(h0, .inr (1, [.int a0, .int a1, .int a2, .int a3, .int a4, .int a5, .int a6, .int a7, .int a8, .int a9, .int a10, .int a11, .ref h1]))] sz)) 0 0 (va_A [(h0, .inr (1, [.int a0, .int a1, .int a2, .int a3, .int a4, .int a5, .int a6, .int a7, .int a8, .int a9, .int a10, .int a11, .ref h1]))] sz) := by
  refine Met.ofW (cc := cX1_ahead) (maxL := 2) (ret := (some .int)) (by decide) rfl ?_
  intro p e s m args below meth c s₁ B hml hv
  obtain ⟨rfl, hsz, hP, hK, hD0⟩ := hv
  have hx := B.exec
  have hb := B.bytes
  have hr := B.returns
  have hts := atoms_spec (ws := wsX1_ahead) B.pre
  have hown : s.vm.findClass RX1 = some m.cls := findClass_of_methodNamed B.named
  have hlocks := B.notSynchronized
  subst hsz
  have hD := hD0.self (sz := s.heap.size)
  generalize hAe : va_A [(h0, .inr (1, [.int a0, .int a1, .int a2, .int a3, .int a4, .int a5, .int a6, .int a7, .int a8, .int a9, .int a10, .int a11, .ref h1]))] s.heap.size = A at hD ⊢
  have hA : ∀ q : Nat, s.heap.size ≤ q → A q := fun q h => by rw [← hAe]; exact Or.inr h
  have hS : va_S A s.heap s.heap [] := va_S.rf
  have hP : va_P (dC, dI) vwCl [(h0, .inr (1, [.int a0, .int a1, .int a2, .int a3, .int a4, .int a5, .int a6, .int a7, .int a8, .int a9, .int a10, .int a11, .ref h1]))] s.heap := hP
  have hl := lv_entry ([.ref h0, .int p0]) (n := 2) (Nat.le_of_ble_eq_true rfl)
  rw [lg_entry_eq]
  generalize (lg_sl ([.ref h0, .int p0]) ++ List.replicate (2 - (lg_sl ([.ref h0, .int p0])).length) Slot.unset).toArray = ls at hl ⊢
  have hl : lv_has ls 2 [(0, .ref h0), (1, .int p0)] := hl
  refine lv_aload_n hx hb dX1_ahead_0 rfl (lv_at hl 0 rfl) ?_
  refine va_get (D := (dC, dI)) (ci := 1) (v := .int a8) (C := RX1) (T := TX1) (N := 13) hx hb hts (fun _ h => List.mem_cons_of_mem _ (List.mem_append_right _ h)) hown hK hP 0 rfl rfl 8 (by decide) (hts (.fieldLink RX1 23 "FileStatusModel" "isOpen" "Z") (by decide +kernel)) (fun _ h9 => h9) rfl dX1_ahead_1 ?_
  refine lv_if_ne (tgt := 10) hx hb dX1_ahead_4 (by decide) (fun c_1 => ?_) (fun c_1 => ?_)
  · refine lv_aload_n hx hb dX1_ahead_10 rfl (lv_at hl 0 rfl) ?_
    refine va_get (D := (dC, dI)) (ci := 1) (v := .int a1) (C := RX1) (T := TX1) (N := 13) hx hb hts (fun _ h => List.mem_cons_of_mem _ (List.mem_append_right _ h)) hown hK hP 0 rfl rfl 1 (by decide) (hts (.fieldLink RX1 17 "FileStatusModel" "organisation" "I") (by decide +kernel)) (fun _ h9 => h9) rfl dX1_ahead_11 ?_
    refine lv_if_ne (tgt := 35) hx hb dX1_ahead_14 (by decide) (fun c_2 => ?_) (fun c_2 => ?_)
    · refine lv_iload_n hx hb dX1_ahead_35 rfl (lv_at hl 1 rfl) ?_
      refine lv_if_eq (tgt := 49) hx hb dX1_ahead_36 (by decide) (fun c_3 => ?_) (fun c_3 => ?_)
      · refine lv_aload_n hx hb dX1_ahead_49 rfl (lv_at hl 0 rfl) ?_
        have hPc := hP.sub (ws' := [(h0, .inr (1, [.int a0, .int a1, .int a2, .int a3, .int a4, .int a5, .int a6, .int a7, .int a8, .int a9, .int a10, .int a11, .ref h1]))]) [0] rfl
        have hDc := hD.sub (ws' := [(h0, .inr (1, [.int a0, .int a1, .int a2, .int a3, .int a4, .int a5, .int a6, .int a7, .int a8, .int a9, .int a10, .int a11, .ref h1]))]) [0] (by decide) rfl
        have hKc := hK.sub (tys' := []) [] rfl
        have hFc := va_free (wc := [(h0, .inr (1, [.int a0, .int a1, .int a2, .int a3, .int a4, .int a5, .int a6, .int a7, .int a8, .int a9, .int a10, .int a11, .ref h1]))]) hD hS hA [0] rfl
        refine va_calli (va_runV (As := []) (rest := []) ⟨hx, hb, hml, hown, hts⟩ (ct_X1_reads l dC dI h0 h1 s.heap.size a0 a1 a2 a3 a4 a5 a6 a7 a8 a9 a10 a11) (cwV 0 hts gX1_ahead_X1_reads rfl rfl rfl (by decide +kernel) ⟨Nat.le_of_ble_eq_true rfl, Nat.le_of_ble_eq_true rfl⟩) ⟨fun a U g mk q => by obtain ⟨q0, q1, qP, qK, qD⟩ := q; exact ⟨q0, q1, qP, va_K.moved (u := U) (U := U.calling g mk a) (Vm.Alike.refl U.vm) qK, qD⟩, va_recv hKc hPc (ci := 1) (q0 := 0) rfl rfl, fun U hU hW => ⟨rfl, by rw [hU], by rw [hU]; exact hPc, va_K.moved hW.alike hKc, hDc.weaken (fun _ _ _ _ => trivial)⟩⟩ rfl rfl hl.1 rfl (lv_room (Nat.le_of_ble_eq_true rfl)) dX1_ahead_50 ⟨(Nat.zero_le _), (Nat.zero_le _)⟩) hS (fun q _ h => hFc q h) hFc (fun r_4 u t H1 locs ht hvm hw hB hz1 hk1 hS => ?_)
        obtain ⟨er, hu⟩ := hw
        subst hu
        subst er
        obtain ⟨hP1, -, hD1⟩ := hB
        rw [ht] at hP1
        obtain ⟨hP, hD⟩ := va_join (wr := []) (w1 := [(h0, .inr (1, [.int a0, .int a1, .int a2, .int a3, .int a4, .int a5, .int a6, .int a7, .int a8, .int a9, .int a10, .int a11, .ref h1]))]) hP hD [0] [] rfl rfl (by decide) (by decide) hk1 hFc hP1 hD1
        generalize H1 = H at hP hS ⊢
        have hP : va_P (dC, dI) vwCl [(h0, .inr (1, [.int a0, .int a1, .int a2, .int a3, .int a4, .int a5, .int a6, .int a7, .int a8, .int a9, .int a10, .int a11, .ref h1]))] H := hP
        have hD : va_D A [(h0, .inr (1, [.int a0, .int a1, .int a2, .int a3, .int a4, .int a5, .int a6, .int a7, .int a8, .int a9, .int a10, .int a11, .ref h1]))] := hD
        refine lv_if_ne (tgt := 59) hx hb dX1_ahead_53 (by decide) (fun c_5 => ?_) (fun c_5 => ?_)
        · refine lv_iload_n hx hb dX1_ahead_59 rfl (lv_at hl 1 rfl) ?_
          refine lv_iconst (v := 2) hx hb dX1_ahead_60 (by decide) ?_
          refine lv_icmp_ne (tgt := 89) hx hb dX1_ahead_61 (by decide) (fun c9 => ?_) (fun c9 => absurd (c_3.symm.trans c9) (by decide))
          refine lv_iload_n hx hb dX1_ahead_89 rfl (lv_at hl 1 rfl) ?_
          refine lv_iconst (v := 3) hx hb dX1_ahead_90 (by decide) ?_
          refine lv_icmp_eq (tgt := 99) hx hb dX1_ahead_91 (by decide) (fun c9 => absurd (c_3.symm.trans c9) (by decide)) (fun c9 => ?_)
          refine lv_iload_n hx hb dX1_ahead_94 rfl (lv_at hl 1 rfl) ?_
          refine lv_iconst (v := 4) hx hb dX1_ahead_95 (by decide) ?_
          refine lv_icmp_ne (tgt := 110) hx hb dX1_ahead_96 (by decide) (fun c9 => ?_) (fun c9 => absurd (c_3.symm.trans c9) (by decide))
          refine lv_iload_n hx hb dX1_ahead_110 rfl (lv_at hl 1 rfl) ?_
          refine lv_iconst (v := 3) hx hb dX1_ahead_111 (by decide) ?_
          refine lv_icmp_ne (tgt := 132) hx hb dX1_ahead_112 (by decide) (fun c9 => ?_) (fun c9 => absurd (c_3.symm.trans c9) (by decide))
          refine lv_iload_n hx hb dX1_ahead_132 rfl (lv_at hl 1 rfl) ?_
          refine lv_if_ne (tgt := 155) hx hb dX1_ahead_133 (by decide) (fun c9 => absurd c_3 c9) (fun c9 => ?_)
          refine lv_aload_n hx hb dX1_ahead_136 rfl (lv_at hl 0 rfl) ?_
          refine va_get (D := (dC, dI)) (ci := 1) (v := .int a3) (C := RX1) (T := TX1) (N := 13) hx hb hts (fun _ h => List.mem_cons_of_mem _ (List.mem_append_right _ h)) hown hK hP 0 rfl rfl 3 (by decide) (hts (.fieldLink RX1 50 "FileStatusModel" "position" "I") (by decide +kernel)) (fun _ h9 => h9) rfl dX1_ahead_137 ?_
          refine lv_iconst (v := 2) hx hb dX1_ahead_140 (by decide) ?_
          refine lv_icmp_eq (tgt := 152) hx hb dX1_ahead_141 (by decide) (fun c_6 => ?_) (fun c_6 => ?_)
          · refine lv_bipush (v := 46) hx hb dX1_ahead_152 (by decide) ?_
            have hP9 := hP.sub (ws' := [(h0, .inr (1, [.int a0, .int a1, .int a2, .int a3, .int a4, .int a5, .int a6, .int a7, .int a8, .int a9, .int a10, .int a11, .ref h1]))]) [0] rfl
            have hD9 := hD.sub (ws' := [(h0, .inr (1, [.int a0, .int a1, .int a2, .int a3, .int a4, .int a5, .int a6, .int a7, .int a8, .int a9, .int a10, .int a11, .ref h1]))]) [0] (by decide) rfl
            have hK9 := hK.sub (tys' := []) [] rfl
            have ef : fx_X1_ahead a1 a2 a3 a8 a9 p0 = 46 := by unfold fx_X1_ahead; rw [if_neg c_1, if_neg c_2, if_pos c_3, if_neg c_5, if_pos c_6]
            exact W.iret (v := 46) hx hb hr (fun t ht hW => ⟨⟨46, [(h0, .inr (1, [.int a0, .int a1, .int a2, .int a3, .int a4, .int a5, .int a6, .int a7, .int a8, .int a9, .int a10, .int a11, .ref h1]))], rfl, ⟨ef.symm, rfl⟩, by rw [ht]; exact hP9, va_K.moved hW.alike hK9, hD9⟩, hS.F ht⟩) hS.2.2 dX1_ahead_154
          refine lv_aload_n hx hb dX1_ahead_144 rfl (lv_at hl 0 rfl) ?_
          refine va_get (D := (dC, dI)) (ci := 1) (v := .int a3) (C := RX1) (T := TX1) (N := 13) hx hb hts (fun _ h => List.mem_cons_of_mem _ (List.mem_append_right _ h)) hown hK hP 0 rfl rfl 3 (by decide) (hts (.fieldLink RX1 50 "FileStatusModel" "position" "I") (by decide +kernel)) (fun _ h9 => h9) rfl dX1_ahead_145 ?_
          refine lv_iconst (v := 3) hx hb dX1_ahead_148 (by decide) ?_
          refine lv_icmp_ne (tgt := 155) hx hb dX1_ahead_149 (by decide) (fun c_7 => ?_) (fun c_7 => ?_)
          · refine lv_iconst (v := 0) hx hb dX1_ahead_155 (by decide) ?_
            have hP9 := hP.sub (ws' := [(h0, .inr (1, [.int a0, .int a1, .int a2, .int a3, .int a4, .int a5, .int a6, .int a7, .int a8, .int a9, .int a10, .int a11, .ref h1]))]) [0] rfl
            have hD9 := hD.sub (ws' := [(h0, .inr (1, [.int a0, .int a1, .int a2, .int a3, .int a4, .int a5, .int a6, .int a7, .int a8, .int a9, .int a10, .int a11, .ref h1]))]) [0] (by decide) rfl
            have hK9 := hK.sub (tys' := []) [] rfl
            have ef : fx_X1_ahead a1 a2 a3 a8 a9 p0 = 0 := by unfold fx_X1_ahead; rw [if_neg c_1, if_neg c_2, if_pos c_3, if_neg c_5, if_neg c_6, if_neg c_7]
            exact W.iret (v := 0) hx hb hr (fun t ht hW => ⟨⟨0, [(h0, .inr (1, [.int a0, .int a1, .int a2, .int a3, .int a4, .int a5, .int a6, .int a7, .int a8, .int a9, .int a10, .int a11, .ref h1]))], rfl, ⟨ef.symm, rfl⟩, by rw [ht]; exact hP9, va_K.moved hW.alike hK9, hD9⟩, hS.F ht⟩) hS.2.2 dX1_ahead_156
          refine lv_bipush (v := 46) hx hb dX1_ahead_152 (by decide) ?_
          have hP9 := hP.sub (ws' := [(h0, .inr (1, [.int a0, .int a1, .int a2, .int a3, .int a4, .int a5, .int a6, .int a7, .int a8, .int a9, .int a10, .int a11, .ref h1]))]) [0] rfl
          have hD9 := hD.sub (ws' := [(h0, .inr (1, [.int a0, .int a1, .int a2, .int a3, .int a4, .int a5, .int a6, .int a7, .int a8, .int a9, .int a10, .int a11, .ref h1]))]) [0] (by decide) rfl
          have hK9 := hK.sub (tys' := []) [] rfl
          have ef : fx_X1_ahead a1 a2 a3 a8 a9 p0 = 46 := by unfold fx_X1_ahead; rw [if_neg c_1, if_neg c_2, if_pos c_3, if_neg c_5, if_neg c_6, if_pos c_7]
          exact W.iret (v := 46) hx hb hr (fun t ht hW => ⟨⟨46, [(h0, .inr (1, [.int a0, .int a1, .int a2, .int a3, .int a4, .int a5, .int a6, .int a7, .int a8, .int a9, .int a10, .int a11, .ref h1]))], rfl, ⟨ef.symm, rfl⟩, by rw [ht]; exact hP9, va_K.moved hW.alike hK9, hD9⟩, hS.F ht⟩) hS.2.2 dX1_ahead_154
        refine lv_bipush (v := 47) hx hb dX1_ahead_56 (by decide) ?_
        have hP9 := hP.sub (ws' := [(h0, .inr (1, [.int a0, .int a1, .int a2, .int a3, .int a4, .int a5, .int a6, .int a7, .int a8, .int a9, .int a10, .int a11, .ref h1]))]) [0] rfl
        have hD9 := hD.sub (ws' := [(h0, .inr (1, [.int a0, .int a1, .int a2, .int a3, .int a4, .int a5, .int a6, .int a7, .int a8, .int a9, .int a10, .int a11, .ref h1]))]) [0] (by decide) rfl
        have hK9 := hK.sub (tys' := []) [] rfl
        have ef : fx_X1_ahead a1 a2 a3 a8 a9 p0 = 47 := by unfold fx_X1_ahead; rw [if_neg c_1, if_neg c_2, if_pos c_3, if_pos c_5]
        exact W.iret (v := 47) hx hb hr (fun t ht hW => ⟨⟨47, [(h0, .inr (1, [.int a0, .int a1, .int a2, .int a3, .int a4, .int a5, .int a6, .int a7, .int a8, .int a9, .int a10, .int a11, .ref h1]))], rfl, ⟨ef.symm, rfl⟩, by rw [ht]; exact hP9, va_K.moved hW.alike hK9, hD9⟩, hS.F ht⟩) hS.2.2 dX1_ahead_58
      refine lv_iload_n hx hb dX1_ahead_39 rfl (lv_at hl 1 rfl) ?_
      refine lv_iconst (v := 1) hx hb dX1_ahead_40 (by decide) ?_
      refine lv_icmp_eq (tgt := 49) hx hb dX1_ahead_41 (by decide) (fun c_8 => ?_) (fun c_8 => ?_)
      · refine lv_aload_n hx hb dX1_ahead_49 rfl (lv_at hl 0 rfl) ?_
        have hPc := hP.sub (ws' := [(h0, .inr (1, [.int a0, .int a1, .int a2, .int a3, .int a4, .int a5, .int a6, .int a7, .int a8, .int a9, .int a10, .int a11, .ref h1]))]) [0] rfl
        have hDc := hD.sub (ws' := [(h0, .inr (1, [.int a0, .int a1, .int a2, .int a3, .int a4, .int a5, .int a6, .int a7, .int a8, .int a9, .int a10, .int a11, .ref h1]))]) [0] (by decide) rfl
        have hKc := hK.sub (tys' := []) [] rfl
        have hFc := va_free (wc := [(h0, .inr (1, [.int a0, .int a1, .int a2, .int a3, .int a4, .int a5, .int a6, .int a7, .int a8, .int a9, .int a10, .int a11, .ref h1]))]) hD hS hA [0] rfl
        refine va_calli (va_runV (As := []) (rest := []) ⟨hx, hb, hml, hown, hts⟩ (ct_X1_reads l dC dI h0 h1 s.heap.size a0 a1 a2 a3 a4 a5 a6 a7 a8 a9 a10 a11) (cwV 0 hts gX1_ahead_X1_reads rfl rfl rfl (by decide +kernel) ⟨Nat.le_of_ble_eq_true rfl, Nat.le_of_ble_eq_true rfl⟩) ⟨fun a U g mk q => by obtain ⟨q0, q1, qP, qK, qD⟩ := q; exact ⟨q0, q1, qP, va_K.moved (u := U) (U := U.calling g mk a) (Vm.Alike.refl U.vm) qK, qD⟩, va_recv hKc hPc (ci := 1) (q0 := 0) rfl rfl, fun U hU hW => ⟨rfl, by rw [hU], by rw [hU]; exact hPc, va_K.moved hW.alike hKc, hDc.weaken (fun _ _ _ _ => trivial)⟩⟩ rfl rfl hl.1 rfl (lv_room (Nat.le_of_ble_eq_true rfl)) dX1_ahead_50 ⟨(Nat.zero_le _), (Nat.zero_le _)⟩) hS (fun q _ h => hFc q h) hFc (fun r_9 u t H1 locs ht hvm hw hB hz1 hk1 hS => ?_)
        obtain ⟨er, hu⟩ := hw
        subst hu
        subst er
        obtain ⟨hP1, -, hD1⟩ := hB
        rw [ht] at hP1
        obtain ⟨hP, hD⟩ := va_join (wr := []) (w1 := [(h0, .inr (1, [.int a0, .int a1, .int a2, .int a3, .int a4, .int a5, .int a6, .int a7, .int a8, .int a9, .int a10, .int a11, .ref h1]))]) hP hD [0] [] rfl rfl (by decide) (by decide) hk1 hFc hP1 hD1
        generalize H1 = H at hP hS ⊢
        have hP : va_P (dC, dI) vwCl [(h0, .inr (1, [.int a0, .int a1, .int a2, .int a3, .int a4, .int a5, .int a6, .int a7, .int a8, .int a9, .int a10, .int a11, .ref h1]))] H := hP
        have hD : va_D A [(h0, .inr (1, [.int a0, .int a1, .int a2, .int a3, .int a4, .int a5, .int a6, .int a7, .int a8, .int a9, .int a10, .int a11, .ref h1]))] := hD
        refine lv_if_ne (tgt := 59) hx hb dX1_ahead_53 (by decide) (fun c_10 => ?_) (fun c_10 => ?_)
        · refine lv_iload_n hx hb dX1_ahead_59 rfl (lv_at hl 1 rfl) ?_
          refine lv_iconst (v := 2) hx hb dX1_ahead_60 (by decide) ?_
          refine lv_icmp_ne (tgt := 89) hx hb dX1_ahead_61 (by decide) (fun c9 => ?_) (fun c9 => absurd (c_8.symm.trans c9) (by decide))
          refine lv_iload_n hx hb dX1_ahead_89 rfl (lv_at hl 1 rfl) ?_
          refine lv_iconst (v := 3) hx hb dX1_ahead_90 (by decide) ?_
          refine lv_icmp_eq (tgt := 99) hx hb dX1_ahead_91 (by decide) (fun c9 => absurd (c_8.symm.trans c9) (by decide)) (fun c9 => ?_)
          refine lv_iload_n hx hb dX1_ahead_94 rfl (lv_at hl 1 rfl) ?_
          refine lv_iconst (v := 4) hx hb dX1_ahead_95 (by decide) ?_
          refine lv_icmp_ne (tgt := 110) hx hb dX1_ahead_96 (by decide) (fun c9 => ?_) (fun c9 => absurd (c_8.symm.trans c9) (by decide))
          refine lv_iload_n hx hb dX1_ahead_110 rfl (lv_at hl 1 rfl) ?_
          refine lv_iconst (v := 3) hx hb dX1_ahead_111 (by decide) ?_
          refine lv_icmp_ne (tgt := 132) hx hb dX1_ahead_112 (by decide) (fun c9 => ?_) (fun c9 => absurd (c_8.symm.trans c9) (by decide))
          refine lv_iload_n hx hb dX1_ahead_132 rfl (lv_at hl 1 rfl) ?_
          refine lv_if_ne (tgt := 155) hx hb dX1_ahead_133 (by decide) (fun c9 => ?_) (fun c9 => absurd c9 c_3)
          refine lv_iconst (v := 0) hx hb dX1_ahead_155 (by decide) ?_
          have hP9 := hP.sub (ws' := [(h0, .inr (1, [.int a0, .int a1, .int a2, .int a3, .int a4, .int a5, .int a6, .int a7, .int a8, .int a9, .int a10, .int a11, .ref h1]))]) [0] rfl
          have hD9 := hD.sub (ws' := [(h0, .inr (1, [.int a0, .int a1, .int a2, .int a3, .int a4, .int a5, .int a6, .int a7, .int a8, .int a9, .int a10, .int a11, .ref h1]))]) [0] (by decide) rfl
          have hK9 := hK.sub (tys' := []) [] rfl
          have ef : fx_X1_ahead a1 a2 a3 a8 a9 p0 = 0 := by unfold fx_X1_ahead; rw [if_neg c_1, if_neg c_2, if_neg c_3, if_pos c_8, if_neg c_10]
          exact W.iret (v := 0) hx hb hr (fun t ht hW => ⟨⟨0, [(h0, .inr (1, [.int a0, .int a1, .int a2, .int a3, .int a4, .int a5, .int a6, .int a7, .int a8, .int a9, .int a10, .int a11, .ref h1]))], rfl, ⟨ef.symm, rfl⟩, by rw [ht]; exact hP9, va_K.moved hW.alike hK9, hD9⟩, hS.F ht⟩) hS.2.2 dX1_ahead_156
        refine lv_bipush (v := 47) hx hb dX1_ahead_56 (by decide) ?_
        have hP9 := hP.sub (ws' := [(h0, .inr (1, [.int a0, .int a1, .int a2, .int a3, .int a4, .int a5, .int a6, .int a7, .int a8, .int a9, .int a10, .int a11, .ref h1]))]) [0] rfl
        have hD9 := hD.sub (ws' := [(h0, .inr (1, [.int a0, .int a1, .int a2, .int a3, .int a4, .int a5, .int a6, .int a7, .int a8, .int a9, .int a10, .int a11, .ref h1]))]) [0] (by decide) rfl
        have hK9 := hK.sub (tys' := []) [] rfl
        have ef : fx_X1_ahead a1 a2 a3 a8 a9 p0 = 47 := by unfold fx_X1_ahead; rw [if_neg c_1, if_neg c_2, if_neg c_3, if_pos c_8, if_pos c_10]
        exact W.iret (v := 47) hx hb hr (fun t ht hW => ⟨⟨47, [(h0, .inr (1, [.int a0, .int a1, .int a2, .int a3, .int a4, .int a5, .int a6, .int a7, .int a8, .int a9, .int a10, .int a11, .ref h1]))], rfl, ⟨ef.symm, rfl⟩, by rw [ht]; exact hP9, va_K.moved hW.alike hK9, hD9⟩, hS.F ht⟩) hS.2.2 dX1_ahead_58
      refine lv_iload_n hx hb dX1_ahead_44 rfl (lv_at hl 1 rfl) ?_
      refine lv_iconst (v := 5) hx hb dX1_ahead_45 (by decide) ?_
      refine lv_icmp_ne (tgt := 59) hx hb dX1_ahead_46 (by decide) (fun c_11 => ?_) (fun c_11 => ?_)
      · refine lv_iload_n hx hb dX1_ahead_59 rfl (lv_at hl 1 rfl) ?_
        refine lv_iconst (v := 2) hx hb dX1_ahead_60 (by decide) ?_
        refine lv_icmp_ne (tgt := 89) hx hb dX1_ahead_61 (by decide) (fun c_12 => ?_) (fun c_12 => ?_)
        · refine lv_iload_n hx hb dX1_ahead_89 rfl (lv_at hl 1 rfl) ?_
          refine lv_iconst (v := 3) hx hb dX1_ahead_90 (by decide) ?_
          refine lv_icmp_eq (tgt := 99) hx hb dX1_ahead_91 (by decide) (fun c_13 => ?_) (fun c_13 => ?_)
          · refine lv_aload_n hx hb dX1_ahead_99 rfl (lv_at hl 0 rfl) ?_
            refine va_get (D := (dC, dI)) (ci := 1) (v := .int a2) (C := RX1) (T := TX1) (N := 13) hx hb hts (fun _ h => List.mem_cons_of_mem _ (List.mem_append_right _ h)) hown hK hP 0 rfl rfl 2 (by decide) (hts (.fieldLink RX1 27 "FileStatusModel" "mode" "I") (by decide +kernel)) (fun _ h9 => h9) rfl dX1_ahead_100 ?_
            refine lv_iconst (v := 2) hx hb dX1_ahead_103 (by decide) ?_
            refine lv_icmp_eq (tgt := 110) hx hb dX1_ahead_104 (by decide) (fun c_14 => ?_) (fun c_14 => ?_)
            · refine lv_iload_n hx hb dX1_ahead_110 rfl (lv_at hl 1 rfl) ?_
              refine lv_iconst (v := 3) hx hb dX1_ahead_111 (by decide) ?_
              refine lv_icmp_ne (tgt := 132) hx hb dX1_ahead_112 (by decide) (fun c9 => absurd c_13 c9) (fun c9 => ?_)
              refine lv_aload_n hx hb dX1_ahead_115 rfl (lv_at hl 0 rfl) ?_
              refine va_get (D := (dC, dI)) (ci := 1) (v := .int a1) (C := RX1) (T := TX1) (N := 13) hx hb hts (fun _ h => List.mem_cons_of_mem _ (List.mem_append_right _ h)) hown hK hP 0 rfl rfl 1 (by decide) (hts (.fieldLink RX1 17 "FileStatusModel" "organisation" "I") (by decide +kernel)) (fun _ h9 => h9) rfl dX1_ahead_116 ?_
              refine lv_if_ne (tgt := 132) hx hb dX1_ahead_119 (by decide) (fun c9 => ?_) (fun c9 => absurd c9 c_2)
              refine lv_iload_n hx hb dX1_ahead_132 rfl (lv_at hl 1 rfl) ?_
              refine lv_if_ne (tgt := 155) hx hb dX1_ahead_133 (by decide) (fun c9 => ?_) (fun c9 => absurd c9 c_3)
              refine lv_iconst (v := 0) hx hb dX1_ahead_155 (by decide) ?_
              have hP9 := hP.sub (ws' := [(h0, .inr (1, [.int a0, .int a1, .int a2, .int a3, .int a4, .int a5, .int a6, .int a7, .int a8, .int a9, .int a10, .int a11, .ref h1]))]) [0] rfl
              have hD9 := hD.sub (ws' := [(h0, .inr (1, [.int a0, .int a1, .int a2, .int a3, .int a4, .int a5, .int a6, .int a7, .int a8, .int a9, .int a10, .int a11, .ref h1]))]) [0] (by decide) rfl
              have hK9 := hK.sub (tys' := []) [] rfl
              have ef : fx_X1_ahead a1 a2 a3 a8 a9 p0 = 0 := by unfold fx_X1_ahead; rw [if_neg c_1, if_neg c_2, if_neg c_3, if_neg c_8, if_neg c_11, if_neg c_12, if_pos c_13, if_pos c_14]
              exact W.iret (v := 0) hx hb hr (fun t ht hW => ⟨⟨0, [(h0, .inr (1, [.int a0, .int a1, .int a2, .int a3, .int a4, .int a5, .int a6, .int a7, .int a8, .int a9, .int a10, .int a11, .ref h1]))], rfl, ⟨ef.symm, rfl⟩, by rw [ht]; exact hP9, va_K.moved hW.alike hK9, hD9⟩, hS.F ht⟩) hS.2.2 dX1_ahead_156
            refine lv_bipush (v := 49) hx hb dX1_ahead_107 (by decide) ?_
            have hP9 := hP.sub (ws' := [(h0, .inr (1, [.int a0, .int a1, .int a2, .int a3, .int a4, .int a5, .int a6, .int a7, .int a8, .int a9, .int a10, .int a11, .ref h1]))]) [0] rfl
            have hD9 := hD.sub (ws' := [(h0, .inr (1, [.int a0, .int a1, .int a2, .int a3, .int a4, .int a5, .int a6, .int a7, .int a8, .int a9, .int a10, .int a11, .ref h1]))]) [0] (by decide) rfl
            have hK9 := hK.sub (tys' := []) [] rfl
            have ef : fx_X1_ahead a1 a2 a3 a8 a9 p0 = 49 := by unfold fx_X1_ahead; rw [if_neg c_1, if_neg c_2, if_neg c_3, if_neg c_8, if_neg c_11, if_neg c_12, if_pos c_13, if_neg c_14]
            exact W.iret (v := 49) hx hb hr (fun t ht hW => ⟨⟨49, [(h0, .inr (1, [.int a0, .int a1, .int a2, .int a3, .int a4, .int a5, .int a6, .int a7, .int a8, .int a9, .int a10, .int a11, .ref h1]))], rfl, ⟨ef.symm, rfl⟩, by rw [ht]; exact hP9, va_K.moved hW.alike hK9, hD9⟩, hS.F ht⟩) hS.2.2 dX1_ahead_109
          refine lv_iload_n hx hb dX1_ahead_94 rfl (lv_at hl 1 rfl) ?_
          refine lv_iconst (v := 4) hx hb dX1_ahead_95 (by decide) ?_
          refine lv_icmp_ne (tgt := 110) hx hb dX1_ahead_96 (by decide) (fun c_15 => ?_) (fun c_15 => ?_)
          · refine lv_iload_n hx hb dX1_ahead_110 rfl (lv_at hl 1 rfl) ?_
            refine lv_iconst (v := 3) hx hb dX1_ahead_111 (by decide) ?_
            refine lv_icmp_ne (tgt := 132) hx hb dX1_ahead_112 (by decide) (fun c9 => ?_) (fun c9 => absurd c9 c_13)
            refine lv_iload_n hx hb dX1_ahead_132 rfl (lv_at hl 1 rfl) ?_
            refine lv_if_ne (tgt := 155) hx hb dX1_ahead_133 (by decide) (fun c9 => ?_) (fun c9 => absurd c9 c_3)
            refine lv_iconst (v := 0) hx hb dX1_ahead_155 (by decide) ?_
            have hP9 := hP.sub (ws' := [(h0, .inr (1, [.int a0, .int a1, .int a2, .int a3, .int a4, .int a5, .int a6, .int a7, .int a8, .int a9, .int a10, .int a11, .ref h1]))]) [0] rfl
            have hD9 := hD.sub (ws' := [(h0, .inr (1, [.int a0, .int a1, .int a2, .int a3, .int a4, .int a5, .int a6, .int a7, .int a8, .int a9, .int a10, .int a11, .ref h1]))]) [0] (by decide) rfl
            have hK9 := hK.sub (tys' := []) [] rfl
            have ef : fx_X1_ahead a1 a2 a3 a8 a9 p0 = 0 := by unfold fx_X1_ahead; rw [if_neg c_1, if_neg c_2, if_neg c_3, if_neg c_8, if_neg c_11, if_neg c_12, if_neg c_13, if_neg c_15]
            exact W.iret (v := 0) hx hb hr (fun t ht hW => ⟨⟨0, [(h0, .inr (1, [.int a0, .int a1, .int a2, .int a3, .int a4, .int a5, .int a6, .int a7, .int a8, .int a9, .int a10, .int a11, .ref h1]))], rfl, ⟨ef.symm, rfl⟩, by rw [ht]; exact hP9, va_K.moved hW.alike hK9, hD9⟩, hS.F ht⟩) hS.2.2 dX1_ahead_156
          refine lv_aload_n hx hb dX1_ahead_99 rfl (lv_at hl 0 rfl) ?_
          refine va_get (D := (dC, dI)) (ci := 1) (v := .int a2) (C := RX1) (T := TX1) (N := 13) hx hb hts (fun _ h => List.mem_cons_of_mem _ (List.mem_append_right _ h)) hown hK hP 0 rfl rfl 2 (by decide) (hts (.fieldLink RX1 27 "FileStatusModel" "mode" "I") (by decide +kernel)) (fun _ h9 => h9) rfl dX1_ahead_100 ?_
          refine lv_iconst (v := 2) hx hb dX1_ahead_103 (by decide) ?_
          refine lv_icmp_eq (tgt := 110) hx hb dX1_ahead_104 (by decide) (fun c_16 => ?_) (fun c_16 => ?_)
          · refine lv_iload_n hx hb dX1_ahead_110 rfl (lv_at hl 1 rfl) ?_
            refine lv_iconst (v := 3) hx hb dX1_ahead_111 (by decide) ?_
            refine lv_icmp_ne (tgt := 132) hx hb dX1_ahead_112 (by decide) (fun c9 => ?_) (fun c9 => absurd c9 c_13)
            refine lv_iload_n hx hb dX1_ahead_132 rfl (lv_at hl 1 rfl) ?_
            refine lv_if_ne (tgt := 155) hx hb dX1_ahead_133 (by decide) (fun c9 => ?_) (fun c9 => absurd c9 c_3)
            refine lv_iconst (v := 0) hx hb dX1_ahead_155 (by decide) ?_
            have hP9 := hP.sub (ws' := [(h0, .inr (1, [.int a0, .int a1, .int a2, .int a3, .int a4, .int a5, .int a6, .int a7, .int a8, .int a9, .int a10, .int a11, .ref h1]))]) [0] rfl
            have hD9 := hD.sub (ws' := [(h0, .inr (1, [.int a0, .int a1, .int a2, .int a3, .int a4, .int a5, .int a6, .int a7, .int a8, .int a9, .int a10, .int a11, .ref h1]))]) [0] (by decide) rfl
            have hK9 := hK.sub (tys' := []) [] rfl
            have ef : fx_X1_ahead a1 a2 a3 a8 a9 p0 = 0 := by unfold fx_X1_ahead; rw [if_neg c_1, if_neg c_2, if_neg c_3, if_neg c_8, if_neg c_11, if_neg c_12, if_neg c_13, if_pos c_15, if_pos c_16]
            exact W.iret (v := 0) hx hb hr (fun t ht hW => ⟨⟨0, [(h0, .inr (1, [.int a0, .int a1, .int a2, .int a3, .int a4, .int a5, .int a6, .int a7, .int a8, .int a9, .int a10, .int a11, .ref h1]))], rfl, ⟨ef.symm, rfl⟩, by rw [ht]; exact hP9, va_K.moved hW.alike hK9, hD9⟩, hS.F ht⟩) hS.2.2 dX1_ahead_156
          refine lv_bipush (v := 49) hx hb dX1_ahead_107 (by decide) ?_
          have hP9 := hP.sub (ws' := [(h0, .inr (1, [.int a0, .int a1, .int a2, .int a3, .int a4, .int a5, .int a6, .int a7, .int a8, .int a9, .int a10, .int a11, .ref h1]))]) [0] rfl
          have hD9 := hD.sub (ws' := [(h0, .inr (1, [.int a0, .int a1, .int a2, .int a3, .int a4, .int a5, .int a6, .int a7, .int a8, .int a9, .int a10, .int a11, .ref h1]))]) [0] (by decide) rfl
          have hK9 := hK.sub (tys' := []) [] rfl
          have ef : fx_X1_ahead a1 a2 a3 a8 a9 p0 = 49 := by unfold fx_X1_ahead; rw [if_neg c_1, if_neg c_2, if_neg c_3, if_neg c_8, if_neg c_11, if_neg c_12, if_neg c_13, if_pos c_15, if_neg c_16]
          exact W.iret (v := 49) hx hb hr (fun t ht hW => ⟨⟨49, [(h0, .inr (1, [.int a0, .int a1, .int a2, .int a3, .int a4, .int a5, .int a6, .int a7, .int a8, .int a9, .int a10, .int a11, .ref h1]))], rfl, ⟨ef.symm, rfl⟩, by rw [ht]; exact hP9, va_K.moved hW.alike hK9, hD9⟩, hS.F ht⟩) hS.2.2 dX1_ahead_109
        refine lv_aload_n hx hb dX1_ahead_64 rfl (lv_at hl 0 rfl) ?_
        refine va_get (D := (dC, dI)) (ci := 1) (v := .int a2) (C := RX1) (T := TX1) (N := 13) hx hb hts (fun _ h => List.mem_cons_of_mem _ (List.mem_append_right _ h)) hown hK hP 0 rfl rfl 2 (by decide) (hts (.fieldLink RX1 27 "FileStatusModel" "mode" "I") (by decide +kernel)) (fun _ h9 => h9) rfl dX1_ahead_65 ?_
        refine lv_if_eq (tgt := 86) hx hb dX1_ahead_68 (by decide) (fun c_17 => ?_) (fun c_17 => ?_)
        · refine lv_bipush (v := 48) hx hb dX1_ahead_86 (by decide) ?_
          have hP9 := hP.sub (ws' := [(h0, .inr (1, [.int a0, .int a1, .int a2, .int a3, .int a4, .int a5, .int a6, .int a7, .int a8, .int a9, .int a10, .int a11, .ref h1]))]) [0] rfl
          have hD9 := hD.sub (ws' := [(h0, .inr (1, [.int a0, .int a1, .int a2, .int a3, .int a4, .int a5, .int a6, .int a7, .int a8, .int a9, .int a10, .int a11, .ref h1]))]) [0] (by decide) rfl
          have hK9 := hK.sub (tys' := []) [] rfl
          have ef : fx_X1_ahead a1 a2 a3 a8 a9 p0 = 48 := by unfold fx_X1_ahead; rw [if_neg c_1, if_neg c_2, if_neg c_3, if_neg c_8, if_neg c_11, if_pos c_12, if_pos c_17]
          exact W.iret (v := 48) hx hb hr (fun t ht hW => ⟨⟨48, [(h0, .inr (1, [.int a0, .int a1, .int a2, .int a3, .int a4, .int a5, .int a6, .int a7, .int a8, .int a9, .int a10, .int a11, .ref h1]))], rfl, ⟨ef.symm, rfl⟩, by rw [ht]; exact hP9, va_K.moved hW.alike hK9, hD9⟩, hS.F ht⟩) hS.2.2 dX1_ahead_88
        refine lv_aload_n hx hb dX1_ahead_71 rfl (lv_at hl 0 rfl) ?_
        refine va_get (D := (dC, dI)) (ci := 1) (v := .int a2) (C := RX1) (T := TX1) (N := 13) hx hb hts (fun _ h => List.mem_cons_of_mem _ (List.mem_append_right _ h)) hown hK hP 0 rfl rfl 2 (by decide) (hts (.fieldLink RX1 27 "FileStatusModel" "mode" "I") (by decide +kernel)) (fun _ h9 => h9) rfl dX1_ahead_72 ?_
        refine lv_iconst (v := 2) hx hb dX1_ahead_75 (by decide) ?_
        refine lv_icmp_ne (tgt := 89) hx hb dX1_ahead_76 (by decide) (fun c_18 => ?_) (fun c_18 => ?_)
        · refine lv_iload_n hx hb dX1_ahead_89 rfl (lv_at hl 1 rfl) ?_
          refine lv_iconst (v := 3) hx hb dX1_ahead_90 (by decide) ?_
          refine lv_icmp_eq (tgt := 99) hx hb dX1_ahead_91 (by decide) (fun c9 => absurd (c_12.symm.trans c9) (by decide)) (fun c9 => ?_)
          refine lv_iload_n hx hb dX1_ahead_94 rfl (lv_at hl 1 rfl) ?_
          refine lv_iconst (v := 4) hx hb dX1_ahead_95 (by decide) ?_
          refine lv_icmp_ne (tgt := 110) hx hb dX1_ahead_96 (by decide) (fun c9 => ?_) (fun c9 => absurd (c_12.symm.trans c9) (by decide))
          refine lv_iload_n hx hb dX1_ahead_110 rfl (lv_at hl 1 rfl) ?_
          refine lv_iconst (v := 3) hx hb dX1_ahead_111 (by decide) ?_
          refine lv_icmp_ne (tgt := 132) hx hb dX1_ahead_112 (by decide) (fun c9 => ?_) (fun c9 => absurd (c_12.symm.trans c9) (by decide))
          refine lv_iload_n hx hb dX1_ahead_132 rfl (lv_at hl 1 rfl) ?_
          refine lv_if_ne (tgt := 155) hx hb dX1_ahead_133 (by decide) (fun c9 => ?_) (fun c9 => absurd c9 c_3)
          refine lv_iconst (v := 0) hx hb dX1_ahead_155 (by decide) ?_
          have hP9 := hP.sub (ws' := [(h0, .inr (1, [.int a0, .int a1, .int a2, .int a3, .int a4, .int a5, .int a6, .int a7, .int a8, .int a9, .int a10, .int a11, .ref h1]))]) [0] rfl
          have hD9 := hD.sub (ws' := [(h0, .inr (1, [.int a0, .int a1, .int a2, .int a3, .int a4, .int a5, .int a6, .int a7, .int a8, .int a9, .int a10, .int a11, .ref h1]))]) [0] (by decide) rfl
          have hK9 := hK.sub (tys' := []) [] rfl
          have ef : fx_X1_ahead a1 a2 a3 a8 a9 p0 = 0 := by unfold fx_X1_ahead; rw [if_neg c_1, if_neg c_2, if_neg c_3, if_neg c_8, if_neg c_11, if_pos c_12, if_neg c_17]
          exact W.iret (v := 0) hx hb hr (fun t ht hW => ⟨⟨0, [(h0, .inr (1, [.int a0, .int a1, .int a2, .int a3, .int a4, .int a5, .int a6, .int a7, .int a8, .int a9, .int a10, .int a11, .ref h1]))], rfl, ⟨ef.symm, rfl⟩, by rw [ht]; exact hP9, va_K.moved hW.alike hK9, hD9⟩, hS.F ht⟩) hS.2.2 dX1_ahead_156
        refine lv_aload_n hx hb dX1_ahead_79 rfl (lv_at hl 0 rfl) ?_
        refine va_get (D := (dC, dI)) (ci := 1) (v := .int a1) (C := RX1) (T := TX1) (N := 13) hx hb hts (fun _ h => List.mem_cons_of_mem _ (List.mem_append_right _ h)) hown hK hP 0 rfl rfl 1 (by decide) (hts (.fieldLink RX1 17 "FileStatusModel" "organisation" "I") (by decide +kernel)) (fun _ h9 => h9) rfl dX1_ahead_80 ?_
        refine lv_if_ne (tgt := 89) hx hb dX1_ahead_83 (by decide) (fun c9 => ?_) (fun c9 => absurd c9 c_2)
        refine lv_iload_n hx hb dX1_ahead_89 rfl (lv_at hl 1 rfl) ?_
        refine lv_iconst (v := 3) hx hb dX1_ahead_90 (by decide) ?_
        refine lv_icmp_eq (tgt := 99) hx hb dX1_ahead_91 (by decide) (fun c9 => absurd (c_12.symm.trans c9) (by decide)) (fun c9 => ?_)
        refine lv_iload_n hx hb dX1_ahead_94 rfl (lv_at hl 1 rfl) ?_
        refine lv_iconst (v := 4) hx hb dX1_ahead_95 (by decide) ?_
        refine lv_icmp_ne (tgt := 110) hx hb dX1_ahead_96 (by decide) (fun c9 => ?_) (fun c9 => absurd (c_12.symm.trans c9) (by decide))
        refine lv_iload_n hx hb dX1_ahead_110 rfl (lv_at hl 1 rfl) ?_
        refine lv_iconst (v := 3) hx hb dX1_ahead_111 (by decide) ?_
        refine lv_icmp_ne (tgt := 132) hx hb dX1_ahead_112 (by decide) (fun c9 => ?_) (fun c9 => absurd (c_12.symm.trans c9) (by decide))
        refine lv_iload_n hx hb dX1_ahead_132 rfl (lv_at hl 1 rfl) ?_
        refine lv_if_ne (tgt := 155) hx hb dX1_ahead_133 (by decide) (fun c9 => ?_) (fun c9 => absurd c9 c_3)
        refine lv_iconst (v := 0) hx hb dX1_ahead_155 (by decide) ?_
        have hP9 := hP.sub (ws' := [(h0, .inr (1, [.int a0, .int a1, .int a2, .int a3, .int a4, .int a5, .int a6, .int a7, .int a8, .int a9, .int a10, .int a11, .ref h1]))]) [0] rfl
        have hD9 := hD.sub (ws' := [(h0, .inr (1, [.int a0, .int a1, .int a2, .int a3, .int a4, .int a5, .int a6, .int a7, .int a8, .int a9, .int a10, .int a11, .ref h1]))]) [0] (by decide) rfl
        have hK9 := hK.sub (tys' := []) [] rfl
        have ef : fx_X1_ahead a1 a2 a3 a8 a9 p0 = 0 := by unfold fx_X1_ahead; rw [if_neg c_1, if_neg c_2, if_neg c_3, if_neg c_8, if_neg c_11, if_pos c_12, if_neg c_17]
        exact W.iret (v := 0) hx hb hr (fun t ht hW => ⟨⟨0, [(h0, .inr (1, [.int a0, .int a1, .int a2, .int a3, .int a4, .int a5, .int a6, .int a7, .int a8, .int a9, .int a10, .int a11, .ref h1]))], rfl, ⟨ef.symm, rfl⟩, by rw [ht]; exact hP9, va_K.moved hW.alike hK9, hD9⟩, hS.F ht⟩) hS.2.2 dX1_ahead_156
      refine lv_aload_n hx hb dX1_ahead_49 rfl (lv_at hl 0 rfl) ?_
      have hPc := hP.sub (ws' := [(h0, .inr (1, [.int a0, .int a1, .int a2, .int a3, .int a4, .int a5, .int a6, .int a7, .int a8, .int a9, .int a10, .int a11, .ref h1]))]) [0] rfl
      have hDc := hD.sub (ws' := [(h0, .inr (1, [.int a0, .int a1, .int a2, .int a3, .int a4, .int a5, .int a6, .int a7, .int a8, .int a9, .int a10, .int a11, .ref h1]))]) [0] (by decide) rfl
      have hKc := hK.sub (tys' := []) [] rfl
      have hFc := va_free (wc := [(h0, .inr (1, [.int a0, .int a1, .int a2, .int a3, .int a4, .int a5, .int a6, .int a7, .int a8, .int a9, .int a10, .int a11, .ref h1]))]) hD hS hA [0] rfl
      refine va_calli (va_runV (As := []) (rest := []) ⟨hx, hb, hml, hown, hts⟩ (ct_X1_reads l dC dI h0 h1 s.heap.size a0 a1 a2 a3 a4 a5 a6 a7 a8 a9 a10 a11) (cwV 0 hts gX1_ahead_X1_reads rfl rfl rfl (by decide +kernel) ⟨Nat.le_of_ble_eq_true rfl, Nat.le_of_ble_eq_true rfl⟩) ⟨fun a U g mk q => by obtain ⟨q0, q1, qP, qK, qD⟩ := q; exact ⟨q0, q1, qP, va_K.moved (u := U) (U := U.calling g mk a) (Vm.Alike.refl U.vm) qK, qD⟩, va_recv hKc hPc (ci := 1) (q0 := 0) rfl rfl, fun U hU hW => ⟨rfl, by rw [hU], by rw [hU]; exact hPc, va_K.moved hW.alike hKc, hDc.weaken (fun _ _ _ _ => trivial)⟩⟩ rfl rfl hl.1 rfl (lv_room (Nat.le_of_ble_eq_true rfl)) dX1_ahead_50 ⟨(Nat.zero_le _), (Nat.zero_le _)⟩) hS (fun q _ h => hFc q h) hFc (fun r_19 u t H1 locs ht hvm hw hB hz1 hk1 hS => ?_)
      obtain ⟨er, hu⟩ := hw
      subst hu
      subst er
      obtain ⟨hP1, -, hD1⟩ := hB
      rw [ht] at hP1
      obtain ⟨hP, hD⟩ := va_join (wr := []) (w1 := [(h0, .inr (1, [.int a0, .int a1, .int a2, .int a3, .int a4, .int a5, .int a6, .int a7, .int a8, .int a9, .int a10, .int a11, .ref h1]))]) hP hD [0] [] rfl rfl (by decide) (by decide) hk1 hFc hP1 hD1
      generalize H1 = H at hP hS ⊢
      have hP : va_P (dC, dI) vwCl [(h0, .inr (1, [.int a0, .int a1, .int a2, .int a3, .int a4, .int a5, .int a6, .int a7, .int a8, .int a9, .int a10, .int a11, .ref h1]))] H := hP
      have hD : va_D A [(h0, .inr (1, [.int a0, .int a1, .int a2, .int a3, .int a4, .int a5, .int a6, .int a7, .int a8, .int a9, .int a10, .int a11, .ref h1]))] := hD
      refine lv_if_ne (tgt := 59) hx hb dX1_ahead_53 (by decide) (fun c_20 => ?_) (fun c_20 => ?_)
      · refine lv_iload_n hx hb dX1_ahead_59 rfl (lv_at hl 1 rfl) ?_
        refine lv_iconst (v := 2) hx hb dX1_ahead_60 (by decide) ?_
        refine lv_icmp_ne (tgt := 89) hx hb dX1_ahead_61 (by decide) (fun c9 => ?_) (fun c9 => absurd (c_11.symm.trans c9) (by decide))
        refine lv_iload_n hx hb dX1_ahead_89 rfl (lv_at hl 1 rfl) ?_
        refine lv_iconst (v := 3) hx hb dX1_ahead_90 (by decide) ?_
        refine lv_icmp_eq (tgt := 99) hx hb dX1_ahead_91 (by decide) (fun c9 => absurd (c_11.symm.trans c9) (by decide)) (fun c9 => ?_)
        refine lv_iload_n hx hb dX1_ahead_94 rfl (lv_at hl 1 rfl) ?_
        refine lv_iconst (v := 4) hx hb dX1_ahead_95 (by decide) ?_
        refine lv_icmp_ne (tgt := 110) hx hb dX1_ahead_96 (by decide) (fun c9 => ?_) (fun c9 => absurd (c_11.symm.trans c9) (by decide))
        refine lv_iload_n hx hb dX1_ahead_110 rfl (lv_at hl 1 rfl) ?_
        refine lv_iconst (v := 3) hx hb dX1_ahead_111 (by decide) ?_
        refine lv_icmp_ne (tgt := 132) hx hb dX1_ahead_112 (by decide) (fun c9 => ?_) (fun c9 => absurd (c_11.symm.trans c9) (by decide))
        refine lv_iload_n hx hb dX1_ahead_132 rfl (lv_at hl 1 rfl) ?_
        refine lv_if_ne (tgt := 155) hx hb dX1_ahead_133 (by decide) (fun c9 => ?_) (fun c9 => absurd c9 c_3)
        refine lv_iconst (v := 0) hx hb dX1_ahead_155 (by decide) ?_
        have hP9 := hP.sub (ws' := [(h0, .inr (1, [.int a0, .int a1, .int a2, .int a3, .int a4, .int a5, .int a6, .int a7, .int a8, .int a9, .int a10, .int a11, .ref h1]))]) [0] rfl
        have hD9 := hD.sub (ws' := [(h0, .inr (1, [.int a0, .int a1, .int a2, .int a3, .int a4, .int a5, .int a6, .int a7, .int a8, .int a9, .int a10, .int a11, .ref h1]))]) [0] (by decide) rfl
        have hK9 := hK.sub (tys' := []) [] rfl
        have ef : fx_X1_ahead a1 a2 a3 a8 a9 p0 = 0 := by unfold fx_X1_ahead; rw [if_neg c_1, if_neg c_2, if_neg c_3, if_neg c_8, if_pos c_11, if_neg c_20]
        exact W.iret (v := 0) hx hb hr (fun t ht hW => ⟨⟨0, [(h0, .inr (1, [.int a0, .int a1, .int a2, .int a3, .int a4, .int a5, .int a6, .int a7, .int a8, .int a9, .int a10, .int a11, .ref h1]))], rfl, ⟨ef.symm, rfl⟩, by rw [ht]; exact hP9, va_K.moved hW.alike hK9, hD9⟩, hS.F ht⟩) hS.2.2 dX1_ahead_156
      refine lv_bipush (v := 47) hx hb dX1_ahead_56 (by decide) ?_
      have hP9 := hP.sub (ws' := [(h0, .inr (1, [.int a0, .int a1, .int a2, .int a3, .int a4, .int a5, .int a6, .int a7, .int a8, .int a9, .int a10, .int a11, .ref h1]))]) [0] rfl
      have hD9 := hD.sub (ws' := [(h0, .inr (1, [.int a0, .int a1, .int a2, .int a3, .int a4, .int a5, .int a6, .int a7, .int a8, .int a9, .int a10, .int a11, .ref h1]))]) [0] (by decide) rfl
      have hK9 := hK.sub (tys' := []) [] rfl
      have ef : fx_X1_ahead a1 a2 a3 a8 a9 p0 = 47 := by unfold fx_X1_ahead; rw [if_neg c_1, if_neg c_2, if_neg c_3, if_neg c_8, if_pos c_11, if_pos c_20]
      exact W.iret (v := 47) hx hb hr (fun t ht hW => ⟨⟨47, [(h0, .inr (1, [.int a0, .int a1, .int a2, .int a3, .int a4, .int a5, .int a6, .int a7, .int a8, .int a9, .int a10, .int a11, .ref h1]))], rfl, ⟨ef.symm, rfl⟩, by rw [ht]; exact hP9, va_K.moved hW.alike hK9, hD9⟩, hS.F ht⟩) hS.2.2 dX1_ahead_58
    refine lv_iload_n hx hb dX1_ahead_17 rfl (lv_at hl 1 rfl) ?_
    refine lv_iconst (v := 1) hx hb dX1_ahead_18 (by decide) ?_
    refine lv_icmp_eq (tgt := 32) hx hb dX1_ahead_19 (by decide) (fun c_21 => ?_) (fun c_21 => ?_)
    · refine lv_bipush (v := 90) hx hb dX1_ahead_32 (by decide) ?_
      have hP9 := hP.sub (ws' := [(h0, .inr (1, [.int a0, .int a1, .int a2, .int a3, .int a4, .int a5, .int a6, .int a7, .int a8, .int a9, .int a10, .int a11, .ref h1]))]) [0] rfl
      have hD9 := hD.sub (ws' := [(h0, .inr (1, [.int a0, .int a1, .int a2, .int a3, .int a4, .int a5, .int a6, .int a7, .int a8, .int a9, .int a10, .int a11, .ref h1]))]) [0] (by decide) rfl
      have hK9 := hK.sub (tys' := []) [] rfl
      have ef : fx_X1_ahead a1 a2 a3 a8 a9 p0 = 90 := by unfold fx_X1_ahead; rw [if_neg c_1, if_pos c_2, if_pos c_21]
      exact W.iret (v := 90) hx hb hr (fun t ht hW => ⟨⟨90, [(h0, .inr (1, [.int a0, .int a1, .int a2, .int a3, .int a4, .int a5, .int a6, .int a7, .int a8, .int a9, .int a10, .int a11, .ref h1]))], rfl, ⟨ef.symm, rfl⟩, by rw [ht]; exact hP9, va_K.moved hW.alike hK9, hD9⟩, hS.F ht⟩) hS.2.2 dX1_ahead_34
    refine lv_iload_n hx hb dX1_ahead_22 rfl (lv_at hl 1 rfl) ?_
    refine lv_iconst (v := 4) hx hb dX1_ahead_23 (by decide) ?_
    refine lv_icmp_eq (tgt := 32) hx hb dX1_ahead_24 (by decide) (fun c_22 => ?_) (fun c_22 => ?_)
    · refine lv_bipush (v := 90) hx hb dX1_ahead_32 (by decide) ?_
      have hP9 := hP.sub (ws' := [(h0, .inr (1, [.int a0, .int a1, .int a2, .int a3, .int a4, .int a5, .int a6, .int a7, .int a8, .int a9, .int a10, .int a11, .ref h1]))]) [0] rfl
      have hD9 := hD.sub (ws' := [(h0, .inr (1, [.int a0, .int a1, .int a2, .int a3, .int a4, .int a5, .int a6, .int a7, .int a8, .int a9, .int a10, .int a11, .ref h1]))]) [0] (by decide) rfl
      have hK9 := hK.sub (tys' := []) [] rfl
      have ef : fx_X1_ahead a1 a2 a3 a8 a9 p0 = 90 := by unfold fx_X1_ahead; rw [if_neg c_1, if_pos c_2, if_neg c_21, if_pos c_22]
      exact W.iret (v := 90) hx hb hr (fun t ht hW => ⟨⟨90, [(h0, .inr (1, [.int a0, .int a1, .int a2, .int a3, .int a4, .int a5, .int a6, .int a7, .int a8, .int a9, .int a10, .int a11, .ref h1]))], rfl, ⟨ef.symm, rfl⟩, by rw [ht]; exact hP9, va_K.moved hW.alike hK9, hD9⟩, hS.F ht⟩) hS.2.2 dX1_ahead_34
    refine lv_iload_n hx hb dX1_ahead_27 rfl (lv_at hl 1 rfl) ?_
    refine lv_iconst (v := 5) hx hb dX1_ahead_28 (by decide) ?_
    refine lv_icmp_ne (tgt := 35) hx hb dX1_ahead_29 (by decide) (fun c_23 => ?_) (fun c_23 => ?_)
    · refine lv_iload_n hx hb dX1_ahead_35 rfl (lv_at hl 1 rfl) ?_
      refine lv_if_eq (tgt := 49) hx hb dX1_ahead_36 (by decide) (fun c_24 => ?_) (fun c_24 => ?_)
      · refine lv_aload_n hx hb dX1_ahead_49 rfl (lv_at hl 0 rfl) ?_
        have hPc := hP.sub (ws' := [(h0, .inr (1, [.int a0, .int a1, .int a2, .int a3, .int a4, .int a5, .int a6, .int a7, .int a8, .int a9, .int a10, .int a11, .ref h1]))]) [0] rfl
        have hDc := hD.sub (ws' := [(h0, .inr (1, [.int a0, .int a1, .int a2, .int a3, .int a4, .int a5, .int a6, .int a7, .int a8, .int a9, .int a10, .int a11, .ref h1]))]) [0] (by decide) rfl
        have hKc := hK.sub (tys' := []) [] rfl
        have hFc := va_free (wc := [(h0, .inr (1, [.int a0, .int a1, .int a2, .int a3, .int a4, .int a5, .int a6, .int a7, .int a8, .int a9, .int a10, .int a11, .ref h1]))]) hD hS hA [0] rfl
        refine va_calli (va_runV (As := []) (rest := []) ⟨hx, hb, hml, hown, hts⟩ (ct_X1_reads l dC dI h0 h1 s.heap.size a0 a1 a2 a3 a4 a5 a6 a7 a8 a9 a10 a11) (cwV 0 hts gX1_ahead_X1_reads rfl rfl rfl (by decide +kernel) ⟨Nat.le_of_ble_eq_true rfl, Nat.le_of_ble_eq_true rfl⟩) ⟨fun a U g mk q => by obtain ⟨q0, q1, qP, qK, qD⟩ := q; exact ⟨q0, q1, qP, va_K.moved (u := U) (U := U.calling g mk a) (Vm.Alike.refl U.vm) qK, qD⟩, va_recv hKc hPc (ci := 1) (q0 := 0) rfl rfl, fun U hU hW => ⟨rfl, by rw [hU], by rw [hU]; exact hPc, va_K.moved hW.alike hKc, hDc.weaken (fun _ _ _ _ => trivial)⟩⟩ rfl rfl hl.1 rfl (lv_room (Nat.le_of_ble_eq_true rfl)) dX1_ahead_50 ⟨(Nat.zero_le _), (Nat.zero_le _)⟩) hS (fun q _ h => hFc q h) hFc (fun r_25 u t H1 locs ht hvm hw hB hz1 hk1 hS => ?_)
        obtain ⟨er, hu⟩ := hw
        subst hu
        subst er
        obtain ⟨hP1, -, hD1⟩ := hB
        rw [ht] at hP1
        obtain ⟨hP, hD⟩ := va_join (wr := []) (w1 := [(h0, .inr (1, [.int a0, .int a1, .int a2, .int a3, .int a4, .int a5, .int a6, .int a7, .int a8, .int a9, .int a10, .int a11, .ref h1]))]) hP hD [0] [] rfl rfl (by decide) (by decide) hk1 hFc hP1 hD1
        generalize H1 = H at hP hS ⊢
        have hP : va_P (dC, dI) vwCl [(h0, .inr (1, [.int a0, .int a1, .int a2, .int a3, .int a4, .int a5, .int a6, .int a7, .int a8, .int a9, .int a10, .int a11, .ref h1]))] H := hP
        have hD : va_D A [(h0, .inr (1, [.int a0, .int a1, .int a2, .int a3, .int a4, .int a5, .int a6, .int a7, .int a8, .int a9, .int a10, .int a11, .ref h1]))] := hD
        refine lv_if_ne (tgt := 59) hx hb dX1_ahead_53 (by decide) (fun c_26 => ?_) (fun c_26 => ?_)
        · refine lv_iload_n hx hb dX1_ahead_59 rfl (lv_at hl 1 rfl) ?_
          refine lv_iconst (v := 2) hx hb dX1_ahead_60 (by decide) ?_
          refine lv_icmp_ne (tgt := 89) hx hb dX1_ahead_61 (by decide) (fun c9 => ?_) (fun c9 => absurd (c_24.symm.trans c9) (by decide))
          refine lv_iload_n hx hb dX1_ahead_89 rfl (lv_at hl 1 rfl) ?_
          refine lv_iconst (v := 3) hx hb dX1_ahead_90 (by decide) ?_
          refine lv_icmp_eq (tgt := 99) hx hb dX1_ahead_91 (by decide) (fun c9 => absurd (c_24.symm.trans c9) (by decide)) (fun c9 => ?_)
          refine lv_iload_n hx hb dX1_ahead_94 rfl (lv_at hl 1 rfl) ?_
          refine lv_iconst (v := 4) hx hb dX1_ahead_95 (by decide) ?_
          refine lv_icmp_ne (tgt := 110) hx hb dX1_ahead_96 (by decide) (fun c9 => ?_) (fun c9 => absurd c9 c_22)
          refine lv_iload_n hx hb dX1_ahead_110 rfl (lv_at hl 1 rfl) ?_
          refine lv_iconst (v := 3) hx hb dX1_ahead_111 (by decide) ?_
          refine lv_icmp_ne (tgt := 132) hx hb dX1_ahead_112 (by decide) (fun c9 => ?_) (fun c9 => absurd (c_24.symm.trans c9) (by decide))
          refine lv_iload_n hx hb dX1_ahead_132 rfl (lv_at hl 1 rfl) ?_
          refine lv_if_ne (tgt := 155) hx hb dX1_ahead_133 (by decide) (fun c9 => absurd c_24 c9) (fun c9 => ?_)
          refine lv_aload_n hx hb dX1_ahead_136 rfl (lv_at hl 0 rfl) ?_
          refine va_get (D := (dC, dI)) (ci := 1) (v := .int a3) (C := RX1) (T := TX1) (N := 13) hx hb hts (fun _ h => List.mem_cons_of_mem _ (List.mem_append_right _ h)) hown hK hP 0 rfl rfl 3 (by decide) (hts (.fieldLink RX1 50 "FileStatusModel" "position" "I") (by decide +kernel)) (fun _ h9 => h9) rfl dX1_ahead_137 ?_
          refine lv_iconst (v := 2) hx hb dX1_ahead_140 (by decide) ?_
          refine lv_icmp_eq (tgt := 152) hx hb dX1_ahead_141 (by decide) (fun c_27 => ?_) (fun c_27 => ?_)
          · refine lv_bipush (v := 46) hx hb dX1_ahead_152 (by decide) ?_
            have hP9 := hP.sub (ws' := [(h0, .inr (1, [.int a0, .int a1, .int a2, .int a3, .int a4, .int a5, .int a6, .int a7, .int a8, .int a9, .int a10, .int a11, .ref h1]))]) [0] rfl
            have hD9 := hD.sub (ws' := [(h0, .inr (1, [.int a0, .int a1, .int a2, .int a3, .int a4, .int a5, .int a6, .int a7, .int a8, .int a9, .int a10, .int a11, .ref h1]))]) [0] (by decide) rfl
            have hK9 := hK.sub (tys' := []) [] rfl
            have ef : fx_X1_ahead a1 a2 a3 a8 a9 p0 = 46 := by unfold fx_X1_ahead; rw [if_neg c_1, if_pos c_2, if_neg c_21, if_neg c_22, if_neg c_23, if_pos c_24, if_neg c_26, if_pos c_27]
            exact W.iret (v := 46) hx hb hr (fun t ht hW => ⟨⟨46, [(h0, .inr (1, [.int a0, .int a1, .int a2, .int a3, .int a4, .int a5, .int a6, .int a7, .int a8, .int a9, .int a10, .int a11, .ref h1]))], rfl, ⟨ef.symm, rfl⟩, by rw [ht]; exact hP9, va_K.moved hW.alike hK9, hD9⟩, hS.F ht⟩) hS.2.2 dX1_ahead_154
          refine lv_aload_n hx hb dX1_ahead_144 rfl (lv_at hl 0 rfl) ?_
          refine va_get (D := (dC, dI)) (ci := 1) (v := .int a3) (C := RX1) (T := TX1) (N := 13) hx hb hts (fun _ h => List.mem_cons_of_mem _ (List.mem_append_right _ h)) hown hK hP 0 rfl rfl 3 (by decide) (hts (.fieldLink RX1 50 "FileStatusModel" "position" "I") (by decide +kernel)) (fun _ h9 => h9) rfl dX1_ahead_145 ?_
          refine lv_iconst (v := 3) hx hb dX1_ahead_148 (by decide) ?_
          refine lv_icmp_ne (tgt := 155) hx hb dX1_ahead_149 (by decide) (fun c_28 => ?_) (fun c_28 => ?_)
          · refine lv_iconst (v := 0) hx hb dX1_ahead_155 (by decide) ?_
            have hP9 := hP.sub (ws' := [(h0, .inr (1, [.int a0, .int a1, .int a2, .int a3, .int a4, .int a5, .int a6, .int a7, .int a8, .int a9, .int a10, .int a11, .ref h1]))]) [0] rfl
            have hD9 := hD.sub (ws' := [(h0, .inr (1, [.int a0, .int a1, .int a2, .int a3, .int a4, .int a5, .int a6, .int a7, .int a8, .int a9, .int a10, .int a11, .ref h1]))]) [0] (by decide) rfl
            have hK9 := hK.sub (tys' := []) [] rfl
            have ef : fx_X1_ahead a1 a2 a3 a8 a9 p0 = 0 := by unfold fx_X1_ahead; rw [if_neg c_1, if_pos c_2, if_neg c_21, if_neg c_22, if_neg c_23, if_pos c_24, if_neg c_26, if_neg c_27, if_neg c_28]
            exact W.iret (v := 0) hx hb hr (fun t ht hW => ⟨⟨0, [(h0, .inr (1, [.int a0, .int a1, .int a2, .int a3, .int a4, .int a5, .int a6, .int a7, .int a8, .int a9, .int a10, .int a11, .ref h1]))], rfl, ⟨ef.symm, rfl⟩, by rw [ht]; exact hP9, va_K.moved hW.alike hK9, hD9⟩, hS.F ht⟩) hS.2.2 dX1_ahead_156
          refine lv_bipush (v := 46) hx hb dX1_ahead_152 (by decide) ?_
          have hP9 := hP.sub (ws' := [(h0, .inr (1, [.int a0, .int a1, .int a2, .int a3, .int a4, .int a5, .int a6, .int a7, .int a8, .int a9, .int a10, .int a11, .ref h1]))]) [0] rfl
          have hD9 := hD.sub (ws' := [(h0, .inr (1, [.int a0, .int a1, .int a2, .int a3, .int a4, .int a5, .int a6, .int a7, .int a8, .int a9, .int a10, .int a11, .ref h1]))]) [0] (by decide) rfl
          have hK9 := hK.sub (tys' := []) [] rfl
          have ef : fx_X1_ahead a1 a2 a3 a8 a9 p0 = 46 := by unfold fx_X1_ahead; rw [if_neg c_1, if_pos c_2, if_neg c_21, if_neg c_22, if_neg c_23, if_pos c_24, if_neg c_26, if_neg c_27, if_pos c_28]
          exact W.iret (v := 46) hx hb hr (fun t ht hW => ⟨⟨46, [(h0, .inr (1, [.int a0, .int a1, .int a2, .int a3, .int a4, .int a5, .int a6, .int a7, .int a8, .int a9, .int a10, .int a11, .ref h1]))], rfl, ⟨ef.symm, rfl⟩, by rw [ht]; exact hP9, va_K.moved hW.alike hK9, hD9⟩, hS.F ht⟩) hS.2.2 dX1_ahead_154
        refine lv_bipush (v := 47) hx hb dX1_ahead_56 (by decide) ?_
        have hP9 := hP.sub (ws' := [(h0, .inr (1, [.int a0, .int a1, .int a2, .int a3, .int a4, .int a5, .int a6, .int a7, .int a8, .int a9, .int a10, .int a11, .ref h1]))]) [0] rfl
        have hD9 := hD.sub (ws' := [(h0, .inr (1, [.int a0, .int a1, .int a2, .int a3, .int a4, .int a5, .int a6, .int a7, .int a8, .int a9, .int a10, .int a11, .ref h1]))]) [0] (by decide) rfl
        have hK9 := hK.sub (tys' := []) [] rfl
        have ef : fx_X1_ahead a1 a2 a3 a8 a9 p0 = 47 := by unfold fx_X1_ahead; rw [if_neg c_1, if_pos c_2, if_neg c_21, if_neg c_22, if_neg c_23, if_pos c_24, if_pos c_26]
        exact W.iret (v := 47) hx hb hr (fun t ht hW => ⟨⟨47, [(h0, .inr (1, [.int a0, .int a1, .int a2, .int a3, .int a4, .int a5, .int a6, .int a7, .int a8, .int a9, .int a10, .int a11, .ref h1]))], rfl, ⟨ef.symm, rfl⟩, by rw [ht]; exact hP9, va_K.moved hW.alike hK9, hD9⟩, hS.F ht⟩) hS.2.2 dX1_ahead_58
      refine lv_iload_n hx hb dX1_ahead_39 rfl (lv_at hl 1 rfl) ?_
      refine lv_iconst (v := 1) hx hb dX1_ahead_40 (by decide) ?_
      refine lv_icmp_eq (tgt := 49) hx hb dX1_ahead_41 (by decide) (fun c9 => absurd c9 c_21) (fun c9 => ?_)
      refine lv_iload_n hx hb dX1_ahead_44 rfl (lv_at hl 1 rfl) ?_
      refine lv_iconst (v := 5) hx hb dX1_ahead_45 (by decide) ?_
      refine lv_icmp_ne (tgt := 59) hx hb dX1_ahead_46 (by decide) (fun c9 => ?_) (fun c9 => absurd c9 c_23)
      refine lv_iload_n hx hb dX1_ahead_59 rfl (lv_at hl 1 rfl) ?_
      refine lv_iconst (v := 2) hx hb dX1_ahead_60 (by decide) ?_
      refine lv_icmp_ne (tgt := 89) hx hb dX1_ahead_61 (by decide) (fun c_29 => ?_) (fun c_29 => ?_)
      · refine lv_iload_n hx hb dX1_ahead_89 rfl (lv_at hl 1 rfl) ?_
        refine lv_iconst (v := 3) hx hb dX1_ahead_90 (by decide) ?_
        refine lv_icmp_eq (tgt := 99) hx hb dX1_ahead_91 (by decide) (fun c_30 => ?_) (fun c_30 => ?_)
        · refine lv_aload_n hx hb dX1_ahead_99 rfl (lv_at hl 0 rfl) ?_
          refine va_get (D := (dC, dI)) (ci := 1) (v := .int a2) (C := RX1) (T := TX1) (N := 13) hx hb hts (fun _ h => List.mem_cons_of_mem _ (List.mem_append_right _ h)) hown hK hP 0 rfl rfl 2 (by decide) (hts (.fieldLink RX1 27 "FileStatusModel" "mode" "I") (by decide +kernel)) (fun _ h9 => h9) rfl dX1_ahead_100 ?_
          refine lv_iconst (v := 2) hx hb dX1_ahead_103 (by decide) ?_
          refine lv_icmp_eq (tgt := 110) hx hb dX1_ahead_104 (by decide) (fun c_31 => ?_) (fun c_31 => ?_)
          · refine lv_iload_n hx hb dX1_ahead_110 rfl (lv_at hl 1 rfl) ?_
            refine lv_iconst (v := 3) hx hb dX1_ahead_111 (by decide) ?_
            refine lv_icmp_ne (tgt := 132) hx hb dX1_ahead_112 (by decide) (fun c9 => absurd c_30 c9) (fun c9 => ?_)
            refine lv_aload_n hx hb dX1_ahead_115 rfl (lv_at hl 0 rfl) ?_
            refine va_get (D := (dC, dI)) (ci := 1) (v := .int a1) (C := RX1) (T := TX1) (N := 13) hx hb hts (fun _ h => List.mem_cons_of_mem _ (List.mem_append_right _ h)) hown hK hP 0 rfl rfl 1 (by decide) (hts (.fieldLink RX1 17 "FileStatusModel" "organisation" "I") (by decide +kernel)) (fun _ h9 => h9) rfl dX1_ahead_116 ?_
            refine lv_if_ne (tgt := 132) hx hb dX1_ahead_119 (by decide) (fun c9 => absurd c_2 c9) (fun c9 => ?_)
            refine lv_aload_n hx hb dX1_ahead_122 rfl (lv_at hl 0 rfl) ?_
            refine va_get (D := (dC, dI)) (ci := 1) (v := .int a9) (C := RX1) (T := TX1) (N := 13) hx hb hts (fun _ h => List.mem_cons_of_mem _ (List.mem_append_right _ h)) hown hK hP 0 rfl rfl 9 (by decide) (hts (.fieldLink RX1 47 "FileStatusModel" "permit" "Z") (by decide +kernel)) (fun _ h9 => h9) rfl dX1_ahead_123 ?_
            refine lv_if_ne (tgt := 132) hx hb dX1_ahead_126 (by decide) (fun c_32 => ?_) (fun c_32 => ?_)
            · refine lv_iload_n hx hb dX1_ahead_132 rfl (lv_at hl 1 rfl) ?_
              refine lv_if_ne (tgt := 155) hx hb dX1_ahead_133 (by decide) (fun c9 => ?_) (fun c9 => absurd c9 c_24)
              refine lv_iconst (v := 0) hx hb dX1_ahead_155 (by decide) ?_
              have hP9 := hP.sub (ws' := [(h0, .inr (1, [.int a0, .int a1, .int a2, .int a3, .int a4, .int a5, .int a6, .int a7, .int a8, .int a9, .int a10, .int a11, .ref h1]))]) [0] rfl
              have hD9 := hD.sub (ws' := [(h0, .inr (1, [.int a0, .int a1, .int a2, .int a3, .int a4, .int a5, .int a6, .int a7, .int a8, .int a9, .int a10, .int a11, .ref h1]))]) [0] (by decide) rfl
              have hK9 := hK.sub (tys' := []) [] rfl
              have ef : fx_X1_ahead a1 a2 a3 a8 a9 p0 = 0 := by unfold fx_X1_ahead; rw [if_neg c_1, if_pos c_2, if_neg c_21, if_neg c_22, if_neg c_23, if_neg c_24, if_neg c_29, if_pos c_30, if_pos c_31, if_neg c_32]
              exact W.iret (v := 0) hx hb hr (fun t ht hW => ⟨⟨0, [(h0, .inr (1, [.int a0, .int a1, .int a2, .int a3, .int a4, .int a5, .int a6, .int a7, .int a8, .int a9, .int a10, .int a11, .ref h1]))], rfl, ⟨ef.symm, rfl⟩, by rw [ht]; exact hP9, va_K.moved hW.alike hK9, hD9⟩, hS.F ht⟩) hS.2.2 dX1_ahead_156
            refine lv_bipush (v := 43) hx hb dX1_ahead_129 (by decide) ?_
            have hP9 := hP.sub (ws' := [(h0, .inr (1, [.int a0, .int a1, .int a2, .int a3, .int a4, .int a5, .int a6, .int a7, .int a8, .int a9, .int a10, .int a11, .ref h1]))]) [0] rfl
            have hD9 := hD.sub (ws' := [(h0, .inr (1, [.int a0, .int a1, .int a2, .int a3, .int a4, .int a5, .int a6, .int a7, .int a8, .int a9, .int a10, .int a11, .ref h1]))]) [0] (by decide) rfl
            have hK9 := hK.sub (tys' := []) [] rfl
            have ef : fx_X1_ahead a1 a2 a3 a8 a9 p0 = 43 := by unfold fx_X1_ahead; rw [if_neg c_1, if_pos c_2, if_neg c_21, if_neg c_22, if_neg c_23, if_neg c_24, if_neg c_29, if_pos c_30, if_pos c_31, if_pos c_32]
            exact W.iret (v := 43) hx hb hr (fun t ht hW => ⟨⟨43, [(h0, .inr (1, [.int a0, .int a1, .int a2, .int a3, .int a4, .int a5, .int a6, .int a7, .int a8, .int a9, .int a10, .int a11, .ref h1]))], rfl, ⟨ef.symm, rfl⟩, by rw [ht]; exact hP9, va_K.moved hW.alike hK9, hD9⟩, hS.F ht⟩) hS.2.2 dX1_ahead_131
          refine lv_bipush (v := 49) hx hb dX1_ahead_107 (by decide) ?_
          have hP9 := hP.sub (ws' := [(h0, .inr (1, [.int a0, .int a1, .int a2, .int a3, .int a4, .int a5, .int a6, .int a7, .int a8, .int a9, .int a10, .int a11, .ref h1]))]) [0] rfl
          have hD9 := hD.sub (ws' := [(h0, .inr (1, [.int a0, .int a1, .int a2, .int a3, .int a4, .int a5, .int a6, .int a7, .int a8, .int a9, .int a10, .int a11, .ref h1]))]) [0] (by decide) rfl
          have hK9 := hK.sub (tys' := []) [] rfl
          have ef : fx_X1_ahead a1 a2 a3 a8 a9 p0 = 49 := by unfold fx_X1_ahead; rw [if_neg c_1, if_pos c_2, if_neg c_21, if_neg c_22, if_neg c_23, if_neg c_24, if_neg c_29, if_pos c_30, if_neg c_31]
          exact W.iret (v := 49) hx hb hr (fun t ht hW => ⟨⟨49, [(h0, .inr (1, [.int a0, .int a1, .int a2, .int a3, .int a4, .int a5, .int a6, .int a7, .int a8, .int a9, .int a10, .int a11, .ref h1]))], rfl, ⟨ef.symm, rfl⟩, by rw [ht]; exact hP9, va_K.moved hW.alike hK9, hD9⟩, hS.F ht⟩) hS.2.2 dX1_ahead_109
        refine lv_iload_n hx hb dX1_ahead_94 rfl (lv_at hl 1 rfl) ?_
        refine lv_iconst (v := 4) hx hb dX1_ahead_95 (by decide) ?_
        refine lv_icmp_ne (tgt := 110) hx hb dX1_ahead_96 (by decide) (fun c9 => ?_) (fun c9 => absurd c9 c_22)
        refine lv_iload_n hx hb dX1_ahead_110 rfl (lv_at hl 1 rfl) ?_
        refine lv_iconst (v := 3) hx hb dX1_ahead_111 (by decide) ?_
        refine lv_icmp_ne (tgt := 132) hx hb dX1_ahead_112 (by decide) (fun c9 => ?_) (fun c9 => absurd c9 c_30)
        refine lv_iload_n hx hb dX1_ahead_132 rfl (lv_at hl 1 rfl) ?_
        refine lv_if_ne (tgt := 155) hx hb dX1_ahead_133 (by decide) (fun c9 => ?_) (fun c9 => absurd c9 c_24)
        refine lv_iconst (v := 0) hx hb dX1_ahead_155 (by decide) ?_
        have hP9 := hP.sub (ws' := [(h0, .inr (1, [.int a0, .int a1, .int a2, .int a3, .int a4, .int a5, .int a6, .int a7, .int a8, .int a9, .int a10, .int a11, .ref h1]))]) [0] rfl
        have hD9 := hD.sub (ws' := [(h0, .inr (1, [.int a0, .int a1, .int a2, .int a3, .int a4, .int a5, .int a6, .int a7, .int a8, .int a9, .int a10, .int a11, .ref h1]))]) [0] (by decide) rfl
        have hK9 := hK.sub (tys' := []) [] rfl
        have ef : fx_X1_ahead a1 a2 a3 a8 a9 p0 = 0 := by unfold fx_X1_ahead; rw [if_neg c_1, if_pos c_2, if_neg c_21, if_neg c_22, if_neg c_23, if_neg c_24, if_neg c_29, if_neg c_30]
        exact W.iret (v := 0) hx hb hr (fun t ht hW => ⟨⟨0, [(h0, .inr (1, [.int a0, .int a1, .int a2, .int a3, .int a4, .int a5, .int a6, .int a7, .int a8, .int a9, .int a10, .int a11, .ref h1]))], rfl, ⟨ef.symm, rfl⟩, by rw [ht]; exact hP9, va_K.moved hW.alike hK9, hD9⟩, hS.F ht⟩) hS.2.2 dX1_ahead_156
      refine lv_aload_n hx hb dX1_ahead_64 rfl (lv_at hl 0 rfl) ?_
      refine va_get (D := (dC, dI)) (ci := 1) (v := .int a2) (C := RX1) (T := TX1) (N := 13) hx hb hts (fun _ h => List.mem_cons_of_mem _ (List.mem_append_right _ h)) hown hK hP 0 rfl rfl 2 (by decide) (hts (.fieldLink RX1 27 "FileStatusModel" "mode" "I") (by decide +kernel)) (fun _ h9 => h9) rfl dX1_ahead_65 ?_
      refine lv_if_eq (tgt := 86) hx hb dX1_ahead_68 (by decide) (fun c_33 => ?_) (fun c_33 => ?_)
      · refine lv_bipush (v := 48) hx hb dX1_ahead_86 (by decide) ?_
        have hP9 := hP.sub (ws' := [(h0, .inr (1, [.int a0, .int a1, .int a2, .int a3, .int a4, .int a5, .int a6, .int a7, .int a8, .int a9, .int a10, .int a11, .ref h1]))]) [0] rfl
        have hD9 := hD.sub (ws' := [(h0, .inr (1, [.int a0, .int a1, .int a2, .int a3, .int a4, .int a5, .int a6, .int a7, .int a8, .int a9, .int a10, .int a11, .ref h1]))]) [0] (by decide) rfl
        have hK9 := hK.sub (tys' := []) [] rfl
        have ef : fx_X1_ahead a1 a2 a3 a8 a9 p0 = 48 := by unfold fx_X1_ahead; rw [if_neg c_1, if_pos c_2, if_neg c_21, if_neg c_22, if_neg c_23, if_neg c_24, if_pos c_29, if_pos c_33]
        exact W.iret (v := 48) hx hb hr (fun t ht hW => ⟨⟨48, [(h0, .inr (1, [.int a0, .int a1, .int a2, .int a3, .int a4, .int a5, .int a6, .int a7, .int a8, .int a9, .int a10, .int a11, .ref h1]))], rfl, ⟨ef.symm, rfl⟩, by rw [ht]; exact hP9, va_K.moved hW.alike hK9, hD9⟩, hS.F ht⟩) hS.2.2 dX1_ahead_88
      refine lv_aload_n hx hb dX1_ahead_71 rfl (lv_at hl 0 rfl) ?_
      refine va_get (D := (dC, dI)) (ci := 1) (v := .int a2) (C := RX1) (T := TX1) (N := 13) hx hb hts (fun _ h => List.mem_cons_of_mem _ (List.mem_append_right _ h)) hown hK hP 0 rfl rfl 2 (by decide) (hts (.fieldLink RX1 27 "FileStatusModel" "mode" "I") (by decide +kernel)) (fun _ h9 => h9) rfl dX1_ahead_72 ?_
      refine lv_iconst (v := 2) hx hb dX1_ahead_75 (by decide) ?_
      refine lv_icmp_ne (tgt := 89) hx hb dX1_ahead_76 (by decide) (fun c_34 => ?_) (fun c_34 => ?_)
      · refine lv_iload_n hx hb dX1_ahead_89 rfl (lv_at hl 1 rfl) ?_
        refine lv_iconst (v := 3) hx hb dX1_ahead_90 (by decide) ?_
        refine lv_icmp_eq (tgt := 99) hx hb dX1_ahead_91 (by decide) (fun c9 => absurd (c_29.symm.trans c9) (by decide)) (fun c9 => ?_)
        refine lv_iload_n hx hb dX1_ahead_94 rfl (lv_at hl 1 rfl) ?_
        refine lv_iconst (v := 4) hx hb dX1_ahead_95 (by decide) ?_
        refine lv_icmp_ne (tgt := 110) hx hb dX1_ahead_96 (by decide) (fun c9 => ?_) (fun c9 => absurd c9 c_22)
        refine lv_iload_n hx hb dX1_ahead_110 rfl (lv_at hl 1 rfl) ?_
        refine lv_iconst (v := 3) hx hb dX1_ahead_111 (by decide) ?_
        refine lv_icmp_ne (tgt := 132) hx hb dX1_ahead_112 (by decide) (fun c9 => ?_) (fun c9 => absurd (c_29.symm.trans c9) (by decide))
        refine lv_iload_n hx hb dX1_ahead_132 rfl (lv_at hl 1 rfl) ?_
        refine lv_if_ne (tgt := 155) hx hb dX1_ahead_133 (by decide) (fun c9 => ?_) (fun c9 => absurd c9 c_24)
        refine lv_iconst (v := 0) hx hb dX1_ahead_155 (by decide) ?_
        have hP9 := hP.sub (ws' := [(h0, .inr (1, [.int a0, .int a1, .int a2, .int a3, .int a4, .int a5, .int a6, .int a7, .int a8, .int a9, .int a10, .int a11, .ref h1]))]) [0] rfl
        have hD9 := hD.sub (ws' := [(h0, .inr (1, [.int a0, .int a1, .int a2, .int a3, .int a4, .int a5, .int a6, .int a7, .int a8, .int a9, .int a10, .int a11, .ref h1]))]) [0] (by decide) rfl
        have hK9 := hK.sub (tys' := []) [] rfl
        have ef : fx_X1_ahead a1 a2 a3 a8 a9 p0 = 0 := by unfold fx_X1_ahead; rw [if_neg c_1, if_pos c_2, if_neg c_21, if_neg c_22, if_neg c_23, if_neg c_24, if_pos c_29, if_neg c_33, if_neg c_34]
        exact W.iret (v := 0) hx hb hr (fun t ht hW => ⟨⟨0, [(h0, .inr (1, [.int a0, .int a1, .int a2, .int a3, .int a4, .int a5, .int a6, .int a7, .int a8, .int a9, .int a10, .int a11, .ref h1]))], rfl, ⟨ef.symm, rfl⟩, by rw [ht]; exact hP9, va_K.moved hW.alike hK9, hD9⟩, hS.F ht⟩) hS.2.2 dX1_ahead_156
      refine lv_aload_n hx hb dX1_ahead_79 rfl (lv_at hl 0 rfl) ?_
      refine va_get (D := (dC, dI)) (ci := 1) (v := .int a1) (C := RX1) (T := TX1) (N := 13) hx hb hts (fun _ h => List.mem_cons_of_mem _ (List.mem_append_right _ h)) hown hK hP 0 rfl rfl 1 (by decide) (hts (.fieldLink RX1 17 "FileStatusModel" "organisation" "I") (by decide +kernel)) (fun _ h9 => h9) rfl dX1_ahead_80 ?_
      refine lv_if_ne (tgt := 89) hx hb dX1_ahead_83 (by decide) (fun c9 => absurd c_2 c9) (fun c9 => ?_)
      refine lv_bipush (v := 48) hx hb dX1_ahead_86 (by decide) ?_
      have hP9 := hP.sub (ws' := [(h0, .inr (1, [.int a0, .int a1, .int a2, .int a3, .int a4, .int a5, .int a6, .int a7, .int a8, .int a9, .int a10, .int a11, .ref h1]))]) [0] rfl
      have hD9 := hD.sub (ws' := [(h0, .inr (1, [.int a0, .int a1, .int a2, .int a3, .int a4, .int a5, .int a6, .int a7, .int a8, .int a9, .int a10, .int a11, .ref h1]))]) [0] (by decide) rfl
      have hK9 := hK.sub (tys' := []) [] rfl
      have ef : fx_X1_ahead a1 a2 a3 a8 a9 p0 = 48 := by unfold fx_X1_ahead; rw [if_neg c_1, if_pos c_2, if_neg c_21, if_neg c_22, if_neg c_23, if_neg c_24, if_pos c_29, if_neg c_33, if_pos c_34]
      exact W.iret (v := 48) hx hb hr (fun t ht hW => ⟨⟨48, [(h0, .inr (1, [.int a0, .int a1, .int a2, .int a3, .int a4, .int a5, .int a6, .int a7, .int a8, .int a9, .int a10, .int a11, .ref h1]))], rfl, ⟨ef.symm, rfl⟩, by rw [ht]; exact hP9, va_K.moved hW.alike hK9, hD9⟩, hS.F ht⟩) hS.2.2 dX1_ahead_88
    refine lv_bipush (v := 90) hx hb dX1_ahead_32 (by decide) ?_
    have hP9 := hP.sub (ws' := [(h0, .inr (1, [.int a0, .int a1, .int a2, .int a3, .int a4, .int a5, .int a6, .int a7, .int a8, .int a9, .int a10, .int a11, .ref h1]))]) [0] rfl
    have hD9 := hD.sub (ws' := [(h0, .inr (1, [.int a0, .int a1, .int a2, .int a3, .int a4, .int a5, .int a6, .int a7, .int a8, .int a9, .int a10, .int a11, .ref h1]))]) [0] (by decide) rfl
    have hK9 := hK.sub (tys' := []) [] rfl
    have ef : fx_X1_ahead a1 a2 a3 a8 a9 p0 = 90 := by unfold fx_X1_ahead; rw [if_neg c_1, if_pos c_2, if_neg c_21, if_neg c_22, if_pos c_23]
    exact W.iret (v := 90) hx hb hr (fun t ht hW => ⟨⟨90, [(h0, .inr (1, [.int a0, .int a1, .int a2, .int a3, .int a4, .int a5, .int a6, .int a7, .int a8, .int a9, .int a10, .int a11, .ref h1]))], rfl, ⟨ef.symm, rfl⟩, by rw [ht]; exact hP9, va_K.moved hW.alike hK9, hD9⟩, hS.F ht⟩) hS.2.2 dX1_ahead_34
  refine lv_bipush (v := 42) hx hb dX1_ahead_7 (by decide) ?_
  have hP9 := hP.sub (ws' := [(h0, .inr (1, [.int a0, .int a1, .int a2, .int a3, .int a4, .int a5, .int a6, .int a7, .int a8, .int a9, .int a10, .int a11, .ref h1]))]) [0] rfl
  have hD9 := hD.sub (ws' := [(h0, .inr (1, [.int a0, .int a1, .int a2, .int a3, .int a4, .int a5, .int a6, .int a7, .int a8, .int a9, .int a10, .int a11, .ref h1]))]) [0] (by decide) rfl
  have hK9 := hK.sub (tys' := []) [] rfl
  have ef : fx_X1_ahead a1 a2 a3 a8 a9 p0 = 42 := by unfold fx_X1_ahead; rw [if_pos c_1]
  exact W.iret (v := 42) hx hb hr (fun t ht hW => ⟨⟨42, [(h0, .inr (1, [.int a0, .int a1, .int a2, .int a3, .int a4, .int a5, .int a6, .int a7, .int a8, .int a9, .int a10, .int a11, .ref h1]))], rfl, ⟨ef.symm, rfl⟩, by rw [ht]; exact hP9, va_K.moved hW.alike hK9, hD9⟩, hS.F ht⟩) hS.2.2 dX1_ahead_9
set_option maxHeartbeats 4000000 in
set_option maxRecDepth 100000 in
theorem ct_X1_byOutcome (l : Launch) (dC : Nat → ClassId) (dI : Nat → Nat → Nat) (h0 : Nat) (h1 : Nat) (sz : Nat) (a0 a1 a2 a3 a4 a5 a6 a7 a8 a9 a10 a11 p0 p1 : Int32) : Met l yX1_byOutcome wsX1_byOutcome ({ frames := 0, cells := 0, slots := 0, locals := 0 }) (va_Pc [.ref h0, .int p0, .int p1] (fun U => U.heap.size = sz ∧ va_P (dC, dI) vwCl [(h0, .inr (1, [.int a0, .int a1, .int a2, .int a3, .int a4, .int a5, .int a6, .int a7, .int a8, .int a9, .int a10, .int a11, .ref h1]))] U.heap ∧ va_K (dC, dI) vwCl [] U ∧ va_D (fun _ => True) [(h0, .inr (1, [.int a0, .int a1, .int a2, .int a3, .int a4, .int a5, .int a6, .int a7, .int a8, .int a9, .int a10, .int a11, .ref h1]))])) (va_Qi (fun (r : Int32) (u : va_W) => r = fx_X1_byOutcome a1 p0 p1 ∧ u = [(h0, .inr (1, [.int a0, .int a1, .int a2, .int a3, .int a4, .int a5, .int a6, .int a7, .int a8, .int a9, .int a10, .int a11, .ref h1]))]) (at_W dC dI [] (va_A [(h0, .inr (1, [.int a0, .int a1, .int a2, .int a3, .int a4, .int a5, .int a6, .int a7, .int a8, .int a9, .int a10, .int a11, .ref h1]))] sz)) (va_A [(h0, .inr (1, [.int a0, .int a1, .int a2, .int a3, .int a4, .int a5, .int a6, .int a7, .int a8, .int a9, .int a10, .int a11, .ref h1]))] sz)) 0 0 (va_A [(h0, .inr (1, [.int a0, .int a1, .int a2, .int a3, .int a4, .int a5, .int a6, .int a7, .int a8, .int a9, .int a10, .int a11, .ref h1]))] sz) := by
  refine Met.ofW (cc := cX1_byOutcome) (maxL := 5) (ret := (some .int)) (by decide) rfl ?_
  intro p e s m args below meth c s₁ B hml hv
  obtain ⟨rfl, hsz, hP, hK, hD0⟩ := hv
  have hx := B.exec
  have hb := B.bytes
  have hr := B.returns
  have hts := atoms_spec (ws := wsX1_byOutcome) B.pre
  have hown : s.vm.findClass RX1 = some m.cls := findClass_of_methodNamed B.named
  have hlocks := B.notSynchronized
  subst hsz
  have hD := hD0.self (sz := s.heap.size)
  generalize hAe : va_A [(h0, .inr (1, [.int a0, .int a1, .int a2, .int a3, .int a4, .int a5, .int a6, .int a7, .int a8, .int a9, .int a10, .int a11, .ref h1]))] s.heap.size = A at hD ⊢
  have hA : ∀ q : Nat, s.heap.size ≤ q → A q := fun q h => by rw [← hAe]; exact Or.inr h
  have hS : va_S A s.heap s.heap [] := va_S.rf
  have hP : va_P (dC, dI) vwCl [(h0, .inr (1, [.int a0, .int a1, .int a2, .int a3, .int a4, .int a5, .int a6, .int a7, .int a8, .int a9, .int a10, .int a11, .ref h1]))] s.heap := hP
  have hl := lv_entry ([.ref h0, .int p0, .int p1]) (n := 5) (Nat.le_of_ble_eq_true rfl)
  rw [lg_entry_eq]
  generalize (lg_sl ([.ref h0, .int p0, .int p1]) ++ List.replicate (5 - (lg_sl ([.ref h0, .int p0, .int p1])).length) Slot.unset).toArray = ls at hl ⊢
  have hl : lv_has ls 5 [(0, .ref h0), (1, .int p0), (2, .int p1)] := hl
  refine lv_aload_n hx hb dX1_byOutcome_0 rfl (lv_at hl 0 rfl) ?_
  refine va_get (D := (dC, dI)) (ci := 1) (v := .int a1) (C := RX1) (T := TX1) (N := 13) hx hb hts (fun _ h => List.mem_cons_of_mem _ (List.mem_append_right _ h)) hown hK hP 0 rfl rfl 1 (by decide) (hts (.fieldLink RX1 17 "FileStatusModel" "organisation" "I") (by decide +kernel)) (fun _ h9 => h9) rfl dX1_byOutcome_1 ?_
  refine lv_if_le (tgt := 11) hx hb dX1_byOutcome_4 (by decide) (fun c_1 => ?_) (fun c_1 => ?_)
  · refine lv_iconst (v := 0) hx hb dX1_byOutcome_11 (by decide) ?_
    refine lv_istore_n (lv' := [(3, .int 0), (0, .ref h0), (1, .int p0), (2, .int p1)]) hx hb dX1_byOutcome_12 rfl hl (by decide) rfl (fun ls hl => ?_)
    refine lv_aload_n hx hb dX1_byOutcome_13 rfl (lv_at hl 1 rfl) ?_
    refine va_get (D := (dC, dI)) (ci := 1) (v := .int a1) (C := RX1) (T := TX1) (N := 13) hx hb hts (fun _ h => List.mem_cons_of_mem _ (List.mem_append_right _ h)) hown hK hP 0 rfl rfl 1 (by decide) (hts (.fieldLink RX1 17 "FileStatusModel" "organisation" "I") (by decide +kernel)) (fun _ h9 => h9) rfl dX1_byOutcome_14 ?_
    refine lv_iconst (v := 2) hx hb dX1_byOutcome_17 (by decide) ?_
    refine lv_icmp_ne (tgt := 25) hx hb dX1_byOutcome_18 (by decide) (fun c_2 => ?_) (fun c_2 => ?_)
    · refine lv_iconst (v := 0) hx hb dX1_byOutcome_25 (by decide) ?_
      refine lv_istore (lv' := [(4, .int 0), (3, .int 0), (0, .ref h0), (1, .int p0), (2, .int p1)]) hx hb dX1_byOutcome_26 hl (by decide) rfl (fun ls hl => ?_)
      refine lv_iload_n hx hb dX1_byOutcome_28 rfl (lv_at hl 4 rfl) ?_
      by_cases c_3 : p1 = 0
      · refine lv_tableIn (off := 51) (tgt := 80) hx hb dX1_byOutcome_29 (by rw [c_3]; decide) (by rw [c_3]; decide) (by rw [c_3]; rfl) (by decide) ?_
        refine lv_iconst (v := 0) hx hb dX1_byOutcome_80 (by decide) ?_
        have hP9 := hP.sub (ws' := [(h0, .inr (1, [.int a0, .int a1, .int a2, .int a3, .int a4, .int a5, .int a6, .int a7, .int a8, .int a9, .int a10, .int a11, .ref h1]))]) [0] rfl
        have hD9 := hD.sub (ws' := [(h0, .inr (1, [.int a0, .int a1, .int a2, .int a3, .int a4, .int a5, .int a6, .int a7, .int a8, .int a9, .int a10, .int a11, .ref h1]))]) [0] (by decide) rfl
        have hK9 := hK.sub (tys' := []) [] rfl
        have ef : fx_X1_byOutcome a1 p0 p1 = 0 := by unfold fx_X1_byOutcome; rw [if_pos c_1, if_neg c_2, if_pos c_3]
        exact W.iret (v := 0) hx hb hr (fun t ht hW => ⟨⟨0, [(h0, .inr (1, [.int a0, .int a1, .int a2, .int a3, .int a4, .int a5, .int a6, .int a7, .int a8, .int a9, .int a10, .int a11, .ref h1]))], rfl, ⟨ef.symm, rfl⟩, by rw [ht]; exact hP9, va_K.moved hW.alike hK9, hD9⟩, hS.F ht⟩) hS.2.2 dX1_byOutcome_81
      by_cases c_4 : p1 = 1
      · refine lv_tableIn (off := 53) (tgt := 82) hx hb dX1_byOutcome_29 (by rw [c_4]; decide) (by rw [c_4]; decide) (by rw [c_4]; rfl) (by decide) ?_
        refine lv_iload_n hx hb dX1_byOutcome_82 rfl (lv_at hl 3 rfl) ?_
        refine lv_if_ne (tgt := 89) hx hb dX1_byOutcome_83 (by decide) (fun c_5 => ?_) (fun c_5 => ?_)
        · refine lv_iload_n hx hb dX1_byOutcome_89 rfl (lv_at hl 3 rfl) ?_
          refine lv_iconst (v := 1) hx hb dX1_byOutcome_90 (by decide) ?_
          refine lv_icmp_eq (tgt := 113) hx hb dX1_byOutcome_91 (by decide) (fun c_6 => ?_) (fun c_6 => ?_)
          · refine lv_bipush (v := 23) hx hb dX1_byOutcome_113 (by decide) ?_
            refine lv_goto (tgt := 120) hx hb dX1_byOutcome_115 (by decide) ?_
            have hP9 := hP.sub (ws' := [(h0, .inr (1, [.int a0, .int a1, .int a2, .int a3, .int a4, .int a5, .int a6, .int a7, .int a8, .int a9, .int a10, .int a11, .ref h1]))]) [0] rfl
            have hD9 := hD.sub (ws' := [(h0, .inr (1, [.int a0, .int a1, .int a2, .int a3, .int a4, .int a5, .int a6, .int a7, .int a8, .int a9, .int a10, .int a11, .ref h1]))]) [0] (by decide) rfl
            have hK9 := hK.sub (tys' := []) [] rfl
            have ef : fx_X1_byOutcome a1 p0 p1 = 23 := by unfold fx_X1_byOutcome; rw [if_pos c_1, if_neg c_2, if_neg c_3, if_pos c_4, if_neg c_5, if_pos c_6]
            exact W.iret (v := 23) hx hb hr (fun t ht hW => ⟨⟨23, [(h0, .inr (1, [.int a0, .int a1, .int a2, .int a3, .int a4, .int a5, .int a6, .int a7, .int a8, .int a9, .int a10, .int a11, .ref h1]))], rfl, ⟨ef.symm, rfl⟩, by rw [ht]; exact hP9, va_K.moved hW.alike hK9, hD9⟩, hS.F ht⟩) hS.2.2 dX1_byOutcome_120
          refine lv_iload_n hx hb dX1_byOutcome_94 rfl (lv_at hl 3 rfl) ?_
          refine lv_iconst (v := 4) hx hb dX1_byOutcome_95 (by decide) ?_
          refine lv_icmp_eq (tgt := 113) hx hb dX1_byOutcome_96 (by decide) (fun c_7 => ?_) (fun c_7 => ?_)
          · refine lv_bipush (v := 23) hx hb dX1_byOutcome_113 (by decide) ?_
            refine lv_goto (tgt := 120) hx hb dX1_byOutcome_115 (by decide) ?_
            have hP9 := hP.sub (ws' := [(h0, .inr (1, [.int a0, .int a1, .int a2, .int a3, .int a4, .int a5, .int a6, .int a7, .int a8, .int a9, .int a10, .int a11, .ref h1]))]) [0] rfl
            have hD9 := hD.sub (ws' := [(h0, .inr (1, [.int a0, .int a1, .int a2, .int a3, .int a4, .int a5, .int a6, .int a7, .int a8, .int a9, .int a10, .int a11, .ref h1]))]) [0] (by decide) rfl
            have hK9 := hK.sub (tys' := []) [] rfl
            have ef : fx_X1_byOutcome a1 p0 p1 = 23 := by unfold fx_X1_byOutcome; rw [if_pos c_1, if_neg c_2, if_neg c_3, if_pos c_4, if_neg c_5, if_neg c_6, if_pos c_7]
            exact W.iret (v := 23) hx hb hr (fun t ht hW => ⟨⟨23, [(h0, .inr (1, [.int a0, .int a1, .int a2, .int a3, .int a4, .int a5, .int a6, .int a7, .int a8, .int a9, .int a10, .int a11, .ref h1]))], rfl, ⟨ef.symm, rfl⟩, by rw [ht]; exact hP9, va_K.moved hW.alike hK9, hD9⟩, hS.F ht⟩) hS.2.2 dX1_byOutcome_120
          refine lv_iload_n hx hb dX1_byOutcome_99 rfl (lv_at hl 3 rfl) ?_
          refine lv_iconst (v := 5) hx hb dX1_byOutcome_100 (by decide) ?_
          refine lv_icmp_eq (tgt := 113) hx hb dX1_byOutcome_101 (by decide) (fun c_8 => ?_) (fun c_8 => ?_)
          · refine lv_bipush (v := 23) hx hb dX1_byOutcome_113 (by decide) ?_
            refine lv_goto (tgt := 120) hx hb dX1_byOutcome_115 (by decide) ?_
            have hP9 := hP.sub (ws' := [(h0, .inr (1, [.int a0, .int a1, .int a2, .int a3, .int a4, .int a5, .int a6, .int a7, .int a8, .int a9, .int a10, .int a11, .ref h1]))]) [0] rfl
            have hD9 := hD.sub (ws' := [(h0, .inr (1, [.int a0, .int a1, .int a2, .int a3, .int a4, .int a5, .int a6, .int a7, .int a8, .int a9, .int a10, .int a11, .ref h1]))]) [0] (by decide) rfl
            have hK9 := hK.sub (tys' := []) [] rfl
            have ef : fx_X1_byOutcome a1 p0 p1 = 23 := by unfold fx_X1_byOutcome; rw [if_pos c_1, if_neg c_2, if_neg c_3, if_pos c_4, if_neg c_5, if_neg c_6, if_neg c_7, if_pos c_8]
            exact W.iret (v := 23) hx hb hr (fun t ht hW => ⟨⟨23, [(h0, .inr (1, [.int a0, .int a1, .int a2, .int a3, .int a4, .int a5, .int a6, .int a7, .int a8, .int a9, .int a10, .int a11, .ref h1]))], rfl, ⟨ef.symm, rfl⟩, by rw [ht]; exact hP9, va_K.moved hW.alike hK9, hD9⟩, hS.F ht⟩) hS.2.2 dX1_byOutcome_120
          refine lv_iload_n hx hb dX1_byOutcome_104 rfl (lv_at hl 3 rfl) ?_
          refine lv_iconst (v := 3) hx hb dX1_byOutcome_105 (by decide) ?_
          refine lv_icmp_ne (tgt := 118) hx hb dX1_byOutcome_106 (by decide) (fun c_9 => ?_) (fun c_9 => ?_)
          · refine lv_bipush (v := 90) hx hb dX1_byOutcome_118 (by decide) ?_
            have hP9 := hP.sub (ws' := [(h0, .inr (1, [.int a0, .int a1, .int a2, .int a3, .int a4, .int a5, .int a6, .int a7, .int a8, .int a9, .int a10, .int a11, .ref h1]))]) [0] rfl
            have hD9 := hD.sub (ws' := [(h0, .inr (1, [.int a0, .int a1, .int a2, .int a3, .int a4, .int a5, .int a6, .int a7, .int a8, .int a9, .int a10, .int a11, .ref h1]))]) [0] (by decide) rfl
            have hK9 := hK.sub (tys' := []) [] rfl
            have ef : fx_X1_byOutcome a1 p0 p1 = 90 := by unfold fx_X1_byOutcome; rw [if_pos c_1, if_neg c_2, if_neg c_3, if_pos c_4, if_neg c_5, if_neg c_6, if_neg c_7, if_neg c_8]
            exact W.iret (v := 90) hx hb hr (fun t ht hW => ⟨⟨90, [(h0, .inr (1, [.int a0, .int a1, .int a2, .int a3, .int a4, .int a5, .int a6, .int a7, .int a8, .int a9, .int a10, .int a11, .ref h1]))], rfl, ⟨ef.symm, rfl⟩, by rw [ht]; exact hP9, va_K.moved hW.alike hK9, hD9⟩, hS.F ht⟩) hS.2.2 dX1_byOutcome_120
          refine lv_iload_n hx hb dX1_byOutcome_109 rfl (lv_at hl 1 rfl) ?_
          refine lv_if_eq (tgt := 118) hx hb dX1_byOutcome_110 (by decide) (fun c9 => ?_) (fun c9 => absurd c9 (by decide))
          refine lv_bipush (v := 90) hx hb dX1_byOutcome_118 (by decide) ?_
          have hP9 := hP.sub (ws' := [(h0, .inr (1, [.int a0, .int a1, .int a2, .int a3, .int a4, .int a5, .int a6, .int a7, .int a8, .int a9, .int a10, .int a11, .ref h1]))]) [0] rfl
          have hD9 := hD.sub (ws' := [(h0, .inr (1, [.int a0, .int a1, .int a2, .int a3, .int a4, .int a5, .int a6, .int a7, .int a8, .int a9, .int a10, .int a11, .ref h1]))]) [0] (by decide) rfl
          have hK9 := hK.sub (tys' := []) [] rfl
          have ef : fx_X1_byOutcome a1 p0 p1 = 90 := by unfold fx_X1_byOutcome; rw [if_pos c_1, if_neg c_2, if_neg c_3, if_pos c_4, if_neg c_5, if_neg c_6, if_neg c_7, if_neg c_8]
          exact W.iret (v := 90) hx hb hr (fun t ht hW => ⟨⟨90, [(h0, .inr (1, [.int a0, .int a1, .int a2, .int a3, .int a4, .int a5, .int a6, .int a7, .int a8, .int a9, .int a10, .int a11, .ref h1]))], rfl, ⟨ef.symm, rfl⟩, by rw [ht]; exact hP9, va_K.moved hW.alike hK9, hD9⟩, hS.F ht⟩) hS.2.2 dX1_byOutcome_120
        refine lv_bipush (v := 10) hx hb dX1_byOutcome_86 (by decide) ?_
        have hP9 := hP.sub (ws' := [(h0, .inr (1, [.int a0, .int a1, .int a2, .int a3, .int a4, .int a5, .int a6, .int a7, .int a8, .int a9, .int a10, .int a11, .ref h1]))]) [0] rfl
        have hD9 := hD.sub (ws' := [(h0, .inr (1, [.int a0, .int a1, .int a2, .int a3, .int a4, .int a5, .int a6, .int a7, .int a8, .int a9, .int a10, .int a11, .ref h1]))]) [0] (by decide) rfl
        have hK9 := hK.sub (tys' := []) [] rfl
        have ef : fx_X1_byOutcome a1 p0 p1 = 10 := by unfold fx_X1_byOutcome; rw [if_pos c_1, if_neg c_2, if_neg c_3, if_pos c_4, if_pos c_5]
        exact W.iret (v := 10) hx hb hr (fun t ht hW => ⟨⟨10, [(h0, .inr (1, [.int a0, .int a1, .int a2, .int a3, .int a4, .int a5, .int a6, .int a7, .int a8, .int a9, .int a10, .int a11, .ref h1]))], rfl, ⟨ef.symm, rfl⟩, by rw [ht]; exact hP9, va_K.moved hW.alike hK9, hD9⟩, hS.F ht⟩) hS.2.2 dX1_byOutcome_88
      by_cases c_10 : p1 = 2
      · refine lv_tableIn (off := 92) (tgt := 121) hx hb dX1_byOutcome_29 (by rw [c_10]; decide) (by rw [c_10]; decide) (by rw [c_10]; rfl) (by decide) ?_
        refine lv_iload hx hb dX1_byOutcome_121 (lv_at hl 0 rfl) ?_
        refine lv_if_eq (tgt := 135) hx hb dX1_byOutcome_123 (by decide) (fun c9 => ?_) (fun c9 => absurd c9 (by decide))
        refine lv_bipush (v := 90) hx hb dX1_byOutcome_135 (by decide) ?_
        have hP9 := hP.sub (ws' := [(h0, .inr (1, [.int a0, .int a1, .int a2, .int a3, .int a4, .int a5, .int a6, .int a7, .int a8, .int a9, .int a10, .int a11, .ref h1]))]) [0] rfl
        have hD9 := hD.sub (ws' := [(h0, .inr (1, [.int a0, .int a1, .int a2, .int a3, .int a4, .int a5, .int a6, .int a7, .int a8, .int a9, .int a10, .int a11, .ref h1]))]) [0] (by decide) rfl
        have hK9 := hK.sub (tys' := []) [] rfl
        have ef : fx_X1_byOutcome a1 p0 p1 = 90 := by unfold fx_X1_byOutcome; rw [if_pos c_1, if_neg c_2, if_neg c_3, if_neg c_4, if_pos c_10]
        exact W.iret (v := 90) hx hb hr (fun t ht hW => ⟨⟨90, [(h0, .inr (1, [.int a0, .int a1, .int a2, .int a3, .int a4, .int a5, .int a6, .int a7, .int a8, .int a9, .int a10, .int a11, .ref h1]))], rfl, ⟨ef.symm, rfl⟩, by rw [ht]; exact hP9, va_K.moved hW.alike hK9, hD9⟩, hS.F ht⟩) hS.2.2 dX1_byOutcome_137
      by_cases c_11 : p1 = 3
      · refine lv_tableIn (off := 109) (tgt := 138) hx hb dX1_byOutcome_29 (by rw [c_11]; decide) (by rw [c_11]; decide) (by rw [c_11]; rfl) (by decide) ?_
        refine lv_iload_n hx hb dX1_byOutcome_138 rfl (lv_at hl 3 rfl) ?_
        refine lv_iconst (v := 2) hx hb dX1_byOutcome_139 (by decide) ?_
        refine lv_icmp_ne (tgt := 147) hx hb dX1_byOutcome_140 (by decide) (fun c_12 => ?_) (fun c_12 => ?_)
        · refine lv_iload_n hx hb dX1_byOutcome_147 rfl (lv_at hl 3 rfl) ?_
          refine lv_iconst (v := 3) hx hb dX1_byOutcome_148 (by decide) ?_
          refine lv_icmp_ne (tgt := 162) hx hb dX1_byOutcome_149 (by decide) (fun c_13 => ?_) (fun c_13 => ?_)
          · refine lv_bipush (v := 90) hx hb dX1_byOutcome_162 (by decide) ?_
            have hP9 := hP.sub (ws' := [(h0, .inr (1, [.int a0, .int a1, .int a2, .int a3, .int a4, .int a5, .int a6, .int a7, .int a8, .int a9, .int a10, .int a11, .ref h1]))]) [0] rfl
            have hD9 := hD.sub (ws' := [(h0, .inr (1, [.int a0, .int a1, .int a2, .int a3, .int a4, .int a5, .int a6, .int a7, .int a8, .int a9, .int a10, .int a11, .ref h1]))]) [0] (by decide) rfl
            have hK9 := hK.sub (tys' := []) [] rfl
            have ef : fx_X1_byOutcome a1 p0 p1 = 90 := by unfold fx_X1_byOutcome; rw [if_pos c_1, if_neg c_2, if_neg c_3, if_neg c_4, if_neg c_10, if_pos c_11]
            exact W.iret (v := 90) hx hb hr (fun t ht hW => ⟨⟨90, [(h0, .inr (1, [.int a0, .int a1, .int a2, .int a3, .int a4, .int a5, .int a6, .int a7, .int a8, .int a9, .int a10, .int a11, .ref h1]))], rfl, ⟨ef.symm, rfl⟩, by rw [ht]; exact hP9, va_K.moved hW.alike hK9, hD9⟩, hS.F ht⟩) hS.2.2 dX1_byOutcome_164
          refine lv_iload hx hb dX1_byOutcome_152 (lv_at hl 0 rfl) ?_
          refine lv_if_eq (tgt := 162) hx hb dX1_byOutcome_154 (by decide) (fun c9 => ?_) (fun c9 => absurd c9 (by decide))
          refine lv_bipush (v := 90) hx hb dX1_byOutcome_162 (by decide) ?_
          have hP9 := hP.sub (ws' := [(h0, .inr (1, [.int a0, .int a1, .int a2, .int a3, .int a4, .int a5, .int a6, .int a7, .int a8, .int a9, .int a10, .int a11, .ref h1]))]) [0] rfl
          have hD9 := hD.sub (ws' := [(h0, .inr (1, [.int a0, .int a1, .int a2, .int a3, .int a4, .int a5, .int a6, .int a7, .int a8, .int a9, .int a10, .int a11, .ref h1]))]) [0] (by decide) rfl
          have hK9 := hK.sub (tys' := []) [] rfl
          have ef : fx_X1_byOutcome a1 p0 p1 = 90 := by unfold fx_X1_byOutcome; rw [if_pos c_1, if_neg c_2, if_neg c_3, if_neg c_4, if_neg c_10, if_pos c_11]
          exact W.iret (v := 90) hx hb hr (fun t ht hW => ⟨⟨90, [(h0, .inr (1, [.int a0, .int a1, .int a2, .int a3, .int a4, .int a5, .int a6, .int a7, .int a8, .int a9, .int a10, .int a11, .ref h1]))], rfl, ⟨ef.symm, rfl⟩, by rw [ht]; exact hP9, va_K.moved hW.alike hK9, hD9⟩, hS.F ht⟩) hS.2.2 dX1_byOutcome_164
        refine lv_iload_n hx hb dX1_byOutcome_143 rfl (lv_at hl 1 rfl) ?_
        refine lv_if_ne (tgt := 157) hx hb dX1_byOutcome_144 (by decide) (fun c9 => absurd c9 (by decide)) (fun c9 => ?_)
        refine lv_iload_n hx hb dX1_byOutcome_147 rfl (lv_at hl 3 rfl) ?_
        refine lv_iconst (v := 3) hx hb dX1_byOutcome_148 (by decide) ?_
        refine lv_icmp_ne (tgt := 162) hx hb dX1_byOutcome_149 (by decide) (fun c9 => ?_) (fun c9 => absurd (c_12.symm.trans c9) (by decide))
        refine lv_bipush (v := 90) hx hb dX1_byOutcome_162 (by decide) ?_
        have hP9 := hP.sub (ws' := [(h0, .inr (1, [.int a0, .int a1, .int a2, .int a3, .int a4, .int a5, .int a6, .int a7, .int a8, .int a9, .int a10, .int a11, .ref h1]))]) [0] rfl
        have hD9 := hD.sub (ws' := [(h0, .inr (1, [.int a0, .int a1, .int a2, .int a3, .int a4, .int a5, .int a6, .int a7, .int a8, .int a9, .int a10, .int a11, .ref h1]))]) [0] (by decide) rfl
        have hK9 := hK.sub (tys' := []) [] rfl
        have ef : fx_X1_byOutcome a1 p0 p1 = 90 := by unfold fx_X1_byOutcome; rw [if_pos c_1, if_neg c_2, if_neg c_3, if_neg c_4, if_neg c_10, if_pos c_11]
        exact W.iret (v := 90) hx hb hr (fun t ht hW => ⟨⟨90, [(h0, .inr (1, [.int a0, .int a1, .int a2, .int a3, .int a4, .int a5, .int a6, .int a7, .int a8, .int a9, .int a10, .int a11, .ref h1]))], rfl, ⟨ef.symm, rfl⟩, by rw [ht]; exact hP9, va_K.moved hW.alike hK9, hD9⟩, hS.F ht⟩) hS.2.2 dX1_byOutcome_164
      by_cases c_14 : p1 = 4
      · refine lv_tableIn (off := 136) (tgt := 165) hx hb dX1_byOutcome_29 (by rw [c_14]; decide) (by rw [c_14]; decide) (by rw [c_14]; rfl) (by decide) ?_
        refine lv_iload_n hx hb dX1_byOutcome_165 rfl (lv_at hl 3 rfl) ?_
        refine lv_iconst (v := 2) hx hb dX1_byOutcome_166 (by decide) ?_
        refine lv_icmp_ne (tgt := 182) hx hb dX1_byOutcome_167 (by decide) (fun c_15 => ?_) (fun c_15 => ?_)
        · refine lv_iload_n hx hb dX1_byOutcome_182 rfl (lv_at hl 3 rfl) ?_
          refine lv_if_ne (tgt := 199) hx hb dX1_byOutcome_183 (by decide) (fun c_16 => ?_) (fun c_16 => ?_)
          · refine lv_bipush (v := 90) hx hb dX1_byOutcome_199 (by decide) ?_
            have hP9 := hP.sub (ws' := [(h0, .inr (1, [.int a0, .int a1, .int a2, .int a3, .int a4, .int a5, .int a6, .int a7, .int a8, .int a9, .int a10, .int a11, .ref h1]))]) [0] rfl
            have hD9 := hD.sub (ws' := [(h0, .inr (1, [.int a0, .int a1, .int a2, .int a3, .int a4, .int a5, .int a6, .int a7, .int a8, .int a9, .int a10, .int a11, .ref h1]))]) [0] (by decide) rfl
            have hK9 := hK.sub (tys' := []) [] rfl
            have ef : fx_X1_byOutcome a1 p0 p1 = 90 := by unfold fx_X1_byOutcome; rw [if_pos c_1, if_neg c_2, if_neg c_3, if_neg c_4, if_neg c_10, if_neg c_11, if_pos c_14, if_neg c_15, if_neg c_16]
            exact W.iret (v := 90) hx hb hr (fun t ht hW => ⟨⟨90, [(h0, .inr (1, [.int a0, .int a1, .int a2, .int a3, .int a4, .int a5, .int a6, .int a7, .int a8, .int a9, .int a10, .int a11, .ref h1]))], rfl, ⟨ef.symm, rfl⟩, by rw [ht]; exact hP9, va_K.moved hW.alike hK9, hD9⟩, hS.F ht⟩) hS.2.2 dX1_byOutcome_201
          refine lv_aload_n hx hb dX1_byOutcome_186 rfl (lv_at hl 2 rfl) ?_
          refine va_get (D := (dC, dI)) (ci := 1) (v := .int a1) (C := RX1) (T := TX1) (N := 13) hx hb hts (fun _ h => List.mem_cons_of_mem _ (List.mem_append_right _ h)) hown hK hP 0 rfl rfl 1 (by decide) (hts (.fieldLink RX1 17 "FileStatusModel" "organisation" "I") (by decide +kernel)) (fun _ h9 => h9) rfl dX1_byOutcome_187 ?_
          refine lv_iconst (v := 1) hx hb dX1_byOutcome_190 (by decide) ?_
          refine lv_icmp_ne (tgt := 199) hx hb dX1_byOutcome_191 (by decide) (fun c_17 => ?_) (fun c_17 => ?_)
          · refine lv_bipush (v := 90) hx hb dX1_byOutcome_199 (by decide) ?_
            have hP9 := hP.sub (ws' := [(h0, .inr (1, [.int a0, .int a1, .int a2, .int a3, .int a4, .int a5, .int a6, .int a7, .int a8, .int a9, .int a10, .int a11, .ref h1]))]) [0] rfl
            have hD9 := hD.sub (ws' := [(h0, .inr (1, [.int a0, .int a1, .int a2, .int a3, .int a4, .int a5, .int a6, .int a7, .int a8, .int a9, .int a10, .int a11, .ref h1]))]) [0] (by decide) rfl
            have hK9 := hK.sub (tys' := []) [] rfl
            have ef : fx_X1_byOutcome a1 p0 p1 = 90 := by unfold fx_X1_byOutcome; rw [if_pos c_1, if_neg c_2, if_neg c_3, if_neg c_4, if_neg c_10, if_neg c_11, if_pos c_14, if_neg c_15, if_pos c_16, if_neg c_17]
            exact W.iret (v := 90) hx hb hr (fun t ht hW => ⟨⟨90, [(h0, .inr (1, [.int a0, .int a1, .int a2, .int a3, .int a4, .int a5, .int a6, .int a7, .int a8, .int a9, .int a10, .int a11, .ref h1]))], rfl, ⟨ef.symm, rfl⟩, by rw [ht]; exact hP9, va_K.moved hW.alike hK9, hD9⟩, hS.F ht⟩) hS.2.2 dX1_byOutcome_201
          refine lv_bipush (v := 14) hx hb dX1_byOutcome_194 (by decide) ?_
          refine lv_goto (tgt := 201) hx hb dX1_byOutcome_196 (by decide) ?_
          have hP9 := hP.sub (ws' := [(h0, .inr (1, [.int a0, .int a1, .int a2, .int a3, .int a4, .int a5, .int a6, .int a7, .int a8, .int a9, .int a10, .int a11, .ref h1]))]) [0] rfl
          have hD9 := hD.sub (ws' := [(h0, .inr (1, [.int a0, .int a1, .int a2, .int a3, .int a4, .int a5, .int a6, .int a7, .int a8, .int a9, .int a10, .int a11, .ref h1]))]) [0] (by decide) rfl
          have hK9 := hK.sub (tys' := []) [] rfl
          have ef : fx_X1_byOutcome a1 p0 p1 = 14 := by unfold fx_X1_byOutcome; rw [if_pos c_1, if_neg c_2, if_neg c_3, if_neg c_4, if_neg c_10, if_neg c_11, if_pos c_14, if_neg c_15, if_pos c_16, if_pos c_17]
          exact W.iret (v := 14) hx hb hr (fun t ht hW => ⟨⟨14, [(h0, .inr (1, [.int a0, .int a1, .int a2, .int a3, .int a4, .int a5, .int a6, .int a7, .int a8, .int a9, .int a10, .int a11, .ref h1]))], rfl, ⟨ef.symm, rfl⟩, by rw [ht]; exact hP9, va_K.moved hW.alike hK9, hD9⟩, hS.F ht⟩) hS.2.2 dX1_byOutcome_201
        refine lv_iload_n hx hb dX1_byOutcome_170 rfl (lv_at hl 1 rfl) ?_
        refine lv_if_eq (tgt := 179) hx hb dX1_byOutcome_171 (by decide) (fun c9 => ?_) (fun c9 => absurd c9 (by decide))
        refine lv_bipush (v := 34) hx hb dX1_byOutcome_179 (by decide) ?_
        have hP9 := hP.sub (ws' := [(h0, .inr (1, [.int a0, .int a1, .int a2, .int a3, .int a4, .int a5, .int a6, .int a7, .int a8, .int a9, .int a10, .int a11, .ref h1]))]) [0] rfl
        have hD9 := hD.sub (ws' := [(h0, .inr (1, [.int a0, .int a1, .int a2, .int a3, .int a4, .int a5, .int a6, .int a7, .int a8, .int a9, .int a10, .int a11, .ref h1]))]) [0] (by decide) rfl
        have hK9 := hK.sub (tys' := []) [] rfl
        have ef : fx_X1_byOutcome a1 p0 p1 = 34 := by unfold fx_X1_byOutcome; rw [if_pos c_1, if_neg c_2, if_neg c_3, if_neg c_4, if_neg c_10, if_neg c_11, if_pos c_14, if_pos c_15]
        exact W.iret (v := 34) hx hb hr (fun t ht hW => ⟨⟨34, [(h0, .inr (1, [.int a0, .int a1, .int a2, .int a3, .int a4, .int a5, .int a6, .int a7, .int a8, .int a9, .int a10, .int a11, .ref h1]))], rfl, ⟨ef.symm, rfl⟩, by rw [ht]; exact hP9, va_K.moved hW.alike hK9, hD9⟩, hS.F ht⟩) hS.2.2 dX1_byOutcome_181
      by_cases c_18 : p1 = 5
      · refine lv_tableIn (off := 173) (tgt := 202) hx hb dX1_byOutcome_29 (by rw [c_18]; decide) (by rw [c_18]; decide) (by rw [c_18]; rfl) (by decide) ?_
        refine lv_bipush (v := 30) hx hb dX1_byOutcome_202 (by decide) ?_
        have hP9 := hP.sub (ws' := [(h0, .inr (1, [.int a0, .int a1, .int a2, .int a3, .int a4, .int a5, .int a6, .int a7, .int a8, .int a9, .int a10, .int a11, .ref h1]))]) [0] rfl
        have hD9 := hD.sub (ws' := [(h0, .inr (1, [.int a0, .int a1, .int a2, .int a3, .int a4, .int a5, .int a6, .int a7, .int a8, .int a9, .int a10, .int a11, .ref h1]))]) [0] (by decide) rfl
        have hK9 := hK.sub (tys' := []) [] rfl
        have ef : fx_X1_byOutcome a1 p0 p1 = 30 := by unfold fx_X1_byOutcome; rw [if_pos c_1, if_neg c_2, if_neg c_3, if_neg c_4, if_neg c_10, if_neg c_11, if_neg c_14, if_pos c_18]
        exact W.iret (v := 30) hx hb hr (fun t ht hW => ⟨⟨30, [(h0, .inr (1, [.int a0, .int a1, .int a2, .int a3, .int a4, .int a5, .int a6, .int a7, .int a8, .int a9, .int a10, .int a11, .ref h1]))], rfl, ⟨ef.symm, rfl⟩, by rw [ht]; exact hP9, va_K.moved hW.alike hK9, hD9⟩, hS.F ht⟩) hS.2.2 dX1_byOutcome_204
      by_cases c_19 : p1 = 6
      · refine lv_tableIn (off := 176) (tgt := 205) hx hb dX1_byOutcome_29 (by rw [c_19]; decide) (by rw [c_19]; decide) (by rw [c_19]; rfl) (by decide) ?_
        refine lv_iload_n hx hb dX1_byOutcome_205 rfl (lv_at hl 3 rfl) ?_
        refine lv_bipush (v := 6) hx hb dX1_byOutcome_206 (by decide) ?_
        refine lv_icmp_ge (tgt := 216) hx hb dX1_byOutcome_208 (by decide) (fun c_20 => ?_) (fun c_20 => ?_)
        · refine lv_bipush (v := 90) hx hb dX1_byOutcome_216 (by decide) ?_
          have hP9 := hP.sub (ws' := [(h0, .inr (1, [.int a0, .int a1, .int a2, .int a3, .int a4, .int a5, .int a6, .int a7, .int a8, .int a9, .int a10, .int a11, .ref h1]))]) [0] rfl
          have hD9 := hD.sub (ws' := [(h0, .inr (1, [.int a0, .int a1, .int a2, .int a3, .int a4, .int a5, .int a6, .int a7, .int a8, .int a9, .int a10, .int a11, .ref h1]))]) [0] (by decide) rfl
          have hK9 := hK.sub (tys' := []) [] rfl
          have ef : fx_X1_byOutcome a1 p0 p1 = 90 := by unfold fx_X1_byOutcome; rw [if_pos c_1, if_neg c_2, if_neg c_3, if_neg c_4, if_neg c_10, if_neg c_11, if_neg c_14, if_neg c_18, if_pos c_19, if_pos c_20]
          exact W.iret (v := 90) hx hb hr (fun t ht hW => ⟨⟨90, [(h0, .inr (1, [.int a0, .int a1, .int a2, .int a3, .int a4, .int a5, .int a6, .int a7, .int a8, .int a9, .int a10, .int a11, .ref h1]))], rfl, ⟨ef.symm, rfl⟩, by rw [ht]; exact hP9, va_K.moved hW.alike hK9, hD9⟩, hS.F ht⟩) hS.2.2 dX1_byOutcome_218
        refine lv_bipush (v := 51) hx hb dX1_byOutcome_211 (by decide) ?_
        refine lv_goto (tgt := 218) hx hb dX1_byOutcome_213 (by decide) ?_
        have hP9 := hP.sub (ws' := [(h0, .inr (1, [.int a0, .int a1, .int a2, .int a3, .int a4, .int a5, .int a6, .int a7, .int a8, .int a9, .int a10, .int a11, .ref h1]))]) [0] rfl
        have hD9 := hD.sub (ws' := [(h0, .inr (1, [.int a0, .int a1, .int a2, .int a3, .int a4, .int a5, .int a6, .int a7, .int a8, .int a9, .int a10, .int a11, .ref h1]))]) [0] (by decide) rfl
        have hK9 := hK.sub (tys' := []) [] rfl
        have ef : fx_X1_byOutcome a1 p0 p1 = 51 := by unfold fx_X1_byOutcome; rw [if_pos c_1, if_neg c_2, if_neg c_3, if_neg c_4, if_neg c_10, if_neg c_11, if_neg c_14, if_neg c_18, if_pos c_19, if_neg c_20]
        exact W.iret (v := 51) hx hb hr (fun t ht hW => ⟨⟨51, [(h0, .inr (1, [.int a0, .int a1, .int a2, .int a3, .int a4, .int a5, .int a6, .int a7, .int a8, .int a9, .int a10, .int a11, .ref h1]))], rfl, ⟨ef.symm, rfl⟩, by rw [ht]; exact hP9, va_K.moved hW.alike hK9, hD9⟩, hS.F ht⟩) hS.2.2 dX1_byOutcome_218
      by_cases c_21 : p1 = 7
      · refine lv_tableIn (off := 190) (tgt := 219) hx hb dX1_byOutcome_29 (by rw [c_21]; decide) (by rw [c_21]; decide) (by rw [c_21]; rfl) (by decide) ?_
        refine lv_iload_n hx hb dX1_byOutcome_219 rfl (lv_at hl 3 rfl) ?_
        refine lv_iconst (v := 2) hx hb dX1_byOutcome_220 (by decide) ?_
        refine lv_icmp_ge (tgt := 228) hx hb dX1_byOutcome_221 (by decide) (fun c_22 => ?_) (fun c_22 => ?_)
        · refine lv_iload_n hx hb dX1_byOutcome_228 rfl (lv_at hl 3 rfl) ?_
          refine lv_iconst (v := 4) hx hb dX1_byOutcome_229 (by decide) ?_
          refine lv_icmp_ge (tgt := 238) hx hb dX1_byOutcome_230 (by decide) (fun c_23 => ?_) (fun c_23 => ?_)
          · refine lv_bipush (v := 90) hx hb dX1_byOutcome_238 (by decide) ?_
            have hP9 := hP.sub (ws' := [(h0, .inr (1, [.int a0, .int a1, .int a2, .int a3, .int a4, .int a5, .int a6, .int a7, .int a8, .int a9, .int a10, .int a11, .ref h1]))]) [0] rfl
            have hD9 := hD.sub (ws' := [(h0, .inr (1, [.int a0, .int a1, .int a2, .int a3, .int a4, .int a5, .int a6, .int a7, .int a8, .int a9, .int a10, .int a11, .ref h1]))]) [0] (by decide) rfl
            have hK9 := hK.sub (tys' := []) [] rfl
            have ef : fx_X1_byOutcome a1 p0 p1 = 90 := by unfold fx_X1_byOutcome; rw [if_pos c_1, if_neg c_2, if_neg c_3, if_neg c_4, if_neg c_10, if_neg c_11, if_neg c_14, if_neg c_18, if_neg c_19, if_pos c_21, if_pos c_22, if_pos c_23]
            exact W.iret (v := 90) hx hb hr (fun t ht hW => ⟨⟨90, [(h0, .inr (1, [.int a0, .int a1, .int a2, .int a3, .int a4, .int a5, .int a6, .int a7, .int a8, .int a9, .int a10, .int a11, .ref h1]))], rfl, ⟨ef.symm, rfl⟩, by rw [ht]; exact hP9, va_K.moved hW.alike hK9, hD9⟩, hS.F ht⟩) hS.2.2 dX1_byOutcome_240
          refine lv_bipush (v := 44) hx hb dX1_byOutcome_233 (by decide) ?_
          refine lv_goto (tgt := 240) hx hb dX1_byOutcome_235 (by decide) ?_
          have hP9 := hP.sub (ws' := [(h0, .inr (1, [.int a0, .int a1, .int a2, .int a3, .int a4, .int a5, .int a6, .int a7, .int a8, .int a9, .int a10, .int a11, .ref h1]))]) [0] rfl
          have hD9 := hD.sub (ws' := [(h0, .inr (1, [.int a0, .int a1, .int a2, .int a3, .int a4, .int a5, .int a6, .int a7, .int a8, .int a9, .int a10, .int a11, .ref h1]))]) [0] (by decide) rfl
          have hK9 := hK.sub (tys' := []) [] rfl
          have ef : fx_X1_byOutcome a1 p0 p1 = 44 := by unfold fx_X1_byOutcome; rw [if_pos c_1, if_neg c_2, if_neg c_3, if_neg c_4, if_neg c_10, if_neg c_11, if_neg c_14, if_neg c_18, if_neg c_19, if_pos c_21, if_pos c_22, if_neg c_23]
          exact W.iret (v := 44) hx hb hr (fun t ht hW => ⟨⟨44, [(h0, .inr (1, [.int a0, .int a1, .int a2, .int a3, .int a4, .int a5, .int a6, .int a7, .int a8, .int a9, .int a10, .int a11, .ref h1]))], rfl, ⟨ef.symm, rfl⟩, by rw [ht]; exact hP9, va_K.moved hW.alike hK9, hD9⟩, hS.F ht⟩) hS.2.2 dX1_byOutcome_240
        refine lv_iconst (v := 4) hx hb dX1_byOutcome_224 (by decide) ?_
        refine lv_goto (tgt := 240) hx hb dX1_byOutcome_225 (by decide) ?_
        have hP9 := hP.sub (ws' := [(h0, .inr (1, [.int a0, .int a1, .int a2, .int a3, .int a4, .int a5, .int a6, .int a7, .int a8, .int a9, .int a10, .int a11, .ref h1]))]) [0] rfl
        have hD9 := hD.sub (ws' := [(h0, .inr (1, [.int a0, .int a1, .int a2, .int a3, .int a4, .int a5, .int a6, .int a7, .int a8, .int a9, .int a10, .int a11, .ref h1]))]) [0] (by decide) rfl
        have hK9 := hK.sub (tys' := []) [] rfl
        have ef : fx_X1_byOutcome a1 p0 p1 = 4 := by unfold fx_X1_byOutcome; rw [if_pos c_1, if_neg c_2, if_neg c_3, if_neg c_4, if_neg c_10, if_neg c_11, if_neg c_14, if_neg c_18, if_neg c_19, if_pos c_21, if_neg c_22]
        exact W.iret (v := 4) hx hb hr (fun t ht hW => ⟨⟨4, [(h0, .inr (1, [.int a0, .int a1, .int a2, .int a3, .int a4, .int a5, .int a6, .int a7, .int a8, .int a9, .int a10, .int a11, .ref h1]))], rfl, ⟨ef.symm, rfl⟩, by rw [ht]; exact hP9, va_K.moved hW.alike hK9, hD9⟩, hS.F ht⟩) hS.2.2 dX1_byOutcome_240
      by_cases c_24 : p1 = 8
      · refine lv_tableIn (off := 212) (tgt := 241) hx hb dX1_byOutcome_29 (by rw [c_24]; decide) (by rw [c_24]; decide) (by rw [c_24]; rfl) (by decide) ?_
        refine lv_iload hx hb dX1_byOutcome_241 (lv_at hl 0 rfl) ?_
        refine lv_if_eq (tgt := 261) hx hb dX1_byOutcome_243 (by decide) (fun c9 => ?_) (fun c9 => absurd c9 (by decide))
        refine lv_bipush (v := 90) hx hb dX1_byOutcome_261 (by decide) ?_
        have hP9 := hP.sub (ws' := [(h0, .inr (1, [.int a0, .int a1, .int a2, .int a3, .int a4, .int a5, .int a6, .int a7, .int a8, .int a9, .int a10, .int a11, .ref h1]))]) [0] rfl
        have hD9 := hD.sub (ws' := [(h0, .inr (1, [.int a0, .int a1, .int a2, .int a3, .int a4, .int a5, .int a6, .int a7, .int a8, .int a9, .int a10, .int a11, .ref h1]))]) [0] (by decide) rfl
        have hK9 := hK.sub (tys' := []) [] rfl
        have ef : fx_X1_byOutcome a1 p0 p1 = 90 := by unfold fx_X1_byOutcome; rw [if_pos c_1, if_neg c_2, if_neg c_3, if_neg c_4, if_neg c_10, if_neg c_11, if_neg c_14, if_neg c_18, if_neg c_19, if_neg c_21]
        exact W.iret (v := 90) hx hb hr (fun t ht hW => ⟨⟨90, [(h0, .inr (1, [.int a0, .int a1, .int a2, .int a3, .int a4, .int a5, .int a6, .int a7, .int a8, .int a9, .int a10, .int a11, .ref h1]))], rfl, ⟨ef.symm, rfl⟩, by rw [ht]; exact hP9, va_K.moved hW.alike hK9, hD9⟩, hS.F ht⟩) hS.2.2 dX1_byOutcome_263
      refine lv_tableOut (tgt := 264) hx hb dX1_byOutcome_29 (by have n_0 : (p1 : Int32).toInt ≠ 0 := xx_ne c_3 (by decide); have n_1 : (p1 : Int32).toInt ≠ 1 := xx_ne c_4 (by decide); have n_2 : (p1 : Int32).toInt ≠ 2 := xx_ne c_10 (by decide); have n_3 : (p1 : Int32).toInt ≠ 3 := xx_ne c_11 (by decide); have n_4 : (p1 : Int32).toInt ≠ 4 := xx_ne c_14 (by decide); have n_5 : (p1 : Int32).toInt ≠ 5 := xx_ne c_18 (by decide); have n_6 : (p1 : Int32).toInt ≠ 6 := xx_ne c_19 (by decide); have n_7 : (p1 : Int32).toInt ≠ 7 := xx_ne c_21 (by decide); have n_8 : (p1 : Int32).toInt ≠ 8 := xx_ne c_24 (by decide); omega) (by decide) ?_
      refine lv_bipush (v := 90) hx hb dX1_byOutcome_264 (by decide) ?_
      have hP9 := hP.sub (ws' := [(h0, .inr (1, [.int a0, .int a1, .int a2, .int a3, .int a4, .int a5, .int a6, .int a7, .int a8, .int a9, .int a10, .int a11, .ref h1]))]) [0] rfl
      have hD9 := hD.sub (ws' := [(h0, .inr (1, [.int a0, .int a1, .int a2, .int a3, .int a4, .int a5, .int a6, .int a7, .int a8, .int a9, .int a10, .int a11, .ref h1]))]) [0] (by decide) rfl
      have hK9 := hK.sub (tys' := []) [] rfl
      have ef : fx_X1_byOutcome a1 p0 p1 = 90 := by unfold fx_X1_byOutcome; rw [if_pos c_1, if_neg c_2, if_neg c_3, if_neg c_4, if_neg c_10, if_neg c_11, if_neg c_14, if_neg c_18, if_neg c_19, if_neg c_21]
      exact W.iret (v := 90) hx hb hr (fun t ht hW => ⟨⟨90, [(h0, .inr (1, [.int a0, .int a1, .int a2, .int a3, .int a4, .int a5, .int a6, .int a7, .int a8, .int a9, .int a10, .int a11, .ref h1]))], rfl, ⟨ef.symm, rfl⟩, by rw [ht]; exact hP9, va_K.moved hW.alike hK9, hD9⟩, hS.F ht⟩) hS.2.2 dX1_byOutcome_266
    refine lv_iconst (v := 1) hx hb dX1_byOutcome_21 (by decide) ?_
    refine lv_goto (tgt := 26) hx hb dX1_byOutcome_22 (by decide) ?_
    refine lv_istore (lv' := [(4, .int 1), (3, .int 0), (0, .ref h0), (1, .int p0), (2, .int p1)]) hx hb dX1_byOutcome_26 hl (by decide) rfl (fun ls hl => ?_)
    refine lv_iload_n hx hb dX1_byOutcome_28 rfl (lv_at hl 4 rfl) ?_
    by_cases c_25 : p1 = 0
    · refine lv_tableIn (off := 51) (tgt := 80) hx hb dX1_byOutcome_29 (by rw [c_25]; decide) (by rw [c_25]; decide) (by rw [c_25]; rfl) (by decide) ?_
      refine lv_iconst (v := 0) hx hb dX1_byOutcome_80 (by decide) ?_
      have hP9 := hP.sub (ws' := [(h0, .inr (1, [.int a0, .int a1, .int a2, .int a3, .int a4, .int a5, .int a6, .int a7, .int a8, .int a9, .int a10, .int a11, .ref h1]))]) [0] rfl
      have hD9 := hD.sub (ws' := [(h0, .inr (1, [.int a0, .int a1, .int a2, .int a3, .int a4, .int a5, .int a6, .int a7, .int a8, .int a9, .int a10, .int a11, .ref h1]))]) [0] (by decide) rfl
      have hK9 := hK.sub (tys' := []) [] rfl
      have ef : fx_X1_byOutcome a1 p0 p1 = 0 := by unfold fx_X1_byOutcome; rw [if_pos c_1, if_pos c_2, if_pos c_25]
      exact W.iret (v := 0) hx hb hr (fun t ht hW => ⟨⟨0, [(h0, .inr (1, [.int a0, .int a1, .int a2, .int a3, .int a4, .int a5, .int a6, .int a7, .int a8, .int a9, .int a10, .int a11, .ref h1]))], rfl, ⟨ef.symm, rfl⟩, by rw [ht]; exact hP9, va_K.moved hW.alike hK9, hD9⟩, hS.F ht⟩) hS.2.2 dX1_byOutcome_81
    by_cases c_26 : p1 = 1
    · refine lv_tableIn (off := 53) (tgt := 82) hx hb dX1_byOutcome_29 (by rw [c_26]; decide) (by rw [c_26]; decide) (by rw [c_26]; rfl) (by decide) ?_
      refine lv_iload_n hx hb dX1_byOutcome_82 rfl (lv_at hl 3 rfl) ?_
      refine lv_if_ne (tgt := 89) hx hb dX1_byOutcome_83 (by decide) (fun c_27 => ?_) (fun c_27 => ?_)
      · refine lv_iload_n hx hb dX1_byOutcome_89 rfl (lv_at hl 3 rfl) ?_
        refine lv_iconst (v := 1) hx hb dX1_byOutcome_90 (by decide) ?_
        refine lv_icmp_eq (tgt := 113) hx hb dX1_byOutcome_91 (by decide) (fun c_28 => ?_) (fun c_28 => ?_)
        · refine lv_bipush (v := 23) hx hb dX1_byOutcome_113 (by decide) ?_
          refine lv_goto (tgt := 120) hx hb dX1_byOutcome_115 (by decide) ?_
          have hP9 := hP.sub (ws' := [(h0, .inr (1, [.int a0, .int a1, .int a2, .int a3, .int a4, .int a5, .int a6, .int a7, .int a8, .int a9, .int a10, .int a11, .ref h1]))]) [0] rfl
          have hD9 := hD.sub (ws' := [(h0, .inr (1, [.int a0, .int a1, .int a2, .int a3, .int a4, .int a5, .int a6, .int a7, .int a8, .int a9, .int a10, .int a11, .ref h1]))]) [0] (by decide) rfl
          have hK9 := hK.sub (tys' := []) [] rfl
          have ef : fx_X1_byOutcome a1 p0 p1 = 23 := by unfold fx_X1_byOutcome; rw [if_pos c_1, if_pos c_2, if_neg c_25, if_pos c_26, if_neg c_27, if_pos c_28]
          exact W.iret (v := 23) hx hb hr (fun t ht hW => ⟨⟨23, [(h0, .inr (1, [.int a0, .int a1, .int a2, .int a3, .int a4, .int a5, .int a6, .int a7, .int a8, .int a9, .int a10, .int a11, .ref h1]))], rfl, ⟨ef.symm, rfl⟩, by rw [ht]; exact hP9, va_K.moved hW.alike hK9, hD9⟩, hS.F ht⟩) hS.2.2 dX1_byOutcome_120
        refine lv_iload_n hx hb dX1_byOutcome_94 rfl (lv_at hl 3 rfl) ?_
        refine lv_iconst (v := 4) hx hb dX1_byOutcome_95 (by decide) ?_
        refine lv_icmp_eq (tgt := 113) hx hb dX1_byOutcome_96 (by decide) (fun c_29 => ?_) (fun c_29 => ?_)
        · refine lv_bipush (v := 23) hx hb dX1_byOutcome_113 (by decide) ?_
          refine lv_goto (tgt := 120) hx hb dX1_byOutcome_115 (by decide) ?_
          have hP9 := hP.sub (ws' := [(h0, .inr (1, [.int a0, .int a1, .int a2, .int a3, .int a4, .int a5, .int a6, .int a7, .int a8, .int a9, .int a10, .int a11, .ref h1]))]) [0] rfl
          have hD9 := hD.sub (ws' := [(h0, .inr (1, [.int a0, .int a1, .int a2, .int a3, .int a4, .int a5, .int a6, .int a7, .int a8, .int a9, .int a10, .int a11, .ref h1]))]) [0] (by decide) rfl
          have hK9 := hK.sub (tys' := []) [] rfl
          have ef : fx_X1_byOutcome a1 p0 p1 = 23 := by unfold fx_X1_byOutcome; rw [if_pos c_1, if_pos c_2, if_neg c_25, if_pos c_26, if_neg c_27, if_neg c_28, if_pos c_29]
          exact W.iret (v := 23) hx hb hr (fun t ht hW => ⟨⟨23, [(h0, .inr (1, [.int a0, .int a1, .int a2, .int a3, .int a4, .int a5, .int a6, .int a7, .int a8, .int a9, .int a10, .int a11, .ref h1]))], rfl, ⟨ef.symm, rfl⟩, by rw [ht]; exact hP9, va_K.moved hW.alike hK9, hD9⟩, hS.F ht⟩) hS.2.2 dX1_byOutcome_120
        refine lv_iload_n hx hb dX1_byOutcome_99 rfl (lv_at hl 3 rfl) ?_
        refine lv_iconst (v := 5) hx hb dX1_byOutcome_100 (by decide) ?_
        refine lv_icmp_eq (tgt := 113) hx hb dX1_byOutcome_101 (by decide) (fun c_30 => ?_) (fun c_30 => ?_)
        · refine lv_bipush (v := 23) hx hb dX1_byOutcome_113 (by decide) ?_
          refine lv_goto (tgt := 120) hx hb dX1_byOutcome_115 (by decide) ?_
          have hP9 := hP.sub (ws' := [(h0, .inr (1, [.int a0, .int a1, .int a2, .int a3, .int a4, .int a5, .int a6, .int a7, .int a8, .int a9, .int a10, .int a11, .ref h1]))]) [0] rfl
          have hD9 := hD.sub (ws' := [(h0, .inr (1, [.int a0, .int a1, .int a2, .int a3, .int a4, .int a5, .int a6, .int a7, .int a8, .int a9, .int a10, .int a11, .ref h1]))]) [0] (by decide) rfl
          have hK9 := hK.sub (tys' := []) [] rfl
          have ef : fx_X1_byOutcome a1 p0 p1 = 23 := by unfold fx_X1_byOutcome; rw [if_pos c_1, if_pos c_2, if_neg c_25, if_pos c_26, if_neg c_27, if_neg c_28, if_neg c_29, if_pos c_30]
          exact W.iret (v := 23) hx hb hr (fun t ht hW => ⟨⟨23, [(h0, .inr (1, [.int a0, .int a1, .int a2, .int a3, .int a4, .int a5, .int a6, .int a7, .int a8, .int a9, .int a10, .int a11, .ref h1]))], rfl, ⟨ef.symm, rfl⟩, by rw [ht]; exact hP9, va_K.moved hW.alike hK9, hD9⟩, hS.F ht⟩) hS.2.2 dX1_byOutcome_120
        refine lv_iload_n hx hb dX1_byOutcome_104 rfl (lv_at hl 3 rfl) ?_
        refine lv_iconst (v := 3) hx hb dX1_byOutcome_105 (by decide) ?_
        refine lv_icmp_ne (tgt := 118) hx hb dX1_byOutcome_106 (by decide) (fun c_31 => ?_) (fun c_31 => ?_)
        · refine lv_bipush (v := 90) hx hb dX1_byOutcome_118 (by decide) ?_
          have hP9 := hP.sub (ws' := [(h0, .inr (1, [.int a0, .int a1, .int a2, .int a3, .int a4, .int a5, .int a6, .int a7, .int a8, .int a9, .int a10, .int a11, .ref h1]))]) [0] rfl
          have hD9 := hD.sub (ws' := [(h0, .inr (1, [.int a0, .int a1, .int a2, .int a3, .int a4, .int a5, .int a6, .int a7, .int a8, .int a9, .int a10, .int a11, .ref h1]))]) [0] (by decide) rfl
          have hK9 := hK.sub (tys' := []) [] rfl
          have ef : fx_X1_byOutcome a1 p0 p1 = 90 := by unfold fx_X1_byOutcome; rw [if_pos c_1, if_pos c_2, if_neg c_25, if_pos c_26, if_neg c_27, if_neg c_28, if_neg c_29, if_neg c_30]
          exact W.iret (v := 90) hx hb hr (fun t ht hW => ⟨⟨90, [(h0, .inr (1, [.int a0, .int a1, .int a2, .int a3, .int a4, .int a5, .int a6, .int a7, .int a8, .int a9, .int a10, .int a11, .ref h1]))], rfl, ⟨ef.symm, rfl⟩, by rw [ht]; exact hP9, va_K.moved hW.alike hK9, hD9⟩, hS.F ht⟩) hS.2.2 dX1_byOutcome_120
        refine lv_iload_n hx hb dX1_byOutcome_109 rfl (lv_at hl 1 rfl) ?_
        refine lv_if_eq (tgt := 118) hx hb dX1_byOutcome_110 (by decide) (fun c9 => ?_) (fun c9 => absurd c9 (by decide))
        refine lv_bipush (v := 90) hx hb dX1_byOutcome_118 (by decide) ?_
        have hP9 := hP.sub (ws' := [(h0, .inr (1, [.int a0, .int a1, .int a2, .int a3, .int a4, .int a5, .int a6, .int a7, .int a8, .int a9, .int a10, .int a11, .ref h1]))]) [0] rfl
        have hD9 := hD.sub (ws' := [(h0, .inr (1, [.int a0, .int a1, .int a2, .int a3, .int a4, .int a5, .int a6, .int a7, .int a8, .int a9, .int a10, .int a11, .ref h1]))]) [0] (by decide) rfl
        have hK9 := hK.sub (tys' := []) [] rfl
        have ef : fx_X1_byOutcome a1 p0 p1 = 90 := by unfold fx_X1_byOutcome; rw [if_pos c_1, if_pos c_2, if_neg c_25, if_pos c_26, if_neg c_27, if_neg c_28, if_neg c_29, if_neg c_30]
        exact W.iret (v := 90) hx hb hr (fun t ht hW => ⟨⟨90, [(h0, .inr (1, [.int a0, .int a1, .int a2, .int a3, .int a4, .int a5, .int a6, .int a7, .int a8, .int a9, .int a10, .int a11, .ref h1]))], rfl, ⟨ef.symm, rfl⟩, by rw [ht]; exact hP9, va_K.moved hW.alike hK9, hD9⟩, hS.F ht⟩) hS.2.2 dX1_byOutcome_120
      refine lv_bipush (v := 10) hx hb dX1_byOutcome_86 (by decide) ?_
      have hP9 := hP.sub (ws' := [(h0, .inr (1, [.int a0, .int a1, .int a2, .int a3, .int a4, .int a5, .int a6, .int a7, .int a8, .int a9, .int a10, .int a11, .ref h1]))]) [0] rfl
      have hD9 := hD.sub (ws' := [(h0, .inr (1, [.int a0, .int a1, .int a2, .int a3, .int a4, .int a5, .int a6, .int a7, .int a8, .int a9, .int a10, .int a11, .ref h1]))]) [0] (by decide) rfl
      have hK9 := hK.sub (tys' := []) [] rfl
      have ef : fx_X1_byOutcome a1 p0 p1 = 10 := by unfold fx_X1_byOutcome; rw [if_pos c_1, if_pos c_2, if_neg c_25, if_pos c_26, if_pos c_27]
      exact W.iret (v := 10) hx hb hr (fun t ht hW => ⟨⟨10, [(h0, .inr (1, [.int a0, .int a1, .int a2, .int a3, .int a4, .int a5, .int a6, .int a7, .int a8, .int a9, .int a10, .int a11, .ref h1]))], rfl, ⟨ef.symm, rfl⟩, by rw [ht]; exact hP9, va_K.moved hW.alike hK9, hD9⟩, hS.F ht⟩) hS.2.2 dX1_byOutcome_88
    by_cases c_32 : p1 = 2
    · refine lv_tableIn (off := 92) (tgt := 121) hx hb dX1_byOutcome_29 (by rw [c_32]; decide) (by rw [c_32]; decide) (by rw [c_32]; rfl) (by decide) ?_
      refine lv_iload hx hb dX1_byOutcome_121 (lv_at hl 0 rfl) ?_
      refine lv_if_eq (tgt := 135) hx hb dX1_byOutcome_123 (by decide) (fun c9 => absurd c9 (by decide)) (fun c9 => ?_)
      refine lv_iload_n hx hb dX1_byOutcome_126 rfl (lv_at hl 3 rfl) ?_
      refine lv_iconst (v := 4) hx hb dX1_byOutcome_127 (by decide) ?_
      refine lv_icmp_ge (tgt := 135) hx hb dX1_byOutcome_128 (by decide) (fun c_33 => ?_) (fun c_33 => ?_)
      · refine lv_bipush (v := 90) hx hb dX1_byOutcome_135 (by decide) ?_
        have hP9 := hP.sub (ws' := [(h0, .inr (1, [.int a0, .int a1, .int a2, .int a3, .int a4, .int a5, .int a6, .int a7, .int a8, .int a9, .int a10, .int a11, .ref h1]))]) [0] rfl
        have hD9 := hD.sub (ws' := [(h0, .inr (1, [.int a0, .int a1, .int a2, .int a3, .int a4, .int a5, .int a6, .int a7, .int a8, .int a9, .int a10, .int a11, .ref h1]))]) [0] (by decide) rfl
        have hK9 := hK.sub (tys' := []) [] rfl
        have ef : fx_X1_byOutcome a1 p0 p1 = 90 := by unfold fx_X1_byOutcome; rw [if_pos c_1, if_pos c_2, if_neg c_25, if_neg c_26, if_pos c_32, if_pos c_33]
        exact W.iret (v := 90) hx hb hr (fun t ht hW => ⟨⟨90, [(h0, .inr (1, [.int a0, .int a1, .int a2, .int a3, .int a4, .int a5, .int a6, .int a7, .int a8, .int a9, .int a10, .int a11, .ref h1]))], rfl, ⟨ef.symm, rfl⟩, by rw [ht]; exact hP9, va_K.moved hW.alike hK9, hD9⟩, hS.F ht⟩) hS.2.2 dX1_byOutcome_137
      refine lv_iconst (v := 2) hx hb dX1_byOutcome_131 (by decide) ?_
      refine lv_goto (tgt := 137) hx hb dX1_byOutcome_132 (by decide) ?_
      have hP9 := hP.sub (ws' := [(h0, .inr (1, [.int a0, .int a1, .int a2, .int a3, .int a4, .int a5, .int a6, .int a7, .int a8, .int a9, .int a10, .int a11, .ref h1]))]) [0] rfl
      have hD9 := hD.sub (ws' := [(h0, .inr (1, [.int a0, .int a1, .int a2, .int a3, .int a4, .int a5, .int a6, .int a7, .int a8, .int a9, .int a10, .int a11, .ref h1]))]) [0] (by decide) rfl
      have hK9 := hK.sub (tys' := []) [] rfl
      have ef : fx_X1_byOutcome a1 p0 p1 = 2 := by unfold fx_X1_byOutcome; rw [if_pos c_1, if_pos c_2, if_neg c_25, if_neg c_26, if_pos c_32, if_neg c_33]
      exact W.iret (v := 2) hx hb hr (fun t ht hW => ⟨⟨2, [(h0, .inr (1, [.int a0, .int a1, .int a2, .int a3, .int a4, .int a5, .int a6, .int a7, .int a8, .int a9, .int a10, .int a11, .ref h1]))], rfl, ⟨ef.symm, rfl⟩, by rw [ht]; exact hP9, va_K.moved hW.alike hK9, hD9⟩, hS.F ht⟩) hS.2.2 dX1_byOutcome_137
    by_cases c_34 : p1 = 3
    · refine lv_tableIn (off := 109) (tgt := 138) hx hb dX1_byOutcome_29 (by rw [c_34]; decide) (by rw [c_34]; decide) (by rw [c_34]; rfl) (by decide) ?_
      refine lv_iload_n hx hb dX1_byOutcome_138 rfl (lv_at hl 3 rfl) ?_
      refine lv_iconst (v := 2) hx hb dX1_byOutcome_139 (by decide) ?_
      refine lv_icmp_ne (tgt := 147) hx hb dX1_byOutcome_140 (by decide) (fun c_35 => ?_) (fun c_35 => ?_)
      · refine lv_iload_n hx hb dX1_byOutcome_147 rfl (lv_at hl 3 rfl) ?_
        refine lv_iconst (v := 3) hx hb dX1_byOutcome_148 (by decide) ?_
        refine lv_icmp_ne (tgt := 162) hx hb dX1_byOutcome_149 (by decide) (fun c_36 => ?_) (fun c_36 => ?_)
        · refine lv_bipush (v := 90) hx hb dX1_byOutcome_162 (by decide) ?_
          have hP9 := hP.sub (ws' := [(h0, .inr (1, [.int a0, .int a1, .int a2, .int a3, .int a4, .int a5, .int a6, .int a7, .int a8, .int a9, .int a10, .int a11, .ref h1]))]) [0] rfl
          have hD9 := hD.sub (ws' := [(h0, .inr (1, [.int a0, .int a1, .int a2, .int a3, .int a4, .int a5, .int a6, .int a7, .int a8, .int a9, .int a10, .int a11, .ref h1]))]) [0] (by decide) rfl
          have hK9 := hK.sub (tys' := []) [] rfl
          have ef : fx_X1_byOutcome a1 p0 p1 = 90 := by unfold fx_X1_byOutcome; rw [if_pos c_1, if_pos c_2, if_neg c_25, if_neg c_26, if_neg c_32, if_pos c_34, if_neg c_35, if_neg c_36]
          exact W.iret (v := 90) hx hb hr (fun t ht hW => ⟨⟨90, [(h0, .inr (1, [.int a0, .int a1, .int a2, .int a3, .int a4, .int a5, .int a6, .int a7, .int a8, .int a9, .int a10, .int a11, .ref h1]))], rfl, ⟨ef.symm, rfl⟩, by rw [ht]; exact hP9, va_K.moved hW.alike hK9, hD9⟩, hS.F ht⟩) hS.2.2 dX1_byOutcome_164
        refine lv_iload hx hb dX1_byOutcome_152 (lv_at hl 0 rfl) ?_
        refine lv_if_eq (tgt := 162) hx hb dX1_byOutcome_154 (by decide) (fun c9 => absurd c9 (by decide)) (fun c9 => ?_)
        refine lv_bipush (v := 22) hx hb dX1_byOutcome_157 (by decide) ?_
        refine lv_goto (tgt := 164) hx hb dX1_byOutcome_159 (by decide) ?_
        have hP9 := hP.sub (ws' := [(h0, .inr (1, [.int a0, .int a1, .int a2, .int a3, .int a4, .int a5, .int a6, .int a7, .int a8, .int a9, .int a10, .int a11, .ref h1]))]) [0] rfl
        have hD9 := hD.sub (ws' := [(h0, .inr (1, [.int a0, .int a1, .int a2, .int a3, .int a4, .int a5, .int a6, .int a7, .int a8, .int a9, .int a10, .int a11, .ref h1]))]) [0] (by decide) rfl
        have hK9 := hK.sub (tys' := []) [] rfl
        have ef : fx_X1_byOutcome a1 p0 p1 = 22 := by unfold fx_X1_byOutcome; rw [if_pos c_1, if_pos c_2, if_neg c_25, if_neg c_26, if_neg c_32, if_pos c_34, if_neg c_35, if_pos c_36]
        exact W.iret (v := 22) hx hb hr (fun t ht hW => ⟨⟨22, [(h0, .inr (1, [.int a0, .int a1, .int a2, .int a3, .int a4, .int a5, .int a6, .int a7, .int a8, .int a9, .int a10, .int a11, .ref h1]))], rfl, ⟨ef.symm, rfl⟩, by rw [ht]; exact hP9, va_K.moved hW.alike hK9, hD9⟩, hS.F ht⟩) hS.2.2 dX1_byOutcome_164
      refine lv_iload_n hx hb dX1_byOutcome_143 rfl (lv_at hl 1 rfl) ?_
      refine lv_if_ne (tgt := 157) hx hb dX1_byOutcome_144 (by decide) (fun c9 => absurd c9 (by decide)) (fun c9 => ?_)
      refine lv_iload_n hx hb dX1_byOutcome_147 rfl (lv_at hl 3 rfl) ?_
      refine lv_iconst (v := 3) hx hb dX1_byOutcome_148 (by decide) ?_
      refine lv_icmp_ne (tgt := 162) hx hb dX1_byOutcome_149 (by decide) (fun c9 => ?_) (fun c9 => absurd (c_35.symm.trans c9) (by decide))
      refine lv_bipush (v := 90) hx hb dX1_byOutcome_162 (by decide) ?_
      have hP9 := hP.sub (ws' := [(h0, .inr (1, [.int a0, .int a1, .int a2, .int a3, .int a4, .int a5, .int a6, .int a7, .int a8, .int a9, .int a10, .int a11, .ref h1]))]) [0] rfl
      have hD9 := hD.sub (ws' := [(h0, .inr (1, [.int a0, .int a1, .int a2, .int a3, .int a4, .int a5, .int a6, .int a7, .int a8, .int a9, .int a10, .int a11, .ref h1]))]) [0] (by decide) rfl
      have hK9 := hK.sub (tys' := []) [] rfl
      have ef : fx_X1_byOutcome a1 p0 p1 = 90 := by unfold fx_X1_byOutcome; rw [if_pos c_1, if_pos c_2, if_neg c_25, if_neg c_26, if_neg c_32, if_pos c_34, if_pos c_35]
      exact W.iret (v := 90) hx hb hr (fun t ht hW => ⟨⟨90, [(h0, .inr (1, [.int a0, .int a1, .int a2, .int a3, .int a4, .int a5, .int a6, .int a7, .int a8, .int a9, .int a10, .int a11, .ref h1]))], rfl, ⟨ef.symm, rfl⟩, by rw [ht]; exact hP9, va_K.moved hW.alike hK9, hD9⟩, hS.F ht⟩) hS.2.2 dX1_byOutcome_164
    by_cases c_37 : p1 = 4
    · refine lv_tableIn (off := 136) (tgt := 165) hx hb dX1_byOutcome_29 (by rw [c_37]; decide) (by rw [c_37]; decide) (by rw [c_37]; rfl) (by decide) ?_
      refine lv_iload_n hx hb dX1_byOutcome_165 rfl (lv_at hl 3 rfl) ?_
      refine lv_iconst (v := 2) hx hb dX1_byOutcome_166 (by decide) ?_
      refine lv_icmp_ne (tgt := 182) hx hb dX1_byOutcome_167 (by decide) (fun c_38 => ?_) (fun c_38 => ?_)
      · refine lv_iload_n hx hb dX1_byOutcome_182 rfl (lv_at hl 3 rfl) ?_
        refine lv_if_ne (tgt := 199) hx hb dX1_byOutcome_183 (by decide) (fun c_39 => ?_) (fun c_39 => ?_)
        · refine lv_bipush (v := 90) hx hb dX1_byOutcome_199 (by decide) ?_
          have hP9 := hP.sub (ws' := [(h0, .inr (1, [.int a0, .int a1, .int a2, .int a3, .int a4, .int a5, .int a6, .int a7, .int a8, .int a9, .int a10, .int a11, .ref h1]))]) [0] rfl
          have hD9 := hD.sub (ws' := [(h0, .inr (1, [.int a0, .int a1, .int a2, .int a3, .int a4, .int a5, .int a6, .int a7, .int a8, .int a9, .int a10, .int a11, .ref h1]))]) [0] (by decide) rfl
          have hK9 := hK.sub (tys' := []) [] rfl
          have ef : fx_X1_byOutcome a1 p0 p1 = 90 := by unfold fx_X1_byOutcome; rw [if_pos c_1, if_pos c_2, if_neg c_25, if_neg c_26, if_neg c_32, if_neg c_34, if_pos c_37, if_neg c_38]
          exact W.iret (v := 90) hx hb hr (fun t ht hW => ⟨⟨90, [(h0, .inr (1, [.int a0, .int a1, .int a2, .int a3, .int a4, .int a5, .int a6, .int a7, .int a8, .int a9, .int a10, .int a11, .ref h1]))], rfl, ⟨ef.symm, rfl⟩, by rw [ht]; exact hP9, va_K.moved hW.alike hK9, hD9⟩, hS.F ht⟩) hS.2.2 dX1_byOutcome_201
        refine lv_aload_n hx hb dX1_byOutcome_186 rfl (lv_at hl 2 rfl) ?_
        refine va_get (D := (dC, dI)) (ci := 1) (v := .int a1) (C := RX1) (T := TX1) (N := 13) hx hb hts (fun _ h => List.mem_cons_of_mem _ (List.mem_append_right _ h)) hown hK hP 0 rfl rfl 1 (by decide) (hts (.fieldLink RX1 17 "FileStatusModel" "organisation" "I") (by decide +kernel)) (fun _ h9 => h9) rfl dX1_byOutcome_187 ?_
        refine lv_iconst (v := 1) hx hb dX1_byOutcome_190 (by decide) ?_
        refine lv_icmp_ne (tgt := 199) hx hb dX1_byOutcome_191 (by decide) (fun c9 => ?_) (fun c9 => absurd (c_2.symm.trans c9) (by decide))
        refine lv_bipush (v := 90) hx hb dX1_byOutcome_199 (by decide) ?_
        have hP9 := hP.sub (ws' := [(h0, .inr (1, [.int a0, .int a1, .int a2, .int a3, .int a4, .int a5, .int a6, .int a7, .int a8, .int a9, .int a10, .int a11, .ref h1]))]) [0] rfl
        have hD9 := hD.sub (ws' := [(h0, .inr (1, [.int a0, .int a1, .int a2, .int a3, .int a4, .int a5, .int a6, .int a7, .int a8, .int a9, .int a10, .int a11, .ref h1]))]) [0] (by decide) rfl
        have hK9 := hK.sub (tys' := []) [] rfl
        have ef : fx_X1_byOutcome a1 p0 p1 = 90 := by unfold fx_X1_byOutcome; rw [if_pos c_1, if_pos c_2, if_neg c_25, if_neg c_26, if_neg c_32, if_neg c_34, if_pos c_37, if_neg c_38]
        exact W.iret (v := 90) hx hb hr (fun t ht hW => ⟨⟨90, [(h0, .inr (1, [.int a0, .int a1, .int a2, .int a3, .int a4, .int a5, .int a6, .int a7, .int a8, .int a9, .int a10, .int a11, .ref h1]))], rfl, ⟨ef.symm, rfl⟩, by rw [ht]; exact hP9, va_K.moved hW.alike hK9, hD9⟩, hS.F ht⟩) hS.2.2 dX1_byOutcome_201
      refine lv_iload_n hx hb dX1_byOutcome_170 rfl (lv_at hl 1 rfl) ?_
      refine lv_if_eq (tgt := 179) hx hb dX1_byOutcome_171 (by decide) (fun c9 => ?_) (fun c9 => absurd c9 (by decide))
      refine lv_bipush (v := 34) hx hb dX1_byOutcome_179 (by decide) ?_
      have hP9 := hP.sub (ws' := [(h0, .inr (1, [.int a0, .int a1, .int a2, .int a3, .int a4, .int a5, .int a6, .int a7, .int a8, .int a9, .int a10, .int a11, .ref h1]))]) [0] rfl
      have hD9 := hD.sub (ws' := [(h0, .inr (1, [.int a0, .int a1, .int a2, .int a3, .int a4, .int a5, .int a6, .int a7, .int a8, .int a9, .int a10, .int a11, .ref h1]))]) [0] (by decide) rfl
      have hK9 := hK.sub (tys' := []) [] rfl
      have ef : fx_X1_byOutcome a1 p0 p1 = 34 := by unfold fx_X1_byOutcome; rw [if_pos c_1, if_pos c_2, if_neg c_25, if_neg c_26, if_neg c_32, if_neg c_34, if_pos c_37, if_pos c_38]
      exact W.iret (v := 34) hx hb hr (fun t ht hW => ⟨⟨34, [(h0, .inr (1, [.int a0, .int a1, .int a2, .int a3, .int a4, .int a5, .int a6, .int a7, .int a8, .int a9, .int a10, .int a11, .ref h1]))], rfl, ⟨ef.symm, rfl⟩, by rw [ht]; exact hP9, va_K.moved hW.alike hK9, hD9⟩, hS.F ht⟩) hS.2.2 dX1_byOutcome_181
    by_cases c_40 : p1 = 5
    · refine lv_tableIn (off := 173) (tgt := 202) hx hb dX1_byOutcome_29 (by rw [c_40]; decide) (by rw [c_40]; decide) (by rw [c_40]; rfl) (by decide) ?_
      refine lv_bipush (v := 30) hx hb dX1_byOutcome_202 (by decide) ?_
      have hP9 := hP.sub (ws' := [(h0, .inr (1, [.int a0, .int a1, .int a2, .int a3, .int a4, .int a5, .int a6, .int a7, .int a8, .int a9, .int a10, .int a11, .ref h1]))]) [0] rfl
      have hD9 := hD.sub (ws' := [(h0, .inr (1, [.int a0, .int a1, .int a2, .int a3, .int a4, .int a5, .int a6, .int a7, .int a8, .int a9, .int a10, .int a11, .ref h1]))]) [0] (by decide) rfl
      have hK9 := hK.sub (tys' := []) [] rfl
      have ef : fx_X1_byOutcome a1 p0 p1 = 30 := by unfold fx_X1_byOutcome; rw [if_pos c_1, if_pos c_2, if_neg c_25, if_neg c_26, if_neg c_32, if_neg c_34, if_neg c_37, if_pos c_40]
      exact W.iret (v := 30) hx hb hr (fun t ht hW => ⟨⟨30, [(h0, .inr (1, [.int a0, .int a1, .int a2, .int a3, .int a4, .int a5, .int a6, .int a7, .int a8, .int a9, .int a10, .int a11, .ref h1]))], rfl, ⟨ef.symm, rfl⟩, by rw [ht]; exact hP9, va_K.moved hW.alike hK9, hD9⟩, hS.F ht⟩) hS.2.2 dX1_byOutcome_204
    by_cases c_41 : p1 = 6
    · refine lv_tableIn (off := 176) (tgt := 205) hx hb dX1_byOutcome_29 (by rw [c_41]; decide) (by rw [c_41]; decide) (by rw [c_41]; rfl) (by decide) ?_
      refine lv_iload_n hx hb dX1_byOutcome_205 rfl (lv_at hl 3 rfl) ?_
      refine lv_bipush (v := 6) hx hb dX1_byOutcome_206 (by decide) ?_
      refine lv_icmp_ge (tgt := 216) hx hb dX1_byOutcome_208 (by decide) (fun c_42 => ?_) (fun c_42 => ?_)
      · refine lv_bipush (v := 90) hx hb dX1_byOutcome_216 (by decide) ?_
        have hP9 := hP.sub (ws' := [(h0, .inr (1, [.int a0, .int a1, .int a2, .int a3, .int a4, .int a5, .int a6, .int a7, .int a8, .int a9, .int a10, .int a11, .ref h1]))]) [0] rfl
        have hD9 := hD.sub (ws' := [(h0, .inr (1, [.int a0, .int a1, .int a2, .int a3, .int a4, .int a5, .int a6, .int a7, .int a8, .int a9, .int a10, .int a11, .ref h1]))]) [0] (by decide) rfl
        have hK9 := hK.sub (tys' := []) [] rfl
        have ef : fx_X1_byOutcome a1 p0 p1 = 90 := by unfold fx_X1_byOutcome; rw [if_pos c_1, if_pos c_2, if_neg c_25, if_neg c_26, if_neg c_32, if_neg c_34, if_neg c_37, if_neg c_40, if_pos c_41, if_pos c_42]
        exact W.iret (v := 90) hx hb hr (fun t ht hW => ⟨⟨90, [(h0, .inr (1, [.int a0, .int a1, .int a2, .int a3, .int a4, .int a5, .int a6, .int a7, .int a8, .int a9, .int a10, .int a11, .ref h1]))], rfl, ⟨ef.symm, rfl⟩, by rw [ht]; exact hP9, va_K.moved hW.alike hK9, hD9⟩, hS.F ht⟩) hS.2.2 dX1_byOutcome_218
      refine lv_bipush (v := 51) hx hb dX1_byOutcome_211 (by decide) ?_
      refine lv_goto (tgt := 218) hx hb dX1_byOutcome_213 (by decide) ?_
      have hP9 := hP.sub (ws' := [(h0, .inr (1, [.int a0, .int a1, .int a2, .int a3, .int a4, .int a5, .int a6, .int a7, .int a8, .int a9, .int a10, .int a11, .ref h1]))]) [0] rfl
      have hD9 := hD.sub (ws' := [(h0, .inr (1, [.int a0, .int a1, .int a2, .int a3, .int a4, .int a5, .int a6, .int a7, .int a8, .int a9, .int a10, .int a11, .ref h1]))]) [0] (by decide) rfl
      have hK9 := hK.sub (tys' := []) [] rfl
      have ef : fx_X1_byOutcome a1 p0 p1 = 51 := by unfold fx_X1_byOutcome; rw [if_pos c_1, if_pos c_2, if_neg c_25, if_neg c_26, if_neg c_32, if_neg c_34, if_neg c_37, if_neg c_40, if_pos c_41, if_neg c_42]
      exact W.iret (v := 51) hx hb hr (fun t ht hW => ⟨⟨51, [(h0, .inr (1, [.int a0, .int a1, .int a2, .int a3, .int a4, .int a5, .int a6, .int a7, .int a8, .int a9, .int a10, .int a11, .ref h1]))], rfl, ⟨ef.symm, rfl⟩, by rw [ht]; exact hP9, va_K.moved hW.alike hK9, hD9⟩, hS.F ht⟩) hS.2.2 dX1_byOutcome_218
    by_cases c_43 : p1 = 7
    · refine lv_tableIn (off := 190) (tgt := 219) hx hb dX1_byOutcome_29 (by rw [c_43]; decide) (by rw [c_43]; decide) (by rw [c_43]; rfl) (by decide) ?_
      refine lv_iload_n hx hb dX1_byOutcome_219 rfl (lv_at hl 3 rfl) ?_
      refine lv_iconst (v := 2) hx hb dX1_byOutcome_220 (by decide) ?_
      refine lv_icmp_ge (tgt := 228) hx hb dX1_byOutcome_221 (by decide) (fun c_44 => ?_) (fun c_44 => ?_)
      · refine lv_iload_n hx hb dX1_byOutcome_228 rfl (lv_at hl 3 rfl) ?_
        refine lv_iconst (v := 4) hx hb dX1_byOutcome_229 (by decide) ?_
        refine lv_icmp_ge (tgt := 238) hx hb dX1_byOutcome_230 (by decide) (fun c_45 => ?_) (fun c_45 => ?_)
        · refine lv_bipush (v := 90) hx hb dX1_byOutcome_238 (by decide) ?_
          have hP9 := hP.sub (ws' := [(h0, .inr (1, [.int a0, .int a1, .int a2, .int a3, .int a4, .int a5, .int a6, .int a7, .int a8, .int a9, .int a10, .int a11, .ref h1]))]) [0] rfl
          have hD9 := hD.sub (ws' := [(h0, .inr (1, [.int a0, .int a1, .int a2, .int a3, .int a4, .int a5, .int a6, .int a7, .int a8, .int a9, .int a10, .int a11, .ref h1]))]) [0] (by decide) rfl
          have hK9 := hK.sub (tys' := []) [] rfl
          have ef : fx_X1_byOutcome a1 p0 p1 = 90 := by unfold fx_X1_byOutcome; rw [if_pos c_1, if_pos c_2, if_neg c_25, if_neg c_26, if_neg c_32, if_neg c_34, if_neg c_37, if_neg c_40, if_neg c_41, if_pos c_43, if_pos c_44, if_pos c_45]
          exact W.iret (v := 90) hx hb hr (fun t ht hW => ⟨⟨90, [(h0, .inr (1, [.int a0, .int a1, .int a2, .int a3, .int a4, .int a5, .int a6, .int a7, .int a8, .int a9, .int a10, .int a11, .ref h1]))], rfl, ⟨ef.symm, rfl⟩, by rw [ht]; exact hP9, va_K.moved hW.alike hK9, hD9⟩, hS.F ht⟩) hS.2.2 dX1_byOutcome_240
        refine lv_bipush (v := 44) hx hb dX1_byOutcome_233 (by decide) ?_
        refine lv_goto (tgt := 240) hx hb dX1_byOutcome_235 (by decide) ?_
        have hP9 := hP.sub (ws' := [(h0, .inr (1, [.int a0, .int a1, .int a2, .int a3, .int a4, .int a5, .int a6, .int a7, .int a8, .int a9, .int a10, .int a11, .ref h1]))]) [0] rfl
        have hD9 := hD.sub (ws' := [(h0, .inr (1, [.int a0, .int a1, .int a2, .int a3, .int a4, .int a5, .int a6, .int a7, .int a8, .int a9, .int a10, .int a11, .ref h1]))]) [0] (by decide) rfl
        have hK9 := hK.sub (tys' := []) [] rfl
        have ef : fx_X1_byOutcome a1 p0 p1 = 44 := by unfold fx_X1_byOutcome; rw [if_pos c_1, if_pos c_2, if_neg c_25, if_neg c_26, if_neg c_32, if_neg c_34, if_neg c_37, if_neg c_40, if_neg c_41, if_pos c_43, if_pos c_44, if_neg c_45]
        exact W.iret (v := 44) hx hb hr (fun t ht hW => ⟨⟨44, [(h0, .inr (1, [.int a0, .int a1, .int a2, .int a3, .int a4, .int a5, .int a6, .int a7, .int a8, .int a9, .int a10, .int a11, .ref h1]))], rfl, ⟨ef.symm, rfl⟩, by rw [ht]; exact hP9, va_K.moved hW.alike hK9, hD9⟩, hS.F ht⟩) hS.2.2 dX1_byOutcome_240
      refine lv_iconst (v := 4) hx hb dX1_byOutcome_224 (by decide) ?_
      refine lv_goto (tgt := 240) hx hb dX1_byOutcome_225 (by decide) ?_
      have hP9 := hP.sub (ws' := [(h0, .inr (1, [.int a0, .int a1, .int a2, .int a3, .int a4, .int a5, .int a6, .int a7, .int a8, .int a9, .int a10, .int a11, .ref h1]))]) [0] rfl
      have hD9 := hD.sub (ws' := [(h0, .inr (1, [.int a0, .int a1, .int a2, .int a3, .int a4, .int a5, .int a6, .int a7, .int a8, .int a9, .int a10, .int a11, .ref h1]))]) [0] (by decide) rfl
      have hK9 := hK.sub (tys' := []) [] rfl
      have ef : fx_X1_byOutcome a1 p0 p1 = 4 := by unfold fx_X1_byOutcome; rw [if_pos c_1, if_pos c_2, if_neg c_25, if_neg c_26, if_neg c_32, if_neg c_34, if_neg c_37, if_neg c_40, if_neg c_41, if_pos c_43, if_neg c_44]
      exact W.iret (v := 4) hx hb hr (fun t ht hW => ⟨⟨4, [(h0, .inr (1, [.int a0, .int a1, .int a2, .int a3, .int a4, .int a5, .int a6, .int a7, .int a8, .int a9, .int a10, .int a11, .ref h1]))], rfl, ⟨ef.symm, rfl⟩, by rw [ht]; exact hP9, va_K.moved hW.alike hK9, hD9⟩, hS.F ht⟩) hS.2.2 dX1_byOutcome_240
    by_cases c_46 : p1 = 8
    · refine lv_tableIn (off := 212) (tgt := 241) hx hb dX1_byOutcome_29 (by rw [c_46]; decide) (by rw [c_46]; decide) (by rw [c_46]; rfl) (by decide) ?_
      refine lv_iload hx hb dX1_byOutcome_241 (lv_at hl 0 rfl) ?_
      refine lv_if_eq (tgt := 261) hx hb dX1_byOutcome_243 (by decide) (fun c9 => absurd c9 (by decide)) (fun c9 => ?_)
      refine lv_iload_n hx hb dX1_byOutcome_246 rfl (lv_at hl 3 rfl) ?_
      refine lv_iconst (v := 2) hx hb dX1_byOutcome_247 (by decide) ?_
      refine lv_icmp_eq (tgt := 256) hx hb dX1_byOutcome_248 (by decide) (fun c_47 => ?_) (fun c_47 => ?_)
      · refine lv_bipush (v := 21) hx hb dX1_byOutcome_256 (by decide) ?_
        refine lv_goto (tgt := 263) hx hb dX1_byOutcome_258 (by decide) ?_
        have hP9 := hP.sub (ws' := [(h0, .inr (1, [.int a0, .int a1, .int a2, .int a3, .int a4, .int a5, .int a6, .int a7, .int a8, .int a9, .int a10, .int a11, .ref h1]))]) [0] rfl
        have hD9 := hD.sub (ws' := [(h0, .inr (1, [.int a0, .int a1, .int a2, .int a3, .int a4, .int a5, .int a6, .int a7, .int a8, .int a9, .int a10, .int a11, .ref h1]))]) [0] (by decide) rfl
        have hK9 := hK.sub (tys' := []) [] rfl
        have ef : fx_X1_byOutcome a1 p0 p1 = 21 := by unfold fx_X1_byOutcome; rw [if_pos c_1, if_pos c_2, if_neg c_25, if_neg c_26, if_neg c_32, if_neg c_34, if_neg c_37, if_neg c_40, if_neg c_41, if_neg c_43, if_pos c_46, if_pos c_47]
        exact W.iret (v := 21) hx hb hr (fun t ht hW => ⟨⟨21, [(h0, .inr (1, [.int a0, .int a1, .int a2, .int a3, .int a4, .int a5, .int a6, .int a7, .int a8, .int a9, .int a10, .int a11, .ref h1]))], rfl, ⟨ef.symm, rfl⟩, by rw [ht]; exact hP9, va_K.moved hW.alike hK9, hD9⟩, hS.F ht⟩) hS.2.2 dX1_byOutcome_263
      refine lv_iload_n hx hb dX1_byOutcome_251 rfl (lv_at hl 3 rfl) ?_
      refine lv_iconst (v := 3) hx hb dX1_byOutcome_252 (by decide) ?_
      refine lv_icmp_ne (tgt := 261) hx hb dX1_byOutcome_253 (by decide) (fun c_48 => ?_) (fun c_48 => ?_)
      · refine lv_bipush (v := 90) hx hb dX1_byOutcome_261 (by decide) ?_
        have hP9 := hP.sub (ws' := [(h0, .inr (1, [.int a0, .int a1, .int a2, .int a3, .int a4, .int a5, .int a6, .int a7, .int a8, .int a9, .int a10, .int a11, .ref h1]))]) [0] rfl
        have hD9 := hD.sub (ws' := [(h0, .inr (1, [.int a0, .int a1, .int a2, .int a3, .int a4, .int a5, .int a6, .int a7, .int a8, .int a9, .int a10, .int a11, .ref h1]))]) [0] (by decide) rfl
        have hK9 := hK.sub (tys' := []) [] rfl
        have ef : fx_X1_byOutcome a1 p0 p1 = 90 := by unfold fx_X1_byOutcome; rw [if_pos c_1, if_pos c_2, if_neg c_25, if_neg c_26, if_neg c_32, if_neg c_34, if_neg c_37, if_neg c_40, if_neg c_41, if_neg c_43, if_pos c_46, if_neg c_47, if_neg c_48]
        exact W.iret (v := 90) hx hb hr (fun t ht hW => ⟨⟨90, [(h0, .inr (1, [.int a0, .int a1, .int a2, .int a3, .int a4, .int a5, .int a6, .int a7, .int a8, .int a9, .int a10, .int a11, .ref h1]))], rfl, ⟨ef.symm, rfl⟩, by rw [ht]; exact hP9, va_K.moved hW.alike hK9, hD9⟩, hS.F ht⟩) hS.2.2 dX1_byOutcome_263
      refine lv_bipush (v := 21) hx hb dX1_byOutcome_256 (by decide) ?_
      refine lv_goto (tgt := 263) hx hb dX1_byOutcome_258 (by decide) ?_
      have hP9 := hP.sub (ws' := [(h0, .inr (1, [.int a0, .int a1, .int a2, .int a3, .int a4, .int a5, .int a6, .int a7, .int a8, .int a9, .int a10, .int a11, .ref h1]))]) [0] rfl
      have hD9 := hD.sub (ws' := [(h0, .inr (1, [.int a0, .int a1, .int a2, .int a3, .int a4, .int a5, .int a6, .int a7, .int a8, .int a9, .int a10, .int a11, .ref h1]))]) [0] (by decide) rfl
      have hK9 := hK.sub (tys' := []) [] rfl
      have ef : fx_X1_byOutcome a1 p0 p1 = 21 := by unfold fx_X1_byOutcome; rw [if_pos c_1, if_pos c_2, if_neg c_25, if_neg c_26, if_neg c_32, if_neg c_34, if_neg c_37, if_neg c_40, if_neg c_41, if_neg c_43, if_pos c_46, if_neg c_47, if_pos c_48]
      exact W.iret (v := 21) hx hb hr (fun t ht hW => ⟨⟨21, [(h0, .inr (1, [.int a0, .int a1, .int a2, .int a3, .int a4, .int a5, .int a6, .int a7, .int a8, .int a9, .int a10, .int a11, .ref h1]))], rfl, ⟨ef.symm, rfl⟩, by rw [ht]; exact hP9, va_K.moved hW.alike hK9, hD9⟩, hS.F ht⟩) hS.2.2 dX1_byOutcome_263
    refine lv_tableOut (tgt := 264) hx hb dX1_byOutcome_29 (by have n_0 : (p1 : Int32).toInt ≠ 0 := xx_ne c_25 (by decide); have n_1 : (p1 : Int32).toInt ≠ 1 := xx_ne c_26 (by decide); have n_2 : (p1 : Int32).toInt ≠ 2 := xx_ne c_32 (by decide); have n_3 : (p1 : Int32).toInt ≠ 3 := xx_ne c_34 (by decide); have n_4 : (p1 : Int32).toInt ≠ 4 := xx_ne c_37 (by decide); have n_5 : (p1 : Int32).toInt ≠ 5 := xx_ne c_40 (by decide); have n_6 : (p1 : Int32).toInt ≠ 6 := xx_ne c_41 (by decide); have n_7 : (p1 : Int32).toInt ≠ 7 := xx_ne c_43 (by decide); have n_8 : (p1 : Int32).toInt ≠ 8 := xx_ne c_46 (by decide); omega) (by decide) ?_
    refine lv_bipush (v := 90) hx hb dX1_byOutcome_264 (by decide) ?_
    have hP9 := hP.sub (ws' := [(h0, .inr (1, [.int a0, .int a1, .int a2, .int a3, .int a4, .int a5, .int a6, .int a7, .int a8, .int a9, .int a10, .int a11, .ref h1]))]) [0] rfl
    have hD9 := hD.sub (ws' := [(h0, .inr (1, [.int a0, .int a1, .int a2, .int a3, .int a4, .int a5, .int a6, .int a7, .int a8, .int a9, .int a10, .int a11, .ref h1]))]) [0] (by decide) rfl
    have hK9 := hK.sub (tys' := []) [] rfl
    have ef : fx_X1_byOutcome a1 p0 p1 = 90 := by unfold fx_X1_byOutcome; rw [if_pos c_1, if_pos c_2, if_neg c_25, if_neg c_26, if_neg c_32, if_neg c_34, if_neg c_37, if_neg c_40, if_neg c_41, if_neg c_43, if_neg c_46]
    exact W.iret (v := 90) hx hb hr (fun t ht hW => ⟨⟨90, [(h0, .inr (1, [.int a0, .int a1, .int a2, .int a3, .int a4, .int a5, .int a6, .int a7, .int a8, .int a9, .int a10, .int a11, .ref h1]))], rfl, ⟨ef.symm, rfl⟩, by rw [ht]; exact hP9, va_K.moved hW.alike hK9, hD9⟩, hS.F ht⟩) hS.2.2 dX1_byOutcome_266
  refine lv_iconst (v := 1) hx hb dX1_byOutcome_7 (by decide) ?_
  refine lv_goto (tgt := 12) hx hb dX1_byOutcome_8 (by decide) ?_
  refine lv_istore_n (lv' := [(3, .int 1), (0, .ref h0), (1, .int p0), (2, .int p1)]) hx hb dX1_byOutcome_12 rfl hl (by decide) rfl (fun ls hl => ?_)
  refine lv_aload_n hx hb dX1_byOutcome_13 rfl (lv_at hl 1 rfl) ?_
  refine va_get (D := (dC, dI)) (ci := 1) (v := .int a1) (C := RX1) (T := TX1) (N := 13) hx hb hts (fun _ h => List.mem_cons_of_mem _ (List.mem_append_right _ h)) hown hK hP 0 rfl rfl 1 (by decide) (hts (.fieldLink RX1 17 "FileStatusModel" "organisation" "I") (by decide +kernel)) (fun _ h9 => h9) rfl dX1_byOutcome_14 ?_
  refine lv_iconst (v := 2) hx hb dX1_byOutcome_17 (by decide) ?_
  refine lv_icmp_ne (tgt := 25) hx hb dX1_byOutcome_18 (by decide) (fun c_49 => ?_) (fun c_49 => ?_)
  · refine lv_iconst (v := 0) hx hb dX1_byOutcome_25 (by decide) ?_
    refine lv_istore (lv' := [(4, .int 0), (3, .int 1), (0, .ref h0), (1, .int p0), (2, .int p1)]) hx hb dX1_byOutcome_26 hl (by decide) rfl (fun ls hl => ?_)
    refine lv_iload_n hx hb dX1_byOutcome_28 rfl (lv_at hl 4 rfl) ?_
    by_cases c_50 : p1 = 0
    · refine lv_tableIn (off := 51) (tgt := 80) hx hb dX1_byOutcome_29 (by rw [c_50]; decide) (by rw [c_50]; decide) (by rw [c_50]; rfl) (by decide) ?_
      refine lv_iconst (v := 0) hx hb dX1_byOutcome_80 (by decide) ?_
      have hP9 := hP.sub (ws' := [(h0, .inr (1, [.int a0, .int a1, .int a2, .int a3, .int a4, .int a5, .int a6, .int a7, .int a8, .int a9, .int a10, .int a11, .ref h1]))]) [0] rfl
      have hD9 := hD.sub (ws' := [(h0, .inr (1, [.int a0, .int a1, .int a2, .int a3, .int a4, .int a5, .int a6, .int a7, .int a8, .int a9, .int a10, .int a11, .ref h1]))]) [0] (by decide) rfl
      have hK9 := hK.sub (tys' := []) [] rfl
      have ef : fx_X1_byOutcome a1 p0 p1 = 0 := by unfold fx_X1_byOutcome; rw [if_neg c_1, if_neg c_49, if_pos c_50]
      exact W.iret (v := 0) hx hb hr (fun t ht hW => ⟨⟨0, [(h0, .inr (1, [.int a0, .int a1, .int a2, .int a3, .int a4, .int a5, .int a6, .int a7, .int a8, .int a9, .int a10, .int a11, .ref h1]))], rfl, ⟨ef.symm, rfl⟩, by rw [ht]; exact hP9, va_K.moved hW.alike hK9, hD9⟩, hS.F ht⟩) hS.2.2 dX1_byOutcome_81
    by_cases c_51 : p1 = 1
    · refine lv_tableIn (off := 53) (tgt := 82) hx hb dX1_byOutcome_29 (by rw [c_51]; decide) (by rw [c_51]; decide) (by rw [c_51]; rfl) (by decide) ?_
      refine lv_iload_n hx hb dX1_byOutcome_82 rfl (lv_at hl 3 rfl) ?_
      refine lv_if_ne (tgt := 89) hx hb dX1_byOutcome_83 (by decide) (fun c_52 => ?_) (fun c_52 => ?_)
      · refine lv_iload_n hx hb dX1_byOutcome_89 rfl (lv_at hl 3 rfl) ?_
        refine lv_iconst (v := 1) hx hb dX1_byOutcome_90 (by decide) ?_
        refine lv_icmp_eq (tgt := 113) hx hb dX1_byOutcome_91 (by decide) (fun c_53 => ?_) (fun c_53 => ?_)
        · refine lv_bipush (v := 23) hx hb dX1_byOutcome_113 (by decide) ?_
          refine lv_goto (tgt := 120) hx hb dX1_byOutcome_115 (by decide) ?_
          have hP9 := hP.sub (ws' := [(h0, .inr (1, [.int a0, .int a1, .int a2, .int a3, .int a4, .int a5, .int a6, .int a7, .int a8, .int a9, .int a10, .int a11, .ref h1]))]) [0] rfl
          have hD9 := hD.sub (ws' := [(h0, .inr (1, [.int a0, .int a1, .int a2, .int a3, .int a4, .int a5, .int a6, .int a7, .int a8, .int a9, .int a10, .int a11, .ref h1]))]) [0] (by decide) rfl
          have hK9 := hK.sub (tys' := []) [] rfl
          have ef : fx_X1_byOutcome a1 p0 p1 = 23 := by unfold fx_X1_byOutcome; rw [if_neg c_1, if_neg c_49, if_neg c_50, if_pos c_51, if_neg c_52, if_pos c_53]
          exact W.iret (v := 23) hx hb hr (fun t ht hW => ⟨⟨23, [(h0, .inr (1, [.int a0, .int a1, .int a2, .int a3, .int a4, .int a5, .int a6, .int a7, .int a8, .int a9, .int a10, .int a11, .ref h1]))], rfl, ⟨ef.symm, rfl⟩, by rw [ht]; exact hP9, va_K.moved hW.alike hK9, hD9⟩, hS.F ht⟩) hS.2.2 dX1_byOutcome_120
        refine lv_iload_n hx hb dX1_byOutcome_94 rfl (lv_at hl 3 rfl) ?_
        refine lv_iconst (v := 4) hx hb dX1_byOutcome_95 (by decide) ?_
        refine lv_icmp_eq (tgt := 113) hx hb dX1_byOutcome_96 (by decide) (fun c_54 => ?_) (fun c_54 => ?_)
        · refine lv_bipush (v := 23) hx hb dX1_byOutcome_113 (by decide) ?_
          refine lv_goto (tgt := 120) hx hb dX1_byOutcome_115 (by decide) ?_
          have hP9 := hP.sub (ws' := [(h0, .inr (1, [.int a0, .int a1, .int a2, .int a3, .int a4, .int a5, .int a6, .int a7, .int a8, .int a9, .int a10, .int a11, .ref h1]))]) [0] rfl
          have hD9 := hD.sub (ws' := [(h0, .inr (1, [.int a0, .int a1, .int a2, .int a3, .int a4, .int a5, .int a6, .int a7, .int a8, .int a9, .int a10, .int a11, .ref h1]))]) [0] (by decide) rfl
          have hK9 := hK.sub (tys' := []) [] rfl
          have ef : fx_X1_byOutcome a1 p0 p1 = 23 := by unfold fx_X1_byOutcome; rw [if_neg c_1, if_neg c_49, if_neg c_50, if_pos c_51, if_neg c_52, if_neg c_53, if_pos c_54]
          exact W.iret (v := 23) hx hb hr (fun t ht hW => ⟨⟨23, [(h0, .inr (1, [.int a0, .int a1, .int a2, .int a3, .int a4, .int a5, .int a6, .int a7, .int a8, .int a9, .int a10, .int a11, .ref h1]))], rfl, ⟨ef.symm, rfl⟩, by rw [ht]; exact hP9, va_K.moved hW.alike hK9, hD9⟩, hS.F ht⟩) hS.2.2 dX1_byOutcome_120
        refine lv_iload_n hx hb dX1_byOutcome_99 rfl (lv_at hl 3 rfl) ?_
        refine lv_iconst (v := 5) hx hb dX1_byOutcome_100 (by decide) ?_
        refine lv_icmp_eq (tgt := 113) hx hb dX1_byOutcome_101 (by decide) (fun c_55 => ?_) (fun c_55 => ?_)
        · refine lv_bipush (v := 23) hx hb dX1_byOutcome_113 (by decide) ?_
          refine lv_goto (tgt := 120) hx hb dX1_byOutcome_115 (by decide) ?_
          have hP9 := hP.sub (ws' := [(h0, .inr (1, [.int a0, .int a1, .int a2, .int a3, .int a4, .int a5, .int a6, .int a7, .int a8, .int a9, .int a10, .int a11, .ref h1]))]) [0] rfl
          have hD9 := hD.sub (ws' := [(h0, .inr (1, [.int a0, .int a1, .int a2, .int a3, .int a4, .int a5, .int a6, .int a7, .int a8, .int a9, .int a10, .int a11, .ref h1]))]) [0] (by decide) rfl
          have hK9 := hK.sub (tys' := []) [] rfl
          have ef : fx_X1_byOutcome a1 p0 p1 = 23 := by unfold fx_X1_byOutcome; rw [if_neg c_1, if_neg c_49, if_neg c_50, if_pos c_51, if_neg c_52, if_neg c_53, if_neg c_54, if_pos c_55]
          exact W.iret (v := 23) hx hb hr (fun t ht hW => ⟨⟨23, [(h0, .inr (1, [.int a0, .int a1, .int a2, .int a3, .int a4, .int a5, .int a6, .int a7, .int a8, .int a9, .int a10, .int a11, .ref h1]))], rfl, ⟨ef.symm, rfl⟩, by rw [ht]; exact hP9, va_K.moved hW.alike hK9, hD9⟩, hS.F ht⟩) hS.2.2 dX1_byOutcome_120
        refine lv_iload_n hx hb dX1_byOutcome_104 rfl (lv_at hl 3 rfl) ?_
        refine lv_iconst (v := 3) hx hb dX1_byOutcome_105 (by decide) ?_
        refine lv_icmp_ne (tgt := 118) hx hb dX1_byOutcome_106 (by decide) (fun c_56 => ?_) (fun c_56 => ?_)
        · refine lv_bipush (v := 90) hx hb dX1_byOutcome_118 (by decide) ?_
          have hP9 := hP.sub (ws' := [(h0, .inr (1, [.int a0, .int a1, .int a2, .int a3, .int a4, .int a5, .int a6, .int a7, .int a8, .int a9, .int a10, .int a11, .ref h1]))]) [0] rfl
          have hD9 := hD.sub (ws' := [(h0, .inr (1, [.int a0, .int a1, .int a2, .int a3, .int a4, .int a5, .int a6, .int a7, .int a8, .int a9, .int a10, .int a11, .ref h1]))]) [0] (by decide) rfl
          have hK9 := hK.sub (tys' := []) [] rfl
          have ef : fx_X1_byOutcome a1 p0 p1 = 90 := by unfold fx_X1_byOutcome; rw [if_neg c_1, if_neg c_49, if_neg c_50, if_pos c_51, if_neg c_52, if_neg c_53, if_neg c_54, if_neg c_55, if_neg c_56]
          exact W.iret (v := 90) hx hb hr (fun t ht hW => ⟨⟨90, [(h0, .inr (1, [.int a0, .int a1, .int a2, .int a3, .int a4, .int a5, .int a6, .int a7, .int a8, .int a9, .int a10, .int a11, .ref h1]))], rfl, ⟨ef.symm, rfl⟩, by rw [ht]; exact hP9, va_K.moved hW.alike hK9, hD9⟩, hS.F ht⟩) hS.2.2 dX1_byOutcome_120
        refine lv_iload_n hx hb dX1_byOutcome_109 rfl (lv_at hl 1 rfl) ?_
        refine lv_if_eq (tgt := 118) hx hb dX1_byOutcome_110 (by decide) (fun c9 => absurd c9 (by decide)) (fun c9 => ?_)
        refine lv_bipush (v := 23) hx hb dX1_byOutcome_113 (by decide) ?_
        refine lv_goto (tgt := 120) hx hb dX1_byOutcome_115 (by decide) ?_
        have hP9 := hP.sub (ws' := [(h0, .inr (1, [.int a0, .int a1, .int a2, .int a3, .int a4, .int a5, .int a6, .int a7, .int a8, .int a9, .int a10, .int a11, .ref h1]))]) [0] rfl
        have hD9 := hD.sub (ws' := [(h0, .inr (1, [.int a0, .int a1, .int a2, .int a3, .int a4, .int a5, .int a6, .int a7, .int a8, .int a9, .int a10, .int a11, .ref h1]))]) [0] (by decide) rfl
        have hK9 := hK.sub (tys' := []) [] rfl
        have ef : fx_X1_byOutcome a1 p0 p1 = 23 := by unfold fx_X1_byOutcome; rw [if_neg c_1, if_neg c_49, if_neg c_50, if_pos c_51, if_neg c_52, if_neg c_53, if_neg c_54, if_neg c_55, if_pos c_56]
        exact W.iret (v := 23) hx hb hr (fun t ht hW => ⟨⟨23, [(h0, .inr (1, [.int a0, .int a1, .int a2, .int a3, .int a4, .int a5, .int a6, .int a7, .int a8, .int a9, .int a10, .int a11, .ref h1]))], rfl, ⟨ef.symm, rfl⟩, by rw [ht]; exact hP9, va_K.moved hW.alike hK9, hD9⟩, hS.F ht⟩) hS.2.2 dX1_byOutcome_120
      refine lv_bipush (v := 10) hx hb dX1_byOutcome_86 (by decide) ?_
      have hP9 := hP.sub (ws' := [(h0, .inr (1, [.int a0, .int a1, .int a2, .int a3, .int a4, .int a5, .int a6, .int a7, .int a8, .int a9, .int a10, .int a11, .ref h1]))]) [0] rfl
      have hD9 := hD.sub (ws' := [(h0, .inr (1, [.int a0, .int a1, .int a2, .int a3, .int a4, .int a5, .int a6, .int a7, .int a8, .int a9, .int a10, .int a11, .ref h1]))]) [0] (by decide) rfl
      have hK9 := hK.sub (tys' := []) [] rfl
      have ef : fx_X1_byOutcome a1 p0 p1 = 10 := by unfold fx_X1_byOutcome; rw [if_neg c_1, if_neg c_49, if_neg c_50, if_pos c_51, if_pos c_52]
      exact W.iret (v := 10) hx hb hr (fun t ht hW => ⟨⟨10, [(h0, .inr (1, [.int a0, .int a1, .int a2, .int a3, .int a4, .int a5, .int a6, .int a7, .int a8, .int a9, .int a10, .int a11, .ref h1]))], rfl, ⟨ef.symm, rfl⟩, by rw [ht]; exact hP9, va_K.moved hW.alike hK9, hD9⟩, hS.F ht⟩) hS.2.2 dX1_byOutcome_88
    by_cases c_57 : p1 = 2
    · refine lv_tableIn (off := 92) (tgt := 121) hx hb dX1_byOutcome_29 (by rw [c_57]; decide) (by rw [c_57]; decide) (by rw [c_57]; rfl) (by decide) ?_
      refine lv_iload hx hb dX1_byOutcome_121 (lv_at hl 0 rfl) ?_
      refine lv_if_eq (tgt := 135) hx hb dX1_byOutcome_123 (by decide) (fun c9 => ?_) (fun c9 => absurd c9 (by decide))
      refine lv_bipush (v := 90) hx hb dX1_byOutcome_135 (by decide) ?_
      have hP9 := hP.sub (ws' := [(h0, .inr (1, [.int a0, .int a1, .int a2, .int a3, .int a4, .int a5, .int a6, .int a7, .int a8, .int a9, .int a10, .int a11, .ref h1]))]) [0] rfl
      have hD9 := hD.sub (ws' := [(h0, .inr (1, [.int a0, .int a1, .int a2, .int a3, .int a4, .int a5, .int a6, .int a7, .int a8, .int a9, .int a10, .int a11, .ref h1]))]) [0] (by decide) rfl
      have hK9 := hK.sub (tys' := []) [] rfl
      have ef : fx_X1_byOutcome a1 p0 p1 = 90 := by unfold fx_X1_byOutcome; rw [if_neg c_1, if_neg c_49, if_neg c_50, if_neg c_51, if_pos c_57]
      exact W.iret (v := 90) hx hb hr (fun t ht hW => ⟨⟨90, [(h0, .inr (1, [.int a0, .int a1, .int a2, .int a3, .int a4, .int a5, .int a6, .int a7, .int a8, .int a9, .int a10, .int a11, .ref h1]))], rfl, ⟨ef.symm, rfl⟩, by rw [ht]; exact hP9, va_K.moved hW.alike hK9, hD9⟩, hS.F ht⟩) hS.2.2 dX1_byOutcome_137
    by_cases c_58 : p1 = 3
    · refine lv_tableIn (off := 109) (tgt := 138) hx hb dX1_byOutcome_29 (by rw [c_58]; decide) (by rw [c_58]; decide) (by rw [c_58]; rfl) (by decide) ?_
      refine lv_iload_n hx hb dX1_byOutcome_138 rfl (lv_at hl 3 rfl) ?_
      refine lv_iconst (v := 2) hx hb dX1_byOutcome_139 (by decide) ?_
      refine lv_icmp_ne (tgt := 147) hx hb dX1_byOutcome_140 (by decide) (fun c_59 => ?_) (fun c_59 => ?_)
      · refine lv_iload_n hx hb dX1_byOutcome_147 rfl (lv_at hl 3 rfl) ?_
        refine lv_iconst (v := 3) hx hb dX1_byOutcome_148 (by decide) ?_
        refine lv_icmp_ne (tgt := 162) hx hb dX1_byOutcome_149 (by decide) (fun c_60 => ?_) (fun c_60 => ?_)
        · refine lv_bipush (v := 90) hx hb dX1_byOutcome_162 (by decide) ?_
          have hP9 := hP.sub (ws' := [(h0, .inr (1, [.int a0, .int a1, .int a2, .int a3, .int a4, .int a5, .int a6, .int a7, .int a8, .int a9, .int a10, .int a11, .ref h1]))]) [0] rfl
          have hD9 := hD.sub (ws' := [(h0, .inr (1, [.int a0, .int a1, .int a2, .int a3, .int a4, .int a5, .int a6, .int a7, .int a8, .int a9, .int a10, .int a11, .ref h1]))]) [0] (by decide) rfl
          have hK9 := hK.sub (tys' := []) [] rfl
          have ef : fx_X1_byOutcome a1 p0 p1 = 90 := by unfold fx_X1_byOutcome; rw [if_neg c_1, if_neg c_49, if_neg c_50, if_neg c_51, if_neg c_57, if_pos c_58, if_neg c_59]
          exact W.iret (v := 90) hx hb hr (fun t ht hW => ⟨⟨90, [(h0, .inr (1, [.int a0, .int a1, .int a2, .int a3, .int a4, .int a5, .int a6, .int a7, .int a8, .int a9, .int a10, .int a11, .ref h1]))], rfl, ⟨ef.symm, rfl⟩, by rw [ht]; exact hP9, va_K.moved hW.alike hK9, hD9⟩, hS.F ht⟩) hS.2.2 dX1_byOutcome_164
        refine lv_iload hx hb dX1_byOutcome_152 (lv_at hl 0 rfl) ?_
        refine lv_if_eq (tgt := 162) hx hb dX1_byOutcome_154 (by decide) (fun c9 => ?_) (fun c9 => absurd c9 (by decide))
        refine lv_bipush (v := 90) hx hb dX1_byOutcome_162 (by decide) ?_
        have hP9 := hP.sub (ws' := [(h0, .inr (1, [.int a0, .int a1, .int a2, .int a3, .int a4, .int a5, .int a6, .int a7, .int a8, .int a9, .int a10, .int a11, .ref h1]))]) [0] rfl
        have hD9 := hD.sub (ws' := [(h0, .inr (1, [.int a0, .int a1, .int a2, .int a3, .int a4, .int a5, .int a6, .int a7, .int a8, .int a9, .int a10, .int a11, .ref h1]))]) [0] (by decide) rfl
        have hK9 := hK.sub (tys' := []) [] rfl
        have ef : fx_X1_byOutcome a1 p0 p1 = 90 := by unfold fx_X1_byOutcome; rw [if_neg c_1, if_neg c_49, if_neg c_50, if_neg c_51, if_neg c_57, if_pos c_58, if_neg c_59]
        exact W.iret (v := 90) hx hb hr (fun t ht hW => ⟨⟨90, [(h0, .inr (1, [.int a0, .int a1, .int a2, .int a3, .int a4, .int a5, .int a6, .int a7, .int a8, .int a9, .int a10, .int a11, .ref h1]))], rfl, ⟨ef.symm, rfl⟩, by rw [ht]; exact hP9, va_K.moved hW.alike hK9, hD9⟩, hS.F ht⟩) hS.2.2 dX1_byOutcome_164
      refine lv_iload_n hx hb dX1_byOutcome_143 rfl (lv_at hl 1 rfl) ?_
      refine lv_if_ne (tgt := 157) hx hb dX1_byOutcome_144 (by decide) (fun c9 => ?_) (fun c9 => absurd c9 (by decide))
      refine lv_bipush (v := 22) hx hb dX1_byOutcome_157 (by decide) ?_
      refine lv_goto (tgt := 164) hx hb dX1_byOutcome_159 (by decide) ?_
      have hP9 := hP.sub (ws' := [(h0, .inr (1, [.int a0, .int a1, .int a2, .int a3, .int a4, .int a5, .int a6, .int a7, .int a8, .int a9, .int a10, .int a11, .ref h1]))]) [0] rfl
      have hD9 := hD.sub (ws' := [(h0, .inr (1, [.int a0, .int a1, .int a2, .int a3, .int a4, .int a5, .int a6, .int a7, .int a8, .int a9, .int a10, .int a11, .ref h1]))]) [0] (by decide) rfl
      have hK9 := hK.sub (tys' := []) [] rfl
      have ef : fx_X1_byOutcome a1 p0 p1 = 22 := by unfold fx_X1_byOutcome; rw [if_neg c_1, if_neg c_49, if_neg c_50, if_neg c_51, if_neg c_57, if_pos c_58, if_pos c_59]
      exact W.iret (v := 22) hx hb hr (fun t ht hW => ⟨⟨22, [(h0, .inr (1, [.int a0, .int a1, .int a2, .int a3, .int a4, .int a5, .int a6, .int a7, .int a8, .int a9, .int a10, .int a11, .ref h1]))], rfl, ⟨ef.symm, rfl⟩, by rw [ht]; exact hP9, va_K.moved hW.alike hK9, hD9⟩, hS.F ht⟩) hS.2.2 dX1_byOutcome_164
    by_cases c_61 : p1 = 4
    · refine lv_tableIn (off := 136) (tgt := 165) hx hb dX1_byOutcome_29 (by rw [c_61]; decide) (by rw [c_61]; decide) (by rw [c_61]; rfl) (by decide) ?_
      refine lv_iload_n hx hb dX1_byOutcome_165 rfl (lv_at hl 3 rfl) ?_
      refine lv_iconst (v := 2) hx hb dX1_byOutcome_166 (by decide) ?_
      refine lv_icmp_ne (tgt := 182) hx hb dX1_byOutcome_167 (by decide) (fun c_62 => ?_) (fun c_62 => ?_)
      · refine lv_iload_n hx hb dX1_byOutcome_182 rfl (lv_at hl 3 rfl) ?_
        refine lv_if_ne (tgt := 199) hx hb dX1_byOutcome_183 (by decide) (fun c_63 => ?_) (fun c_63 => ?_)
        · refine lv_bipush (v := 90) hx hb dX1_byOutcome_199 (by decide) ?_
          have hP9 := hP.sub (ws' := [(h0, .inr (1, [.int a0, .int a1, .int a2, .int a3, .int a4, .int a5, .int a6, .int a7, .int a8, .int a9, .int a10, .int a11, .ref h1]))]) [0] rfl
          have hD9 := hD.sub (ws' := [(h0, .inr (1, [.int a0, .int a1, .int a2, .int a3, .int a4, .int a5, .int a6, .int a7, .int a8, .int a9, .int a10, .int a11, .ref h1]))]) [0] (by decide) rfl
          have hK9 := hK.sub (tys' := []) [] rfl
          have ef : fx_X1_byOutcome a1 p0 p1 = 90 := by unfold fx_X1_byOutcome; rw [if_neg c_1, if_neg c_49, if_neg c_50, if_neg c_51, if_neg c_57, if_neg c_58, if_pos c_61, if_neg c_62, if_neg c_63]
          exact W.iret (v := 90) hx hb hr (fun t ht hW => ⟨⟨90, [(h0, .inr (1, [.int a0, .int a1, .int a2, .int a3, .int a4, .int a5, .int a6, .int a7, .int a8, .int a9, .int a10, .int a11, .ref h1]))], rfl, ⟨ef.symm, rfl⟩, by rw [ht]; exact hP9, va_K.moved hW.alike hK9, hD9⟩, hS.F ht⟩) hS.2.2 dX1_byOutcome_201
        refine lv_aload_n hx hb dX1_byOutcome_186 rfl (lv_at hl 2 rfl) ?_
        refine va_get (D := (dC, dI)) (ci := 1) (v := .int a1) (C := RX1) (T := TX1) (N := 13) hx hb hts (fun _ h => List.mem_cons_of_mem _ (List.mem_append_right _ h)) hown hK hP 0 rfl rfl 1 (by decide) (hts (.fieldLink RX1 17 "FileStatusModel" "organisation" "I") (by decide +kernel)) (fun _ h9 => h9) rfl dX1_byOutcome_187 ?_
        refine lv_iconst (v := 1) hx hb dX1_byOutcome_190 (by decide) ?_
        refine lv_icmp_ne (tgt := 199) hx hb dX1_byOutcome_191 (by decide) (fun c_64 => ?_) (fun c_64 => ?_)
        · refine lv_bipush (v := 90) hx hb dX1_byOutcome_199 (by decide) ?_
          have hP9 := hP.sub (ws' := [(h0, .inr (1, [.int a0, .int a1, .int a2, .int a3, .int a4, .int a5, .int a6, .int a7, .int a8, .int a9, .int a10, .int a11, .ref h1]))]) [0] rfl
          have hD9 := hD.sub (ws' := [(h0, .inr (1, [.int a0, .int a1, .int a2, .int a3, .int a4, .int a5, .int a6, .int a7, .int a8, .int a9, .int a10, .int a11, .ref h1]))]) [0] (by decide) rfl
          have hK9 := hK.sub (tys' := []) [] rfl
          have ef : fx_X1_byOutcome a1 p0 p1 = 90 := by unfold fx_X1_byOutcome; rw [if_neg c_1, if_neg c_49, if_neg c_50, if_neg c_51, if_neg c_57, if_neg c_58, if_pos c_61, if_neg c_62, if_pos c_63, if_neg c_64]
          exact W.iret (v := 90) hx hb hr (fun t ht hW => ⟨⟨90, [(h0, .inr (1, [.int a0, .int a1, .int a2, .int a3, .int a4, .int a5, .int a6, .int a7, .int a8, .int a9, .int a10, .int a11, .ref h1]))], rfl, ⟨ef.symm, rfl⟩, by rw [ht]; exact hP9, va_K.moved hW.alike hK9, hD9⟩, hS.F ht⟩) hS.2.2 dX1_byOutcome_201
        refine lv_bipush (v := 14) hx hb dX1_byOutcome_194 (by decide) ?_
        refine lv_goto (tgt := 201) hx hb dX1_byOutcome_196 (by decide) ?_
        have hP9 := hP.sub (ws' := [(h0, .inr (1, [.int a0, .int a1, .int a2, .int a3, .int a4, .int a5, .int a6, .int a7, .int a8, .int a9, .int a10, .int a11, .ref h1]))]) [0] rfl
        have hD9 := hD.sub (ws' := [(h0, .inr (1, [.int a0, .int a1, .int a2, .int a3, .int a4, .int a5, .int a6, .int a7, .int a8, .int a9, .int a10, .int a11, .ref h1]))]) [0] (by decide) rfl
        have hK9 := hK.sub (tys' := []) [] rfl
        have ef : fx_X1_byOutcome a1 p0 p1 = 14 := by unfold fx_X1_byOutcome; rw [if_neg c_1, if_neg c_49, if_neg c_50, if_neg c_51, if_neg c_57, if_neg c_58, if_pos c_61, if_neg c_62, if_pos c_63, if_pos c_64]
        exact W.iret (v := 14) hx hb hr (fun t ht hW => ⟨⟨14, [(h0, .inr (1, [.int a0, .int a1, .int a2, .int a3, .int a4, .int a5, .int a6, .int a7, .int a8, .int a9, .int a10, .int a11, .ref h1]))], rfl, ⟨ef.symm, rfl⟩, by rw [ht]; exact hP9, va_K.moved hW.alike hK9, hD9⟩, hS.F ht⟩) hS.2.2 dX1_byOutcome_201
      refine lv_iload_n hx hb dX1_byOutcome_170 rfl (lv_at hl 1 rfl) ?_
      refine lv_if_eq (tgt := 179) hx hb dX1_byOutcome_171 (by decide) (fun c9 => absurd c9 (by decide)) (fun c9 => ?_)
      refine lv_bipush (v := 24) hx hb dX1_byOutcome_174 (by decide) ?_
      refine lv_goto (tgt := 181) hx hb dX1_byOutcome_176 (by decide) ?_
      have hP9 := hP.sub (ws' := [(h0, .inr (1, [.int a0, .int a1, .int a2, .int a3, .int a4, .int a5, .int a6, .int a7, .int a8, .int a9, .int a10, .int a11, .ref h1]))]) [0] rfl
      have hD9 := hD.sub (ws' := [(h0, .inr (1, [.int a0, .int a1, .int a2, .int a3, .int a4, .int a5, .int a6, .int a7, .int a8, .int a9, .int a10, .int a11, .ref h1]))]) [0] (by decide) rfl
      have hK9 := hK.sub (tys' := []) [] rfl
      have ef : fx_X1_byOutcome a1 p0 p1 = 24 := by unfold fx_X1_byOutcome; rw [if_neg c_1, if_neg c_49, if_neg c_50, if_neg c_51, if_neg c_57, if_neg c_58, if_pos c_61, if_pos c_62]
      exact W.iret (v := 24) hx hb hr (fun t ht hW => ⟨⟨24, [(h0, .inr (1, [.int a0, .int a1, .int a2, .int a3, .int a4, .int a5, .int a6, .int a7, .int a8, .int a9, .int a10, .int a11, .ref h1]))], rfl, ⟨ef.symm, rfl⟩, by rw [ht]; exact hP9, va_K.moved hW.alike hK9, hD9⟩, hS.F ht⟩) hS.2.2 dX1_byOutcome_181
    by_cases c_65 : p1 = 5
    · refine lv_tableIn (off := 173) (tgt := 202) hx hb dX1_byOutcome_29 (by rw [c_65]; decide) (by rw [c_65]; decide) (by rw [c_65]; rfl) (by decide) ?_
      refine lv_bipush (v := 30) hx hb dX1_byOutcome_202 (by decide) ?_
      have hP9 := hP.sub (ws' := [(h0, .inr (1, [.int a0, .int a1, .int a2, .int a3, .int a4, .int a5, .int a6, .int a7, .int a8, .int a9, .int a10, .int a11, .ref h1]))]) [0] rfl
      have hD9 := hD.sub (ws' := [(h0, .inr (1, [.int a0, .int a1, .int a2, .int a3, .int a4, .int a5, .int a6, .int a7, .int a8, .int a9, .int a10, .int a11, .ref h1]))]) [0] (by decide) rfl
      have hK9 := hK.sub (tys' := []) [] rfl
      have ef : fx_X1_byOutcome a1 p0 p1 = 30 := by unfold fx_X1_byOutcome; rw [if_neg c_1, if_neg c_49, if_neg c_50, if_neg c_51, if_neg c_57, if_neg c_58, if_neg c_61, if_pos c_65]
      exact W.iret (v := 30) hx hb hr (fun t ht hW => ⟨⟨30, [(h0, .inr (1, [.int a0, .int a1, .int a2, .int a3, .int a4, .int a5, .int a6, .int a7, .int a8, .int a9, .int a10, .int a11, .ref h1]))], rfl, ⟨ef.symm, rfl⟩, by rw [ht]; exact hP9, va_K.moved hW.alike hK9, hD9⟩, hS.F ht⟩) hS.2.2 dX1_byOutcome_204
    by_cases c_66 : p1 = 6
    · refine lv_tableIn (off := 176) (tgt := 205) hx hb dX1_byOutcome_29 (by rw [c_66]; decide) (by rw [c_66]; decide) (by rw [c_66]; rfl) (by decide) ?_
      refine lv_iload_n hx hb dX1_byOutcome_205 rfl (lv_at hl 3 rfl) ?_
      refine lv_bipush (v := 6) hx hb dX1_byOutcome_206 (by decide) ?_
      refine lv_icmp_ge (tgt := 216) hx hb dX1_byOutcome_208 (by decide) (fun c_67 => ?_) (fun c_67 => ?_)
      · refine lv_bipush (v := 90) hx hb dX1_byOutcome_216 (by decide) ?_
        have hP9 := hP.sub (ws' := [(h0, .inr (1, [.int a0, .int a1, .int a2, .int a3, .int a4, .int a5, .int a6, .int a7, .int a8, .int a9, .int a10, .int a11, .ref h1]))]) [0] rfl
        have hD9 := hD.sub (ws' := [(h0, .inr (1, [.int a0, .int a1, .int a2, .int a3, .int a4, .int a5, .int a6, .int a7, .int a8, .int a9, .int a10, .int a11, .ref h1]))]) [0] (by decide) rfl
        have hK9 := hK.sub (tys' := []) [] rfl
        have ef : fx_X1_byOutcome a1 p0 p1 = 90 := by unfold fx_X1_byOutcome; rw [if_neg c_1, if_neg c_49, if_neg c_50, if_neg c_51, if_neg c_57, if_neg c_58, if_neg c_61, if_neg c_65, if_pos c_66, if_pos c_67]
        exact W.iret (v := 90) hx hb hr (fun t ht hW => ⟨⟨90, [(h0, .inr (1, [.int a0, .int a1, .int a2, .int a3, .int a4, .int a5, .int a6, .int a7, .int a8, .int a9, .int a10, .int a11, .ref h1]))], rfl, ⟨ef.symm, rfl⟩, by rw [ht]; exact hP9, va_K.moved hW.alike hK9, hD9⟩, hS.F ht⟩) hS.2.2 dX1_byOutcome_218
      refine lv_bipush (v := 51) hx hb dX1_byOutcome_211 (by decide) ?_
      refine lv_goto (tgt := 218) hx hb dX1_byOutcome_213 (by decide) ?_
      have hP9 := hP.sub (ws' := [(h0, .inr (1, [.int a0, .int a1, .int a2, .int a3, .int a4, .int a5, .int a6, .int a7, .int a8, .int a9, .int a10, .int a11, .ref h1]))]) [0] rfl
      have hD9 := hD.sub (ws' := [(h0, .inr (1, [.int a0, .int a1, .int a2, .int a3, .int a4, .int a5, .int a6, .int a7, .int a8, .int a9, .int a10, .int a11, .ref h1]))]) [0] (by decide) rfl
      have hK9 := hK.sub (tys' := []) [] rfl
      have ef : fx_X1_byOutcome a1 p0 p1 = 51 := by unfold fx_X1_byOutcome; rw [if_neg c_1, if_neg c_49, if_neg c_50, if_neg c_51, if_neg c_57, if_neg c_58, if_neg c_61, if_neg c_65, if_pos c_66, if_neg c_67]
      exact W.iret (v := 51) hx hb hr (fun t ht hW => ⟨⟨51, [(h0, .inr (1, [.int a0, .int a1, .int a2, .int a3, .int a4, .int a5, .int a6, .int a7, .int a8, .int a9, .int a10, .int a11, .ref h1]))], rfl, ⟨ef.symm, rfl⟩, by rw [ht]; exact hP9, va_K.moved hW.alike hK9, hD9⟩, hS.F ht⟩) hS.2.2 dX1_byOutcome_218
    by_cases c_68 : p1 = 7
    · refine lv_tableIn (off := 190) (tgt := 219) hx hb dX1_byOutcome_29 (by rw [c_68]; decide) (by rw [c_68]; decide) (by rw [c_68]; rfl) (by decide) ?_
      refine lv_iload_n hx hb dX1_byOutcome_219 rfl (lv_at hl 3 rfl) ?_
      refine lv_iconst (v := 2) hx hb dX1_byOutcome_220 (by decide) ?_
      refine lv_icmp_ge (tgt := 228) hx hb dX1_byOutcome_221 (by decide) (fun c_69 => ?_) (fun c_69 => ?_)
      · refine lv_iload_n hx hb dX1_byOutcome_228 rfl (lv_at hl 3 rfl) ?_
        refine lv_iconst (v := 4) hx hb dX1_byOutcome_229 (by decide) ?_
        refine lv_icmp_ge (tgt := 238) hx hb dX1_byOutcome_230 (by decide) (fun c_70 => ?_) (fun c_70 => ?_)
        · refine lv_bipush (v := 90) hx hb dX1_byOutcome_238 (by decide) ?_
          have hP9 := hP.sub (ws' := [(h0, .inr (1, [.int a0, .int a1, .int a2, .int a3, .int a4, .int a5, .int a6, .int a7, .int a8, .int a9, .int a10, .int a11, .ref h1]))]) [0] rfl
          have hD9 := hD.sub (ws' := [(h0, .inr (1, [.int a0, .int a1, .int a2, .int a3, .int a4, .int a5, .int a6, .int a7, .int a8, .int a9, .int a10, .int a11, .ref h1]))]) [0] (by decide) rfl
          have hK9 := hK.sub (tys' := []) [] rfl
          have ef : fx_X1_byOutcome a1 p0 p1 = 90 := by unfold fx_X1_byOutcome; rw [if_neg c_1, if_neg c_49, if_neg c_50, if_neg c_51, if_neg c_57, if_neg c_58, if_neg c_61, if_neg c_65, if_neg c_66, if_pos c_68, if_pos c_69, if_pos c_70]
          exact W.iret (v := 90) hx hb hr (fun t ht hW => ⟨⟨90, [(h0, .inr (1, [.int a0, .int a1, .int a2, .int a3, .int a4, .int a5, .int a6, .int a7, .int a8, .int a9, .int a10, .int a11, .ref h1]))], rfl, ⟨ef.symm, rfl⟩, by rw [ht]; exact hP9, va_K.moved hW.alike hK9, hD9⟩, hS.F ht⟩) hS.2.2 dX1_byOutcome_240
        refine lv_bipush (v := 44) hx hb dX1_byOutcome_233 (by decide) ?_
        refine lv_goto (tgt := 240) hx hb dX1_byOutcome_235 (by decide) ?_
        have hP9 := hP.sub (ws' := [(h0, .inr (1, [.int a0, .int a1, .int a2, .int a3, .int a4, .int a5, .int a6, .int a7, .int a8, .int a9, .int a10, .int a11, .ref h1]))]) [0] rfl
        have hD9 := hD.sub (ws' := [(h0, .inr (1, [.int a0, .int a1, .int a2, .int a3, .int a4, .int a5, .int a6, .int a7, .int a8, .int a9, .int a10, .int a11, .ref h1]))]) [0] (by decide) rfl
        have hK9 := hK.sub (tys' := []) [] rfl
        have ef : fx_X1_byOutcome a1 p0 p1 = 44 := by unfold fx_X1_byOutcome; rw [if_neg c_1, if_neg c_49, if_neg c_50, if_neg c_51, if_neg c_57, if_neg c_58, if_neg c_61, if_neg c_65, if_neg c_66, if_pos c_68, if_pos c_69, if_neg c_70]
        exact W.iret (v := 44) hx hb hr (fun t ht hW => ⟨⟨44, [(h0, .inr (1, [.int a0, .int a1, .int a2, .int a3, .int a4, .int a5, .int a6, .int a7, .int a8, .int a9, .int a10, .int a11, .ref h1]))], rfl, ⟨ef.symm, rfl⟩, by rw [ht]; exact hP9, va_K.moved hW.alike hK9, hD9⟩, hS.F ht⟩) hS.2.2 dX1_byOutcome_240
      refine lv_iconst (v := 4) hx hb dX1_byOutcome_224 (by decide) ?_
      refine lv_goto (tgt := 240) hx hb dX1_byOutcome_225 (by decide) ?_
      have hP9 := hP.sub (ws' := [(h0, .inr (1, [.int a0, .int a1, .int a2, .int a3, .int a4, .int a5, .int a6, .int a7, .int a8, .int a9, .int a10, .int a11, .ref h1]))]) [0] rfl
      have hD9 := hD.sub (ws' := [(h0, .inr (1, [.int a0, .int a1, .int a2, .int a3, .int a4, .int a5, .int a6, .int a7, .int a8, .int a9, .int a10, .int a11, .ref h1]))]) [0] (by decide) rfl
      have hK9 := hK.sub (tys' := []) [] rfl
      have ef : fx_X1_byOutcome a1 p0 p1 = 4 := by unfold fx_X1_byOutcome; rw [if_neg c_1, if_neg c_49, if_neg c_50, if_neg c_51, if_neg c_57, if_neg c_58, if_neg c_61, if_neg c_65, if_neg c_66, if_pos c_68, if_neg c_69]
      exact W.iret (v := 4) hx hb hr (fun t ht hW => ⟨⟨4, [(h0, .inr (1, [.int a0, .int a1, .int a2, .int a3, .int a4, .int a5, .int a6, .int a7, .int a8, .int a9, .int a10, .int a11, .ref h1]))], rfl, ⟨ef.symm, rfl⟩, by rw [ht]; exact hP9, va_K.moved hW.alike hK9, hD9⟩, hS.F ht⟩) hS.2.2 dX1_byOutcome_240
    by_cases c_71 : p1 = 8
    · refine lv_tableIn (off := 212) (tgt := 241) hx hb dX1_byOutcome_29 (by rw [c_71]; decide) (by rw [c_71]; decide) (by rw [c_71]; rfl) (by decide) ?_
      refine lv_iload hx hb dX1_byOutcome_241 (lv_at hl 0 rfl) ?_
      refine lv_if_eq (tgt := 261) hx hb dX1_byOutcome_243 (by decide) (fun c9 => ?_) (fun c9 => absurd c9 (by decide))
      refine lv_bipush (v := 90) hx hb dX1_byOutcome_261 (by decide) ?_
      have hP9 := hP.sub (ws' := [(h0, .inr (1, [.int a0, .int a1, .int a2, .int a3, .int a4, .int a5, .int a6, .int a7, .int a8, .int a9, .int a10, .int a11, .ref h1]))]) [0] rfl
      have hD9 := hD.sub (ws' := [(h0, .inr (1, [.int a0, .int a1, .int a2, .int a3, .int a4, .int a5, .int a6, .int a7, .int a8, .int a9, .int a10, .int a11, .ref h1]))]) [0] (by decide) rfl
      have hK9 := hK.sub (tys' := []) [] rfl
      have ef : fx_X1_byOutcome a1 p0 p1 = 90 := by unfold fx_X1_byOutcome; rw [if_neg c_1, if_neg c_49, if_neg c_50, if_neg c_51, if_neg c_57, if_neg c_58, if_neg c_61, if_neg c_65, if_neg c_66, if_neg c_68]
      exact W.iret (v := 90) hx hb hr (fun t ht hW => ⟨⟨90, [(h0, .inr (1, [.int a0, .int a1, .int a2, .int a3, .int a4, .int a5, .int a6, .int a7, .int a8, .int a9, .int a10, .int a11, .ref h1]))], rfl, ⟨ef.symm, rfl⟩, by rw [ht]; exact hP9, va_K.moved hW.alike hK9, hD9⟩, hS.F ht⟩) hS.2.2 dX1_byOutcome_263
    refine lv_tableOut (tgt := 264) hx hb dX1_byOutcome_29 (by have n_0 : (p1 : Int32).toInt ≠ 0 := xx_ne c_50 (by decide); have n_1 : (p1 : Int32).toInt ≠ 1 := xx_ne c_51 (by decide); have n_2 : (p1 : Int32).toInt ≠ 2 := xx_ne c_57 (by decide); have n_3 : (p1 : Int32).toInt ≠ 3 := xx_ne c_58 (by decide); have n_4 : (p1 : Int32).toInt ≠ 4 := xx_ne c_61 (by decide); have n_5 : (p1 : Int32).toInt ≠ 5 := xx_ne c_65 (by decide); have n_6 : (p1 : Int32).toInt ≠ 6 := xx_ne c_66 (by decide); have n_7 : (p1 : Int32).toInt ≠ 7 := xx_ne c_68 (by decide); have n_8 : (p1 : Int32).toInt ≠ 8 := xx_ne c_71 (by decide); omega) (by decide) ?_
    refine lv_bipush (v := 90) hx hb dX1_byOutcome_264 (by decide) ?_
    have hP9 := hP.sub (ws' := [(h0, .inr (1, [.int a0, .int a1, .int a2, .int a3, .int a4, .int a5, .int a6, .int a7, .int a8, .int a9, .int a10, .int a11, .ref h1]))]) [0] rfl
    have hD9 := hD.sub (ws' := [(h0, .inr (1, [.int a0, .int a1, .int a2, .int a3, .int a4, .int a5, .int a6, .int a7, .int a8, .int a9, .int a10, .int a11, .ref h1]))]) [0] (by decide) rfl
    have hK9 := hK.sub (tys' := []) [] rfl
    have ef : fx_X1_byOutcome a1 p0 p1 = 90 := by unfold fx_X1_byOutcome; rw [if_neg c_1, if_neg c_49, if_neg c_50, if_neg c_51, if_neg c_57, if_neg c_58, if_neg c_61, if_neg c_65, if_neg c_66, if_neg c_68]
    exact W.iret (v := 90) hx hb hr (fun t ht hW => ⟨⟨90, [(h0, .inr (1, [.int a0, .int a1, .int a2, .int a3, .int a4, .int a5, .int a6, .int a7, .int a8, .int a9, .int a10, .int a11, .ref h1]))], rfl, ⟨ef.symm, rfl⟩, by rw [ht]; exact hP9, va_K.moved hW.alike hK9, hD9⟩, hS.F ht⟩) hS.2.2 dX1_byOutcome_266
  refine lv_iconst (v := 1) hx hb dX1_byOutcome_21 (by decide) ?_
  refine lv_goto (tgt := 26) hx hb dX1_byOutcome_22 (by decide) ?_
  refine lv_istore (lv' := [(4, .int 1), (3, .int 1), (0, .ref h0), (1, .int p0), (2, .int p1)]) hx hb dX1_byOutcome_26 hl (by decide) rfl (fun ls hl => ?_)
  refine lv_iload_n hx hb dX1_byOutcome_28 rfl (lv_at hl 4 rfl) ?_
  by_cases c_72 : p1 = 0
  · refine lv_tableIn (off := 51) (tgt := 80) hx hb dX1_byOutcome_29 (by rw [c_72]; decide) (by rw [c_72]; decide) (by rw [c_72]; rfl) (by decide) ?_
    refine lv_iconst (v := 0) hx hb dX1_byOutcome_80 (by decide) ?_
    have hP9 := hP.sub (ws' := [(h0, .inr (1, [.int a0, .int a1, .int a2, .int a3, .int a4, .int a5, .int a6, .int a7, .int a8, .int a9, .int a10, .int a11, .ref h1]))]) [0] rfl
    have hD9 := hD.sub (ws' := [(h0, .inr (1, [.int a0, .int a1, .int a2, .int a3, .int a4, .int a5, .int a6, .int a7, .int a8, .int a9, .int a10, .int a11, .ref h1]))]) [0] (by decide) rfl
    have hK9 := hK.sub (tys' := []) [] rfl
    have ef : fx_X1_byOutcome a1 p0 p1 = 0 := by unfold fx_X1_byOutcome; rw [if_neg c_1, if_pos c_49, if_pos c_72]
    exact W.iret (v := 0) hx hb hr (fun t ht hW => ⟨⟨0, [(h0, .inr (1, [.int a0, .int a1, .int a2, .int a3, .int a4, .int a5, .int a6, .int a7, .int a8, .int a9, .int a10, .int a11, .ref h1]))], rfl, ⟨ef.symm, rfl⟩, by rw [ht]; exact hP9, va_K.moved hW.alike hK9, hD9⟩, hS.F ht⟩) hS.2.2 dX1_byOutcome_81
  by_cases c_73 : p1 = 1
  · refine lv_tableIn (off := 53) (tgt := 82) hx hb dX1_byOutcome_29 (by rw [c_73]; decide) (by rw [c_73]; decide) (by rw [c_73]; rfl) (by decide) ?_
    refine lv_iload_n hx hb dX1_byOutcome_82 rfl (lv_at hl 3 rfl) ?_
    refine lv_if_ne (tgt := 89) hx hb dX1_byOutcome_83 (by decide) (fun c_74 => ?_) (fun c_74 => ?_)
    · refine lv_iload_n hx hb dX1_byOutcome_89 rfl (lv_at hl 3 rfl) ?_
      refine lv_iconst (v := 1) hx hb dX1_byOutcome_90 (by decide) ?_
      refine lv_icmp_eq (tgt := 113) hx hb dX1_byOutcome_91 (by decide) (fun c_75 => ?_) (fun c_75 => ?_)
      · refine lv_bipush (v := 23) hx hb dX1_byOutcome_113 (by decide) ?_
        refine lv_goto (tgt := 120) hx hb dX1_byOutcome_115 (by decide) ?_
        have hP9 := hP.sub (ws' := [(h0, .inr (1, [.int a0, .int a1, .int a2, .int a3, .int a4, .int a5, .int a6, .int a7, .int a8, .int a9, .int a10, .int a11, .ref h1]))]) [0] rfl
        have hD9 := hD.sub (ws' := [(h0, .inr (1, [.int a0, .int a1, .int a2, .int a3, .int a4, .int a5, .int a6, .int a7, .int a8, .int a9, .int a10, .int a11, .ref h1]))]) [0] (by decide) rfl
        have hK9 := hK.sub (tys' := []) [] rfl
        have ef : fx_X1_byOutcome a1 p0 p1 = 23 := by unfold fx_X1_byOutcome; rw [if_neg c_1, if_pos c_49, if_neg c_72, if_pos c_73, if_neg c_74, if_pos c_75]
        exact W.iret (v := 23) hx hb hr (fun t ht hW => ⟨⟨23, [(h0, .inr (1, [.int a0, .int a1, .int a2, .int a3, .int a4, .int a5, .int a6, .int a7, .int a8, .int a9, .int a10, .int a11, .ref h1]))], rfl, ⟨ef.symm, rfl⟩, by rw [ht]; exact hP9, va_K.moved hW.alike hK9, hD9⟩, hS.F ht⟩) hS.2.2 dX1_byOutcome_120
      refine lv_iload_n hx hb dX1_byOutcome_94 rfl (lv_at hl 3 rfl) ?_
      refine lv_iconst (v := 4) hx hb dX1_byOutcome_95 (by decide) ?_
      refine lv_icmp_eq (tgt := 113) hx hb dX1_byOutcome_96 (by decide) (fun c_76 => ?_) (fun c_76 => ?_)
      · refine lv_bipush (v := 23) hx hb dX1_byOutcome_113 (by decide) ?_
        refine lv_goto (tgt := 120) hx hb dX1_byOutcome_115 (by decide) ?_
        have hP9 := hP.sub (ws' := [(h0, .inr (1, [.int a0, .int a1, .int a2, .int a3, .int a4, .int a5, .int a6, .int a7, .int a8, .int a9, .int a10, .int a11, .ref h1]))]) [0] rfl
        have hD9 := hD.sub (ws' := [(h0, .inr (1, [.int a0, .int a1, .int a2, .int a3, .int a4, .int a5, .int a6, .int a7, .int a8, .int a9, .int a10, .int a11, .ref h1]))]) [0] (by decide) rfl
        have hK9 := hK.sub (tys' := []) [] rfl
        have ef : fx_X1_byOutcome a1 p0 p1 = 23 := by unfold fx_X1_byOutcome; rw [if_neg c_1, if_pos c_49, if_neg c_72, if_pos c_73, if_neg c_74, if_neg c_75, if_pos c_76]
        exact W.iret (v := 23) hx hb hr (fun t ht hW => ⟨⟨23, [(h0, .inr (1, [.int a0, .int a1, .int a2, .int a3, .int a4, .int a5, .int a6, .int a7, .int a8, .int a9, .int a10, .int a11, .ref h1]))], rfl, ⟨ef.symm, rfl⟩, by rw [ht]; exact hP9, va_K.moved hW.alike hK9, hD9⟩, hS.F ht⟩) hS.2.2 dX1_byOutcome_120
      refine lv_iload_n hx hb dX1_byOutcome_99 rfl (lv_at hl 3 rfl) ?_
      refine lv_iconst (v := 5) hx hb dX1_byOutcome_100 (by decide) ?_
      refine lv_icmp_eq (tgt := 113) hx hb dX1_byOutcome_101 (by decide) (fun c_77 => ?_) (fun c_77 => ?_)
      · refine lv_bipush (v := 23) hx hb dX1_byOutcome_113 (by decide) ?_
        refine lv_goto (tgt := 120) hx hb dX1_byOutcome_115 (by decide) ?_
        have hP9 := hP.sub (ws' := [(h0, .inr (1, [.int a0, .int a1, .int a2, .int a3, .int a4, .int a5, .int a6, .int a7, .int a8, .int a9, .int a10, .int a11, .ref h1]))]) [0] rfl
        have hD9 := hD.sub (ws' := [(h0, .inr (1, [.int a0, .int a1, .int a2, .int a3, .int a4, .int a5, .int a6, .int a7, .int a8, .int a9, .int a10, .int a11, .ref h1]))]) [0] (by decide) rfl
        have hK9 := hK.sub (tys' := []) [] rfl
        have ef : fx_X1_byOutcome a1 p0 p1 = 23 := by unfold fx_X1_byOutcome; rw [if_neg c_1, if_pos c_49, if_neg c_72, if_pos c_73, if_neg c_74, if_neg c_75, if_neg c_76, if_pos c_77]
        exact W.iret (v := 23) hx hb hr (fun t ht hW => ⟨⟨23, [(h0, .inr (1, [.int a0, .int a1, .int a2, .int a3, .int a4, .int a5, .int a6, .int a7, .int a8, .int a9, .int a10, .int a11, .ref h1]))], rfl, ⟨ef.symm, rfl⟩, by rw [ht]; exact hP9, va_K.moved hW.alike hK9, hD9⟩, hS.F ht⟩) hS.2.2 dX1_byOutcome_120
      refine lv_iload_n hx hb dX1_byOutcome_104 rfl (lv_at hl 3 rfl) ?_
      refine lv_iconst (v := 3) hx hb dX1_byOutcome_105 (by decide) ?_
      refine lv_icmp_ne (tgt := 118) hx hb dX1_byOutcome_106 (by decide) (fun c_78 => ?_) (fun c_78 => ?_)
      · refine lv_bipush (v := 90) hx hb dX1_byOutcome_118 (by decide) ?_
        have hP9 := hP.sub (ws' := [(h0, .inr (1, [.int a0, .int a1, .int a2, .int a3, .int a4, .int a5, .int a6, .int a7, .int a8, .int a9, .int a10, .int a11, .ref h1]))]) [0] rfl
        have hD9 := hD.sub (ws' := [(h0, .inr (1, [.int a0, .int a1, .int a2, .int a3, .int a4, .int a5, .int a6, .int a7, .int a8, .int a9, .int a10, .int a11, .ref h1]))]) [0] (by decide) rfl
        have hK9 := hK.sub (tys' := []) [] rfl
        have ef : fx_X1_byOutcome a1 p0 p1 = 90 := by unfold fx_X1_byOutcome; rw [if_neg c_1, if_pos c_49, if_neg c_72, if_pos c_73, if_neg c_74, if_neg c_75, if_neg c_76, if_neg c_77, if_neg c_78]
        exact W.iret (v := 90) hx hb hr (fun t ht hW => ⟨⟨90, [(h0, .inr (1, [.int a0, .int a1, .int a2, .int a3, .int a4, .int a5, .int a6, .int a7, .int a8, .int a9, .int a10, .int a11, .ref h1]))], rfl, ⟨ef.symm, rfl⟩, by rw [ht]; exact hP9, va_K.moved hW.alike hK9, hD9⟩, hS.F ht⟩) hS.2.2 dX1_byOutcome_120
      refine lv_iload_n hx hb dX1_byOutcome_109 rfl (lv_at hl 1 rfl) ?_
      refine lv_if_eq (tgt := 118) hx hb dX1_byOutcome_110 (by decide) (fun c9 => absurd c9 (by decide)) (fun c9 => ?_)
      refine lv_bipush (v := 23) hx hb dX1_byOutcome_113 (by decide) ?_
      refine lv_goto (tgt := 120) hx hb dX1_byOutcome_115 (by decide) ?_
      have hP9 := hP.sub (ws' := [(h0, .inr (1, [.int a0, .int a1, .int a2, .int a3, .int a4, .int a5, .int a6, .int a7, .int a8, .int a9, .int a10, .int a11, .ref h1]))]) [0] rfl
      have hD9 := hD.sub (ws' := [(h0, .inr (1, [.int a0, .int a1, .int a2, .int a3, .int a4, .int a5, .int a6, .int a7, .int a8, .int a9, .int a10, .int a11, .ref h1]))]) [0] (by decide) rfl
      have hK9 := hK.sub (tys' := []) [] rfl
      have ef : fx_X1_byOutcome a1 p0 p1 = 23 := by unfold fx_X1_byOutcome; rw [if_neg c_1, if_pos c_49, if_neg c_72, if_pos c_73, if_neg c_74, if_neg c_75, if_neg c_76, if_neg c_77, if_pos c_78]
      exact W.iret (v := 23) hx hb hr (fun t ht hW => ⟨⟨23, [(h0, .inr (1, [.int a0, .int a1, .int a2, .int a3, .int a4, .int a5, .int a6, .int a7, .int a8, .int a9, .int a10, .int a11, .ref h1]))], rfl, ⟨ef.symm, rfl⟩, by rw [ht]; exact hP9, va_K.moved hW.alike hK9, hD9⟩, hS.F ht⟩) hS.2.2 dX1_byOutcome_120
    refine lv_bipush (v := 10) hx hb dX1_byOutcome_86 (by decide) ?_
    have hP9 := hP.sub (ws' := [(h0, .inr (1, [.int a0, .int a1, .int a2, .int a3, .int a4, .int a5, .int a6, .int a7, .int a8, .int a9, .int a10, .int a11, .ref h1]))]) [0] rfl
    have hD9 := hD.sub (ws' := [(h0, .inr (1, [.int a0, .int a1, .int a2, .int a3, .int a4, .int a5, .int a6, .int a7, .int a8, .int a9, .int a10, .int a11, .ref h1]))]) [0] (by decide) rfl
    have hK9 := hK.sub (tys' := []) [] rfl
    have ef : fx_X1_byOutcome a1 p0 p1 = 10 := by unfold fx_X1_byOutcome; rw [if_neg c_1, if_pos c_49, if_neg c_72, if_pos c_73, if_pos c_74]
    exact W.iret (v := 10) hx hb hr (fun t ht hW => ⟨⟨10, [(h0, .inr (1, [.int a0, .int a1, .int a2, .int a3, .int a4, .int a5, .int a6, .int a7, .int a8, .int a9, .int a10, .int a11, .ref h1]))], rfl, ⟨ef.symm, rfl⟩, by rw [ht]; exact hP9, va_K.moved hW.alike hK9, hD9⟩, hS.F ht⟩) hS.2.2 dX1_byOutcome_88
  by_cases c_79 : p1 = 2
  · refine lv_tableIn (off := 92) (tgt := 121) hx hb dX1_byOutcome_29 (by rw [c_79]; decide) (by rw [c_79]; decide) (by rw [c_79]; rfl) (by decide) ?_
    refine lv_iload hx hb dX1_byOutcome_121 (lv_at hl 0 rfl) ?_
    refine lv_if_eq (tgt := 135) hx hb dX1_byOutcome_123 (by decide) (fun c9 => absurd c9 (by decide)) (fun c9 => ?_)
    refine lv_iload_n hx hb dX1_byOutcome_126 rfl (lv_at hl 3 rfl) ?_
    refine lv_iconst (v := 4) hx hb dX1_byOutcome_127 (by decide) ?_
    refine lv_icmp_ge (tgt := 135) hx hb dX1_byOutcome_128 (by decide) (fun c_80 => ?_) (fun c_80 => ?_)
    · refine lv_bipush (v := 90) hx hb dX1_byOutcome_135 (by decide) ?_
      have hP9 := hP.sub (ws' := [(h0, .inr (1, [.int a0, .int a1, .int a2, .int a3, .int a4, .int a5, .int a6, .int a7, .int a8, .int a9, .int a10, .int a11, .ref h1]))]) [0] rfl
      have hD9 := hD.sub (ws' := [(h0, .inr (1, [.int a0, .int a1, .int a2, .int a3, .int a4, .int a5, .int a6, .int a7, .int a8, .int a9, .int a10, .int a11, .ref h1]))]) [0] (by decide) rfl
      have hK9 := hK.sub (tys' := []) [] rfl
      have ef : fx_X1_byOutcome a1 p0 p1 = 90 := by unfold fx_X1_byOutcome; rw [if_neg c_1, if_pos c_49, if_neg c_72, if_neg c_73, if_pos c_79, if_pos c_80]
      exact W.iret (v := 90) hx hb hr (fun t ht hW => ⟨⟨90, [(h0, .inr (1, [.int a0, .int a1, .int a2, .int a3, .int a4, .int a5, .int a6, .int a7, .int a8, .int a9, .int a10, .int a11, .ref h1]))], rfl, ⟨ef.symm, rfl⟩, by rw [ht]; exact hP9, va_K.moved hW.alike hK9, hD9⟩, hS.F ht⟩) hS.2.2 dX1_byOutcome_137
    refine lv_iconst (v := 2) hx hb dX1_byOutcome_131 (by decide) ?_
    refine lv_goto (tgt := 137) hx hb dX1_byOutcome_132 (by decide) ?_
    have hP9 := hP.sub (ws' := [(h0, .inr (1, [.int a0, .int a1, .int a2, .int a3, .int a4, .int a5, .int a6, .int a7, .int a8, .int a9, .int a10, .int a11, .ref h1]))]) [0] rfl
    have hD9 := hD.sub (ws' := [(h0, .inr (1, [.int a0, .int a1, .int a2, .int a3, .int a4, .int a5, .int a6, .int a7, .int a8, .int a9, .int a10, .int a11, .ref h1]))]) [0] (by decide) rfl
    have hK9 := hK.sub (tys' := []) [] rfl
    have ef : fx_X1_byOutcome a1 p0 p1 = 2 := by unfold fx_X1_byOutcome; rw [if_neg c_1, if_pos c_49, if_neg c_72, if_neg c_73, if_pos c_79, if_neg c_80]
    exact W.iret (v := 2) hx hb hr (fun t ht hW => ⟨⟨2, [(h0, .inr (1, [.int a0, .int a1, .int a2, .int a3, .int a4, .int a5, .int a6, .int a7, .int a8, .int a9, .int a10, .int a11, .ref h1]))], rfl, ⟨ef.symm, rfl⟩, by rw [ht]; exact hP9, va_K.moved hW.alike hK9, hD9⟩, hS.F ht⟩) hS.2.2 dX1_byOutcome_137
  by_cases c_81 : p1 = 3
  · refine lv_tableIn (off := 109) (tgt := 138) hx hb dX1_byOutcome_29 (by rw [c_81]; decide) (by rw [c_81]; decide) (by rw [c_81]; rfl) (by decide) ?_
    refine lv_iload_n hx hb dX1_byOutcome_138 rfl (lv_at hl 3 rfl) ?_
    refine lv_iconst (v := 2) hx hb dX1_byOutcome_139 (by decide) ?_
    refine lv_icmp_ne (tgt := 147) hx hb dX1_byOutcome_140 (by decide) (fun c_82 => ?_) (fun c_82 => ?_)
    · refine lv_iload_n hx hb dX1_byOutcome_147 rfl (lv_at hl 3 rfl) ?_
      refine lv_iconst (v := 3) hx hb dX1_byOutcome_148 (by decide) ?_
      refine lv_icmp_ne (tgt := 162) hx hb dX1_byOutcome_149 (by decide) (fun c_83 => ?_) (fun c_83 => ?_)
      · refine lv_bipush (v := 90) hx hb dX1_byOutcome_162 (by decide) ?_
        have hP9 := hP.sub (ws' := [(h0, .inr (1, [.int a0, .int a1, .int a2, .int a3, .int a4, .int a5, .int a6, .int a7, .int a8, .int a9, .int a10, .int a11, .ref h1]))]) [0] rfl
        have hD9 := hD.sub (ws' := [(h0, .inr (1, [.int a0, .int a1, .int a2, .int a3, .int a4, .int a5, .int a6, .int a7, .int a8, .int a9, .int a10, .int a11, .ref h1]))]) [0] (by decide) rfl
        have hK9 := hK.sub (tys' := []) [] rfl
        have ef : fx_X1_byOutcome a1 p0 p1 = 90 := by unfold fx_X1_byOutcome; rw [if_neg c_1, if_pos c_49, if_neg c_72, if_neg c_73, if_neg c_79, if_pos c_81, if_neg c_82, if_neg c_83]
        exact W.iret (v := 90) hx hb hr (fun t ht hW => ⟨⟨90, [(h0, .inr (1, [.int a0, .int a1, .int a2, .int a3, .int a4, .int a5, .int a6, .int a7, .int a8, .int a9, .int a10, .int a11, .ref h1]))], rfl, ⟨ef.symm, rfl⟩, by rw [ht]; exact hP9, va_K.moved hW.alike hK9, hD9⟩, hS.F ht⟩) hS.2.2 dX1_byOutcome_164
      refine lv_iload hx hb dX1_byOutcome_152 (lv_at hl 0 rfl) ?_
      refine lv_if_eq (tgt := 162) hx hb dX1_byOutcome_154 (by decide) (fun c9 => absurd c9 (by decide)) (fun c9 => ?_)
      refine lv_bipush (v := 22) hx hb dX1_byOutcome_157 (by decide) ?_
      refine lv_goto (tgt := 164) hx hb dX1_byOutcome_159 (by decide) ?_
      have hP9 := hP.sub (ws' := [(h0, .inr (1, [.int a0, .int a1, .int a2, .int a3, .int a4, .int a5, .int a6, .int a7, .int a8, .int a9, .int a10, .int a11, .ref h1]))]) [0] rfl
      have hD9 := hD.sub (ws' := [(h0, .inr (1, [.int a0, .int a1, .int a2, .int a3, .int a4, .int a5, .int a6, .int a7, .int a8, .int a9, .int a10, .int a11, .ref h1]))]) [0] (by decide) rfl
      have hK9 := hK.sub (tys' := []) [] rfl
      have ef : fx_X1_byOutcome a1 p0 p1 = 22 := by unfold fx_X1_byOutcome; rw [if_neg c_1, if_pos c_49, if_neg c_72, if_neg c_73, if_neg c_79, if_pos c_81, if_neg c_82, if_pos c_83]
      exact W.iret (v := 22) hx hb hr (fun t ht hW => ⟨⟨22, [(h0, .inr (1, [.int a0, .int a1, .int a2, .int a3, .int a4, .int a5, .int a6, .int a7, .int a8, .int a9, .int a10, .int a11, .ref h1]))], rfl, ⟨ef.symm, rfl⟩, by rw [ht]; exact hP9, va_K.moved hW.alike hK9, hD9⟩, hS.F ht⟩) hS.2.2 dX1_byOutcome_164
    refine lv_iload_n hx hb dX1_byOutcome_143 rfl (lv_at hl 1 rfl) ?_
    refine lv_if_ne (tgt := 157) hx hb dX1_byOutcome_144 (by decide) (fun c9 => ?_) (fun c9 => absurd c9 (by decide))
    refine lv_bipush (v := 22) hx hb dX1_byOutcome_157 (by decide) ?_
    refine lv_goto (tgt := 164) hx hb dX1_byOutcome_159 (by decide) ?_
    have hP9 := hP.sub (ws' := [(h0, .inr (1, [.int a0, .int a1, .int a2, .int a3, .int a4, .int a5, .int a6, .int a7, .int a8, .int a9, .int a10, .int a11, .ref h1]))]) [0] rfl
    have hD9 := hD.sub (ws' := [(h0, .inr (1, [.int a0, .int a1, .int a2, .int a3, .int a4, .int a5, .int a6, .int a7, .int a8, .int a9, .int a10, .int a11, .ref h1]))]) [0] (by decide) rfl
    have hK9 := hK.sub (tys' := []) [] rfl
    have ef : fx_X1_byOutcome a1 p0 p1 = 22 := by unfold fx_X1_byOutcome; rw [if_neg c_1, if_pos c_49, if_neg c_72, if_neg c_73, if_neg c_79, if_pos c_81, if_pos c_82]
    exact W.iret (v := 22) hx hb hr (fun t ht hW => ⟨⟨22, [(h0, .inr (1, [.int a0, .int a1, .int a2, .int a3, .int a4, .int a5, .int a6, .int a7, .int a8, .int a9, .int a10, .int a11, .ref h1]))], rfl, ⟨ef.symm, rfl⟩, by rw [ht]; exact hP9, va_K.moved hW.alike hK9, hD9⟩, hS.F ht⟩) hS.2.2 dX1_byOutcome_164
  by_cases c_84 : p1 = 4
  · refine lv_tableIn (off := 136) (tgt := 165) hx hb dX1_byOutcome_29 (by rw [c_84]; decide) (by rw [c_84]; decide) (by rw [c_84]; rfl) (by decide) ?_
    refine lv_iload_n hx hb dX1_byOutcome_165 rfl (lv_at hl 3 rfl) ?_
    refine lv_iconst (v := 2) hx hb dX1_byOutcome_166 (by decide) ?_
    refine lv_icmp_ne (tgt := 182) hx hb dX1_byOutcome_167 (by decide) (fun c_85 => ?_) (fun c_85 => ?_)
    · refine lv_iload_n hx hb dX1_byOutcome_182 rfl (lv_at hl 3 rfl) ?_
      refine lv_if_ne (tgt := 199) hx hb dX1_byOutcome_183 (by decide) (fun c_86 => ?_) (fun c_86 => ?_)
      · refine lv_bipush (v := 90) hx hb dX1_byOutcome_199 (by decide) ?_
        have hP9 := hP.sub (ws' := [(h0, .inr (1, [.int a0, .int a1, .int a2, .int a3, .int a4, .int a5, .int a6, .int a7, .int a8, .int a9, .int a10, .int a11, .ref h1]))]) [0] rfl
        have hD9 := hD.sub (ws' := [(h0, .inr (1, [.int a0, .int a1, .int a2, .int a3, .int a4, .int a5, .int a6, .int a7, .int a8, .int a9, .int a10, .int a11, .ref h1]))]) [0] (by decide) rfl
        have hK9 := hK.sub (tys' := []) [] rfl
        have ef : fx_X1_byOutcome a1 p0 p1 = 90 := by unfold fx_X1_byOutcome; rw [if_neg c_1, if_pos c_49, if_neg c_72, if_neg c_73, if_neg c_79, if_neg c_81, if_pos c_84, if_neg c_85]
        exact W.iret (v := 90) hx hb hr (fun t ht hW => ⟨⟨90, [(h0, .inr (1, [.int a0, .int a1, .int a2, .int a3, .int a4, .int a5, .int a6, .int a7, .int a8, .int a9, .int a10, .int a11, .ref h1]))], rfl, ⟨ef.symm, rfl⟩, by rw [ht]; exact hP9, va_K.moved hW.alike hK9, hD9⟩, hS.F ht⟩) hS.2.2 dX1_byOutcome_201
      refine lv_aload_n hx hb dX1_byOutcome_186 rfl (lv_at hl 2 rfl) ?_
      refine va_get (D := (dC, dI)) (ci := 1) (v := .int a1) (C := RX1) (T := TX1) (N := 13) hx hb hts (fun _ h => List.mem_cons_of_mem _ (List.mem_append_right _ h)) hown hK hP 0 rfl rfl 1 (by decide) (hts (.fieldLink RX1 17 "FileStatusModel" "organisation" "I") (by decide +kernel)) (fun _ h9 => h9) rfl dX1_byOutcome_187 ?_
      refine lv_iconst (v := 1) hx hb dX1_byOutcome_190 (by decide) ?_
      refine lv_icmp_ne (tgt := 199) hx hb dX1_byOutcome_191 (by decide) (fun c9 => ?_) (fun c9 => absurd (c_49.symm.trans c9) (by decide))
      refine lv_bipush (v := 90) hx hb dX1_byOutcome_199 (by decide) ?_
      have hP9 := hP.sub (ws' := [(h0, .inr (1, [.int a0, .int a1, .int a2, .int a3, .int a4, .int a5, .int a6, .int a7, .int a8, .int a9, .int a10, .int a11, .ref h1]))]) [0] rfl
      have hD9 := hD.sub (ws' := [(h0, .inr (1, [.int a0, .int a1, .int a2, .int a3, .int a4, .int a5, .int a6, .int a7, .int a8, .int a9, .int a10, .int a11, .ref h1]))]) [0] (by decide) rfl
      have hK9 := hK.sub (tys' := []) [] rfl
      have ef : fx_X1_byOutcome a1 p0 p1 = 90 := by unfold fx_X1_byOutcome; rw [if_neg c_1, if_pos c_49, if_neg c_72, if_neg c_73, if_neg c_79, if_neg c_81, if_pos c_84, if_neg c_85]
      exact W.iret (v := 90) hx hb hr (fun t ht hW => ⟨⟨90, [(h0, .inr (1, [.int a0, .int a1, .int a2, .int a3, .int a4, .int a5, .int a6, .int a7, .int a8, .int a9, .int a10, .int a11, .ref h1]))], rfl, ⟨ef.symm, rfl⟩, by rw [ht]; exact hP9, va_K.moved hW.alike hK9, hD9⟩, hS.F ht⟩) hS.2.2 dX1_byOutcome_201
    refine lv_iload_n hx hb dX1_byOutcome_170 rfl (lv_at hl 1 rfl) ?_
    refine lv_if_eq (tgt := 179) hx hb dX1_byOutcome_171 (by decide) (fun c9 => absurd c9 (by decide)) (fun c9 => ?_)
    refine lv_bipush (v := 24) hx hb dX1_byOutcome_174 (by decide) ?_
    refine lv_goto (tgt := 181) hx hb dX1_byOutcome_176 (by decide) ?_
    have hP9 := hP.sub (ws' := [(h0, .inr (1, [.int a0, .int a1, .int a2, .int a3, .int a4, .int a5, .int a6, .int a7, .int a8, .int a9, .int a10, .int a11, .ref h1]))]) [0] rfl
    have hD9 := hD.sub (ws' := [(h0, .inr (1, [.int a0, .int a1, .int a2, .int a3, .int a4, .int a5, .int a6, .int a7, .int a8, .int a9, .int a10, .int a11, .ref h1]))]) [0] (by decide) rfl
    have hK9 := hK.sub (tys' := []) [] rfl
    have ef : fx_X1_byOutcome a1 p0 p1 = 24 := by unfold fx_X1_byOutcome; rw [if_neg c_1, if_pos c_49, if_neg c_72, if_neg c_73, if_neg c_79, if_neg c_81, if_pos c_84, if_pos c_85]
    exact W.iret (v := 24) hx hb hr (fun t ht hW => ⟨⟨24, [(h0, .inr (1, [.int a0, .int a1, .int a2, .int a3, .int a4, .int a5, .int a6, .int a7, .int a8, .int a9, .int a10, .int a11, .ref h1]))], rfl, ⟨ef.symm, rfl⟩, by rw [ht]; exact hP9, va_K.moved hW.alike hK9, hD9⟩, hS.F ht⟩) hS.2.2 dX1_byOutcome_181
  by_cases c_87 : p1 = 5
  · refine lv_tableIn (off := 173) (tgt := 202) hx hb dX1_byOutcome_29 (by rw [c_87]; decide) (by rw [c_87]; decide) (by rw [c_87]; rfl) (by decide) ?_
    refine lv_bipush (v := 30) hx hb dX1_byOutcome_202 (by decide) ?_
    have hP9 := hP.sub (ws' := [(h0, .inr (1, [.int a0, .int a1, .int a2, .int a3, .int a4, .int a5, .int a6, .int a7, .int a8, .int a9, .int a10, .int a11, .ref h1]))]) [0] rfl
    have hD9 := hD.sub (ws' := [(h0, .inr (1, [.int a0, .int a1, .int a2, .int a3, .int a4, .int a5, .int a6, .int a7, .int a8, .int a9, .int a10, .int a11, .ref h1]))]) [0] (by decide) rfl
    have hK9 := hK.sub (tys' := []) [] rfl
    have ef : fx_X1_byOutcome a1 p0 p1 = 30 := by unfold fx_X1_byOutcome; rw [if_neg c_1, if_pos c_49, if_neg c_72, if_neg c_73, if_neg c_79, if_neg c_81, if_neg c_84, if_pos c_87]
    exact W.iret (v := 30) hx hb hr (fun t ht hW => ⟨⟨30, [(h0, .inr (1, [.int a0, .int a1, .int a2, .int a3, .int a4, .int a5, .int a6, .int a7, .int a8, .int a9, .int a10, .int a11, .ref h1]))], rfl, ⟨ef.symm, rfl⟩, by rw [ht]; exact hP9, va_K.moved hW.alike hK9, hD9⟩, hS.F ht⟩) hS.2.2 dX1_byOutcome_204
  by_cases c_88 : p1 = 6
  · refine lv_tableIn (off := 176) (tgt := 205) hx hb dX1_byOutcome_29 (by rw [c_88]; decide) (by rw [c_88]; decide) (by rw [c_88]; rfl) (by decide) ?_
    refine lv_iload_n hx hb dX1_byOutcome_205 rfl (lv_at hl 3 rfl) ?_
    refine lv_bipush (v := 6) hx hb dX1_byOutcome_206 (by decide) ?_
    refine lv_icmp_ge (tgt := 216) hx hb dX1_byOutcome_208 (by decide) (fun c_89 => ?_) (fun c_89 => ?_)
    · refine lv_bipush (v := 90) hx hb dX1_byOutcome_216 (by decide) ?_
      have hP9 := hP.sub (ws' := [(h0, .inr (1, [.int a0, .int a1, .int a2, .int a3, .int a4, .int a5, .int a6, .int a7, .int a8, .int a9, .int a10, .int a11, .ref h1]))]) [0] rfl
      have hD9 := hD.sub (ws' := [(h0, .inr (1, [.int a0, .int a1, .int a2, .int a3, .int a4, .int a5, .int a6, .int a7, .int a8, .int a9, .int a10, .int a11, .ref h1]))]) [0] (by decide) rfl
      have hK9 := hK.sub (tys' := []) [] rfl
      have ef : fx_X1_byOutcome a1 p0 p1 = 90 := by unfold fx_X1_byOutcome; rw [if_neg c_1, if_pos c_49, if_neg c_72, if_neg c_73, if_neg c_79, if_neg c_81, if_neg c_84, if_neg c_87, if_pos c_88, if_pos c_89]
      exact W.iret (v := 90) hx hb hr (fun t ht hW => ⟨⟨90, [(h0, .inr (1, [.int a0, .int a1, .int a2, .int a3, .int a4, .int a5, .int a6, .int a7, .int a8, .int a9, .int a10, .int a11, .ref h1]))], rfl, ⟨ef.symm, rfl⟩, by rw [ht]; exact hP9, va_K.moved hW.alike hK9, hD9⟩, hS.F ht⟩) hS.2.2 dX1_byOutcome_218
    refine lv_bipush (v := 51) hx hb dX1_byOutcome_211 (by decide) ?_
    refine lv_goto (tgt := 218) hx hb dX1_byOutcome_213 (by decide) ?_
    have hP9 := hP.sub (ws' := [(h0, .inr (1, [.int a0, .int a1, .int a2, .int a3, .int a4, .int a5, .int a6, .int a7, .int a8, .int a9, .int a10, .int a11, .ref h1]))]) [0] rfl
    have hD9 := hD.sub (ws' := [(h0, .inr (1, [.int a0, .int a1, .int a2, .int a3, .int a4, .int a5, .int a6, .int a7, .int a8, .int a9, .int a10, .int a11, .ref h1]))]) [0] (by decide) rfl
    have hK9 := hK.sub (tys' := []) [] rfl
    have ef : fx_X1_byOutcome a1 p0 p1 = 51 := by unfold fx_X1_byOutcome; rw [if_neg c_1, if_pos c_49, if_neg c_72, if_neg c_73, if_neg c_79, if_neg c_81, if_neg c_84, if_neg c_87, if_pos c_88, if_neg c_89]
    exact W.iret (v := 51) hx hb hr (fun t ht hW => ⟨⟨51, [(h0, .inr (1, [.int a0, .int a1, .int a2, .int a3, .int a4, .int a5, .int a6, .int a7, .int a8, .int a9, .int a10, .int a11, .ref h1]))], rfl, ⟨ef.symm, rfl⟩, by rw [ht]; exact hP9, va_K.moved hW.alike hK9, hD9⟩, hS.F ht⟩) hS.2.2 dX1_byOutcome_218
  by_cases c_90 : p1 = 7
  · refine lv_tableIn (off := 190) (tgt := 219) hx hb dX1_byOutcome_29 (by rw [c_90]; decide) (by rw [c_90]; decide) (by rw [c_90]; rfl) (by decide) ?_
    refine lv_iload_n hx hb dX1_byOutcome_219 rfl (lv_at hl 3 rfl) ?_
    refine lv_iconst (v := 2) hx hb dX1_byOutcome_220 (by decide) ?_
    refine lv_icmp_ge (tgt := 228) hx hb dX1_byOutcome_221 (by decide) (fun c_91 => ?_) (fun c_91 => ?_)
    · refine lv_iload_n hx hb dX1_byOutcome_228 rfl (lv_at hl 3 rfl) ?_
      refine lv_iconst (v := 4) hx hb dX1_byOutcome_229 (by decide) ?_
      refine lv_icmp_ge (tgt := 238) hx hb dX1_byOutcome_230 (by decide) (fun c_92 => ?_) (fun c_92 => ?_)
      · refine lv_bipush (v := 90) hx hb dX1_byOutcome_238 (by decide) ?_
        have hP9 := hP.sub (ws' := [(h0, .inr (1, [.int a0, .int a1, .int a2, .int a3, .int a4, .int a5, .int a6, .int a7, .int a8, .int a9, .int a10, .int a11, .ref h1]))]) [0] rfl
        have hD9 := hD.sub (ws' := [(h0, .inr (1, [.int a0, .int a1, .int a2, .int a3, .int a4, .int a5, .int a6, .int a7, .int a8, .int a9, .int a10, .int a11, .ref h1]))]) [0] (by decide) rfl
        have hK9 := hK.sub (tys' := []) [] rfl
        have ef : fx_X1_byOutcome a1 p0 p1 = 90 := by unfold fx_X1_byOutcome; rw [if_neg c_1, if_pos c_49, if_neg c_72, if_neg c_73, if_neg c_79, if_neg c_81, if_neg c_84, if_neg c_87, if_neg c_88, if_pos c_90, if_pos c_91, if_pos c_92]
        exact W.iret (v := 90) hx hb hr (fun t ht hW => ⟨⟨90, [(h0, .inr (1, [.int a0, .int a1, .int a2, .int a3, .int a4, .int a5, .int a6, .int a7, .int a8, .int a9, .int a10, .int a11, .ref h1]))], rfl, ⟨ef.symm, rfl⟩, by rw [ht]; exact hP9, va_K.moved hW.alike hK9, hD9⟩, hS.F ht⟩) hS.2.2 dX1_byOutcome_240
      refine lv_bipush (v := 44) hx hb dX1_byOutcome_233 (by decide) ?_
      refine lv_goto (tgt := 240) hx hb dX1_byOutcome_235 (by decide) ?_
      have hP9 := hP.sub (ws' := [(h0, .inr (1, [.int a0, .int a1, .int a2, .int a3, .int a4, .int a5, .int a6, .int a7, .int a8, .int a9, .int a10, .int a11, .ref h1]))]) [0] rfl
      have hD9 := hD.sub (ws' := [(h0, .inr (1, [.int a0, .int a1, .int a2, .int a3, .int a4, .int a5, .int a6, .int a7, .int a8, .int a9, .int a10, .int a11, .ref h1]))]) [0] (by decide) rfl
      have hK9 := hK.sub (tys' := []) [] rfl
      have ef : fx_X1_byOutcome a1 p0 p1 = 44 := by unfold fx_X1_byOutcome; rw [if_neg c_1, if_pos c_49, if_neg c_72, if_neg c_73, if_neg c_79, if_neg c_81, if_neg c_84, if_neg c_87, if_neg c_88, if_pos c_90, if_pos c_91, if_neg c_92]
      exact W.iret (v := 44) hx hb hr (fun t ht hW => ⟨⟨44, [(h0, .inr (1, [.int a0, .int a1, .int a2, .int a3, .int a4, .int a5, .int a6, .int a7, .int a8, .int a9, .int a10, .int a11, .ref h1]))], rfl, ⟨ef.symm, rfl⟩, by rw [ht]; exact hP9, va_K.moved hW.alike hK9, hD9⟩, hS.F ht⟩) hS.2.2 dX1_byOutcome_240
    refine lv_iconst (v := 4) hx hb dX1_byOutcome_224 (by decide) ?_
    refine lv_goto (tgt := 240) hx hb dX1_byOutcome_225 (by decide) ?_
    have hP9 := hP.sub (ws' := [(h0, .inr (1, [.int a0, .int a1, .int a2, .int a3, .int a4, .int a5, .int a6, .int a7, .int a8, .int a9, .int a10, .int a11, .ref h1]))]) [0] rfl
    have hD9 := hD.sub (ws' := [(h0, .inr (1, [.int a0, .int a1, .int a2, .int a3, .int a4, .int a5, .int a6, .int a7, .int a8, .int a9, .int a10, .int a11, .ref h1]))]) [0] (by decide) rfl
    have hK9 := hK.sub (tys' := []) [] rfl
    have ef : fx_X1_byOutcome a1 p0 p1 = 4 := by unfold fx_X1_byOutcome; rw [if_neg c_1, if_pos c_49, if_neg c_72, if_neg c_73, if_neg c_79, if_neg c_81, if_neg c_84, if_neg c_87, if_neg c_88, if_pos c_90, if_neg c_91]
    exact W.iret (v := 4) hx hb hr (fun t ht hW => ⟨⟨4, [(h0, .inr (1, [.int a0, .int a1, .int a2, .int a3, .int a4, .int a5, .int a6, .int a7, .int a8, .int a9, .int a10, .int a11, .ref h1]))], rfl, ⟨ef.symm, rfl⟩, by rw [ht]; exact hP9, va_K.moved hW.alike hK9, hD9⟩, hS.F ht⟩) hS.2.2 dX1_byOutcome_240
  by_cases c_93 : p1 = 8
  · refine lv_tableIn (off := 212) (tgt := 241) hx hb dX1_byOutcome_29 (by rw [c_93]; decide) (by rw [c_93]; decide) (by rw [c_93]; rfl) (by decide) ?_
    refine lv_iload hx hb dX1_byOutcome_241 (lv_at hl 0 rfl) ?_
    refine lv_if_eq (tgt := 261) hx hb dX1_byOutcome_243 (by decide) (fun c9 => absurd c9 (by decide)) (fun c9 => ?_)
    refine lv_iload_n hx hb dX1_byOutcome_246 rfl (lv_at hl 3 rfl) ?_
    refine lv_iconst (v := 2) hx hb dX1_byOutcome_247 (by decide) ?_
    refine lv_icmp_eq (tgt := 256) hx hb dX1_byOutcome_248 (by decide) (fun c_94 => ?_) (fun c_94 => ?_)
    · refine lv_bipush (v := 21) hx hb dX1_byOutcome_256 (by decide) ?_
      refine lv_goto (tgt := 263) hx hb dX1_byOutcome_258 (by decide) ?_
      have hP9 := hP.sub (ws' := [(h0, .inr (1, [.int a0, .int a1, .int a2, .int a3, .int a4, .int a5, .int a6, .int a7, .int a8, .int a9, .int a10, .int a11, .ref h1]))]) [0] rfl
      have hD9 := hD.sub (ws' := [(h0, .inr (1, [.int a0, .int a1, .int a2, .int a3, .int a4, .int a5, .int a6, .int a7, .int a8, .int a9, .int a10, .int a11, .ref h1]))]) [0] (by decide) rfl
      have hK9 := hK.sub (tys' := []) [] rfl
      have ef : fx_X1_byOutcome a1 p0 p1 = 21 := by unfold fx_X1_byOutcome; rw [if_neg c_1, if_pos c_49, if_neg c_72, if_neg c_73, if_neg c_79, if_neg c_81, if_neg c_84, if_neg c_87, if_neg c_88, if_neg c_90, if_pos c_93, if_pos c_94]
      exact W.iret (v := 21) hx hb hr (fun t ht hW => ⟨⟨21, [(h0, .inr (1, [.int a0, .int a1, .int a2, .int a3, .int a4, .int a5, .int a6, .int a7, .int a8, .int a9, .int a10, .int a11, .ref h1]))], rfl, ⟨ef.symm, rfl⟩, by rw [ht]; exact hP9, va_K.moved hW.alike hK9, hD9⟩, hS.F ht⟩) hS.2.2 dX1_byOutcome_263
    refine lv_iload_n hx hb dX1_byOutcome_251 rfl (lv_at hl 3 rfl) ?_
    refine lv_iconst (v := 3) hx hb dX1_byOutcome_252 (by decide) ?_
    refine lv_icmp_ne (tgt := 261) hx hb dX1_byOutcome_253 (by decide) (fun c_95 => ?_) (fun c_95 => ?_)
    · refine lv_bipush (v := 90) hx hb dX1_byOutcome_261 (by decide) ?_
      have hP9 := hP.sub (ws' := [(h0, .inr (1, [.int a0, .int a1, .int a2, .int a3, .int a4, .int a5, .int a6, .int a7, .int a8, .int a9, .int a10, .int a11, .ref h1]))]) [0] rfl
      have hD9 := hD.sub (ws' := [(h0, .inr (1, [.int a0, .int a1, .int a2, .int a3, .int a4, .int a5, .int a6, .int a7, .int a8, .int a9, .int a10, .int a11, .ref h1]))]) [0] (by decide) rfl
      have hK9 := hK.sub (tys' := []) [] rfl
      have ef : fx_X1_byOutcome a1 p0 p1 = 90 := by unfold fx_X1_byOutcome; rw [if_neg c_1, if_pos c_49, if_neg c_72, if_neg c_73, if_neg c_79, if_neg c_81, if_neg c_84, if_neg c_87, if_neg c_88, if_neg c_90, if_pos c_93, if_neg c_94, if_neg c_95]
      exact W.iret (v := 90) hx hb hr (fun t ht hW => ⟨⟨90, [(h0, .inr (1, [.int a0, .int a1, .int a2, .int a3, .int a4, .int a5, .int a6, .int a7, .int a8, .int a9, .int a10, .int a11, .ref h1]))], rfl, ⟨ef.symm, rfl⟩, by rw [ht]; exact hP9, va_K.moved hW.alike hK9, hD9⟩, hS.F ht⟩) hS.2.2 dX1_byOutcome_263
    refine lv_bipush (v := 21) hx hb dX1_byOutcome_256 (by decide) ?_
    refine lv_goto (tgt := 263) hx hb dX1_byOutcome_258 (by decide) ?_
    have hP9 := hP.sub (ws' := [(h0, .inr (1, [.int a0, .int a1, .int a2, .int a3, .int a4, .int a5, .int a6, .int a7, .int a8, .int a9, .int a10, .int a11, .ref h1]))]) [0] rfl
    have hD9 := hD.sub (ws' := [(h0, .inr (1, [.int a0, .int a1, .int a2, .int a3, .int a4, .int a5, .int a6, .int a7, .int a8, .int a9, .int a10, .int a11, .ref h1]))]) [0] (by decide) rfl
    have hK9 := hK.sub (tys' := []) [] rfl
    have ef : fx_X1_byOutcome a1 p0 p1 = 21 := by unfold fx_X1_byOutcome; rw [if_neg c_1, if_pos c_49, if_neg c_72, if_neg c_73, if_neg c_79, if_neg c_81, if_neg c_84, if_neg c_87, if_neg c_88, if_neg c_90, if_pos c_93, if_neg c_94, if_pos c_95]
    exact W.iret (v := 21) hx hb hr (fun t ht hW => ⟨⟨21, [(h0, .inr (1, [.int a0, .int a1, .int a2, .int a3, .int a4, .int a5, .int a6, .int a7, .int a8, .int a9, .int a10, .int a11, .ref h1]))], rfl, ⟨ef.symm, rfl⟩, by rw [ht]; exact hP9, va_K.moved hW.alike hK9, hD9⟩, hS.F ht⟩) hS.2.2 dX1_byOutcome_263
  refine lv_tableOut (tgt := 264) hx hb dX1_byOutcome_29 (by have n_0 : (p1 : Int32).toInt ≠ 0 := xx_ne c_72 (by decide); have n_1 : (p1 : Int32).toInt ≠ 1 := xx_ne c_73 (by decide); have n_2 : (p1 : Int32).toInt ≠ 2 := xx_ne c_79 (by decide); have n_3 : (p1 : Int32).toInt ≠ 3 := xx_ne c_81 (by decide); have n_4 : (p1 : Int32).toInt ≠ 4 := xx_ne c_84 (by decide); have n_5 : (p1 : Int32).toInt ≠ 5 := xx_ne c_87 (by decide); have n_6 : (p1 : Int32).toInt ≠ 6 := xx_ne c_88 (by decide); have n_7 : (p1 : Int32).toInt ≠ 7 := xx_ne c_90 (by decide); have n_8 : (p1 : Int32).toInt ≠ 8 := xx_ne c_93 (by decide); omega) (by decide) ?_
  refine lv_bipush (v := 90) hx hb dX1_byOutcome_264 (by decide) ?_
  have hP9 := hP.sub (ws' := [(h0, .inr (1, [.int a0, .int a1, .int a2, .int a3, .int a4, .int a5, .int a6, .int a7, .int a8, .int a9, .int a10, .int a11, .ref h1]))]) [0] rfl
  have hD9 := hD.sub (ws' := [(h0, .inr (1, [.int a0, .int a1, .int a2, .int a3, .int a4, .int a5, .int a6, .int a7, .int a8, .int a9, .int a10, .int a11, .ref h1]))]) [0] (by decide) rfl
  have hK9 := hK.sub (tys' := []) [] rfl
  have ef : fx_X1_byOutcome a1 p0 p1 = 90 := by unfold fx_X1_byOutcome; rw [if_neg c_1, if_pos c_49, if_neg c_72, if_neg c_73, if_neg c_79, if_neg c_81, if_neg c_84, if_neg c_87, if_neg c_88, if_neg c_90, if_neg c_93]
  exact W.iret (v := 90) hx hb hr (fun t ht hW => ⟨⟨90, [(h0, .inr (1, [.int a0, .int a1, .int a2, .int a3, .int a4, .int a5, .int a6, .int a7, .int a8, .int a9, .int a10, .int a11, .ref h1]))], rfl, ⟨ef.symm, rfl⟩, by rw [ht]; exact hP9, va_K.moved hW.alike hK9, hD9⟩, hS.F ht⟩) hS.2.2 dX1_byOutcome_266
