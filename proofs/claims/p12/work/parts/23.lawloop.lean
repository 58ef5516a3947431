set_option maxHeartbeats 16000000 in
set_option maxRecDepth 100000 in
/-- the law's loop, for any relation that its calls keep -/
theorem law_loop {p : Program} {l : Launch} {e : Env} {s : State} {m : MethodId} {below : List Frame} {meth : Method} {c : Code} {dC : Nat → ClassId} {dI : Nat → Nat → Nat} {b L : Nat} {xs : Nat → Int32} (hL : L ≤ 1537) (C0 : lw_At p s m meth c b L xs) (Rel : lw_Rel) (h_mode : st_mode Rel) (h_open : st_open Rel) (h_act : st_act Rel) (h_exception : st_exception Rel) (h_phrase : st_phrase Rel) (h_declarative : st_declarative Rel) (h_position : st_position Rel) (h_optional : st_optional Rel) (h_both : st_both Rel) (h_extended : st_extended Rel) (h_area : st_area Rel) (h_count : st_count Rel) (h_kind : st_kind Rel) :
    ∀ (n i : Nat) (x3 : Int32), i ≤ L + 1 → L + 2 ≤ i + n → x3 = nI i → ∀ (a0 a1 a2 a3 a4 a5 a6 a7 a8 a9 a10 a11 b0 b1 b2 b3 b4 b5 b6 b7 b8 b9 b10 b11 : Int32) (ff : Nat → Int32), Rel [a0, a1, a2, a3, a4, a5, a6, a7, a8, a9, a10, a11] [b0, b1, b2, b3, b4, b5, b6, b7, b8, b9, b10, b11] ff → ∀ (q0 q1 q2 : Nat) (cA : ClassId) (H : Heap) (locs : List Loc), va_K (dC, dI) vwCl [(cA, .boolean)] s → va_P (dC, dI) vwCl [(q0, .inr (0, [.int a0, .int a1, .int a2, .int a3, .int a4, .int a5, .int a6, .int a7, .int a8, .int a9, .int a10, .int a11])), (q1, .inr (1, [.int b0, .int b1, .int b2, .int b3, .int b4, .int b5, .int b6, .int b7, .int b8, .int b9, .int b10, .int b11, .ref q2])), (q2, .inl (cA, 7, .inl ff))] H → va_D (fun q : Nat => s.heap.size ≤ q) [(q0, .inr (0, [.int a0, .int a1, .int a2, .int a3, .int a4, .int a5, .int a6, .int a7, .int a8, .int a9, .int a10, .int a11])), (q1, .inr (1, [.int b0, .int b1, .int b2, .int b3, .int b4, .int b5, .int b6, .int b7, .int b8, .int b9, .int b10, .int b11, .ref q2])), (q2, .inl (cA, 7, .inl ff))] → va_S (fun q : Nat => s.heap.size ≤ q) s.heap H locs → ∀ (ls : Array Slot), lv_has ls 4 [(0, .ref b), (1, .ref q0), (2, .ref q1), (3, .int x3)] → W p l e room_1 s m #[Value.ref b] below meth c H locs 3 32 (lw_Z below #[Value.ref b] s) (F0 m 28 ls []) := by
  obtain ⟨hx, hb, hr, hml, hown, hts, hX, hbl, hlocks, hgv⟩ := C0
  have hown : s.vm.findClass RL = some m.cls := hown
  have hA : ∀ q : Nat, s.heap.size ≤ q → (fun q : Nat => s.heap.size ≤ q) q := fun _ h => h
  have hbA : ¬ (fun q : Nat => s.heap.size ≤ q) b := Nat.not_le.mpr hbl
  intro n
  induction n with
  | zero =>
    intro i x3 h1 h2
    exact absurd h2 (by omega)
  | succ n ih =>
    intro i x3 hi hin ex3 a0 a1 a2 a3 a4 a5 a6 a7 a8 a9 a10 a11 b0 b1 b2 b3 b4 b5 b6 b7 b8 b9 b10 b11 ff hR q0 q1 q2 cA H locs hK hP hD hS ls hl
    refine lv_iload_n hx hb dL_law_28 rfl (lv_at hl 3 rfl) ?_
    refine lv_aload_n hx hb dL_law_29 rfl (lv_at hl 0 rfl) ?_
    refine va_slen hx hb hX hbl hbA hS dL_law_30 ?_
    refine lv_iconst (v := 3) hx hb dL_law_31 (by decide) ?_
    refine lv_isub hx hb dL_law_32 ?_
    refine lv_icmp_gt (tgt := 464) hx hb dL_law_33 (by decide) (fun c_0 => ?_) (fun c_0 => ?_)
    · refine lv_iconst (v := 1) hx hb dL_law_464 (by decide) ?_
      refine va_forget (fun q hq => hS.2.2 q hq) ?_
      refine W.widen (k := 3) (n := 32) (Nat.le_refl 3) (Nat.le_refl 32) ?_
      exact lw_ret hx hb hr hlocks dL_law_465
    have hlt : i + 3 ≤ L := xx_lp hL hi (by rw [ex3] at c_0; exact c_0)
    have hin0 : vp_in x3 L := by rw [ex3]; exact vp_in_nI (by omega) (by omega)
    have hin1 : vp_in (x3 + 1) L := by rw [ex3, show nI i + 1 = nI (i + 1) from nI_1 i]; exact vp_in_nI (by omega) (by omega)
    have hin2 : vp_in (x3 + 2) L := by rw [ex3, show nI i + 2 = nI (i + 2) from nI_add i 2]; exact vp_in_nI (by omega) (by omega)
    refine lv_aload_n hx hb dL_law_36 rfl (lv_at hl 0 rfl) ?_
    refine lv_iload_n hx hb dL_law_37 rfl (lv_at hl 3 rfl) ?_
    refine va_sld hx hb hX hbl hbA hS hin0 dL_law_38 ?_
    refine lv_bipush (v := 15) hx hb dL_law_39 (by decide) ?_
    refine lv_iand hx hb dL_law_41 ?_
    by_cases c_1 : ((xs (x3).toNatClampNeg) &&& 15) = 0
    · refine lv_tableIn (off := 62) (tgt := 104) hx hb dL_law_42 (by rw [c_1]; decide) (by rw [c_1]; decide) (by rw [c_1]; rfl) (by decide) ?_
      refine lv_aload_n hx hb dL_law_104 rfl (lv_at hl 1 rfl) ?_
      refine lv_aload_n hx hb dL_law_105 rfl (lv_at hl 0 rfl) ?_
      refine lv_iload_n hx hb dL_law_106 rfl (lv_at hl 3 rfl) ?_
      refine lv_iconst (v := 1) hx hb dL_law_107 (by decide) ?_
      refine lv_iadd hx hb dL_law_108 ?_
      refine va_sld hx hb hX hbl hbA hS hin1 dL_law_109 ?_
      have hPc := hP.sub (ws' := [(q0, .inr (0, [.int a0, .int a1, .int a2, .int a3, .int a4, .int a5, .int a6, .int a7, .int a8, .int a9, .int a10, .int a11]))]) [0] rfl
      have hDc := hD.sub (ws' := [(q0, .inr (0, [.int a0, .int a1, .int a2, .int a3, .int a4, .int a5, .int a6, .int a7, .int a8, .int a9, .int a10, .int a11]))]) [0] (by decide) rfl
      have hKc := hK.sub (tys' := []) [] rfl
      have hFc := va_free (wc := [(q0, .inr (0, [.int a0, .int a1, .int a2, .int a3, .int a4, .int a5, .int a6, .int a7, .int a8, .int a9, .int a10, .int a11]))]) hD hS hA [0] rfl
      refine va_calli (va_runV (As := [.int (xs (x3 + 1).toNatClampNeg)]) (rest := []) ⟨hx, hb, hml, hown, hts⟩ (ct_X0_mode l dC dI q0 H.size a0 a1 a2 a3 a4 a5 a6 a7 a8 a9 a10 a11 (xs (x3 + 1).toNatClampNeg)) (cwV 1 hts gL_law_X0_mode rfl rfl rfl (by decide +kernel) ⟨Nat.le_of_ble_eq_true rfl, Nat.le_of_ble_eq_true rfl⟩) ⟨fun a U g mk q => by obtain ⟨q0, q1, qP, qK, qD⟩ := q; exact ⟨q0, q1, qP, va_K.moved (u := U) (U := U.calling g mk a) (Vm.Alike.refl U.vm) qK, qD⟩, va_recv hKc hPc (ci := 0) (q0 := 0) rfl rfl, fun U hU hW => ⟨rfl, by rw [hU], by rw [hU]; exact hPc, va_K.moved hW.alike hKc, hDc.weaken (fun _ _ _ _ => trivial)⟩⟩ rfl rfl hl.1 rfl (lv_room (Nat.le_of_ble_eq_true rfl)) dL_law_110 ⟨Nat.le_of_ble_eq_true rfl, Nat.le_of_ble_eq_true rfl⟩) hS (fun q _ h => hFc q h) hFc (fun r_2 u t H1 locs ht hvm hw hB hz1 hk1 hS => ?_)
      obtain ⟨er, hu⟩ := hw
      subst hu
      subst er
      obtain ⟨hP1, -, hD1⟩ := hB
      rw [ht] at hP1
      obtain ⟨hP, hD⟩ := va_join (wr := [(q1, .inr (1, [.int b0, .int b1, .int b2, .int b3, .int b4, .int b5, .int b6, .int b7, .int b8, .int b9, .int b10, .int b11, .ref q2])), (q2, .inl (cA, 7, .inl ff))]) (w1 := [(q0, .inr (0, [.int a0, .int (gx_X0_mode_1 a1 a2 (xs (x3 + 1).toNatClampNeg)), .int a2, .int a3, .int a4, .int a5, .int a6, .int a7, .int a8, .int a9, .int a10, .int a11]))]) hP hD [0] [1, 2] rfl rfl (by decide) (by decide) hk1 hFc hP1 hD1
      generalize H1 = H at hP hS ⊢
      have hP := hP.sub (ws' := [(q0, .inr (0, [.int a0, .int (gx_X0_mode_1 a1 a2 (xs (x3 + 1).toNatClampNeg)), .int a2, .int a3, .int a4, .int a5, .int a6, .int a7, .int a8, .int a9, .int a10, .int a11])), (q1, .inr (1, [.int b0, .int b1, .int b2, .int b3, .int b4, .int b5, .int b6, .int b7, .int b8, .int b9, .int b10, .int b11, .ref q2])), (q2, .inl (cA, 7, .inl ff))]) [2, 0, 1] rfl
      have hD := hD.sub (ws' := [(q0, .inr (0, [.int a0, .int (gx_X0_mode_1 a1 a2 (xs (x3 + 1).toNatClampNeg)), .int a2, .int a3, .int a4, .int a5, .int a6, .int a7, .int a8, .int a9, .int a10, .int a11])), (q1, .inr (1, [.int b0, .int b1, .int b2, .int b3, .int b4, .int b5, .int b6, .int b7, .int b8, .int b9, .int b10, .int b11, .ref q2])), (q2, .inl (cA, 7, .inl ff))]) [2, 0, 1] (by decide) rfl
      have hP : va_P (dC, dI) vwCl [(q0, .inr (0, [.int a0, .int (gx_X0_mode_1 a1 a2 (xs (x3 + 1).toNatClampNeg)), .int a2, .int a3, .int a4, .int a5, .int a6, .int a7, .int a8, .int a9, .int a10, .int a11])), (q1, .inr (1, [.int b0, .int b1, .int b2, .int b3, .int b4, .int b5, .int b6, .int b7, .int b8, .int b9, .int b10, .int b11, .ref q2])), (q2, .inl (cA, 7, .inl ff))] H := hP
      have hD : va_D (fun q : Nat => s.heap.size ≤ q) [(q0, .inr (0, [.int a0, .int (gx_X0_mode_1 a1 a2 (xs (x3 + 1).toNatClampNeg)), .int a2, .int a3, .int a4, .int a5, .int a6, .int a7, .int a8, .int a9, .int a10, .int a11])), (q1, .inr (1, [.int b0, .int b1, .int b2, .int b3, .int b4, .int b5, .int b6, .int b7, .int b8, .int b9, .int b10, .int b11, .ref q2])), (q2, .inl (cA, 7, .inl ff))] := hD
      refine lv_pop hx hb dL_law_113 rfl ?_
      refine lv_aload_n hx hb dL_law_114 rfl (lv_at hl 2 rfl) ?_
      refine lv_aload_n hx hb dL_law_115 rfl (lv_at hl 0 rfl) ?_
      refine lv_iload_n hx hb dL_law_116 rfl (lv_at hl 3 rfl) ?_
      refine lv_iconst (v := 1) hx hb dL_law_117 (by decide) ?_
      refine lv_iadd hx hb dL_law_118 ?_
      refine va_sld hx hb hX hbl hbA hS hin1 dL_law_119 ?_
      have hPc := hP.sub (ws' := [(q1, .inr (1, [.int b0, .int b1, .int b2, .int b3, .int b4, .int b5, .int b6, .int b7, .int b8, .int b9, .int b10, .int b11, .ref q2]))]) [1] rfl
      have hDc := hD.sub (ws' := [(q1, .inr (1, [.int b0, .int b1, .int b2, .int b3, .int b4, .int b5, .int b6, .int b7, .int b8, .int b9, .int b10, .int b11, .ref q2]))]) [1] (by decide) rfl
      have hKc := hK.sub (tys' := []) [] rfl
      have hFc := va_free (wc := [(q1, .inr (1, [.int b0, .int b1, .int b2, .int b3, .int b4, .int b5, .int b6, .int b7, .int b8, .int b9, .int b10, .int b11, .ref q2]))]) hD hS hA [1] rfl
      refine va_calli (va_runV (As := [.int (xs (x3 + 1).toNatClampNeg)]) (rest := []) ⟨hx, hb, hml, hown, hts⟩ (ct_X1_mode l dC dI q1 q2 H.size b0 b1 b2 b3 b4 b5 b6 b7 b8 b9 b10 b11 (xs (x3 + 1).toNatClampNeg)) (cwV 1 hts gL_law_X1_mode rfl rfl rfl (by decide +kernel) ⟨Nat.le_of_ble_eq_true rfl, Nat.le_of_ble_eq_true rfl⟩) ⟨fun a U g mk q => by obtain ⟨q0, q1, qP, qK, qD⟩ := q; exact ⟨q0, q1, qP, va_K.moved (u := U) (U := U.calling g mk a) (Vm.Alike.refl U.vm) qK, qD⟩, va_recv hKc hPc (ci := 1) (q0 := 0) rfl rfl, fun U hU hW => ⟨rfl, by rw [hU], by rw [hU]; exact hPc, va_K.moved hW.alike hKc, hDc.weaken (fun _ _ _ _ => trivial)⟩⟩ rfl rfl hl.1 rfl (lv_room (Nat.le_of_ble_eq_true rfl)) dL_law_120 ⟨Nat.le_of_ble_eq_true rfl, Nat.le_of_ble_eq_true rfl⟩) hS (fun q _ h => hFc q h) hFc (fun r_3 u t H1 locs ht hvm hw hB hz1 hk1 hS => ?_)
      obtain ⟨er, hu⟩ := hw
      subst hu
      subst er
      obtain ⟨hP1, -, hD1⟩ := hB
      rw [ht] at hP1
      obtain ⟨hP, hD⟩ := va_join (wr := [(q0, .inr (0, [.int a0, .int (gx_X0_mode_1 a1 a2 (xs (x3 + 1).toNatClampNeg)), .int a2, .int a3, .int a4, .int a5, .int a6, .int a7, .int a8, .int a9, .int a10, .int a11])), (q2, .inl (cA, 7, .inl ff))]) (w1 := [(q1, .inr (1, [.int gx_X1_mode_0, .int b1, .int (gx_X1_mode_2 b2 b8 (xs (x3 + 1).toNatClampNeg)), .int b3, .int b4, .int b5, .int b6, .int b7, .int b8, .int b9, .int b10, .int b11, .ref q2]))]) hP hD [1] [0, 2] rfl rfl (by decide) (by decide) hk1 hFc hP1 hD1
      generalize H1 = H at hP hS ⊢
      have hP := hP.sub (ws' := [(q0, .inr (0, [.int a0, .int (gx_X0_mode_1 a1 a2 (xs (x3 + 1).toNatClampNeg)), .int a2, .int a3, .int a4, .int a5, .int a6, .int a7, .int a8, .int a9, .int a10, .int a11])), (q1, .inr (1, [.int gx_X1_mode_0, .int b1, .int (gx_X1_mode_2 b2 b8 (xs (x3 + 1).toNatClampNeg)), .int b3, .int b4, .int b5, .int b6, .int b7, .int b8, .int b9, .int b10, .int b11, .ref q2])), (q2, .inl (cA, 7, .inl ff))]) [0, 2, 1] rfl
      have hD := hD.sub (ws' := [(q0, .inr (0, [.int a0, .int (gx_X0_mode_1 a1 a2 (xs (x3 + 1).toNatClampNeg)), .int a2, .int a3, .int a4, .int a5, .int a6, .int a7, .int a8, .int a9, .int a10, .int a11])), (q1, .inr (1, [.int gx_X1_mode_0, .int b1, .int (gx_X1_mode_2 b2 b8 (xs (x3 + 1).toNatClampNeg)), .int b3, .int b4, .int b5, .int b6, .int b7, .int b8, .int b9, .int b10, .int b11, .ref q2])), (q2, .inl (cA, 7, .inl ff))]) [0, 2, 1] (by decide) rfl
      have hP : va_P (dC, dI) vwCl [(q0, .inr (0, [.int a0, .int (gx_X0_mode_1 a1 a2 (xs (x3 + 1).toNatClampNeg)), .int a2, .int a3, .int a4, .int a5, .int a6, .int a7, .int a8, .int a9, .int a10, .int a11])), (q1, .inr (1, [.int gx_X1_mode_0, .int b1, .int (gx_X1_mode_2 b2 b8 (xs (x3 + 1).toNatClampNeg)), .int b3, .int b4, .int b5, .int b6, .int b7, .int b8, .int b9, .int b10, .int b11, .ref q2])), (q2, .inl (cA, 7, .inl ff))] H := hP
      have hD : va_D (fun q : Nat => s.heap.size ≤ q) [(q0, .inr (0, [.int a0, .int (gx_X0_mode_1 a1 a2 (xs (x3 + 1).toNatClampNeg)), .int a2, .int a3, .int a4, .int a5, .int a6, .int a7, .int a8, .int a9, .int a10, .int a11])), (q1, .inr (1, [.int gx_X1_mode_0, .int b1, .int (gx_X1_mode_2 b2 b8 (xs (x3 + 1).toNatClampNeg)), .int b3, .int b4, .int b5, .int b6, .int b7, .int b8, .int b9, .int b10, .int b11, .ref q2])), (q2, .inl (cA, 7, .inl ff))] := hD
      refine lv_pop hx hb dL_law_123 rfl ?_
      refine lv_goto (tgt := 458) hx hb dL_law_124 (by decide) ?_
      have hR : Rel [a0, gx_X0_mode_1 a1 a2 (xs (x3 + 1).toNatClampNeg), a2, a3, a4, a5, a6, a7, a8, a9, a10, a11] [gx_X1_mode_0, b1, gx_X1_mode_2 b2 b8 (xs (x3 + 1).toNatClampNeg), b3, b4, b5, b6, b7, b8, b9, b10, b11] ff := (h_mode a0 a1 a2 a3 a4 a5 a6 a7 a8 a9 a10 a11 b0 b1 b2 b3 b4 b5 b6 b7 b8 b9 b10 b11 ff (xs (x3 + 1).toNatClampNeg) hR)
      obtain ⟨x3n, ex3n⟩ : ∃ y : Int32, y = x3 + 3 := ⟨_, rfl⟩
      refine lv_iinc (v := x3n) (lv' := [(3, .int x3n), (0, .ref b), (1, .ref q0), (2, .ref q1)]) hx hb dL_law_458 hl (k := 3) rfl (by rw [ex3n]; rfl) (by decide) rfl (fun ls hl => ?_)
      refine lv_goto (tgt := 28) hx hb dL_law_461 (by decide) ?_
      exact ih (i + 3) x3n (by omega) (by omega) (by rw [ex3n, ex3]; exact nI_add i 3) a0 (gx_X0_mode_1 a1 a2 (xs (x3 + 1).toNatClampNeg)) a2 a3 a4 a5 a6 a7 a8 a9 a10 a11 gx_X1_mode_0 b1 (gx_X1_mode_2 b2 b8 (xs (x3 + 1).toNatClampNeg)) b3 b4 b5 b6 b7 b8 b9 b10 b11 ff hR q0 q1 q2 cA _ _ hK hP hD hS ls (lv_sub hl [1, 2, 3, 0] rfl)
    by_cases c_4 : ((xs (x3).toNatClampNeg) &&& 15) = 1
    · refine lv_tableIn (off := 85) (tgt := 127) hx hb dL_law_42 (by rw [c_4]; decide) (by rw [c_4]; decide) (by rw [c_4]; rfl) (by decide) ?_
      refine lv_aload_n hx hb dL_law_127 rfl (lv_at hl 1 rfl) ?_
      refine lv_aload_n hx hb dL_law_128 rfl (lv_at hl 0 rfl) ?_
      refine lv_iload_n hx hb dL_law_129 rfl (lv_at hl 3 rfl) ?_
      refine lv_iconst (v := 1) hx hb dL_law_130 (by decide) ?_
      refine lv_iadd hx hb dL_law_131 ?_
      refine va_sld hx hb hX hbl hbA hS hin1 dL_law_132 ?_
      have hPc := hP.sub (ws' := [(q0, .inr (0, [.int a0, .int a1, .int a2, .int a3, .int a4, .int a5, .int a6, .int a7, .int a8, .int a9, .int a10, .int a11]))]) [0] rfl
      have hDc := hD.sub (ws' := [(q0, .inr (0, [.int a0, .int a1, .int a2, .int a3, .int a4, .int a5, .int a6, .int a7, .int a8, .int a9, .int a10, .int a11]))]) [0] (by decide) rfl
      have hKc := hK.sub (tys' := []) [] rfl
      have hFc := va_free (wc := [(q0, .inr (0, [.int a0, .int a1, .int a2, .int a3, .int a4, .int a5, .int a6, .int a7, .int a8, .int a9, .int a10, .int a11]))]) hD hS hA [0] rfl
      refine va_calli (va_runV (As := [.int (xs (x3 + 1).toNatClampNeg)]) (rest := []) ⟨hx, hb, hml, hown, hts⟩ (ct_X0_open l dC dI q0 H.size a0 a1 a2 a3 a4 a5 a6 a7 a8 a9 a10 a11 (xs (x3 + 1).toNatClampNeg)) (cwV 1 hts gL_law_X0_open rfl rfl rfl (by decide +kernel) ⟨Nat.le_of_ble_eq_true rfl, Nat.le_of_ble_eq_true rfl⟩) ⟨fun a U g mk q => by obtain ⟨q0, q1, qP, qK, qD⟩ := q; exact ⟨q0, q1, qP, va_K.moved (u := U) (U := U.calling g mk a) (Vm.Alike.refl U.vm) qK, qD⟩, va_recv hKc hPc (ci := 0) (q0 := 0) rfl rfl, fun U hU hW => ⟨rfl, by rw [hU], by rw [hU]; exact hPc, va_K.moved hW.alike hKc, hDc.weaken (fun _ _ _ _ => trivial)⟩⟩ rfl rfl hl.1 rfl (lv_room (Nat.le_of_ble_eq_true rfl)) dL_law_133 ⟨Nat.le_of_ble_eq_true rfl, Nat.le_of_ble_eq_true rfl⟩) hS (fun q _ h => hFc q h) hFc (fun r_5 u t H1 locs ht hvm hw hB hz1 hk1 hS => ?_)
      obtain ⟨er, hu⟩ := hw
      subst hu
      subst er
      obtain ⟨hP1, -, hD1⟩ := hB
      rw [ht] at hP1
      obtain ⟨hP, hD⟩ := va_join (wr := [(q1, .inr (1, [.int b0, .int b1, .int b2, .int b3, .int b4, .int b5, .int b6, .int b7, .int b8, .int b9, .int b10, .int b11, .ref q2])), (q2, .inl (cA, 7, .inl ff))]) (w1 := [(q0, .inr (0, [.int a0, .int a1, .int (gx_X0_open_2 a1 a2 a3 (xs (x3 + 1).toNatClampNeg)), .int a3, .int (gx_X0_open_4 a1 a2 a3 a4 (xs (x3 + 1).toNatClampNeg)), .int (gx_X0_open_5 a1 a2 a3 a5 (xs (x3 + 1).toNatClampNeg)), .int gx_X0_open_6, .int (gx_X0_open_7 a1 a2 a3 (xs (x3 + 1).toNatClampNeg)), .int gx_X0_open_8, .int a9, .int (gx_X0_open_10 a1 a2 a3 a10 (xs (x3 + 1).toNatClampNeg)), .int (gx_X0_open_11 a1 a2 a3 a11 (xs (x3 + 1).toNatClampNeg))]))]) hP hD [0] [1, 2] rfl rfl (by decide) (by decide) hk1 hFc hP1 hD1
      generalize H1 = H at hP hS ⊢
      have hP := hP.sub (ws' := [(q0, .inr (0, [.int a0, .int a1, .int (gx_X0_open_2 a1 a2 a3 (xs (x3 + 1).toNatClampNeg)), .int a3, .int (gx_X0_open_4 a1 a2 a3 a4 (xs (x3 + 1).toNatClampNeg)), .int (gx_X0_open_5 a1 a2 a3 a5 (xs (x3 + 1).toNatClampNeg)), .int gx_X0_open_6, .int (gx_X0_open_7 a1 a2 a3 (xs (x3 + 1).toNatClampNeg)), .int gx_X0_open_8, .int a9, .int (gx_X0_open_10 a1 a2 a3 a10 (xs (x3 + 1).toNatClampNeg)), .int (gx_X0_open_11 a1 a2 a3 a11 (xs (x3 + 1).toNatClampNeg))])), (q1, .inr (1, [.int b0, .int b1, .int b2, .int b3, .int b4, .int b5, .int b6, .int b7, .int b8, .int b9, .int b10, .int b11, .ref q2])), (q2, .inl (cA, 7, .inl ff))]) [2, 0, 1] rfl
      have hD := hD.sub (ws' := [(q0, .inr (0, [.int a0, .int a1, .int (gx_X0_open_2 a1 a2 a3 (xs (x3 + 1).toNatClampNeg)), .int a3, .int (gx_X0_open_4 a1 a2 a3 a4 (xs (x3 + 1).toNatClampNeg)), .int (gx_X0_open_5 a1 a2 a3 a5 (xs (x3 + 1).toNatClampNeg)), .int gx_X0_open_6, .int (gx_X0_open_7 a1 a2 a3 (xs (x3 + 1).toNatClampNeg)), .int gx_X0_open_8, .int a9, .int (gx_X0_open_10 a1 a2 a3 a10 (xs (x3 + 1).toNatClampNeg)), .int (gx_X0_open_11 a1 a2 a3 a11 (xs (x3 + 1).toNatClampNeg))])), (q1, .inr (1, [.int b0, .int b1, .int b2, .int b3, .int b4, .int b5, .int b6, .int b7, .int b8, .int b9, .int b10, .int b11, .ref q2])), (q2, .inl (cA, 7, .inl ff))]) [2, 0, 1] (by decide) rfl
      have hP : va_P (dC, dI) vwCl [(q0, .inr (0, [.int a0, .int a1, .int (gx_X0_open_2 a1 a2 a3 (xs (x3 + 1).toNatClampNeg)), .int a3, .int (gx_X0_open_4 a1 a2 a3 a4 (xs (x3 + 1).toNatClampNeg)), .int (gx_X0_open_5 a1 a2 a3 a5 (xs (x3 + 1).toNatClampNeg)), .int gx_X0_open_6, .int (gx_X0_open_7 a1 a2 a3 (xs (x3 + 1).toNatClampNeg)), .int gx_X0_open_8, .int a9, .int (gx_X0_open_10 a1 a2 a3 a10 (xs (x3 + 1).toNatClampNeg)), .int (gx_X0_open_11 a1 a2 a3 a11 (xs (x3 + 1).toNatClampNeg))])), (q1, .inr (1, [.int b0, .int b1, .int b2, .int b3, .int b4, .int b5, .int b6, .int b7, .int b8, .int b9, .int b10, .int b11, .ref q2])), (q2, .inl (cA, 7, .inl ff))] H := hP
      have hD : va_D (fun q : Nat => s.heap.size ≤ q) [(q0, .inr (0, [.int a0, .int a1, .int (gx_X0_open_2 a1 a2 a3 (xs (x3 + 1).toNatClampNeg)), .int a3, .int (gx_X0_open_4 a1 a2 a3 a4 (xs (x3 + 1).toNatClampNeg)), .int (gx_X0_open_5 a1 a2 a3 a5 (xs (x3 + 1).toNatClampNeg)), .int gx_X0_open_6, .int (gx_X0_open_7 a1 a2 a3 (xs (x3 + 1).toNatClampNeg)), .int gx_X0_open_8, .int a9, .int (gx_X0_open_10 a1 a2 a3 a10 (xs (x3 + 1).toNatClampNeg)), .int (gx_X0_open_11 a1 a2 a3 a11 (xs (x3 + 1).toNatClampNeg))])), (q1, .inr (1, [.int b0, .int b1, .int b2, .int b3, .int b4, .int b5, .int b6, .int b7, .int b8, .int b9, .int b10, .int b11, .ref q2])), (q2, .inl (cA, 7, .inl ff))] := hD
      refine lv_pop hx hb dL_law_136 rfl ?_
      refine lv_aload_n hx hb dL_law_137 rfl (lv_at hl 2 rfl) ?_
      refine lv_aload_n hx hb dL_law_138 rfl (lv_at hl 0 rfl) ?_
      refine lv_iload_n hx hb dL_law_139 rfl (lv_at hl 3 rfl) ?_
      refine lv_iconst (v := 1) hx hb dL_law_140 (by decide) ?_
      refine lv_iadd hx hb dL_law_141 ?_
      refine va_sld hx hb hX hbl hbA hS hin1 dL_law_142 ?_
      have hPc := hP.sub (ws' := [(q1, .inr (1, [.int b0, .int b1, .int b2, .int b3, .int b4, .int b5, .int b6, .int b7, .int b8, .int b9, .int b10, .int b11, .ref q2]))]) [1] rfl
      have hDc := hD.sub (ws' := [(q1, .inr (1, [.int b0, .int b1, .int b2, .int b3, .int b4, .int b5, .int b6, .int b7, .int b8, .int b9, .int b10, .int b11, .ref q2]))]) [1] (by decide) rfl
      have hKc := hK.sub (tys' := []) [] rfl
      have hFc := va_free (wc := [(q1, .inr (1, [.int b0, .int b1, .int b2, .int b3, .int b4, .int b5, .int b6, .int b7, .int b8, .int b9, .int b10, .int b11, .ref q2]))]) hD hS hA [1] rfl
      refine va_calli (va_runV (As := [.int (xs (x3 + 1).toNatClampNeg)]) (rest := []) ⟨hx, hb, hml, hown, hts⟩ (ct_X1_open l dC dI q1 q2 H.size b0 b1 b2 b3 b4 b5 b6 b7 b8 b9 b10 b11 (xs (x3 + 1).toNatClampNeg)) (cwV 1 hts gL_law_X1_open rfl rfl rfl (by decide +kernel) ⟨Nat.le_of_ble_eq_true rfl, Nat.le_of_ble_eq_true rfl⟩) ⟨fun a U g mk q => by obtain ⟨q0, q1, qP, qK, qD⟩ := q; exact ⟨q0, q1, qP, va_K.moved (u := U) (U := U.calling g mk a) (Vm.Alike.refl U.vm) qK, qD⟩, va_recv hKc hPc (ci := 1) (q0 := 0) rfl rfl, fun U hU hW => ⟨rfl, by rw [hU], by rw [hU]; exact hPc, va_K.moved hW.alike hKc, hDc.weaken (fun _ _ _ _ => trivial)⟩⟩ rfl rfl hl.1 rfl (lv_room (Nat.le_of_ble_eq_true rfl)) dL_law_143 ⟨Nat.le_of_ble_eq_true rfl, Nat.le_of_ble_eq_true rfl⟩) hS (fun q _ h => hFc q h) hFc (fun r_6 u t H1 locs ht hvm hw hB hz1 hk1 hS => ?_)
      obtain ⟨er, hu⟩ := hw
      subst hu
      subst er
      obtain ⟨hP1, -, hD1⟩ := hB
      rw [ht] at hP1
      obtain ⟨hP, hD⟩ := va_join (wr := [(q0, .inr (0, [.int a0, .int a1, .int (gx_X0_open_2 a1 a2 a3 (xs (x3 + 1).toNatClampNeg)), .int a3, .int (gx_X0_open_4 a1 a2 a3 a4 (xs (x3 + 1).toNatClampNeg)), .int (gx_X0_open_5 a1 a2 a3 a5 (xs (x3 + 1).toNatClampNeg)), .int gx_X0_open_6, .int (gx_X0_open_7 a1 a2 a3 (xs (x3 + 1).toNatClampNeg)), .int gx_X0_open_8, .int a9, .int (gx_X0_open_10 a1 a2 a3 a10 (xs (x3 + 1).toNatClampNeg)), .int (gx_X0_open_11 a1 a2 a3 a11 (xs (x3 + 1).toNatClampNeg))])), (q2, .inl (cA, 7, .inl ff))]) (w1 := [(q1, .inr (1, [.int gx_X1_open_0, .int b1, .int b2, .int (gx_X1_open_3 b2 b3 b8 b10 (xs (x3 + 1).toNatClampNeg)), .int (gx_X1_open_4 b2 b8 b10 (xs (x3 + 1).toNatClampNeg)), .int gx_X1_open_5, .int b6, .int (gx_X1_open_7 b2 b7 b8 b10 (xs (x3 + 1).toNatClampNeg)), .int (gx_X1_open_8 b2 b8 b10 (xs (x3 + 1).toNatClampNeg)), .int gx_X1_open_9, .int b10, .int (gx_X1_open_11 b2 b8 b10 b11 (xs (x3 + 1).toNatClampNeg)), .ref q2]))]) hP hD [1] [0, 2] rfl rfl (by decide) (by decide) hk1 hFc hP1 hD1
      generalize H1 = H at hP hS ⊢
      have hP := hP.sub (ws' := [(q0, .inr (0, [.int a0, .int a1, .int (gx_X0_open_2 a1 a2 a3 (xs (x3 + 1).toNatClampNeg)), .int a3, .int (gx_X0_open_4 a1 a2 a3 a4 (xs (x3 + 1).toNatClampNeg)), .int (gx_X0_open_5 a1 a2 a3 a5 (xs (x3 + 1).toNatClampNeg)), .int gx_X0_open_6, .int (gx_X0_open_7 a1 a2 a3 (xs (x3 + 1).toNatClampNeg)), .int gx_X0_open_8, .int a9, .int (gx_X0_open_10 a1 a2 a3 a10 (xs (x3 + 1).toNatClampNeg)), .int (gx_X0_open_11 a1 a2 a3 a11 (xs (x3 + 1).toNatClampNeg))])), (q1, .inr (1, [.int gx_X1_open_0, .int b1, .int b2, .int (gx_X1_open_3 b2 b3 b8 b10 (xs (x3 + 1).toNatClampNeg)), .int (gx_X1_open_4 b2 b8 b10 (xs (x3 + 1).toNatClampNeg)), .int gx_X1_open_5, .int b6, .int (gx_X1_open_7 b2 b7 b8 b10 (xs (x3 + 1).toNatClampNeg)), .int (gx_X1_open_8 b2 b8 b10 (xs (x3 + 1).toNatClampNeg)), .int gx_X1_open_9, .int b10, .int (gx_X1_open_11 b2 b8 b10 b11 (xs (x3 + 1).toNatClampNeg)), .ref q2])), (q2, .inl (cA, 7, .inl ff))]) [0, 2, 1] rfl
      have hD := hD.sub (ws' := [(q0, .inr (0, [.int a0, .int a1, .int (gx_X0_open_2 a1 a2 a3 (xs (x3 + 1).toNatClampNeg)), .int a3, .int (gx_X0_open_4 a1 a2 a3 a4 (xs (x3 + 1).toNatClampNeg)), .int (gx_X0_open_5 a1 a2 a3 a5 (xs (x3 + 1).toNatClampNeg)), .int gx_X0_open_6, .int (gx_X0_open_7 a1 a2 a3 (xs (x3 + 1).toNatClampNeg)), .int gx_X0_open_8, .int a9, .int (gx_X0_open_10 a1 a2 a3 a10 (xs (x3 + 1).toNatClampNeg)), .int (gx_X0_open_11 a1 a2 a3 a11 (xs (x3 + 1).toNatClampNeg))])), (q1, .inr (1, [.int gx_X1_open_0, .int b1, .int b2, .int (gx_X1_open_3 b2 b3 b8 b10 (xs (x3 + 1).toNatClampNeg)), .int (gx_X1_open_4 b2 b8 b10 (xs (x3 + 1).toNatClampNeg)), .int gx_X1_open_5, .int b6, .int (gx_X1_open_7 b2 b7 b8 b10 (xs (x3 + 1).toNatClampNeg)), .int (gx_X1_open_8 b2 b8 b10 (xs (x3 + 1).toNatClampNeg)), .int gx_X1_open_9, .int b10, .int (gx_X1_open_11 b2 b8 b10 b11 (xs (x3 + 1).toNatClampNeg)), .ref q2])), (q2, .inl (cA, 7, .inl ff))]) [0, 2, 1] (by decide) rfl
      have hP : va_P (dC, dI) vwCl [(q0, .inr (0, [.int a0, .int a1, .int (gx_X0_open_2 a1 a2 a3 (xs (x3 + 1).toNatClampNeg)), .int a3, .int (gx_X0_open_4 a1 a2 a3 a4 (xs (x3 + 1).toNatClampNeg)), .int (gx_X0_open_5 a1 a2 a3 a5 (xs (x3 + 1).toNatClampNeg)), .int gx_X0_open_6, .int (gx_X0_open_7 a1 a2 a3 (xs (x3 + 1).toNatClampNeg)), .int gx_X0_open_8, .int a9, .int (gx_X0_open_10 a1 a2 a3 a10 (xs (x3 + 1).toNatClampNeg)), .int (gx_X0_open_11 a1 a2 a3 a11 (xs (x3 + 1).toNatClampNeg))])), (q1, .inr (1, [.int gx_X1_open_0, .int b1, .int b2, .int (gx_X1_open_3 b2 b3 b8 b10 (xs (x3 + 1).toNatClampNeg)), .int (gx_X1_open_4 b2 b8 b10 (xs (x3 + 1).toNatClampNeg)), .int gx_X1_open_5, .int b6, .int (gx_X1_open_7 b2 b7 b8 b10 (xs (x3 + 1).toNatClampNeg)), .int (gx_X1_open_8 b2 b8 b10 (xs (x3 + 1).toNatClampNeg)), .int gx_X1_open_9, .int b10, .int (gx_X1_open_11 b2 b8 b10 b11 (xs (x3 + 1).toNatClampNeg)), .ref q2])), (q2, .inl (cA, 7, .inl ff))] H := hP
      have hD : va_D (fun q : Nat => s.heap.size ≤ q) [(q0, .inr (0, [.int a0, .int a1, .int (gx_X0_open_2 a1 a2 a3 (xs (x3 + 1).toNatClampNeg)), .int a3, .int (gx_X0_open_4 a1 a2 a3 a4 (xs (x3 + 1).toNatClampNeg)), .int (gx_X0_open_5 a1 a2 a3 a5 (xs (x3 + 1).toNatClampNeg)), .int gx_X0_open_6, .int (gx_X0_open_7 a1 a2 a3 (xs (x3 + 1).toNatClampNeg)), .int gx_X0_open_8, .int a9, .int (gx_X0_open_10 a1 a2 a3 a10 (xs (x3 + 1).toNatClampNeg)), .int (gx_X0_open_11 a1 a2 a3 a11 (xs (x3 + 1).toNatClampNeg))])), (q1, .inr (1, [.int gx_X1_open_0, .int b1, .int b2, .int (gx_X1_open_3 b2 b3 b8 b10 (xs (x3 + 1).toNatClampNeg)), .int (gx_X1_open_4 b2 b8 b10 (xs (x3 + 1).toNatClampNeg)), .int gx_X1_open_5, .int b6, .int (gx_X1_open_7 b2 b7 b8 b10 (xs (x3 + 1).toNatClampNeg)), .int (gx_X1_open_8 b2 b8 b10 (xs (x3 + 1).toNatClampNeg)), .int gx_X1_open_9, .int b10, .int (gx_X1_open_11 b2 b8 b10 b11 (xs (x3 + 1).toNatClampNeg)), .ref q2])), (q2, .inl (cA, 7, .inl ff))] := hD
      refine lv_pop hx hb dL_law_146 rfl ?_
      refine lv_goto (tgt := 458) hx hb dL_law_147 (by decide) ?_
      have hR : Rel [a0, a1, gx_X0_open_2 a1 a2 a3 (xs (x3 + 1).toNatClampNeg), a3, gx_X0_open_4 a1 a2 a3 a4 (xs (x3 + 1).toNatClampNeg), gx_X0_open_5 a1 a2 a3 a5 (xs (x3 + 1).toNatClampNeg), gx_X0_open_6, gx_X0_open_7 a1 a2 a3 (xs (x3 + 1).toNatClampNeg), gx_X0_open_8, a9, gx_X0_open_10 a1 a2 a3 a10 (xs (x3 + 1).toNatClampNeg), gx_X0_open_11 a1 a2 a3 a11 (xs (x3 + 1).toNatClampNeg)] [gx_X1_open_0, b1, b2, gx_X1_open_3 b2 b3 b8 b10 (xs (x3 + 1).toNatClampNeg), gx_X1_open_4 b2 b8 b10 (xs (x3 + 1).toNatClampNeg), gx_X1_open_5, b6, gx_X1_open_7 b2 b7 b8 b10 (xs (x3 + 1).toNatClampNeg), gx_X1_open_8 b2 b8 b10 (xs (x3 + 1).toNatClampNeg), gx_X1_open_9, b10, gx_X1_open_11 b2 b8 b10 b11 (xs (x3 + 1).toNatClampNeg)] ff := (h_open a0 a1 a2 a3 a4 a5 a6 a7 a8 a9 a10 a11 b0 b1 b2 b3 b4 b5 b6 b7 b8 b9 b10 b11 ff (xs (x3 + 1).toNatClampNeg) hR)
      obtain ⟨x3n, ex3n⟩ : ∃ y : Int32, y = x3 + 3 := ⟨_, rfl⟩
      refine lv_iinc (v := x3n) (lv' := [(3, .int x3n), (0, .ref b), (1, .ref q0), (2, .ref q1)]) hx hb dL_law_458 hl (k := 3) rfl (by rw [ex3n]; rfl) (by decide) rfl (fun ls hl => ?_)
      refine lv_goto (tgt := 28) hx hb dL_law_461 (by decide) ?_
      exact ih (i + 3) x3n (by omega) (by omega) (by rw [ex3n, ex3]; exact nI_add i 3) a0 a1 (gx_X0_open_2 a1 a2 a3 (xs (x3 + 1).toNatClampNeg)) a3 (gx_X0_open_4 a1 a2 a3 a4 (xs (x3 + 1).toNatClampNeg)) (gx_X0_open_5 a1 a2 a3 a5 (xs (x3 + 1).toNatClampNeg)) gx_X0_open_6 (gx_X0_open_7 a1 a2 a3 (xs (x3 + 1).toNatClampNeg)) gx_X0_open_8 a9 (gx_X0_open_10 a1 a2 a3 a10 (xs (x3 + 1).toNatClampNeg)) (gx_X0_open_11 a1 a2 a3 a11 (xs (x3 + 1).toNatClampNeg)) gx_X1_open_0 b1 b2 (gx_X1_open_3 b2 b3 b8 b10 (xs (x3 + 1).toNatClampNeg)) (gx_X1_open_4 b2 b8 b10 (xs (x3 + 1).toNatClampNeg)) gx_X1_open_5 b6 (gx_X1_open_7 b2 b7 b8 b10 (xs (x3 + 1).toNatClampNeg)) (gx_X1_open_8 b2 b8 b10 (xs (x3 + 1).toNatClampNeg)) gx_X1_open_9 b10 (gx_X1_open_11 b2 b8 b10 b11 (xs (x3 + 1).toNatClampNeg)) ff hR q0 q1 q2 cA _ _ hK hP hD hS ls (lv_sub hl [1, 2, 3, 0] rfl)
    by_cases c_7 : ((xs (x3).toNatClampNeg) &&& 15) = 2
    · refine lv_tableIn (off := 108) (tgt := 150) hx hb dL_law_42 (by rw [c_7]; decide) (by rw [c_7]; decide) (by rw [c_7]; rfl) (by decide) ?_
      refine lv_aload_n hx hb dL_law_150 rfl (lv_at hl 1 rfl) ?_
      refine lv_aload_n hx hb dL_law_151 rfl (lv_at hl 0 rfl) ?_
      refine lv_iload_n hx hb dL_law_152 rfl (lv_at hl 3 rfl) ?_
      refine lv_iconst (v := 1) hx hb dL_law_153 (by decide) ?_
      refine lv_iadd hx hb dL_law_154 ?_
      refine va_sld hx hb hX hbl hbA hS hin1 dL_law_155 ?_
      refine lv_aload_n hx hb dL_law_156 rfl (lv_at hl 0 rfl) ?_
      refine lv_iload_n hx hb dL_law_157 rfl (lv_at hl 3 rfl) ?_
      refine lv_iconst (v := 2) hx hb dL_law_158 (by decide) ?_
      refine lv_iadd hx hb dL_law_159 ?_
      refine va_sld hx hb hX hbl hbA hS hin2 dL_law_160 ?_
      have hPc := hP.sub (ws' := [(q0, .inr (0, [.int a0, .int a1, .int a2, .int a3, .int a4, .int a5, .int a6, .int a7, .int a8, .int a9, .int a10, .int a11]))]) [0] rfl
      have hDc := hD.sub (ws' := [(q0, .inr (0, [.int a0, .int a1, .int a2, .int a3, .int a4, .int a5, .int a6, .int a7, .int a8, .int a9, .int a10, .int a11]))]) [0] (by decide) rfl
      have hKc := hK.sub (tys' := []) [] rfl
      have hFc := va_free (wc := [(q0, .inr (0, [.int a0, .int a1, .int a2, .int a3, .int a4, .int a5, .int a6, .int a7, .int a8, .int a9, .int a10, .int a11]))]) hD hS hA [0] rfl
      refine va_calli (va_runV (As := [.int (xs (x3 + 1).toNatClampNeg), .int (xs (x3 + 2).toNatClampNeg)]) (rest := []) ⟨hx, hb, hml, hown, hts⟩ (ct_X0_act l dC dI q0 H.size a0 a1 a2 a3 a4 a5 a6 a7 a8 a9 a10 a11 (xs (x3 + 1).toNatClampNeg) (xs (x3 + 2).toNatClampNeg)) (cwV 2 hts gL_law_X0_act rfl rfl rfl (by decide +kernel) ⟨Nat.le_of_ble_eq_true rfl, Nat.le_of_ble_eq_true rfl⟩) ⟨fun a U g mk q => by obtain ⟨q0, q1, qP, qK, qD⟩ := q; exact ⟨q0, q1, qP, va_K.moved (u := U) (U := U.calling g mk a) (Vm.Alike.refl U.vm) qK, qD⟩, va_recv hKc hPc (ci := 0) (q0 := 0) rfl rfl, fun U hU hW => ⟨rfl, by rw [hU], by rw [hU]; exact hPc, va_K.moved hW.alike hKc, hDc.weaken (fun _ _ _ _ => trivial)⟩⟩ rfl rfl hl.1 rfl (lv_room (Nat.le_of_ble_eq_true rfl)) dL_law_161 ⟨Nat.le_of_ble_eq_true rfl, Nat.le_of_ble_eq_true rfl⟩) hS (fun q _ h => hFc q h) hFc (fun r_8 u t H1 locs ht hvm hw hB hz1 hk1 hS => ?_)
      obtain ⟨er, hu⟩ := hw
      subst hu
      subst er
      obtain ⟨hP1, -, hD1⟩ := hB
      rw [ht] at hP1
      obtain ⟨hP, hD⟩ := va_join (wr := [(q1, .inr (1, [.int b0, .int b1, .int b2, .int b3, .int b4, .int b5, .int b6, .int b7, .int b8, .int b9, .int b10, .int b11, .ref q2])), (q2, .inl (cA, 7, .inl ff))]) (w1 := [(q0, .inr (0, [.int a0, .int a1, .int (gx_X0_act_2 a0 a1 a2 a4 a5 a6 (xs (x3 + 1).toNatClampNeg) (xs (x3 + 2).toNatClampNeg)), .int a3, .int (gx_X0_act_4 a0 a1 a2 a4 a5 a6 (xs (x3 + 1).toNatClampNeg) (xs (x3 + 2).toNatClampNeg)), .int (gx_X0_act_5 a5 (xs (x3 + 1).toNatClampNeg)), .int (gx_X0_act_6 a0 a1 a2 a4 a5 a6 (xs (x3 + 1).toNatClampNeg) (xs (x3 + 2).toNatClampNeg)), .int (gx_X0_act_7 a0 a1 a2 a4 a5 a6 a7 (xs (x3 + 1).toNatClampNeg) (xs (x3 + 2).toNatClampNeg)), .int (gx_X0_act_8 a8 (xs (x3 + 1).toNatClampNeg)), .int a9, .int (gx_X0_act_10 a0 a1 a2 a4 a5 a6 a10 (xs (x3 + 1).toNatClampNeg) (xs (x3 + 2).toNatClampNeg)), .int (gx_X0_act_11 a0 a1 a2 a4 a5 a6 a11 (xs (x3 + 1).toNatClampNeg) (xs (x3 + 2).toNatClampNeg))]))]) hP hD [0] [1, 2] rfl rfl (by decide) (by decide) hk1 hFc hP1 hD1
      generalize H1 = H at hP hS ⊢
      have hP := hP.sub (ws' := [(q0, .inr (0, [.int a0, .int a1, .int (gx_X0_act_2 a0 a1 a2 a4 a5 a6 (xs (x3 + 1).toNatClampNeg) (xs (x3 + 2).toNatClampNeg)), .int a3, .int (gx_X0_act_4 a0 a1 a2 a4 a5 a6 (xs (x3 + 1).toNatClampNeg) (xs (x3 + 2).toNatClampNeg)), .int (gx_X0_act_5 a5 (xs (x3 + 1).toNatClampNeg)), .int (gx_X0_act_6 a0 a1 a2 a4 a5 a6 (xs (x3 + 1).toNatClampNeg) (xs (x3 + 2).toNatClampNeg)), .int (gx_X0_act_7 a0 a1 a2 a4 a5 a6 a7 (xs (x3 + 1).toNatClampNeg) (xs (x3 + 2).toNatClampNeg)), .int (gx_X0_act_8 a8 (xs (x3 + 1).toNatClampNeg)), .int a9, .int (gx_X0_act_10 a0 a1 a2 a4 a5 a6 a10 (xs (x3 + 1).toNatClampNeg) (xs (x3 + 2).toNatClampNeg)), .int (gx_X0_act_11 a0 a1 a2 a4 a5 a6 a11 (xs (x3 + 1).toNatClampNeg) (xs (x3 + 2).toNatClampNeg))])), (q1, .inr (1, [.int b0, .int b1, .int b2, .int b3, .int b4, .int b5, .int b6, .int b7, .int b8, .int b9, .int b10, .int b11, .ref q2])), (q2, .inl (cA, 7, .inl ff))]) [2, 0, 1] rfl
      have hD := hD.sub (ws' := [(q0, .inr (0, [.int a0, .int a1, .int (gx_X0_act_2 a0 a1 a2 a4 a5 a6 (xs (x3 + 1).toNatClampNeg) (xs (x3 + 2).toNatClampNeg)), .int a3, .int (gx_X0_act_4 a0 a1 a2 a4 a5 a6 (xs (x3 + 1).toNatClampNeg) (xs (x3 + 2).toNatClampNeg)), .int (gx_X0_act_5 a5 (xs (x3 + 1).toNatClampNeg)), .int (gx_X0_act_6 a0 a1 a2 a4 a5 a6 (xs (x3 + 1).toNatClampNeg) (xs (x3 + 2).toNatClampNeg)), .int (gx_X0_act_7 a0 a1 a2 a4 a5 a6 a7 (xs (x3 + 1).toNatClampNeg) (xs (x3 + 2).toNatClampNeg)), .int (gx_X0_act_8 a8 (xs (x3 + 1).toNatClampNeg)), .int a9, .int (gx_X0_act_10 a0 a1 a2 a4 a5 a6 a10 (xs (x3 + 1).toNatClampNeg) (xs (x3 + 2).toNatClampNeg)), .int (gx_X0_act_11 a0 a1 a2 a4 a5 a6 a11 (xs (x3 + 1).toNatClampNeg) (xs (x3 + 2).toNatClampNeg))])), (q1, .inr (1, [.int b0, .int b1, .int b2, .int b3, .int b4, .int b5, .int b6, .int b7, .int b8, .int b9, .int b10, .int b11, .ref q2])), (q2, .inl (cA, 7, .inl ff))]) [2, 0, 1] (by decide) rfl
      have hP : va_P (dC, dI) vwCl [(q0, .inr (0, [.int a0, .int a1, .int (gx_X0_act_2 a0 a1 a2 a4 a5 a6 (xs (x3 + 1).toNatClampNeg) (xs (x3 + 2).toNatClampNeg)), .int a3, .int (gx_X0_act_4 a0 a1 a2 a4 a5 a6 (xs (x3 + 1).toNatClampNeg) (xs (x3 + 2).toNatClampNeg)), .int (gx_X0_act_5 a5 (xs (x3 + 1).toNatClampNeg)), .int (gx_X0_act_6 a0 a1 a2 a4 a5 a6 (xs (x3 + 1).toNatClampNeg) (xs (x3 + 2).toNatClampNeg)), .int (gx_X0_act_7 a0 a1 a2 a4 a5 a6 a7 (xs (x3 + 1).toNatClampNeg) (xs (x3 + 2).toNatClampNeg)), .int (gx_X0_act_8 a8 (xs (x3 + 1).toNatClampNeg)), .int a9, .int (gx_X0_act_10 a0 a1 a2 a4 a5 a6 a10 (xs (x3 + 1).toNatClampNeg) (xs (x3 + 2).toNatClampNeg)), .int (gx_X0_act_11 a0 a1 a2 a4 a5 a6 a11 (xs (x3 + 1).toNatClampNeg) (xs (x3 + 2).toNatClampNeg))])), (q1, .inr (1, [.int b0, .int b1, .int b2, .int b3, .int b4, .int b5, .int b6, .int b7, .int b8, .int b9, .int b10, .int b11, .ref q2])), (q2, .inl (cA, 7, .inl ff))] H := hP
      have hD : va_D (fun q : Nat => s.heap.size ≤ q) [(q0, .inr (0, [.int a0, .int a1, .int (gx_X0_act_2 a0 a1 a2 a4 a5 a6 (xs (x3 + 1).toNatClampNeg) (xs (x3 + 2).toNatClampNeg)), .int a3, .int (gx_X0_act_4 a0 a1 a2 a4 a5 a6 (xs (x3 + 1).toNatClampNeg) (xs (x3 + 2).toNatClampNeg)), .int (gx_X0_act_5 a5 (xs (x3 + 1).toNatClampNeg)), .int (gx_X0_act_6 a0 a1 a2 a4 a5 a6 (xs (x3 + 1).toNatClampNeg) (xs (x3 + 2).toNatClampNeg)), .int (gx_X0_act_7 a0 a1 a2 a4 a5 a6 a7 (xs (x3 + 1).toNatClampNeg) (xs (x3 + 2).toNatClampNeg)), .int (gx_X0_act_8 a8 (xs (x3 + 1).toNatClampNeg)), .int a9, .int (gx_X0_act_10 a0 a1 a2 a4 a5 a6 a10 (xs (x3 + 1).toNatClampNeg) (xs (x3 + 2).toNatClampNeg)), .int (gx_X0_act_11 a0 a1 a2 a4 a5 a6 a11 (xs (x3 + 1).toNatClampNeg) (xs (x3 + 2).toNatClampNeg))])), (q1, .inr (1, [.int b0, .int b1, .int b2, .int b3, .int b4, .int b5, .int b6, .int b7, .int b8, .int b9, .int b10, .int b11, .ref q2])), (q2, .inl (cA, 7, .inl ff))] := hD
      refine lv_pop hx hb dL_law_164 rfl ?_
      refine lv_aload_n hx hb dL_law_165 rfl (lv_at hl 2 rfl) ?_
      refine lv_aload_n hx hb dL_law_166 rfl (lv_at hl 0 rfl) ?_
      refine lv_iload_n hx hb dL_law_167 rfl (lv_at hl 3 rfl) ?_
      refine lv_iconst (v := 1) hx hb dL_law_168 (by decide) ?_
      refine lv_iadd hx hb dL_law_169 ?_
      refine va_sld hx hb hX hbl hbA hS hin1 dL_law_170 ?_
      refine lv_aload_n hx hb dL_law_171 rfl (lv_at hl 0 rfl) ?_
      refine lv_iload_n hx hb dL_law_172 rfl (lv_at hl 3 rfl) ?_
      refine lv_iconst (v := 2) hx hb dL_law_173 (by decide) ?_
      refine lv_iadd hx hb dL_law_174 ?_
      refine va_sld hx hb hX hbl hbA hS hin2 dL_law_175 ?_
      have hPc := hP.sub (ws' := [(q1, .inr (1, [.int b0, .int b1, .int b2, .int b3, .int b4, .int b5, .int b6, .int b7, .int b8, .int b9, .int b10, .int b11, .ref q2]))]) [1] rfl
      have hDc := hD.sub (ws' := [(q1, .inr (1, [.int b0, .int b1, .int b2, .int b3, .int b4, .int b5, .int b6, .int b7, .int b8, .int b9, .int b10, .int b11, .ref q2]))]) [1] (by decide) rfl
      have hKc := hK.sub (tys' := []) [] rfl
      have hFc := va_free (wc := [(q1, .inr (1, [.int b0, .int b1, .int b2, .int b3, .int b4, .int b5, .int b6, .int b7, .int b8, .int b9, .int b10, .int b11, .ref q2]))]) hD hS hA [1] rfl
      refine va_calli (va_runV (As := [.int (xs (x3 + 1).toNatClampNeg), .int (xs (x3 + 2).toNatClampNeg)]) (rest := []) ⟨hx, hb, hml, hown, hts⟩ (ct_X1_act l dC dI q1 q2 H.size b0 b1 b2 b3 b4 b5 b6 b7 b8 b9 b10 b11 (xs (x3 + 1).toNatClampNeg) (xs (x3 + 2).toNatClampNeg)) (cwV 2 hts gL_law_X1_act rfl rfl rfl (by decide +kernel) ⟨Nat.le_of_ble_eq_true rfl, Nat.le_of_ble_eq_true rfl⟩) ⟨fun a U g mk q => by obtain ⟨q0, q1, qP, qK, qD⟩ := q; exact ⟨q0, q1, qP, va_K.moved (u := U) (U := U.calling g mk a) (Vm.Alike.refl U.vm) qK, qD⟩, va_recv hKc hPc (ci := 1) (q0 := 0) rfl rfl, fun U hU hW => ⟨rfl, by rw [hU], by rw [hU]; exact hPc, va_K.moved hW.alike hKc, hDc.weaken (fun _ _ _ _ => trivial)⟩⟩ rfl rfl hl.1 rfl (lv_room (Nat.le_of_ble_eq_true rfl)) dL_law_176 ⟨Nat.le_of_ble_eq_true rfl, Nat.le_of_ble_eq_true rfl⟩) hS (fun q _ h => hFc q h) hFc (fun r_9 u t H1 locs ht hvm hw hB hz1 hk1 hS => ?_)
      obtain ⟨er, hu⟩ := hw
      subst hu
      subst er
      obtain ⟨hP1, -, hD1⟩ := hB
      rw [ht] at hP1
      obtain ⟨hP, hD⟩ := va_join (wr := [(q0, .inr (0, [.int a0, .int a1, .int (gx_X0_act_2 a0 a1 a2 a4 a5 a6 (xs (x3 + 1).toNatClampNeg) (xs (x3 + 2).toNatClampNeg)), .int a3, .int (gx_X0_act_4 a0 a1 a2 a4 a5 a6 (xs (x3 + 1).toNatClampNeg) (xs (x3 + 2).toNatClampNeg)), .int (gx_X0_act_5 a5 (xs (x3 + 1).toNatClampNeg)), .int (gx_X0_act_6 a0 a1 a2 a4 a5 a6 (xs (x3 + 1).toNatClampNeg) (xs (x3 + 2).toNatClampNeg)), .int (gx_X0_act_7 a0 a1 a2 a4 a5 a6 a7 (xs (x3 + 1).toNatClampNeg) (xs (x3 + 2).toNatClampNeg)), .int (gx_X0_act_8 a8 (xs (x3 + 1).toNatClampNeg)), .int a9, .int (gx_X0_act_10 a0 a1 a2 a4 a5 a6 a10 (xs (x3 + 1).toNatClampNeg) (xs (x3 + 2).toNatClampNeg)), .int (gx_X0_act_11 a0 a1 a2 a4 a5 a6 a11 (xs (x3 + 1).toNatClampNeg) (xs (x3 + 2).toNatClampNeg))])), (q2, .inl (cA, 7, .inl ff))]) (w1 := [(q1, .inr (1, [.int gx_X1_act_0, .int b1, .int b2, .int (gx_X1_act_3 b1 b2 b3 b8 b9 b11 (xs (x3 + 1).toNatClampNeg) (xs (x3 + 2).toNatClampNeg)), .int (gx_X1_act_4 b1 b2 b3 b4 b8 b9 b11 (xs (x3 + 1).toNatClampNeg) (xs (x3 + 2).toNatClampNeg)), .int (gx_X1_act_5 b5 (xs (x3 + 1).toNatClampNeg)), .int (gx_X1_act_6 b1 b2 b3 b6 b8 b9 b11 (xs (x3 + 1).toNatClampNeg) (xs (x3 + 2).toNatClampNeg)), .int (gx_X1_act_7 b1 b2 b3 b7 b8 b9 b11 (xs (x3 + 1).toNatClampNeg) (xs (x3 + 2).toNatClampNeg)), .int (gx_X1_act_8 b1 b2 b3 b8 b9 (xs (x3 + 1).toNatClampNeg) (xs (x3 + 2).toNatClampNeg)), .int (gx_X1_act_9 b1 b2 b3 b8 b9 b11 (xs (x3 + 1).toNatClampNeg) (xs (x3 + 2).toNatClampNeg)), .int b10, .int (gx_X1_act_11 b1 b2 b3 b8 b9 b11 (xs (x3 + 1).toNatClampNeg) (xs (x3 + 2).toNatClampNeg)), .ref q2]))]) hP hD [1] [0, 2] rfl rfl (by decide) (by decide) hk1 hFc hP1 hD1
      generalize H1 = H at hP hS ⊢
      have hP := hP.sub (ws' := [(q0, .inr (0, [.int a0, .int a1, .int (gx_X0_act_2 a0 a1 a2 a4 a5 a6 (xs (x3 + 1).toNatClampNeg) (xs (x3 + 2).toNatClampNeg)), .int a3, .int (gx_X0_act_4 a0 a1 a2 a4 a5 a6 (xs (x3 + 1).toNatClampNeg) (xs (x3 + 2).toNatClampNeg)), .int (gx_X0_act_5 a5 (xs (x3 + 1).toNatClampNeg)), .int (gx_X0_act_6 a0 a1 a2 a4 a5 a6 (xs (x3 + 1).toNatClampNeg) (xs (x3 + 2).toNatClampNeg)), .int (gx_X0_act_7 a0 a1 a2 a4 a5 a6 a7 (xs (x3 + 1).toNatClampNeg) (xs (x3 + 2).toNatClampNeg)), .int (gx_X0_act_8 a8 (xs (x3 + 1).toNatClampNeg)), .int a9, .int (gx_X0_act_10 a0 a1 a2 a4 a5 a6 a10 (xs (x3 + 1).toNatClampNeg) (xs (x3 + 2).toNatClampNeg)), .int (gx_X0_act_11 a0 a1 a2 a4 a5 a6 a11 (xs (x3 + 1).toNatClampNeg) (xs (x3 + 2).toNatClampNeg))])), (q1, .inr (1, [.int gx_X1_act_0, .int b1, .int b2, .int (gx_X1_act_3 b1 b2 b3 b8 b9 b11 (xs (x3 + 1).toNatClampNeg) (xs (x3 + 2).toNatClampNeg)), .int (gx_X1_act_4 b1 b2 b3 b4 b8 b9 b11 (xs (x3 + 1).toNatClampNeg) (xs (x3 + 2).toNatClampNeg)), .int (gx_X1_act_5 b5 (xs (x3 + 1).toNatClampNeg)), .int (gx_X1_act_6 b1 b2 b3 b6 b8 b9 b11 (xs (x3 + 1).toNatClampNeg) (xs (x3 + 2).toNatClampNeg)), .int (gx_X1_act_7 b1 b2 b3 b7 b8 b9 b11 (xs (x3 + 1).toNatClampNeg) (xs (x3 + 2).toNatClampNeg)), .int (gx_X1_act_8 b1 b2 b3 b8 b9 (xs (x3 + 1).toNatClampNeg) (xs (x3 + 2).toNatClampNeg)), .int (gx_X1_act_9 b1 b2 b3 b8 b9 b11 (xs (x3 + 1).toNatClampNeg) (xs (x3 + 2).toNatClampNeg)), .int b10, .int (gx_X1_act_11 b1 b2 b3 b8 b9 b11 (xs (x3 + 1).toNatClampNeg) (xs (x3 + 2).toNatClampNeg)), .ref q2])), (q2, .inl (cA, 7, .inl ff))]) [0, 2, 1] rfl
      have hD := hD.sub (ws' := [(q0, .inr (0, [.int a0, .int a1, .int (gx_X0_act_2 a0 a1 a2 a4 a5 a6 (xs (x3 + 1).toNatClampNeg) (xs (x3 + 2).toNatClampNeg)), .int a3, .int (gx_X0_act_4 a0 a1 a2 a4 a5 a6 (xs (x3 + 1).toNatClampNeg) (xs (x3 + 2).toNatClampNeg)), .int (gx_X0_act_5 a5 (xs (x3 + 1).toNatClampNeg)), .int (gx_X0_act_6 a0 a1 a2 a4 a5 a6 (xs (x3 + 1).toNatClampNeg) (xs (x3 + 2).toNatClampNeg)), .int (gx_X0_act_7 a0 a1 a2 a4 a5 a6 a7 (xs (x3 + 1).toNatClampNeg) (xs (x3 + 2).toNatClampNeg)), .int (gx_X0_act_8 a8 (xs (x3 + 1).toNatClampNeg)), .int a9, .int (gx_X0_act_10 a0 a1 a2 a4 a5 a6 a10 (xs (x3 + 1).toNatClampNeg) (xs (x3 + 2).toNatClampNeg)), .int (gx_X0_act_11 a0 a1 a2 a4 a5 a6 a11 (xs (x3 + 1).toNatClampNeg) (xs (x3 + 2).toNatClampNeg))])), (q1, .inr (1, [.int gx_X1_act_0, .int b1, .int b2, .int (gx_X1_act_3 b1 b2 b3 b8 b9 b11 (xs (x3 + 1).toNatClampNeg) (xs (x3 + 2).toNatClampNeg)), .int (gx_X1_act_4 b1 b2 b3 b4 b8 b9 b11 (xs (x3 + 1).toNatClampNeg) (xs (x3 + 2).toNatClampNeg)), .int (gx_X1_act_5 b5 (xs (x3 + 1).toNatClampNeg)), .int (gx_X1_act_6 b1 b2 b3 b6 b8 b9 b11 (xs (x3 + 1).toNatClampNeg) (xs (x3 + 2).toNatClampNeg)), .int (gx_X1_act_7 b1 b2 b3 b7 b8 b9 b11 (xs (x3 + 1).toNatClampNeg) (xs (x3 + 2).toNatClampNeg)), .int (gx_X1_act_8 b1 b2 b3 b8 b9 (xs (x3 + 1).toNatClampNeg) (xs (x3 + 2).toNatClampNeg)), .int (gx_X1_act_9 b1 b2 b3 b8 b9 b11 (xs (x3 + 1).toNatClampNeg) (xs (x3 + 2).toNatClampNeg)), .int b10, .int (gx_X1_act_11 b1 b2 b3 b8 b9 b11 (xs (x3 + 1).toNatClampNeg) (xs (x3 + 2).toNatClampNeg)), .ref q2])), (q2, .inl (cA, 7, .inl ff))]) [0, 2, 1] (by decide) rfl
      have hP : va_P (dC, dI) vwCl [(q0, .inr (0, [.int a0, .int a1, .int (gx_X0_act_2 a0 a1 a2 a4 a5 a6 (xs (x3 + 1).toNatClampNeg) (xs (x3 + 2).toNatClampNeg)), .int a3, .int (gx_X0_act_4 a0 a1 a2 a4 a5 a6 (xs (x3 + 1).toNatClampNeg) (xs (x3 + 2).toNatClampNeg)), .int (gx_X0_act_5 a5 (xs (x3 + 1).toNatClampNeg)), .int (gx_X0_act_6 a0 a1 a2 a4 a5 a6 (xs (x3 + 1).toNatClampNeg) (xs (x3 + 2).toNatClampNeg)), .int (gx_X0_act_7 a0 a1 a2 a4 a5 a6 a7 (xs (x3 + 1).toNatClampNeg) (xs (x3 + 2).toNatClampNeg)), .int (gx_X0_act_8 a8 (xs (x3 + 1).toNatClampNeg)), .int a9, .int (gx_X0_act_10 a0 a1 a2 a4 a5 a6 a10 (xs (x3 + 1).toNatClampNeg) (xs (x3 + 2).toNatClampNeg)), .int (gx_X0_act_11 a0 a1 a2 a4 a5 a6 a11 (xs (x3 + 1).toNatClampNeg) (xs (x3 + 2).toNatClampNeg))])), (q1, .inr (1, [.int gx_X1_act_0, .int b1, .int b2, .int (gx_X1_act_3 b1 b2 b3 b8 b9 b11 (xs (x3 + 1).toNatClampNeg) (xs (x3 + 2).toNatClampNeg)), .int (gx_X1_act_4 b1 b2 b3 b4 b8 b9 b11 (xs (x3 + 1).toNatClampNeg) (xs (x3 + 2).toNatClampNeg)), .int (gx_X1_act_5 b5 (xs (x3 + 1).toNatClampNeg)), .int (gx_X1_act_6 b1 b2 b3 b6 b8 b9 b11 (xs (x3 + 1).toNatClampNeg) (xs (x3 + 2).toNatClampNeg)), .int (gx_X1_act_7 b1 b2 b3 b7 b8 b9 b11 (xs (x3 + 1).toNatClampNeg) (xs (x3 + 2).toNatClampNeg)), .int (gx_X1_act_8 b1 b2 b3 b8 b9 (xs (x3 + 1).toNatClampNeg) (xs (x3 + 2).toNatClampNeg)), .int (gx_X1_act_9 b1 b2 b3 b8 b9 b11 (xs (x3 + 1).toNatClampNeg) (xs (x3 + 2).toNatClampNeg)), .int b10, .int (gx_X1_act_11 b1 b2 b3 b8 b9 b11 (xs (x3 + 1).toNatClampNeg) (xs (x3 + 2).toNatClampNeg)), .ref q2])), (q2, .inl (cA, 7, .inl ff))] H := hP
      have hD : va_D (fun q : Nat => s.heap.size ≤ q) [(q0, .inr (0, [.int a0, .int a1, .int (gx_X0_act_2 a0 a1 a2 a4 a5 a6 (xs (x3 + 1).toNatClampNeg) (xs (x3 + 2).toNatClampNeg)), .int a3, .int (gx_X0_act_4 a0 a1 a2 a4 a5 a6 (xs (x3 + 1).toNatClampNeg) (xs (x3 + 2).toNatClampNeg)), .int (gx_X0_act_5 a5 (xs (x3 + 1).toNatClampNeg)), .int (gx_X0_act_6 a0 a1 a2 a4 a5 a6 (xs (x3 + 1).toNatClampNeg) (xs (x3 + 2).toNatClampNeg)), .int (gx_X0_act_7 a0 a1 a2 a4 a5 a6 a7 (xs (x3 + 1).toNatClampNeg) (xs (x3 + 2).toNatClampNeg)), .int (gx_X0_act_8 a8 (xs (x3 + 1).toNatClampNeg)), .int a9, .int (gx_X0_act_10 a0 a1 a2 a4 a5 a6 a10 (xs (x3 + 1).toNatClampNeg) (xs (x3 + 2).toNatClampNeg)), .int (gx_X0_act_11 a0 a1 a2 a4 a5 a6 a11 (xs (x3 + 1).toNatClampNeg) (xs (x3 + 2).toNatClampNeg))])), (q1, .inr (1, [.int gx_X1_act_0, .int b1, .int b2, .int (gx_X1_act_3 b1 b2 b3 b8 b9 b11 (xs (x3 + 1).toNatClampNeg) (xs (x3 + 2).toNatClampNeg)), .int (gx_X1_act_4 b1 b2 b3 b4 b8 b9 b11 (xs (x3 + 1).toNatClampNeg) (xs (x3 + 2).toNatClampNeg)), .int (gx_X1_act_5 b5 (xs (x3 + 1).toNatClampNeg)), .int (gx_X1_act_6 b1 b2 b3 b6 b8 b9 b11 (xs (x3 + 1).toNatClampNeg) (xs (x3 + 2).toNatClampNeg)), .int (gx_X1_act_7 b1 b2 b3 b7 b8 b9 b11 (xs (x3 + 1).toNatClampNeg) (xs (x3 + 2).toNatClampNeg)), .int (gx_X1_act_8 b1 b2 b3 b8 b9 (xs (x3 + 1).toNatClampNeg) (xs (x3 + 2).toNatClampNeg)), .int (gx_X1_act_9 b1 b2 b3 b8 b9 b11 (xs (x3 + 1).toNatClampNeg) (xs (x3 + 2).toNatClampNeg)), .int b10, .int (gx_X1_act_11 b1 b2 b3 b8 b9 b11 (xs (x3 + 1).toNatClampNeg) (xs (x3 + 2).toNatClampNeg)), .ref q2])), (q2, .inl (cA, 7, .inl ff))] := hD
      refine lv_pop hx hb dL_law_179 rfl ?_
      refine lv_goto (tgt := 458) hx hb dL_law_180 (by decide) ?_
      have hR : Rel [a0, a1, gx_X0_act_2 a0 a1 a2 a4 a5 a6 (xs (x3 + 1).toNatClampNeg) (xs (x3 + 2).toNatClampNeg), a3, gx_X0_act_4 a0 a1 a2 a4 a5 a6 (xs (x3 + 1).toNatClampNeg) (xs (x3 + 2).toNatClampNeg), gx_X0_act_5 a5 (xs (x3 + 1).toNatClampNeg), gx_X0_act_6 a0 a1 a2 a4 a5 a6 (xs (x3 + 1).toNatClampNeg) (xs (x3 + 2).toNatClampNeg), gx_X0_act_7 a0 a1 a2 a4 a5 a6 a7 (xs (x3 + 1).toNatClampNeg) (xs (x3 + 2).toNatClampNeg), gx_X0_act_8 a8 (xs (x3 + 1).toNatClampNeg), a9, gx_X0_act_10 a0 a1 a2 a4 a5 a6 a10 (xs (x3 + 1).toNatClampNeg) (xs (x3 + 2).toNatClampNeg), gx_X0_act_11 a0 a1 a2 a4 a5 a6 a11 (xs (x3 + 1).toNatClampNeg) (xs (x3 + 2).toNatClampNeg)] [gx_X1_act_0, b1, b2, gx_X1_act_3 b1 b2 b3 b8 b9 b11 (xs (x3 + 1).toNatClampNeg) (xs (x3 + 2).toNatClampNeg), gx_X1_act_4 b1 b2 b3 b4 b8 b9 b11 (xs (x3 + 1).toNatClampNeg) (xs (x3 + 2).toNatClampNeg), gx_X1_act_5 b5 (xs (x3 + 1).toNatClampNeg), gx_X1_act_6 b1 b2 b3 b6 b8 b9 b11 (xs (x3 + 1).toNatClampNeg) (xs (x3 + 2).toNatClampNeg), gx_X1_act_7 b1 b2 b3 b7 b8 b9 b11 (xs (x3 + 1).toNatClampNeg) (xs (x3 + 2).toNatClampNeg), gx_X1_act_8 b1 b2 b3 b8 b9 (xs (x3 + 1).toNatClampNeg) (xs (x3 + 2).toNatClampNeg), gx_X1_act_9 b1 b2 b3 b8 b9 b11 (xs (x3 + 1).toNatClampNeg) (xs (x3 + 2).toNatClampNeg), b10, gx_X1_act_11 b1 b2 b3 b8 b9 b11 (xs (x3 + 1).toNatClampNeg) (xs (x3 + 2).toNatClampNeg)] ff := (h_act a0 a1 a2 a3 a4 a5 a6 a7 a8 a9 a10 a11 b0 b1 b2 b3 b4 b5 b6 b7 b8 b9 b10 b11 ff (xs (x3 + 1).toNatClampNeg) (xs (x3 + 2).toNatClampNeg) hR)
      obtain ⟨x3n, ex3n⟩ : ∃ y : Int32, y = x3 + 3 := ⟨_, rfl⟩
      refine lv_iinc (v := x3n) (lv' := [(3, .int x3n), (0, .ref b), (1, .ref q0), (2, .ref q1)]) hx hb dL_law_458 hl (k := 3) rfl (by rw [ex3n]; rfl) (by decide) rfl (fun ls hl => ?_)
      refine lv_goto (tgt := 28) hx hb dL_law_461 (by decide) ?_
      exact ih (i + 3) x3n (by omega) (by omega) (by rw [ex3n, ex3]; exact nI_add i 3) a0 a1 (gx_X0_act_2 a0 a1 a2 a4 a5 a6 (xs (x3 + 1).toNatClampNeg) (xs (x3 + 2).toNatClampNeg)) a3 (gx_X0_act_4 a0 a1 a2 a4 a5 a6 (xs (x3 + 1).toNatClampNeg) (xs (x3 + 2).toNatClampNeg)) (gx_X0_act_5 a5 (xs (x3 + 1).toNatClampNeg)) (gx_X0_act_6 a0 a1 a2 a4 a5 a6 (xs (x3 + 1).toNatClampNeg) (xs (x3 + 2).toNatClampNeg)) (gx_X0_act_7 a0 a1 a2 a4 a5 a6 a7 (xs (x3 + 1).toNatClampNeg) (xs (x3 + 2).toNatClampNeg)) (gx_X0_act_8 a8 (xs (x3 + 1).toNatClampNeg)) a9 (gx_X0_act_10 a0 a1 a2 a4 a5 a6 a10 (xs (x3 + 1).toNatClampNeg) (xs (x3 + 2).toNatClampNeg)) (gx_X0_act_11 a0 a1 a2 a4 a5 a6 a11 (xs (x3 + 1).toNatClampNeg) (xs (x3 + 2).toNatClampNeg)) gx_X1_act_0 b1 b2 (gx_X1_act_3 b1 b2 b3 b8 b9 b11 (xs (x3 + 1).toNatClampNeg) (xs (x3 + 2).toNatClampNeg)) (gx_X1_act_4 b1 b2 b3 b4 b8 b9 b11 (xs (x3 + 1).toNatClampNeg) (xs (x3 + 2).toNatClampNeg)) (gx_X1_act_5 b5 (xs (x3 + 1).toNatClampNeg)) (gx_X1_act_6 b1 b2 b3 b6 b8 b9 b11 (xs (x3 + 1).toNatClampNeg) (xs (x3 + 2).toNatClampNeg)) (gx_X1_act_7 b1 b2 b3 b7 b8 b9 b11 (xs (x3 + 1).toNatClampNeg) (xs (x3 + 2).toNatClampNeg)) (gx_X1_act_8 b1 b2 b3 b8 b9 (xs (x3 + 1).toNatClampNeg) (xs (x3 + 2).toNatClampNeg)) (gx_X1_act_9 b1 b2 b3 b8 b9 b11 (xs (x3 + 1).toNatClampNeg) (xs (x3 + 2).toNatClampNeg)) b10 (gx_X1_act_11 b1 b2 b3 b8 b9 b11 (xs (x3 + 1).toNatClampNeg) (xs (x3 + 2).toNatClampNeg)) ff hR q0 q1 q2 cA _ _ hK hP hD hS ls (lv_sub hl [1, 2, 3, 0] rfl)
    by_cases c_10 : ((xs (x3).toNatClampNeg) &&& 15) = 3
    · refine lv_tableIn (off := 141) (tgt := 183) hx hb dL_law_42 (by rw [c_10]; decide) (by rw [c_10]; decide) (by rw [c_10]; rfl) (by decide) ?_
      refine lv_aload_n hx hb dL_law_183 rfl (lv_at hl 1 rfl) ?_
      refine lv_aload_n hx hb dL_law_184 rfl (lv_at hl 0 rfl) ?_
      refine lv_iload_n hx hb dL_law_185 rfl (lv_at hl 3 rfl) ?_
      refine lv_iconst (v := 1) hx hb dL_law_186 (by decide) ?_
      refine lv_iadd hx hb dL_law_187 ?_
      refine va_sld hx hb hX hbl hbA hS hin1 dL_law_188 ?_
      have hPc := hP.sub (ws' := [(q0, .inr (0, [.int a0, .int a1, .int a2, .int a3, .int a4, .int a5, .int a6, .int a7, .int a8, .int a9, .int a10, .int a11]))]) [0] rfl
      have hDc := hD.sub (ws' := [(q0, .inr (0, [.int a0, .int a1, .int a2, .int a3, .int a4, .int a5, .int a6, .int a7, .int a8, .int a9, .int a10, .int a11]))]) [0] (by decide) rfl
      have hKc := hK.sub (tys' := []) [] rfl
      have hFc := va_free (wc := [(q0, .inr (0, [.int a0, .int a1, .int a2, .int a3, .int a4, .int a5, .int a6, .int a7, .int a8, .int a9, .int a10, .int a11]))]) hD hS hA [0] rfl
      refine va_calli (va_runV (As := [.int (xs (x3 + 1).toNatClampNeg)]) (rest := []) ⟨hx, hb, hml, hown, hts⟩ (ct_X0_exception l dC dI q0 H.size a0 a1 a2 a3 a4 a5 a6 a7 a8 a9 a10 a11 (xs (x3 + 1).toNatClampNeg)) (cwV 1 hts gL_law_X0_exception rfl rfl rfl (by decide +kernel) ⟨Nat.le_of_ble_eq_true rfl, Nat.le_of_ble_eq_true rfl⟩) ⟨fun a U g mk q => by obtain ⟨q0, q1, qP, qK, qD⟩ := q; exact ⟨q0, q1, qP, va_K.moved (u := U) (U := U.calling g mk a) (Vm.Alike.refl U.vm) qK, qD⟩, va_recv hKc hPc (ci := 0) (q0 := 0) rfl rfl, fun U hU hW => ⟨rfl, by rw [hU], by rw [hU]; exact hPc, va_K.moved hW.alike hKc, hDc.weaken (fun _ _ _ _ => trivial)⟩⟩ rfl rfl hl.1 rfl (lv_room (Nat.le_of_ble_eq_true rfl)) dL_law_189 ⟨Nat.le_of_ble_eq_true rfl, Nat.le_of_ble_eq_true rfl⟩) hS (fun q _ h => hFc q h) hFc (fun r_11 u t H1 locs ht hvm hw hB hz1 hk1 hS => ?_)
      obtain ⟨er, hu⟩ := hw
      subst hu
      subst er
      obtain ⟨hP1, -, hD1⟩ := hB
      rw [ht] at hP1
      obtain ⟨hP, hD⟩ := va_join (wr := [(q1, .inr (1, [.int b0, .int b1, .int b2, .int b3, .int b4, .int b5, .int b6, .int b7, .int b8, .int b9, .int b10, .int b11, .ref q2])), (q2, .inl (cA, 7, .inl ff))]) (w1 := [(q0, .inr (0, [.int a0, .int a1, .int a2, .int a3, .int a4, .int a5, .int a6, .int a7, .int a8, .int a9, .int a10, .int a11]))]) hP hD [0] [1, 2] rfl rfl (by decide) (by decide) hk1 hFc hP1 hD1
      generalize H1 = H at hP hS ⊢
      have hP := hP.sub (ws' := [(q0, .inr (0, [.int a0, .int a1, .int a2, .int a3, .int a4, .int a5, .int a6, .int a7, .int a8, .int a9, .int a10, .int a11])), (q1, .inr (1, [.int b0, .int b1, .int b2, .int b3, .int b4, .int b5, .int b6, .int b7, .int b8, .int b9, .int b10, .int b11, .ref q2])), (q2, .inl (cA, 7, .inl ff))]) [2, 0, 1] rfl
      have hD := hD.sub (ws' := [(q0, .inr (0, [.int a0, .int a1, .int a2, .int a3, .int a4, .int a5, .int a6, .int a7, .int a8, .int a9, .int a10, .int a11])), (q1, .inr (1, [.int b0, .int b1, .int b2, .int b3, .int b4, .int b5, .int b6, .int b7, .int b8, .int b9, .int b10, .int b11, .ref q2])), (q2, .inl (cA, 7, .inl ff))]) [2, 0, 1] (by decide) rfl
      have hP : va_P (dC, dI) vwCl [(q0, .inr (0, [.int a0, .int a1, .int a2, .int a3, .int a4, .int a5, .int a6, .int a7, .int a8, .int a9, .int a10, .int a11])), (q1, .inr (1, [.int b0, .int b1, .int b2, .int b3, .int b4, .int b5, .int b6, .int b7, .int b8, .int b9, .int b10, .int b11, .ref q2])), (q2, .inl (cA, 7, .inl ff))] H := hP
      have hD : va_D (fun q : Nat => s.heap.size ≤ q) [(q0, .inr (0, [.int a0, .int a1, .int a2, .int a3, .int a4, .int a5, .int a6, .int a7, .int a8, .int a9, .int a10, .int a11])), (q1, .inr (1, [.int b0, .int b1, .int b2, .int b3, .int b4, .int b5, .int b6, .int b7, .int b8, .int b9, .int b10, .int b11, .ref q2])), (q2, .inl (cA, 7, .inl ff))] := hD
      refine lv_pop hx hb dL_law_192 rfl ?_
      refine lv_aload_n hx hb dL_law_193 rfl (lv_at hl 2 rfl) ?_
      refine lv_aload_n hx hb dL_law_194 rfl (lv_at hl 0 rfl) ?_
      refine lv_iload_n hx hb dL_law_195 rfl (lv_at hl 3 rfl) ?_
      refine lv_iconst (v := 1) hx hb dL_law_196 (by decide) ?_
      refine lv_iadd hx hb dL_law_197 ?_
      refine va_sld hx hb hX hbl hbA hS hin1 dL_law_198 ?_
      have hPc := hP.sub (ws' := [(q1, .inr (1, [.int b0, .int b1, .int b2, .int b3, .int b4, .int b5, .int b6, .int b7, .int b8, .int b9, .int b10, .int b11, .ref q2]))]) [1] rfl
      have hDc := hD.sub (ws' := [(q1, .inr (1, [.int b0, .int b1, .int b2, .int b3, .int b4, .int b5, .int b6, .int b7, .int b8, .int b9, .int b10, .int b11, .ref q2]))]) [1] (by decide) rfl
      have hKc := hK.sub (tys' := []) [] rfl
      have hFc := va_free (wc := [(q1, .inr (1, [.int b0, .int b1, .int b2, .int b3, .int b4, .int b5, .int b6, .int b7, .int b8, .int b9, .int b10, .int b11, .ref q2]))]) hD hS hA [1] rfl
      refine va_calli (va_runV (As := [.int (xs (x3 + 1).toNatClampNeg)]) (rest := []) ⟨hx, hb, hml, hown, hts⟩ (ct_X1_exception l dC dI q1 q2 H.size b0 b1 b2 b3 b4 b5 b6 b7 b8 b9 b10 b11 (xs (x3 + 1).toNatClampNeg)) (cwV 1 hts gL_law_X1_exception rfl rfl rfl (by decide +kernel) ⟨Nat.le_of_ble_eq_true rfl, Nat.le_of_ble_eq_true rfl⟩) ⟨fun a U g mk q => by obtain ⟨q0, q1, qP, qK, qD⟩ := q; exact ⟨q0, q1, qP, va_K.moved (u := U) (U := U.calling g mk a) (Vm.Alike.refl U.vm) qK, qD⟩, va_recv hKc hPc (ci := 1) (q0 := 0) rfl rfl, fun U hU hW => ⟨rfl, by rw [hU], by rw [hU]; exact hPc, va_K.moved hW.alike hKc, hDc.weaken (fun _ _ _ _ => trivial)⟩⟩ rfl rfl hl.1 rfl (lv_room (Nat.le_of_ble_eq_true rfl)) dL_law_199 ⟨Nat.le_of_ble_eq_true rfl, Nat.le_of_ble_eq_true rfl⟩) hS (fun q _ h => hFc q h) hFc (fun r_12 u t H1 locs ht hvm hw hB hz1 hk1 hS => ?_)
      obtain ⟨er, hu⟩ := hw
      subst hu
      subst er
      obtain ⟨hP1, -, hD1⟩ := hB
      rw [ht] at hP1
      obtain ⟨hP, hD⟩ := va_join (wr := [(q0, .inr (0, [.int a0, .int a1, .int a2, .int a3, .int a4, .int a5, .int a6, .int a7, .int a8, .int a9, .int a10, .int a11])), (q2, .inl (cA, 7, .inl ff))]) (w1 := [(q1, .inr (1, [.int gx_X1_exception_0, .int b1, .int b2, .int b3, .int b4, .int b5, .int b6, .int b7, .int b8, .int b9, .int b10, .int b11, .ref q2]))]) hP hD [1] [0, 2] rfl rfl (by decide) (by decide) hk1 hFc hP1 hD1
      generalize H1 = H at hP hS ⊢
      have hP := hP.sub (ws' := [(q0, .inr (0, [.int a0, .int a1, .int a2, .int a3, .int a4, .int a5, .int a6, .int a7, .int a8, .int a9, .int a10, .int a11])), (q1, .inr (1, [.int gx_X1_exception_0, .int b1, .int b2, .int b3, .int b4, .int b5, .int b6, .int b7, .int b8, .int b9, .int b10, .int b11, .ref q2])), (q2, .inl (cA, 7, .inl ff))]) [0, 2, 1] rfl
      have hD := hD.sub (ws' := [(q0, .inr (0, [.int a0, .int a1, .int a2, .int a3, .int a4, .int a5, .int a6, .int a7, .int a8, .int a9, .int a10, .int a11])), (q1, .inr (1, [.int gx_X1_exception_0, .int b1, .int b2, .int b3, .int b4, .int b5, .int b6, .int b7, .int b8, .int b9, .int b10, .int b11, .ref q2])), (q2, .inl (cA, 7, .inl ff))]) [0, 2, 1] (by decide) rfl
      have hP : va_P (dC, dI) vwCl [(q0, .inr (0, [.int a0, .int a1, .int a2, .int a3, .int a4, .int a5, .int a6, .int a7, .int a8, .int a9, .int a10, .int a11])), (q1, .inr (1, [.int gx_X1_exception_0, .int b1, .int b2, .int b3, .int b4, .int b5, .int b6, .int b7, .int b8, .int b9, .int b10, .int b11, .ref q2])), (q2, .inl (cA, 7, .inl ff))] H := hP
      have hD : va_D (fun q : Nat => s.heap.size ≤ q) [(q0, .inr (0, [.int a0, .int a1, .int a2, .int a3, .int a4, .int a5, .int a6, .int a7, .int a8, .int a9, .int a10, .int a11])), (q1, .inr (1, [.int gx_X1_exception_0, .int b1, .int b2, .int b3, .int b4, .int b5, .int b6, .int b7, .int b8, .int b9, .int b10, .int b11, .ref q2])), (q2, .inl (cA, 7, .inl ff))] := hD
      refine lv_pop hx hb dL_law_202 rfl ?_
      refine lv_goto (tgt := 458) hx hb dL_law_203 (by decide) ?_
      have hR : Rel [a0, a1, a2, a3, a4, a5, a6, a7, a8, a9, a10, a11] [gx_X1_exception_0, b1, b2, b3, b4, b5, b6, b7, b8, b9, b10, b11] ff := (h_exception a0 a1 a2 a3 a4 a5 a6 a7 a8 a9 a10 a11 b0 b1 b2 b3 b4 b5 b6 b7 b8 b9 b10 b11 ff (xs (x3 + 1).toNatClampNeg) hR)
      obtain ⟨x3n, ex3n⟩ : ∃ y : Int32, y = x3 + 3 := ⟨_, rfl⟩
      refine lv_iinc (v := x3n) (lv' := [(3, .int x3n), (0, .ref b), (1, .ref q0), (2, .ref q1)]) hx hb dL_law_458 hl (k := 3) rfl (by rw [ex3n]; rfl) (by decide) rfl (fun ls hl => ?_)
      refine lv_goto (tgt := 28) hx hb dL_law_461 (by decide) ?_
      exact ih (i + 3) x3n (by omega) (by omega) (by rw [ex3n, ex3]; exact nI_add i 3) a0 a1 a2 a3 a4 a5 a6 a7 a8 a9 a10 a11 gx_X1_exception_0 b1 b2 b3 b4 b5 b6 b7 b8 b9 b10 b11 ff hR q0 q1 q2 cA _ _ hK hP hD hS ls (lv_sub hl [1, 2, 3, 0] rfl)
    by_cases c_13 : ((xs (x3).toNatClampNeg) &&& 15) = 4
    · refine lv_tableIn (off := 164) (tgt := 206) hx hb dL_law_42 (by rw [c_13]; decide) (by rw [c_13]; decide) (by rw [c_13]; rfl) (by decide) ?_
      refine lv_aload_n hx hb dL_law_206 rfl (lv_at hl 1 rfl) ?_
      refine lv_aload_n hx hb dL_law_207 rfl (lv_at hl 0 rfl) ?_
      refine lv_iload_n hx hb dL_law_208 rfl (lv_at hl 3 rfl) ?_
      refine lv_iconst (v := 1) hx hb dL_law_209 (by decide) ?_
      refine lv_iadd hx hb dL_law_210 ?_
      refine va_sld hx hb hX hbl hbA hS hin1 dL_law_211 ?_
      refine lv_if_eq (tgt := 219) hx hb dL_law_212 (by decide) (fun c_14 => ?_) (fun c_14 => ?_)
      · refine lv_iconst (v := 0) hx hb dL_law_219 (by decide) ?_
        have hPc := hP.sub (ws' := [(q0, .inr (0, [.int a0, .int a1, .int a2, .int a3, .int a4, .int a5, .int a6, .int a7, .int a8, .int a9, .int a10, .int a11]))]) [0] rfl
        have hDc := hD.sub (ws' := [(q0, .inr (0, [.int a0, .int a1, .int a2, .int a3, .int a4, .int a5, .int a6, .int a7, .int a8, .int a9, .int a10, .int a11]))]) [0] (by decide) rfl
        have hKc := hK.sub (tys' := []) [] rfl
        have hFc := va_free (wc := [(q0, .inr (0, [.int a0, .int a1, .int a2, .int a3, .int a4, .int a5, .int a6, .int a7, .int a8, .int a9, .int a10, .int a11]))]) hD hS hA [0] rfl
        refine va_calli (va_runV (As := [.int 0]) (rest := []) ⟨hx, hb, hml, hown, hts⟩ (ct_X0_phrase l dC dI q0 H.size a0 a1 a2 a3 a4 a5 a6 a7 a8 a9 a10 a11 0) (cwV 1 hts gL_law_X0_phrase rfl rfl rfl (by decide +kernel) ⟨Nat.le_of_ble_eq_true rfl, Nat.le_of_ble_eq_true rfl⟩) ⟨fun a U g mk q => by obtain ⟨q0, q1, qP, qK, qD⟩ := q; exact ⟨q0, q1, qP, va_K.moved (u := U) (U := U.calling g mk a) (Vm.Alike.refl U.vm) qK, qD⟩, va_recv hKc hPc (ci := 0) (q0 := 0) rfl rfl, fun U hU hW => ⟨rfl, by rw [hU], by rw [hU]; exact hPc, va_K.moved hW.alike hKc, hDc.weaken (fun _ _ _ _ => trivial)⟩⟩ rfl rfl hl.1 rfl (lv_room (Nat.le_of_ble_eq_true rfl)) dL_law_220 ⟨Nat.le_of_ble_eq_true rfl, Nat.le_of_ble_eq_true rfl⟩) hS (fun q _ h => hFc q h) hFc (fun r_15 u t H1 locs ht hvm hw hB hz1 hk1 hS => ?_)
        obtain ⟨er, hu⟩ := hw
        subst hu
        subst er
        obtain ⟨hP1, -, hD1⟩ := hB
        rw [ht] at hP1
        obtain ⟨hP, hD⟩ := va_join (wr := [(q1, .inr (1, [.int b0, .int b1, .int b2, .int b3, .int b4, .int b5, .int b6, .int b7, .int b8, .int b9, .int b10, .int b11, .ref q2])), (q2, .inl (cA, 7, .inl ff))]) (w1 := [(q0, .inr (0, [.int a0, .int a1, .int a2, .int a3, .int a4, .int a5, .int a6, .int a7, .int a8, .int a9, .int a10, .int a11]))]) hP hD [0] [1, 2] rfl rfl (by decide) (by decide) hk1 hFc hP1 hD1
        generalize H1 = H at hP hS ⊢
        have hP := hP.sub (ws' := [(q0, .inr (0, [.int a0, .int a1, .int a2, .int a3, .int a4, .int a5, .int a6, .int a7, .int a8, .int a9, .int a10, .int a11])), (q1, .inr (1, [.int b0, .int b1, .int b2, .int b3, .int b4, .int b5, .int b6, .int b7, .int b8, .int b9, .int b10, .int b11, .ref q2])), (q2, .inl (cA, 7, .inl ff))]) [2, 0, 1] rfl
        have hD := hD.sub (ws' := [(q0, .inr (0, [.int a0, .int a1, .int a2, .int a3, .int a4, .int a5, .int a6, .int a7, .int a8, .int a9, .int a10, .int a11])), (q1, .inr (1, [.int b0, .int b1, .int b2, .int b3, .int b4, .int b5, .int b6, .int b7, .int b8, .int b9, .int b10, .int b11, .ref q2])), (q2, .inl (cA, 7, .inl ff))]) [2, 0, 1] (by decide) rfl
        have hP : va_P (dC, dI) vwCl [(q0, .inr (0, [.int a0, .int a1, .int a2, .int a3, .int a4, .int a5, .int a6, .int a7, .int a8, .int a9, .int a10, .int a11])), (q1, .inr (1, [.int b0, .int b1, .int b2, .int b3, .int b4, .int b5, .int b6, .int b7, .int b8, .int b9, .int b10, .int b11, .ref q2])), (q2, .inl (cA, 7, .inl ff))] H := hP
        have hD : va_D (fun q : Nat => s.heap.size ≤ q) [(q0, .inr (0, [.int a0, .int a1, .int a2, .int a3, .int a4, .int a5, .int a6, .int a7, .int a8, .int a9, .int a10, .int a11])), (q1, .inr (1, [.int b0, .int b1, .int b2, .int b3, .int b4, .int b5, .int b6, .int b7, .int b8, .int b9, .int b10, .int b11, .ref q2])), (q2, .inl (cA, 7, .inl ff))] := hD
        refine lv_pop hx hb dL_law_223 rfl ?_
        refine lv_aload_n hx hb dL_law_224 rfl (lv_at hl 2 rfl) ?_
        refine lv_aload_n hx hb dL_law_225 rfl (lv_at hl 0 rfl) ?_
        refine lv_iload_n hx hb dL_law_226 rfl (lv_at hl 3 rfl) ?_
        refine lv_iconst (v := 1) hx hb dL_law_227 (by decide) ?_
        refine lv_iadd hx hb dL_law_228 ?_
        refine va_sld hx hb hX hbl hbA hS hin1 dL_law_229 ?_
        refine lv_if_eq (tgt := 237) hx hb dL_law_230 (by decide) (fun c9 => ?_) (fun c9 => absurd c_14 c9)
        refine lv_iconst (v := 0) hx hb dL_law_237 (by decide) ?_
        have hPc := hP.sub (ws' := [(q1, .inr (1, [.int b0, .int b1, .int b2, .int b3, .int b4, .int b5, .int b6, .int b7, .int b8, .int b9, .int b10, .int b11, .ref q2])), (q2, .inl (cA, 7, .inl ff))]) [1, 2] rfl
        have hDc := hD.sub (ws' := [(q1, .inr (1, [.int b0, .int b1, .int b2, .int b3, .int b4, .int b5, .int b6, .int b7, .int b8, .int b9, .int b10, .int b11, .ref q2])), (q2, .inl (cA, 7, .inl ff))]) [1, 2] (by decide) rfl
        have hKc := hK.sub (tys' := [(cA, .boolean)]) [0] rfl
        have hFc := va_free (wc := [(q1, .inr (1, [.int b0, .int b1, .int b2, .int b3, .int b4, .int b5, .int b6, .int b7, .int b8, .int b9, .int b10, .int b11, .ref q2])), (q2, .inl (cA, 7, .inl ff))]) hD hS hA [1, 2] rfl
        refine va_calli (va_runV (As := [.int 0]) (rest := []) ⟨hx, hb, hml, hown, hts⟩ (ct_X1_phrase l dC dI q1 q2 cA ff H.size b0 b1 b2 b3 b4 b5 b6 b7 b8 b9 b10 b11 0 (h_kind a0 a1 a2 a3 a4 a5 a6 a7 a8 a9 a10 a11 b0 b1 b2 b3 b4 b5 b6 b7 b8 b9 b10 b11 ff hR)) (cwV 1 hts gL_law_X1_phrase rfl rfl rfl (by decide +kernel) ⟨Nat.le_of_ble_eq_true rfl, Nat.le_of_ble_eq_true rfl⟩) ⟨fun a U g mk q => by obtain ⟨q0, q1, qP, qK, qD⟩ := q; exact ⟨q0, q1, qP, va_K.moved (u := U) (U := U.calling g mk a) (Vm.Alike.refl U.vm) qK, qD⟩, va_recv hKc hPc (ci := 1) (q0 := 0) rfl rfl, fun U hU hW => ⟨rfl, by rw [hU], by rw [hU]; exact hPc, va_K.moved hW.alike hKc, hDc.weaken (fun _ _ _ _ => trivial)⟩⟩ rfl rfl hl.1 rfl (lv_room (Nat.le_of_ble_eq_true rfl)) dL_law_238 ⟨Nat.le_of_ble_eq_true rfl, Nat.le_of_ble_eq_true rfl⟩) hS (fun q _ h => hFc q h) hFc (fun r_16 u t H1 locs ht hvm hw hB hz1 hk1 hS => ?_)
        obtain ⟨er, hu⟩ := hw
        subst hu
        subst er
        obtain ⟨hP1, -, hD1⟩ := hB
        rw [ht] at hP1
        obtain ⟨hP, hD⟩ := va_join (wr := [(q0, .inr (0, [.int a0, .int a1, .int a2, .int a3, .int a4, .int a5, .int a6, .int a7, .int a8, .int a9, .int a10, .int a11]))]) (w1 := [(q1, .inr (1, [.int gx_X1_phrase_0, .int b1, .int b2, .int b3, .int b4, .int b5, .int b6, .int b7, .int b8, .int b9, .int b10, .int b11, .ref q2])), (q2, .inl (cA, 7, .inl ff))]) hP hD [1, 2] [0] rfl rfl (by decide) (by decide) hk1 hFc hP1 hD1
        generalize H1 = H at hP hS ⊢
        have hP : va_P (dC, dI) vwCl [(q0, .inr (0, [.int a0, .int a1, .int a2, .int a3, .int a4, .int a5, .int a6, .int a7, .int a8, .int a9, .int a10, .int a11])), (q1, .inr (1, [.int gx_X1_phrase_0, .int b1, .int b2, .int b3, .int b4, .int b5, .int b6, .int b7, .int b8, .int b9, .int b10, .int b11, .ref q2])), (q2, .inl (cA, 7, .inl ff))] H := hP
        have hD : va_D (fun q : Nat => s.heap.size ≤ q) [(q0, .inr (0, [.int a0, .int a1, .int a2, .int a3, .int a4, .int a5, .int a6, .int a7, .int a8, .int a9, .int a10, .int a11])), (q1, .inr (1, [.int gx_X1_phrase_0, .int b1, .int b2, .int b3, .int b4, .int b5, .int b6, .int b7, .int b8, .int b9, .int b10, .int b11, .ref q2])), (q2, .inl (cA, 7, .inl ff))] := hD
        refine lv_pop hx hb dL_law_241 rfl ?_
        refine lv_goto (tgt := 458) hx hb dL_law_242 (by decide) ?_
        have hR : Rel [a0, a1, a2, a3, a4, a5, a6, a7, a8, a9, a10, a11] [gx_X1_phrase_0, b1, b2, b3, b4, b5, b6, b7, b8, b9, b10, b11] ff := (h_phrase a0 a1 a2 a3 a4 a5 a6 a7 a8 a9 a10 a11 b0 b1 b2 b3 b4 b5 b6 b7 b8 b9 b10 b11 ff 0 hR (by decide))
        obtain ⟨x3n, ex3n⟩ : ∃ y : Int32, y = x3 + 3 := ⟨_, rfl⟩
        refine lv_iinc (v := x3n) (lv' := [(3, .int x3n), (0, .ref b), (1, .ref q0), (2, .ref q1)]) hx hb dL_law_458 hl (k := 3) rfl (by rw [ex3n]; rfl) (by decide) rfl (fun ls hl => ?_)
        refine lv_goto (tgt := 28) hx hb dL_law_461 (by decide) ?_
        exact ih (i + 3) x3n (by omega) (by omega) (by rw [ex3n, ex3]; exact nI_add i 3) a0 a1 a2 a3 a4 a5 a6 a7 a8 a9 a10 a11 gx_X1_phrase_0 b1 b2 b3 b4 b5 b6 b7 b8 b9 b10 b11 ff hR q0 q1 q2 cA _ _ hK hP hD hS ls (lv_sub hl [1, 2, 3, 0] rfl)
      refine lv_iconst (v := 1) hx hb dL_law_215 (by decide) ?_
      refine lv_goto (tgt := 220) hx hb dL_law_216 (by decide) ?_
      have hPc := hP.sub (ws' := [(q0, .inr (0, [.int a0, .int a1, .int a2, .int a3, .int a4, .int a5, .int a6, .int a7, .int a8, .int a9, .int a10, .int a11]))]) [0] rfl
      have hDc := hD.sub (ws' := [(q0, .inr (0, [.int a0, .int a1, .int a2, .int a3, .int a4, .int a5, .int a6, .int a7, .int a8, .int a9, .int a10, .int a11]))]) [0] (by decide) rfl
      have hKc := hK.sub (tys' := []) [] rfl
      have hFc := va_free (wc := [(q0, .inr (0, [.int a0, .int a1, .int a2, .int a3, .int a4, .int a5, .int a6, .int a7, .int a8, .int a9, .int a10, .int a11]))]) hD hS hA [0] rfl
      refine va_calli (va_runV (As := [.int 1]) (rest := []) ⟨hx, hb, hml, hown, hts⟩ (ct_X0_phrase l dC dI q0 H.size a0 a1 a2 a3 a4 a5 a6 a7 a8 a9 a10 a11 1) (cwV 1 hts gL_law_X0_phrase rfl rfl rfl (by decide +kernel) ⟨Nat.le_of_ble_eq_true rfl, Nat.le_of_ble_eq_true rfl⟩) ⟨fun a U g mk q => by obtain ⟨q0, q1, qP, qK, qD⟩ := q; exact ⟨q0, q1, qP, va_K.moved (u := U) (U := U.calling g mk a) (Vm.Alike.refl U.vm) qK, qD⟩, va_recv hKc hPc (ci := 0) (q0 := 0) rfl rfl, fun U hU hW => ⟨rfl, by rw [hU], by rw [hU]; exact hPc, va_K.moved hW.alike hKc, hDc.weaken (fun _ _ _ _ => trivial)⟩⟩ rfl rfl hl.1 rfl (lv_room (Nat.le_of_ble_eq_true rfl)) dL_law_220 ⟨Nat.le_of_ble_eq_true rfl, Nat.le_of_ble_eq_true rfl⟩) hS (fun q _ h => hFc q h) hFc (fun r_17 u t H1 locs ht hvm hw hB hz1 hk1 hS => ?_)
      obtain ⟨er, hu⟩ := hw
      subst hu
      subst er
      obtain ⟨hP1, -, hD1⟩ := hB
      rw [ht] at hP1
      obtain ⟨hP, hD⟩ := va_join (wr := [(q1, .inr (1, [.int b0, .int b1, .int b2, .int b3, .int b4, .int b5, .int b6, .int b7, .int b8, .int b9, .int b10, .int b11, .ref q2])), (q2, .inl (cA, 7, .inl ff))]) (w1 := [(q0, .inr (0, [.int a0, .int a1, .int a2, .int a3, .int a4, .int a5, .int a6, .int a7, .int a8, .int a9, .int a10, .int a11]))]) hP hD [0] [1, 2] rfl rfl (by decide) (by decide) hk1 hFc hP1 hD1
      generalize H1 = H at hP hS ⊢
      have hP := hP.sub (ws' := [(q0, .inr (0, [.int a0, .int a1, .int a2, .int a3, .int a4, .int a5, .int a6, .int a7, .int a8, .int a9, .int a10, .int a11])), (q1, .inr (1, [.int b0, .int b1, .int b2, .int b3, .int b4, .int b5, .int b6, .int b7, .int b8, .int b9, .int b10, .int b11, .ref q2])), (q2, .inl (cA, 7, .inl ff))]) [2, 0, 1] rfl
      have hD := hD.sub (ws' := [(q0, .inr (0, [.int a0, .int a1, .int a2, .int a3, .int a4, .int a5, .int a6, .int a7, .int a8, .int a9, .int a10, .int a11])), (q1, .inr (1, [.int b0, .int b1, .int b2, .int b3, .int b4, .int b5, .int b6, .int b7, .int b8, .int b9, .int b10, .int b11, .ref q2])), (q2, .inl (cA, 7, .inl ff))]) [2, 0, 1] (by decide) rfl
      have hP : va_P (dC, dI) vwCl [(q0, .inr (0, [.int a0, .int a1, .int a2, .int a3, .int a4, .int a5, .int a6, .int a7, .int a8, .int a9, .int a10, .int a11])), (q1, .inr (1, [.int b0, .int b1, .int b2, .int b3, .int b4, .int b5, .int b6, .int b7, .int b8, .int b9, .int b10, .int b11, .ref q2])), (q2, .inl (cA, 7, .inl ff))] H := hP
      have hD : va_D (fun q : Nat => s.heap.size ≤ q) [(q0, .inr (0, [.int a0, .int a1, .int a2, .int a3, .int a4, .int a5, .int a6, .int a7, .int a8, .int a9, .int a10, .int a11])), (q1, .inr (1, [.int b0, .int b1, .int b2, .int b3, .int b4, .int b5, .int b6, .int b7, .int b8, .int b9, .int b10, .int b11, .ref q2])), (q2, .inl (cA, 7, .inl ff))] := hD
      refine lv_pop hx hb dL_law_223 rfl ?_
      refine lv_aload_n hx hb dL_law_224 rfl (lv_at hl 2 rfl) ?_
      refine lv_aload_n hx hb dL_law_225 rfl (lv_at hl 0 rfl) ?_
      refine lv_iload_n hx hb dL_law_226 rfl (lv_at hl 3 rfl) ?_
      refine lv_iconst (v := 1) hx hb dL_law_227 (by decide) ?_
      refine lv_iadd hx hb dL_law_228 ?_
      refine va_sld hx hb hX hbl hbA hS hin1 dL_law_229 ?_
      refine lv_if_eq (tgt := 237) hx hb dL_law_230 (by decide) (fun c9 => absurd c9 c_14) (fun c9 => ?_)
      refine lv_iconst (v := 1) hx hb dL_law_233 (by decide) ?_
      refine lv_goto (tgt := 238) hx hb dL_law_234 (by decide) ?_
      have hPc := hP.sub (ws' := [(q1, .inr (1, [.int b0, .int b1, .int b2, .int b3, .int b4, .int b5, .int b6, .int b7, .int b8, .int b9, .int b10, .int b11, .ref q2])), (q2, .inl (cA, 7, .inl ff))]) [1, 2] rfl
      have hDc := hD.sub (ws' := [(q1, .inr (1, [.int b0, .int b1, .int b2, .int b3, .int b4, .int b5, .int b6, .int b7, .int b8, .int b9, .int b10, .int b11, .ref q2])), (q2, .inl (cA, 7, .inl ff))]) [1, 2] (by decide) rfl
      have hKc := hK.sub (tys' := [(cA, .boolean)]) [0] rfl
      have hFc := va_free (wc := [(q1, .inr (1, [.int b0, .int b1, .int b2, .int b3, .int b4, .int b5, .int b6, .int b7, .int b8, .int b9, .int b10, .int b11, .ref q2])), (q2, .inl (cA, 7, .inl ff))]) hD hS hA [1, 2] rfl
      refine va_calli (va_runV (As := [.int 1]) (rest := []) ⟨hx, hb, hml, hown, hts⟩ (ct_X1_phrase l dC dI q1 q2 cA ff H.size b0 b1 b2 b3 b4 b5 b6 b7 b8 b9 b10 b11 1 (h_kind a0 a1 a2 a3 a4 a5 a6 a7 a8 a9 a10 a11 b0 b1 b2 b3 b4 b5 b6 b7 b8 b9 b10 b11 ff hR)) (cwV 1 hts gL_law_X1_phrase rfl rfl rfl (by decide +kernel) ⟨Nat.le_of_ble_eq_true rfl, Nat.le_of_ble_eq_true rfl⟩) ⟨fun a U g mk q => by obtain ⟨q0, q1, qP, qK, qD⟩ := q; exact ⟨q0, q1, qP, va_K.moved (u := U) (U := U.calling g mk a) (Vm.Alike.refl U.vm) qK, qD⟩, va_recv hKc hPc (ci := 1) (q0 := 0) rfl rfl, fun U hU hW => ⟨rfl, by rw [hU], by rw [hU]; exact hPc, va_K.moved hW.alike hKc, hDc.weaken (fun _ _ _ _ => trivial)⟩⟩ rfl rfl hl.1 rfl (lv_room (Nat.le_of_ble_eq_true rfl)) dL_law_238 ⟨Nat.le_of_ble_eq_true rfl, Nat.le_of_ble_eq_true rfl⟩) hS (fun q _ h => hFc q h) hFc (fun r_18 u t H1 locs ht hvm hw hB hz1 hk1 hS => ?_)
      obtain ⟨er, hu⟩ := hw
      subst hu
      subst er
      obtain ⟨hP1, -, hD1⟩ := hB
      rw [ht] at hP1
      obtain ⟨hP, hD⟩ := va_join (wr := [(q0, .inr (0, [.int a0, .int a1, .int a2, .int a3, .int a4, .int a5, .int a6, .int a7, .int a8, .int a9, .int a10, .int a11]))]) (w1 := [(q1, .inr (1, [.int gx_X1_phrase_0, .int b1, .int b2, .int b3, .int b4, .int b5, .int b6, .int b7, .int b8, .int b9, .int b10, .int b11, .ref q2])), (q2, .inl (cA, 7, .inl ff))]) hP hD [1, 2] [0] rfl rfl (by decide) (by decide) hk1 hFc hP1 hD1
      generalize H1 = H at hP hS ⊢
      have hP : va_P (dC, dI) vwCl [(q0, .inr (0, [.int a0, .int a1, .int a2, .int a3, .int a4, .int a5, .int a6, .int a7, .int a8, .int a9, .int a10, .int a11])), (q1, .inr (1, [.int gx_X1_phrase_0, .int b1, .int b2, .int b3, .int b4, .int b5, .int b6, .int b7, .int b8, .int b9, .int b10, .int b11, .ref q2])), (q2, .inl (cA, 7, .inl ff))] H := hP
      have hD : va_D (fun q : Nat => s.heap.size ≤ q) [(q0, .inr (0, [.int a0, .int a1, .int a2, .int a3, .int a4, .int a5, .int a6, .int a7, .int a8, .int a9, .int a10, .int a11])), (q1, .inr (1, [.int gx_X1_phrase_0, .int b1, .int b2, .int b3, .int b4, .int b5, .int b6, .int b7, .int b8, .int b9, .int b10, .int b11, .ref q2])), (q2, .inl (cA, 7, .inl ff))] := hD
      refine lv_pop hx hb dL_law_241 rfl ?_
      refine lv_goto (tgt := 458) hx hb dL_law_242 (by decide) ?_
      have hR : Rel [a0, a1, a2, a3, a4, a5, a6, a7, a8, a9, a10, a11] [gx_X1_phrase_0, b1, b2, b3, b4, b5, b6, b7, b8, b9, b10, b11] ff := (h_phrase a0 a1 a2 a3 a4 a5 a6 a7 a8 a9 a10 a11 b0 b1 b2 b3 b4 b5 b6 b7 b8 b9 b10 b11 ff 1 hR (by decide))
      obtain ⟨x3n, ex3n⟩ : ∃ y : Int32, y = x3 + 3 := ⟨_, rfl⟩
      refine lv_iinc (v := x3n) (lv' := [(3, .int x3n), (0, .ref b), (1, .ref q0), (2, .ref q1)]) hx hb dL_law_458 hl (k := 3) rfl (by rw [ex3n]; rfl) (by decide) rfl (fun ls hl => ?_)
      refine lv_goto (tgt := 28) hx hb dL_law_461 (by decide) ?_
      exact ih (i + 3) x3n (by omega) (by omega) (by rw [ex3n, ex3]; exact nI_add i 3) a0 a1 a2 a3 a4 a5 a6 a7 a8 a9 a10 a11 gx_X1_phrase_0 b1 b2 b3 b4 b5 b6 b7 b8 b9 b10 b11 ff hR q0 q1 q2 cA _ _ hK hP hD hS ls (lv_sub hl [1, 2, 3, 0] rfl)
    by_cases c_19 : ((xs (x3).toNatClampNeg) &&& 15) = 5
    · refine lv_tableIn (off := 203) (tgt := 245) hx hb dL_law_42 (by rw [c_19]; decide) (by rw [c_19]; decide) (by rw [c_19]; rfl) (by decide) ?_
      refine lv_aload_n hx hb dL_law_245 rfl (lv_at hl 1 rfl) ?_
      refine lv_aload_n hx hb dL_law_246 rfl (lv_at hl 0 rfl) ?_
      refine lv_iload_n hx hb dL_law_247 rfl (lv_at hl 3 rfl) ?_
      refine lv_iconst (v := 1) hx hb dL_law_248 (by decide) ?_
      refine lv_iadd hx hb dL_law_249 ?_
      refine va_sld hx hb hX hbl hbA hS hin1 dL_law_250 ?_
      refine lv_aload_n hx hb dL_law_251 rfl (lv_at hl 0 rfl) ?_
      refine lv_iload_n hx hb dL_law_252 rfl (lv_at hl 3 rfl) ?_
      refine lv_iconst (v := 2) hx hb dL_law_253 (by decide) ?_
      refine lv_iadd hx hb dL_law_254 ?_
      refine va_sld hx hb hX hbl hbA hS hin2 dL_law_255 ?_
      refine lv_if_eq (tgt := 263) hx hb dL_law_256 (by decide) (fun c_20 => ?_) (fun c_20 => ?_)
      · refine lv_iconst (v := 0) hx hb dL_law_263 (by decide) ?_
        have hPc := hP.sub (ws' := [(q0, .inr (0, [.int a0, .int a1, .int a2, .int a3, .int a4, .int a5, .int a6, .int a7, .int a8, .int a9, .int a10, .int a11]))]) [0] rfl
        have hDc := hD.sub (ws' := [(q0, .inr (0, [.int a0, .int a1, .int a2, .int a3, .int a4, .int a5, .int a6, .int a7, .int a8, .int a9, .int a10, .int a11]))]) [0] (by decide) rfl
        have hKc := hK.sub (tys' := []) [] rfl
        have hFc := va_free (wc := [(q0, .inr (0, [.int a0, .int a1, .int a2, .int a3, .int a4, .int a5, .int a6, .int a7, .int a8, .int a9, .int a10, .int a11]))]) hD hS hA [0] rfl
        refine va_calli (va_runV (As := [.int (xs (x3 + 1).toNatClampNeg), .int 0]) (rest := []) ⟨hx, hb, hml, hown, hts⟩ (ct_X0_declarative l dC dI q0 H.size a0 a1 a2 a3 a4 a5 a6 a7 a8 a9 a10 a11 (xs (x3 + 1).toNatClampNeg) 0) (cwV 2 hts gL_law_X0_declarative rfl rfl rfl (by decide +kernel) ⟨Nat.le_of_ble_eq_true rfl, Nat.le_of_ble_eq_true rfl⟩) ⟨fun a U g mk q => by obtain ⟨q0, q1, qP, qK, qD⟩ := q; exact ⟨q0, q1, qP, va_K.moved (u := U) (U := U.calling g mk a) (Vm.Alike.refl U.vm) qK, qD⟩, va_recv hKc hPc (ci := 0) (q0 := 0) rfl rfl, fun U hU hW => ⟨rfl, by rw [hU], by rw [hU]; exact hPc, va_K.moved hW.alike hKc, hDc.weaken (fun _ _ _ _ => trivial)⟩⟩ rfl rfl hl.1 rfl (lv_room (Nat.le_of_ble_eq_true rfl)) dL_law_264 ⟨Nat.le_of_ble_eq_true rfl, Nat.le_of_ble_eq_true rfl⟩) hS (fun q _ h => hFc q h) hFc (fun r_21 u t H1 locs ht hvm hw hB hz1 hk1 hS => ?_)
        obtain ⟨er, hu⟩ := hw
        subst hu
        subst er
        obtain ⟨hP1, -, hD1⟩ := hB
        rw [ht] at hP1
        obtain ⟨hP, hD⟩ := va_join (wr := [(q1, .inr (1, [.int b0, .int b1, .int b2, .int b3, .int b4, .int b5, .int b6, .int b7, .int b8, .int b9, .int b10, .int b11, .ref q2])), (q2, .inl (cA, 7, .inl ff))]) (w1 := [(q0, .inr (0, [.int a0, .int a1, .int a2, .int a3, .int a4, .int a5, .int a6, .int a7, .int a8, .int (gx_X0_declarative_9 a9 (xs (x3 + 1).toNatClampNeg) 0), .int a10, .int a11]))]) hP hD [0] [1, 2] rfl rfl (by decide) (by decide) hk1 hFc hP1 hD1
        generalize H1 = H at hP hS ⊢
        have hP := hP.sub (ws' := [(q0, .inr (0, [.int a0, .int a1, .int a2, .int a3, .int a4, .int a5, .int a6, .int a7, .int a8, .int (gx_X0_declarative_9 a9 (xs (x3 + 1).toNatClampNeg) 0), .int a10, .int a11])), (q1, .inr (1, [.int b0, .int b1, .int b2, .int b3, .int b4, .int b5, .int b6, .int b7, .int b8, .int b9, .int b10, .int b11, .ref q2])), (q2, .inl (cA, 7, .inl ff))]) [2, 0, 1] rfl
        have hD := hD.sub (ws' := [(q0, .inr (0, [.int a0, .int a1, .int a2, .int a3, .int a4, .int a5, .int a6, .int a7, .int a8, .int (gx_X0_declarative_9 a9 (xs (x3 + 1).toNatClampNeg) 0), .int a10, .int a11])), (q1, .inr (1, [.int b0, .int b1, .int b2, .int b3, .int b4, .int b5, .int b6, .int b7, .int b8, .int b9, .int b10, .int b11, .ref q2])), (q2, .inl (cA, 7, .inl ff))]) [2, 0, 1] (by decide) rfl
        have hP : va_P (dC, dI) vwCl [(q0, .inr (0, [.int a0, .int a1, .int a2, .int a3, .int a4, .int a5, .int a6, .int a7, .int a8, .int (gx_X0_declarative_9 a9 (xs (x3 + 1).toNatClampNeg) 0), .int a10, .int a11])), (q1, .inr (1, [.int b0, .int b1, .int b2, .int b3, .int b4, .int b5, .int b6, .int b7, .int b8, .int b9, .int b10, .int b11, .ref q2])), (q2, .inl (cA, 7, .inl ff))] H := hP
        have hD : va_D (fun q : Nat => s.heap.size ≤ q) [(q0, .inr (0, [.int a0, .int a1, .int a2, .int a3, .int a4, .int a5, .int a6, .int a7, .int a8, .int (gx_X0_declarative_9 a9 (xs (x3 + 1).toNatClampNeg) 0), .int a10, .int a11])), (q1, .inr (1, [.int b0, .int b1, .int b2, .int b3, .int b4, .int b5, .int b6, .int b7, .int b8, .int b9, .int b10, .int b11, .ref q2])), (q2, .inl (cA, 7, .inl ff))] := hD
        refine lv_pop hx hb dL_law_267 rfl ?_
        refine lv_aload_n hx hb dL_law_268 rfl (lv_at hl 2 rfl) ?_
        refine lv_aload_n hx hb dL_law_269 rfl (lv_at hl 0 rfl) ?_
        refine lv_iload_n hx hb dL_law_270 rfl (lv_at hl 3 rfl) ?_
        refine lv_iconst (v := 1) hx hb dL_law_271 (by decide) ?_
        refine lv_iadd hx hb dL_law_272 ?_
        refine va_sld hx hb hX hbl hbA hS hin1 dL_law_273 ?_
        refine lv_aload_n hx hb dL_law_274 rfl (lv_at hl 0 rfl) ?_
        refine lv_iload_n hx hb dL_law_275 rfl (lv_at hl 3 rfl) ?_
        refine lv_iconst (v := 2) hx hb dL_law_276 (by decide) ?_
        refine lv_iadd hx hb dL_law_277 ?_
        refine va_sld hx hb hX hbl hbA hS hin2 dL_law_278 ?_
        refine lv_if_eq (tgt := 286) hx hb dL_law_279 (by decide) (fun c9 => ?_) (fun c9 => absurd c_20 c9)
        refine lv_iconst (v := 0) hx hb dL_law_286 (by decide) ?_
        have hPc := hP.sub (ws' := [(q1, .inr (1, [.int b0, .int b1, .int b2, .int b3, .int b4, .int b5, .int b6, .int b7, .int b8, .int b9, .int b10, .int b11, .ref q2])), (q2, .inl (cA, 7, .inl ff))]) [1, 2] rfl
        have hDc := hD.sub (ws' := [(q1, .inr (1, [.int b0, .int b1, .int b2, .int b3, .int b4, .int b5, .int b6, .int b7, .int b8, .int b9, .int b10, .int b11, .ref q2])), (q2, .inl (cA, 7, .inl ff))]) [1, 2] (by decide) rfl
        have hKc := hK.sub (tys' := [(cA, .boolean)]) [0] rfl
        have hFc := va_free (wc := [(q1, .inr (1, [.int b0, .int b1, .int b2, .int b3, .int b4, .int b5, .int b6, .int b7, .int b8, .int b9, .int b10, .int b11, .ref q2])), (q2, .inl (cA, 7, .inl ff))]) hD hS hA [1, 2] rfl
        refine va_calli (va_runV (As := [.int (xs (x3 + 1).toNatClampNeg), .int 0]) (rest := []) ⟨hx, hb, hml, hown, hts⟩ (ct_X1_declarative l dC dI q1 q2 cA ff H.size b0 b1 b2 b3 b4 b5 b6 b7 b8 b9 b10 b11 (xs (x3 + 1).toNatClampNeg) 0) (cwV 2 hts gL_law_X1_declarative rfl rfl rfl (by decide +kernel) ⟨Nat.le_of_ble_eq_true rfl, Nat.le_of_ble_eq_true rfl⟩) ⟨fun a U g mk q => by obtain ⟨q0, q1, qP, qK, qD⟩ := q; exact ⟨q0, q1, qP, va_K.moved (u := U) (U := U.calling g mk a) (Vm.Alike.refl U.vm) qK, qD⟩, va_recv hKc hPc (ci := 1) (q0 := 0) rfl rfl, fun U hU hW => ⟨rfl, by rw [hU], by rw [hU]; exact hPc, va_K.moved hW.alike hKc, hDc.weaken (fun _ _ _ _ => trivial)⟩⟩ rfl rfl hl.1 rfl (lv_room (Nat.le_of_ble_eq_true rfl)) dL_law_287 ⟨Nat.le_of_ble_eq_true rfl, Nat.le_of_ble_eq_true rfl⟩) hS (fun q _ h => hFc q h) hFc (fun r_22 u t H1 locs ht hvm hw hB hz1 hk1 hS => ?_)
        obtain ⟨er, hu⟩ := hw
        subst hu
        subst er
        obtain ⟨hP1, -, hD1⟩ := hB
        rw [ht] at hP1
        obtain ⟨hP, hD⟩ := va_join (wr := [(q0, .inr (0, [.int a0, .int a1, .int a2, .int a3, .int a4, .int a5, .int a6, .int a7, .int a8, .int (gx_X0_declarative_9 a9 (xs (x3 + 1).toNatClampNeg) 0), .int a10, .int a11]))]) (w1 := [(q1, .inr (1, [.int gx_X1_declarative_0, .int b1, .int b2, .int b3, .int b4, .int b5, .int b6, .int b7, .int b8, .int b9, .int b10, .int b11, .ref q2])), (q2, .inl (cA, 7, .inl (gx_X1_declarative_arr ff (xs (x3 + 1).toNatClampNeg) 0)))]) hP hD [1, 2] [0] rfl rfl (by decide) (by decide) hk1 hFc hP1 hD1
        generalize H1 = H at hP hS ⊢
        have hP : va_P (dC, dI) vwCl [(q0, .inr (0, [.int a0, .int a1, .int a2, .int a3, .int a4, .int a5, .int a6, .int a7, .int a8, .int (gx_X0_declarative_9 a9 (xs (x3 + 1).toNatClampNeg) 0), .int a10, .int a11])), (q1, .inr (1, [.int gx_X1_declarative_0, .int b1, .int b2, .int b3, .int b4, .int b5, .int b6, .int b7, .int b8, .int b9, .int b10, .int b11, .ref q2])), (q2, .inl (cA, 7, .inl (gx_X1_declarative_arr ff (xs (x3 + 1).toNatClampNeg) 0)))] H := hP
        have hD : va_D (fun q : Nat => s.heap.size ≤ q) [(q0, .inr (0, [.int a0, .int a1, .int a2, .int a3, .int a4, .int a5, .int a6, .int a7, .int a8, .int (gx_X0_declarative_9 a9 (xs (x3 + 1).toNatClampNeg) 0), .int a10, .int a11])), (q1, .inr (1, [.int gx_X1_declarative_0, .int b1, .int b2, .int b3, .int b4, .int b5, .int b6, .int b7, .int b8, .int b9, .int b10, .int b11, .ref q2])), (q2, .inl (cA, 7, .inl (gx_X1_declarative_arr ff (xs (x3 + 1).toNatClampNeg) 0)))] := hD
        refine lv_pop hx hb dL_law_290 rfl ?_
        refine lv_goto (tgt := 458) hx hb dL_law_291 (by decide) ?_
        have hR : Rel [a0, a1, a2, a3, a4, a5, a6, a7, a8, gx_X0_declarative_9 a9 (xs (x3 + 1).toNatClampNeg) 0, a10, a11] [gx_X1_declarative_0, b1, b2, b3, b4, b5, b6, b7, b8, b9, b10, b11] (gx_X1_declarative_arr ff (xs (x3 + 1).toNatClampNeg) 0) := (h_declarative a0 a1 a2 a3 a4 a5 a6 a7 a8 a9 a10 a11 b0 b1 b2 b3 b4 b5 b6 b7 b8 b9 b10 b11 ff (xs (x3 + 1).toNatClampNeg) 0 hR (by decide))
        obtain ⟨x3n, ex3n⟩ : ∃ y : Int32, y = x3 + 3 := ⟨_, rfl⟩
        refine lv_iinc (v := x3n) (lv' := [(3, .int x3n), (0, .ref b), (1, .ref q0), (2, .ref q1)]) hx hb dL_law_458 hl (k := 3) rfl (by rw [ex3n]; rfl) (by decide) rfl (fun ls hl => ?_)
        refine lv_goto (tgt := 28) hx hb dL_law_461 (by decide) ?_
        exact ih (i + 3) x3n (by omega) (by omega) (by rw [ex3n, ex3]; exact nI_add i 3) a0 a1 a2 a3 a4 a5 a6 a7 a8 (gx_X0_declarative_9 a9 (xs (x3 + 1).toNatClampNeg) 0) a10 a11 gx_X1_declarative_0 b1 b2 b3 b4 b5 b6 b7 b8 b9 b10 b11 (gx_X1_declarative_arr ff (xs (x3 + 1).toNatClampNeg) 0) hR q0 q1 q2 cA _ _ hK hP hD hS ls (lv_sub hl [1, 2, 3, 0] rfl)
      refine lv_iconst (v := 1) hx hb dL_law_259 (by decide) ?_
      refine lv_goto (tgt := 264) hx hb dL_law_260 (by decide) ?_
      have hPc := hP.sub (ws' := [(q0, .inr (0, [.int a0, .int a1, .int a2, .int a3, .int a4, .int a5, .int a6, .int a7, .int a8, .int a9, .int a10, .int a11]))]) [0] rfl
      have hDc := hD.sub (ws' := [(q0, .inr (0, [.int a0, .int a1, .int a2, .int a3, .int a4, .int a5, .int a6, .int a7, .int a8, .int a9, .int a10, .int a11]))]) [0] (by decide) rfl
      have hKc := hK.sub (tys' := []) [] rfl
      have hFc := va_free (wc := [(q0, .inr (0, [.int a0, .int a1, .int a2, .int a3, .int a4, .int a5, .int a6, .int a7, .int a8, .int a9, .int a10, .int a11]))]) hD hS hA [0] rfl
      refine va_calli (va_runV (As := [.int (xs (x3 + 1).toNatClampNeg), .int 1]) (rest := []) ⟨hx, hb, hml, hown, hts⟩ (ct_X0_declarative l dC dI q0 H.size a0 a1 a2 a3 a4 a5 a6 a7 a8 a9 a10 a11 (xs (x3 + 1).toNatClampNeg) 1) (cwV 2 hts gL_law_X0_declarative rfl rfl rfl (by decide +kernel) ⟨Nat.le_of_ble_eq_true rfl, Nat.le_of_ble_eq_true rfl⟩) ⟨fun a U g mk q => by obtain ⟨q0, q1, qP, qK, qD⟩ := q; exact ⟨q0, q1, qP, va_K.moved (u := U) (U := U.calling g mk a) (Vm.Alike.refl U.vm) qK, qD⟩, va_recv hKc hPc (ci := 0) (q0 := 0) rfl rfl, fun U hU hW => ⟨rfl, by rw [hU], by rw [hU]; exact hPc, va_K.moved hW.alike hKc, hDc.weaken (fun _ _ _ _ => trivial)⟩⟩ rfl rfl hl.1 rfl (lv_room (Nat.le_of_ble_eq_true rfl)) dL_law_264 ⟨Nat.le_of_ble_eq_true rfl, Nat.le_of_ble_eq_true rfl⟩) hS (fun q _ h => hFc q h) hFc (fun r_23 u t H1 locs ht hvm hw hB hz1 hk1 hS => ?_)
      obtain ⟨er, hu⟩ := hw
      subst hu
      subst er
      obtain ⟨hP1, -, hD1⟩ := hB
      rw [ht] at hP1
      obtain ⟨hP, hD⟩ := va_join (wr := [(q1, .inr (1, [.int b0, .int b1, .int b2, .int b3, .int b4, .int b5, .int b6, .int b7, .int b8, .int b9, .int b10, .int b11, .ref q2])), (q2, .inl (cA, 7, .inl ff))]) (w1 := [(q0, .inr (0, [.int a0, .int a1, .int a2, .int a3, .int a4, .int a5, .int a6, .int a7, .int a8, .int (gx_X0_declarative_9 a9 (xs (x3 + 1).toNatClampNeg) 1), .int a10, .int a11]))]) hP hD [0] [1, 2] rfl rfl (by decide) (by decide) hk1 hFc hP1 hD1
      generalize H1 = H at hP hS ⊢
      have hP := hP.sub (ws' := [(q0, .inr (0, [.int a0, .int a1, .int a2, .int a3, .int a4, .int a5, .int a6, .int a7, .int a8, .int (gx_X0_declarative_9 a9 (xs (x3 + 1).toNatClampNeg) 1), .int a10, .int a11])), (q1, .inr (1, [.int b0, .int b1, .int b2, .int b3, .int b4, .int b5, .int b6, .int b7, .int b8, .int b9, .int b10, .int b11, .ref q2])), (q2, .inl (cA, 7, .inl ff))]) [2, 0, 1] rfl
      have hD := hD.sub (ws' := [(q0, .inr (0, [.int a0, .int a1, .int a2, .int a3, .int a4, .int a5, .int a6, .int a7, .int a8, .int (gx_X0_declarative_9 a9 (xs (x3 + 1).toNatClampNeg) 1), .int a10, .int a11])), (q1, .inr (1, [.int b0, .int b1, .int b2, .int b3, .int b4, .int b5, .int b6, .int b7, .int b8, .int b9, .int b10, .int b11, .ref q2])), (q2, .inl (cA, 7, .inl ff))]) [2, 0, 1] (by decide) rfl
      have hP : va_P (dC, dI) vwCl [(q0, .inr (0, [.int a0, .int a1, .int a2, .int a3, .int a4, .int a5, .int a6, .int a7, .int a8, .int (gx_X0_declarative_9 a9 (xs (x3 + 1).toNatClampNeg) 1), .int a10, .int a11])), (q1, .inr (1, [.int b0, .int b1, .int b2, .int b3, .int b4, .int b5, .int b6, .int b7, .int b8, .int b9, .int b10, .int b11, .ref q2])), (q2, .inl (cA, 7, .inl ff))] H := hP
      have hD : va_D (fun q : Nat => s.heap.size ≤ q) [(q0, .inr (0, [.int a0, .int a1, .int a2, .int a3, .int a4, .int a5, .int a6, .int a7, .int a8, .int (gx_X0_declarative_9 a9 (xs (x3 + 1).toNatClampNeg) 1), .int a10, .int a11])), (q1, .inr (1, [.int b0, .int b1, .int b2, .int b3, .int b4, .int b5, .int b6, .int b7, .int b8, .int b9, .int b10, .int b11, .ref q2])), (q2, .inl (cA, 7, .inl ff))] := hD
      refine lv_pop hx hb dL_law_267 rfl ?_
      refine lv_aload_n hx hb dL_law_268 rfl (lv_at hl 2 rfl) ?_
      refine lv_aload_n hx hb dL_law_269 rfl (lv_at hl 0 rfl) ?_
      refine lv_iload_n hx hb dL_law_270 rfl (lv_at hl 3 rfl) ?_
      refine lv_iconst (v := 1) hx hb dL_law_271 (by decide) ?_
      refine lv_iadd hx hb dL_law_272 ?_
      refine va_sld hx hb hX hbl hbA hS hin1 dL_law_273 ?_
      refine lv_aload_n hx hb dL_law_274 rfl (lv_at hl 0 rfl) ?_
      refine lv_iload_n hx hb dL_law_275 rfl (lv_at hl 3 rfl) ?_
      refine lv_iconst (v := 2) hx hb dL_law_276 (by decide) ?_
      refine lv_iadd hx hb dL_law_277 ?_
      refine va_sld hx hb hX hbl hbA hS hin2 dL_law_278 ?_
      refine lv_if_eq (tgt := 286) hx hb dL_law_279 (by decide) (fun c9 => absurd c9 c_20) (fun c9 => ?_)
      refine lv_iconst (v := 1) hx hb dL_law_282 (by decide) ?_
      refine lv_goto (tgt := 287) hx hb dL_law_283 (by decide) ?_
      have hPc := hP.sub (ws' := [(q1, .inr (1, [.int b0, .int b1, .int b2, .int b3, .int b4, .int b5, .int b6, .int b7, .int b8, .int b9, .int b10, .int b11, .ref q2])), (q2, .inl (cA, 7, .inl ff))]) [1, 2] rfl
      have hDc := hD.sub (ws' := [(q1, .inr (1, [.int b0, .int b1, .int b2, .int b3, .int b4, .int b5, .int b6, .int b7, .int b8, .int b9, .int b10, .int b11, .ref q2])), (q2, .inl (cA, 7, .inl ff))]) [1, 2] (by decide) rfl
      have hKc := hK.sub (tys' := [(cA, .boolean)]) [0] rfl
      have hFc := va_free (wc := [(q1, .inr (1, [.int b0, .int b1, .int b2, .int b3, .int b4, .int b5, .int b6, .int b7, .int b8, .int b9, .int b10, .int b11, .ref q2])), (q2, .inl (cA, 7, .inl ff))]) hD hS hA [1, 2] rfl
      refine va_calli (va_runV (As := [.int (xs (x3 + 1).toNatClampNeg), .int 1]) (rest := []) ⟨hx, hb, hml, hown, hts⟩ (ct_X1_declarative l dC dI q1 q2 cA ff H.size b0 b1 b2 b3 b4 b5 b6 b7 b8 b9 b10 b11 (xs (x3 + 1).toNatClampNeg) 1) (cwV 2 hts gL_law_X1_declarative rfl rfl rfl (by decide +kernel) ⟨Nat.le_of_ble_eq_true rfl, Nat.le_of_ble_eq_true rfl⟩) ⟨fun a U g mk q => by obtain ⟨q0, q1, qP, qK, qD⟩ := q; exact ⟨q0, q1, qP, va_K.moved (u := U) (U := U.calling g mk a) (Vm.Alike.refl U.vm) qK, qD⟩, va_recv hKc hPc (ci := 1) (q0 := 0) rfl rfl, fun U hU hW => ⟨rfl, by rw [hU], by rw [hU]; exact hPc, va_K.moved hW.alike hKc, hDc.weaken (fun _ _ _ _ => trivial)⟩⟩ rfl rfl hl.1 rfl (lv_room (Nat.le_of_ble_eq_true rfl)) dL_law_287 ⟨Nat.le_of_ble_eq_true rfl, Nat.le_of_ble_eq_true rfl⟩) hS (fun q _ h => hFc q h) hFc (fun r_24 u t H1 locs ht hvm hw hB hz1 hk1 hS => ?_)
      obtain ⟨er, hu⟩ := hw
      subst hu
      subst er
      obtain ⟨hP1, -, hD1⟩ := hB
      rw [ht] at hP1
      obtain ⟨hP, hD⟩ := va_join (wr := [(q0, .inr (0, [.int a0, .int a1, .int a2, .int a3, .int a4, .int a5, .int a6, .int a7, .int a8, .int (gx_X0_declarative_9 a9 (xs (x3 + 1).toNatClampNeg) 1), .int a10, .int a11]))]) (w1 := [(q1, .inr (1, [.int gx_X1_declarative_0, .int b1, .int b2, .int b3, .int b4, .int b5, .int b6, .int b7, .int b8, .int b9, .int b10, .int b11, .ref q2])), (q2, .inl (cA, 7, .inl (gx_X1_declarative_arr ff (xs (x3 + 1).toNatClampNeg) 1)))]) hP hD [1, 2] [0] rfl rfl (by decide) (by decide) hk1 hFc hP1 hD1
      generalize H1 = H at hP hS ⊢
      have hP : va_P (dC, dI) vwCl [(q0, .inr (0, [.int a0, .int a1, .int a2, .int a3, .int a4, .int a5, .int a6, .int a7, .int a8, .int (gx_X0_declarative_9 a9 (xs (x3 + 1).toNatClampNeg) 1), .int a10, .int a11])), (q1, .inr (1, [.int gx_X1_declarative_0, .int b1, .int b2, .int b3, .int b4, .int b5, .int b6, .int b7, .int b8, .int b9, .int b10, .int b11, .ref q2])), (q2, .inl (cA, 7, .inl (gx_X1_declarative_arr ff (xs (x3 + 1).toNatClampNeg) 1)))] H := hP
      have hD : va_D (fun q : Nat => s.heap.size ≤ q) [(q0, .inr (0, [.int a0, .int a1, .int a2, .int a3, .int a4, .int a5, .int a6, .int a7, .int a8, .int (gx_X0_declarative_9 a9 (xs (x3 + 1).toNatClampNeg) 1), .int a10, .int a11])), (q1, .inr (1, [.int gx_X1_declarative_0, .int b1, .int b2, .int b3, .int b4, .int b5, .int b6, .int b7, .int b8, .int b9, .int b10, .int b11, .ref q2])), (q2, .inl (cA, 7, .inl (gx_X1_declarative_arr ff (xs (x3 + 1).toNatClampNeg) 1)))] := hD
      refine lv_pop hx hb dL_law_290 rfl ?_
      refine lv_goto (tgt := 458) hx hb dL_law_291 (by decide) ?_
      have hR : Rel [a0, a1, a2, a3, a4, a5, a6, a7, a8, gx_X0_declarative_9 a9 (xs (x3 + 1).toNatClampNeg) 1, a10, a11] [gx_X1_declarative_0, b1, b2, b3, b4, b5, b6, b7, b8, b9, b10, b11] (gx_X1_declarative_arr ff (xs (x3 + 1).toNatClampNeg) 1) := (h_declarative a0 a1 a2 a3 a4 a5 a6 a7 a8 a9 a10 a11 b0 b1 b2 b3 b4 b5 b6 b7 b8 b9 b10 b11 ff (xs (x3 + 1).toNatClampNeg) 1 hR (by decide))
      obtain ⟨x3n, ex3n⟩ : ∃ y : Int32, y = x3 + 3 := ⟨_, rfl⟩
      refine lv_iinc (v := x3n) (lv' := [(3, .int x3n), (0, .ref b), (1, .ref q0), (2, .ref q1)]) hx hb dL_law_458 hl (k := 3) rfl (by rw [ex3n]; rfl) (by decide) rfl (fun ls hl => ?_)
      refine lv_goto (tgt := 28) hx hb dL_law_461 (by decide) ?_
      exact ih (i + 3) x3n (by omega) (by omega) (by rw [ex3n, ex3]; exact nI_add i 3) a0 a1 a2 a3 a4 a5 a6 a7 a8 (gx_X0_declarative_9 a9 (xs (x3 + 1).toNatClampNeg) 1) a10 a11 gx_X1_declarative_0 b1 b2 b3 b4 b5 b6 b7 b8 b9 b10 b11 (gx_X1_declarative_arr ff (xs (x3 + 1).toNatClampNeg) 1) hR q0 q1 q2 cA _ _ hK hP hD hS ls (lv_sub hl [1, 2, 3, 0] rfl)
    by_cases c_25 : ((xs (x3).toNatClampNeg) &&& 15) = 6
    · refine lv_tableIn (off := 252) (tgt := 294) hx hb dL_law_42 (by rw [c_25]; decide) (by rw [c_25]; decide) (by rw [c_25]; rfl) (by decide) ?_
      refine lv_aload_n hx hb dL_law_294 rfl (lv_at hl 1 rfl) ?_
      refine lv_aload_n hx hb dL_law_295 rfl (lv_at hl 0 rfl) ?_
      refine lv_iload_n hx hb dL_law_296 rfl (lv_at hl 3 rfl) ?_
      refine lv_iconst (v := 1) hx hb dL_law_297 (by decide) ?_
      refine lv_iadd hx hb dL_law_298 ?_
      refine va_sld hx hb hX hbl hbA hS hin1 dL_law_299 ?_
      have hPc := hP.sub (ws' := [(q0, .inr (0, [.int a0, .int a1, .int a2, .int a3, .int a4, .int a5, .int a6, .int a7, .int a8, .int a9, .int a10, .int a11]))]) [0] rfl
      have hDc := hD.sub (ws' := [(q0, .inr (0, [.int a0, .int a1, .int a2, .int a3, .int a4, .int a5, .int a6, .int a7, .int a8, .int a9, .int a10, .int a11]))]) [0] (by decide) rfl
      have hKc := hK.sub (tys' := []) [] rfl
      have hFc := va_free (wc := [(q0, .inr (0, [.int a0, .int a1, .int a2, .int a3, .int a4, .int a5, .int a6, .int a7, .int a8, .int a9, .int a10, .int a11]))]) hD hS hA [0] rfl
      refine va_calli (va_runV (As := [.int (xs (x3 + 1).toNatClampNeg)]) (rest := []) ⟨hx, hb, hml, hown, hts⟩ (ct_X0_position l dC dI q0 H.size a0 a1 a2 a3 a4 a5 a6 a7 a8 a9 a10 a11 (xs (x3 + 1).toNatClampNeg)) (cwV 1 hts gL_law_X0_position rfl rfl rfl (by decide +kernel) ⟨Nat.le_of_ble_eq_true rfl, Nat.le_of_ble_eq_true rfl⟩) ⟨fun a U g mk q => by obtain ⟨q0, q1, qP, qK, qD⟩ := q; exact ⟨q0, q1, qP, va_K.moved (u := U) (U := U.calling g mk a) (Vm.Alike.refl U.vm) qK, qD⟩, va_recv hKc hPc (ci := 0) (q0 := 0) rfl rfl, fun U hU hW => ⟨rfl, by rw [hU], by rw [hU]; exact hPc, va_K.moved hW.alike hKc, hDc.weaken (fun _ _ _ _ => trivial)⟩⟩ rfl rfl hl.1 rfl (lv_room (Nat.le_of_ble_eq_true rfl)) dL_law_300 ⟨Nat.le_of_ble_eq_true rfl, Nat.le_of_ble_eq_true rfl⟩) hS (fun q _ h => hFc q h) hFc (fun r_26 u t H1 locs ht hvm hw hB hz1 hk1 hS => ?_)
      obtain ⟨er, hu⟩ := hw
      subst hu
      subst er
      obtain ⟨hP1, -, hD1⟩ := hB
      rw [ht] at hP1
      obtain ⟨hP, hD⟩ := va_join (wr := [(q1, .inr (1, [.int b0, .int b1, .int b2, .int b3, .int b4, .int b5, .int b6, .int b7, .int b8, .int b9, .int b10, .int b11, .ref q2])), (q2, .inl (cA, 7, .inl ff))]) (w1 := [(q0, .inr (0, [.int a0, .int a1, .int a2, .int a3, .int a4, .int a5, .int a6, .int a7, .int a8, .int a9, .int a10, .int a11]))]) hP hD [0] [1, 2] rfl rfl (by decide) (by decide) hk1 hFc hP1 hD1
      generalize H1 = H at hP hS ⊢
      have hP := hP.sub (ws' := [(q0, .inr (0, [.int a0, .int a1, .int a2, .int a3, .int a4, .int a5, .int a6, .int a7, .int a8, .int a9, .int a10, .int a11])), (q1, .inr (1, [.int b0, .int b1, .int b2, .int b3, .int b4, .int b5, .int b6, .int b7, .int b8, .int b9, .int b10, .int b11, .ref q2])), (q2, .inl (cA, 7, .inl ff))]) [2, 0, 1] rfl
      have hD := hD.sub (ws' := [(q0, .inr (0, [.int a0, .int a1, .int a2, .int a3, .int a4, .int a5, .int a6, .int a7, .int a8, .int a9, .int a10, .int a11])), (q1, .inr (1, [.int b0, .int b1, .int b2, .int b3, .int b4, .int b5, .int b6, .int b7, .int b8, .int b9, .int b10, .int b11, .ref q2])), (q2, .inl (cA, 7, .inl ff))]) [2, 0, 1] (by decide) rfl
      have hP : va_P (dC, dI) vwCl [(q0, .inr (0, [.int a0, .int a1, .int a2, .int a3, .int a4, .int a5, .int a6, .int a7, .int a8, .int a9, .int a10, .int a11])), (q1, .inr (1, [.int b0, .int b1, .int b2, .int b3, .int b4, .int b5, .int b6, .int b7, .int b8, .int b9, .int b10, .int b11, .ref q2])), (q2, .inl (cA, 7, .inl ff))] H := hP
      have hD : va_D (fun q : Nat => s.heap.size ≤ q) [(q0, .inr (0, [.int a0, .int a1, .int a2, .int a3, .int a4, .int a5, .int a6, .int a7, .int a8, .int a9, .int a10, .int a11])), (q1, .inr (1, [.int b0, .int b1, .int b2, .int b3, .int b4, .int b5, .int b6, .int b7, .int b8, .int b9, .int b10, .int b11, .ref q2])), (q2, .inl (cA, 7, .inl ff))] := hD
      refine lv_pop hx hb dL_law_303 rfl ?_
      refine lv_aload_n hx hb dL_law_304 rfl (lv_at hl 2 rfl) ?_
      refine lv_aload_n hx hb dL_law_305 rfl (lv_at hl 0 rfl) ?_
      refine lv_iload_n hx hb dL_law_306 rfl (lv_at hl 3 rfl) ?_
      refine lv_iconst (v := 1) hx hb dL_law_307 (by decide) ?_
      refine lv_iadd hx hb dL_law_308 ?_
      refine va_sld hx hb hX hbl hbA hS hin1 dL_law_309 ?_
      have hPc := hP.sub (ws' := [(q1, .inr (1, [.int b0, .int b1, .int b2, .int b3, .int b4, .int b5, .int b6, .int b7, .int b8, .int b9, .int b10, .int b11, .ref q2]))]) [1] rfl
      have hDc := hD.sub (ws' := [(q1, .inr (1, [.int b0, .int b1, .int b2, .int b3, .int b4, .int b5, .int b6, .int b7, .int b8, .int b9, .int b10, .int b11, .ref q2]))]) [1] (by decide) rfl
      have hKc := hK.sub (tys' := []) [] rfl
      have hFc := va_free (wc := [(q1, .inr (1, [.int b0, .int b1, .int b2, .int b3, .int b4, .int b5, .int b6, .int b7, .int b8, .int b9, .int b10, .int b11, .ref q2]))]) hD hS hA [1] rfl
      refine va_calli (va_runV (As := [.int (xs (x3 + 1).toNatClampNeg)]) (rest := []) ⟨hx, hb, hml, hown, hts⟩ (ct_X1_position l dC dI q1 q2 H.size b0 b1 b2 b3 b4 b5 b6 b7 b8 b9 b10 b11 (xs (x3 + 1).toNatClampNeg)) (cwV 1 hts gL_law_X1_position rfl rfl rfl (by decide +kernel) ⟨Nat.le_of_ble_eq_true rfl, Nat.le_of_ble_eq_true rfl⟩) ⟨fun a U g mk q => by obtain ⟨q0, q1, qP, qK, qD⟩ := q; exact ⟨q0, q1, qP, va_K.moved (u := U) (U := U.calling g mk a) (Vm.Alike.refl U.vm) qK, qD⟩, va_recv hKc hPc (ci := 1) (q0 := 0) rfl rfl, fun U hU hW => ⟨rfl, by rw [hU], by rw [hU]; exact hPc, va_K.moved hW.alike hKc, hDc.weaken (fun _ _ _ _ => trivial)⟩⟩ rfl rfl hl.1 rfl (lv_room (Nat.le_of_ble_eq_true rfl)) dL_law_310 ⟨Nat.le_of_ble_eq_true rfl, Nat.le_of_ble_eq_true rfl⟩) hS (fun q _ h => hFc q h) hFc (fun r_27 u t H1 locs ht hvm hw hB hz1 hk1 hS => ?_)
      obtain ⟨er, hu⟩ := hw
      subst hu
      subst er
      obtain ⟨hP1, -, hD1⟩ := hB
      rw [ht] at hP1
      obtain ⟨hP, hD⟩ := va_join (wr := [(q0, .inr (0, [.int a0, .int a1, .int a2, .int a3, .int a4, .int a5, .int a6, .int a7, .int a8, .int a9, .int a10, .int a11])), (q2, .inl (cA, 7, .inl ff))]) (w1 := [(q1, .inr (1, [.int gx_X1_position_0, .int b1, .int b2, .int b3, .int b4, .int b5, .int b6, .int b7, .int b8, .int b9, .int b10, .int b11, .ref q2]))]) hP hD [1] [0, 2] rfl rfl (by decide) (by decide) hk1 hFc hP1 hD1
      generalize H1 = H at hP hS ⊢
      have hP := hP.sub (ws' := [(q0, .inr (0, [.int a0, .int a1, .int a2, .int a3, .int a4, .int a5, .int a6, .int a7, .int a8, .int a9, .int a10, .int a11])), (q1, .inr (1, [.int gx_X1_position_0, .int b1, .int b2, .int b3, .int b4, .int b5, .int b6, .int b7, .int b8, .int b9, .int b10, .int b11, .ref q2])), (q2, .inl (cA, 7, .inl ff))]) [0, 2, 1] rfl
      have hD := hD.sub (ws' := [(q0, .inr (0, [.int a0, .int a1, .int a2, .int a3, .int a4, .int a5, .int a6, .int a7, .int a8, .int a9, .int a10, .int a11])), (q1, .inr (1, [.int gx_X1_position_0, .int b1, .int b2, .int b3, .int b4, .int b5, .int b6, .int b7, .int b8, .int b9, .int b10, .int b11, .ref q2])), (q2, .inl (cA, 7, .inl ff))]) [0, 2, 1] (by decide) rfl
      have hP : va_P (dC, dI) vwCl [(q0, .inr (0, [.int a0, .int a1, .int a2, .int a3, .int a4, .int a5, .int a6, .int a7, .int a8, .int a9, .int a10, .int a11])), (q1, .inr (1, [.int gx_X1_position_0, .int b1, .int b2, .int b3, .int b4, .int b5, .int b6, .int b7, .int b8, .int b9, .int b10, .int b11, .ref q2])), (q2, .inl (cA, 7, .inl ff))] H := hP
      have hD : va_D (fun q : Nat => s.heap.size ≤ q) [(q0, .inr (0, [.int a0, .int a1, .int a2, .int a3, .int a4, .int a5, .int a6, .int a7, .int a8, .int a9, .int a10, .int a11])), (q1, .inr (1, [.int gx_X1_position_0, .int b1, .int b2, .int b3, .int b4, .int b5, .int b6, .int b7, .int b8, .int b9, .int b10, .int b11, .ref q2])), (q2, .inl (cA, 7, .inl ff))] := hD
      refine lv_pop hx hb dL_law_313 rfl ?_
      refine lv_goto (tgt := 458) hx hb dL_law_314 (by decide) ?_
      have hR : Rel [a0, a1, a2, a3, a4, a5, a6, a7, a8, a9, a10, a11] [gx_X1_position_0, b1, b2, b3, b4, b5, b6, b7, b8, b9, b10, b11] ff := (h_position a0 a1 a2 a3 a4 a5 a6 a7 a8 a9 a10 a11 b0 b1 b2 b3 b4 b5 b6 b7 b8 b9 b10 b11 ff (xs (x3 + 1).toNatClampNeg) hR)
      obtain ⟨x3n, ex3n⟩ : ∃ y : Int32, y = x3 + 3 := ⟨_, rfl⟩
      refine lv_iinc (v := x3n) (lv' := [(3, .int x3n), (0, .ref b), (1, .ref q0), (2, .ref q1)]) hx hb dL_law_458 hl (k := 3) rfl (by rw [ex3n]; rfl) (by decide) rfl (fun ls hl => ?_)
      refine lv_goto (tgt := 28) hx hb dL_law_461 (by decide) ?_
      exact ih (i + 3) x3n (by omega) (by omega) (by rw [ex3n, ex3]; exact nI_add i 3) a0 a1 a2 a3 a4 a5 a6 a7 a8 a9 a10 a11 gx_X1_position_0 b1 b2 b3 b4 b5 b6 b7 b8 b9 b10 b11 ff hR q0 q1 q2 cA _ _ hK hP hD hS ls (lv_sub hl [1, 2, 3, 0] rfl)
    by_cases c_28 : ((xs (x3).toNatClampNeg) &&& 15) = 7
    · refine lv_tableIn (off := 275) (tgt := 317) hx hb dL_law_42 (by rw [c_28]; decide) (by rw [c_28]; decide) (by rw [c_28]; rfl) (by decide) ?_
      refine lv_aload_n hx hb dL_law_317 rfl (lv_at hl 1 rfl) ?_
      refine lv_aload_n hx hb dL_law_318 rfl (lv_at hl 0 rfl) ?_
      refine lv_iload_n hx hb dL_law_319 rfl (lv_at hl 3 rfl) ?_
      refine lv_iconst (v := 1) hx hb dL_law_320 (by decide) ?_
      refine lv_iadd hx hb dL_law_321 ?_
      refine va_sld hx hb hX hbl hbA hS hin1 dL_law_322 ?_
      refine lv_if_eq (tgt := 330) hx hb dL_law_323 (by decide) (fun c_29 => ?_) (fun c_29 => ?_)
      · refine lv_iconst (v := 0) hx hb dL_law_330 (by decide) ?_
        have hPc := hP.sub (ws' := [(q0, .inr (0, [.int a0, .int a1, .int a2, .int a3, .int a4, .int a5, .int a6, .int a7, .int a8, .int a9, .int a10, .int a11]))]) [0] rfl
        have hDc := hD.sub (ws' := [(q0, .inr (0, [.int a0, .int a1, .int a2, .int a3, .int a4, .int a5, .int a6, .int a7, .int a8, .int a9, .int a10, .int a11]))]) [0] (by decide) rfl
        have hKc := hK.sub (tys' := []) [] rfl
        have hFc := va_free (wc := [(q0, .inr (0, [.int a0, .int a1, .int a2, .int a3, .int a4, .int a5, .int a6, .int a7, .int a8, .int a9, .int a10, .int a11]))]) hD hS hA [0] rfl
        refine va_calli (va_runV (As := [.int 0]) (rest := []) ⟨hx, hb, hml, hown, hts⟩ (ct_X0_optional l dC dI q0 H.size a0 a1 a2 a3 a4 a5 a6 a7 a8 a9 a10 a11 0 (by decide)) (cwV 1 hts gL_law_X0_optional rfl rfl rfl (by decide +kernel) ⟨Nat.le_of_ble_eq_true rfl, Nat.le_of_ble_eq_true rfl⟩) ⟨fun a U g mk q => by obtain ⟨q0, q1, qP, qK, qD⟩ := q; exact ⟨q0, q1, qP, va_K.moved (u := U) (U := U.calling g mk a) (Vm.Alike.refl U.vm) qK, qD⟩, va_recv hKc hPc (ci := 0) (q0 := 0) rfl rfl, fun U hU hW => ⟨rfl, by rw [hU], by rw [hU]; exact hPc, va_K.moved hW.alike hKc, hDc.weaken (fun _ _ _ _ => trivial)⟩⟩ rfl rfl hl.1 rfl (lv_room (Nat.le_of_ble_eq_true rfl)) dL_law_331 ⟨Nat.le_of_ble_eq_true rfl, Nat.le_of_ble_eq_true rfl⟩) hS (fun q _ h => hFc q h) hFc (fun r_30 u t H1 locs ht hvm hw hB hz1 hk1 hS => ?_)
        obtain ⟨er, hu⟩ := hw
        subst hu
        subst er
        obtain ⟨hP1, -, hD1⟩ := hB
        rw [ht] at hP1
        obtain ⟨hP, hD⟩ := va_join (wr := [(q1, .inr (1, [.int b0, .int b1, .int b2, .int b3, .int b4, .int b5, .int b6, .int b7, .int b8, .int b9, .int b10, .int b11, .ref q2])), (q2, .inl (cA, 7, .inl ff))]) (w1 := [(q0, .inr (0, [.int a0, .int a1, .int a2, .int (gx_X0_optional_3 a2 a3 0), .int a4, .int a5, .int a6, .int a7, .int a8, .int a9, .int a10, .int a11]))]) hP hD [0] [1, 2] rfl rfl (by decide) (by decide) hk1 hFc hP1 hD1
        generalize H1 = H at hP hS ⊢
        have hP := hP.sub (ws' := [(q0, .inr (0, [.int a0, .int a1, .int a2, .int (gx_X0_optional_3 a2 a3 0), .int a4, .int a5, .int a6, .int a7, .int a8, .int a9, .int a10, .int a11])), (q1, .inr (1, [.int b0, .int b1, .int b2, .int b3, .int b4, .int b5, .int b6, .int b7, .int b8, .int b9, .int b10, .int b11, .ref q2])), (q2, .inl (cA, 7, .inl ff))]) [2, 0, 1] rfl
        have hD := hD.sub (ws' := [(q0, .inr (0, [.int a0, .int a1, .int a2, .int (gx_X0_optional_3 a2 a3 0), .int a4, .int a5, .int a6, .int a7, .int a8, .int a9, .int a10, .int a11])), (q1, .inr (1, [.int b0, .int b1, .int b2, .int b3, .int b4, .int b5, .int b6, .int b7, .int b8, .int b9, .int b10, .int b11, .ref q2])), (q2, .inl (cA, 7, .inl ff))]) [2, 0, 1] (by decide) rfl
        have hP : va_P (dC, dI) vwCl [(q0, .inr (0, [.int a0, .int a1, .int a2, .int (gx_X0_optional_3 a2 a3 0), .int a4, .int a5, .int a6, .int a7, .int a8, .int a9, .int a10, .int a11])), (q1, .inr (1, [.int b0, .int b1, .int b2, .int b3, .int b4, .int b5, .int b6, .int b7, .int b8, .int b9, .int b10, .int b11, .ref q2])), (q2, .inl (cA, 7, .inl ff))] H := hP
        have hD : va_D (fun q : Nat => s.heap.size ≤ q) [(q0, .inr (0, [.int a0, .int a1, .int a2, .int (gx_X0_optional_3 a2 a3 0), .int a4, .int a5, .int a6, .int a7, .int a8, .int a9, .int a10, .int a11])), (q1, .inr (1, [.int b0, .int b1, .int b2, .int b3, .int b4, .int b5, .int b6, .int b7, .int b8, .int b9, .int b10, .int b11, .ref q2])), (q2, .inl (cA, 7, .inl ff))] := hD
        refine lv_pop hx hb dL_law_334 rfl ?_
        refine lv_aload_n hx hb dL_law_335 rfl (lv_at hl 2 rfl) ?_
        refine lv_aload_n hx hb dL_law_336 rfl (lv_at hl 0 rfl) ?_
        refine lv_iload_n hx hb dL_law_337 rfl (lv_at hl 3 rfl) ?_
        refine lv_iconst (v := 1) hx hb dL_law_338 (by decide) ?_
        refine lv_iadd hx hb dL_law_339 ?_
        refine va_sld hx hb hX hbl hbA hS hin1 dL_law_340 ?_
        refine lv_if_eq (tgt := 348) hx hb dL_law_341 (by decide) (fun c9 => ?_) (fun c9 => absurd c_29 c9)
        refine lv_iconst (v := 0) hx hb dL_law_348 (by decide) ?_
        have hPc := hP.sub (ws' := [(q1, .inr (1, [.int b0, .int b1, .int b2, .int b3, .int b4, .int b5, .int b6, .int b7, .int b8, .int b9, .int b10, .int b11, .ref q2]))]) [1] rfl
        have hDc := hD.sub (ws' := [(q1, .inr (1, [.int b0, .int b1, .int b2, .int b3, .int b4, .int b5, .int b6, .int b7, .int b8, .int b9, .int b10, .int b11, .ref q2]))]) [1] (by decide) rfl
        have hKc := hK.sub (tys' := []) [] rfl
        have hFc := va_free (wc := [(q1, .inr (1, [.int b0, .int b1, .int b2, .int b3, .int b4, .int b5, .int b6, .int b7, .int b8, .int b9, .int b10, .int b11, .ref q2]))]) hD hS hA [1] rfl
        refine va_calli (va_runV (As := [.int 0]) (rest := []) ⟨hx, hb, hml, hown, hts⟩ (ct_X1_optional l dC dI q1 q2 H.size b0 b1 b2 b3 b4 b5 b6 b7 b8 b9 b10 b11 0 (by decide)) (cwV 1 hts gL_law_X1_optional rfl rfl rfl (by decide +kernel) ⟨Nat.le_of_ble_eq_true rfl, Nat.le_of_ble_eq_true rfl⟩) ⟨fun a U g mk q => by obtain ⟨q0, q1, qP, qK, qD⟩ := q; exact ⟨q0, q1, qP, va_K.moved (u := U) (U := U.calling g mk a) (Vm.Alike.refl U.vm) qK, qD⟩, va_recv hKc hPc (ci := 1) (q0 := 0) rfl rfl, fun U hU hW => ⟨rfl, by rw [hU], by rw [hU]; exact hPc, va_K.moved hW.alike hKc, hDc.weaken (fun _ _ _ _ => trivial)⟩⟩ rfl rfl hl.1 rfl (lv_room (Nat.le_of_ble_eq_true rfl)) dL_law_349 ⟨Nat.le_of_ble_eq_true rfl, Nat.le_of_ble_eq_true rfl⟩) hS (fun q _ h => hFc q h) hFc (fun r_31 u t H1 locs ht hvm hw hB hz1 hk1 hS => ?_)
        obtain ⟨er, hu⟩ := hw
        subst hu
        subst er
        obtain ⟨hP1, -, hD1⟩ := hB
        rw [ht] at hP1
        obtain ⟨hP, hD⟩ := va_join (wr := [(q0, .inr (0, [.int a0, .int a1, .int a2, .int (gx_X0_optional_3 a2 a3 0), .int a4, .int a5, .int a6, .int a7, .int a8, .int a9, .int a10, .int a11])), (q2, .inl (cA, 7, .inl ff))]) (w1 := [(q1, .inr (1, [.int gx_X1_optional_0, .int b1, .int b2, .int b3, .int b4, .int b5, .int b6, .int b7, .int b8, .int b9, .int (gx_X1_optional_10 b8 b10 0), .int b11, .ref q2]))]) hP hD [1] [0, 2] rfl rfl (by decide) (by decide) hk1 hFc hP1 hD1
        generalize H1 = H at hP hS ⊢
        have hP := hP.sub (ws' := [(q0, .inr (0, [.int a0, .int a1, .int a2, .int (gx_X0_optional_3 a2 a3 0), .int a4, .int a5, .int a6, .int a7, .int a8, .int a9, .int a10, .int a11])), (q1, .inr (1, [.int gx_X1_optional_0, .int b1, .int b2, .int b3, .int b4, .int b5, .int b6, .int b7, .int b8, .int b9, .int (gx_X1_optional_10 b8 b10 0), .int b11, .ref q2])), (q2, .inl (cA, 7, .inl ff))]) [0, 2, 1] rfl
        have hD := hD.sub (ws' := [(q0, .inr (0, [.int a0, .int a1, .int a2, .int (gx_X0_optional_3 a2 a3 0), .int a4, .int a5, .int a6, .int a7, .int a8, .int a9, .int a10, .int a11])), (q1, .inr (1, [.int gx_X1_optional_0, .int b1, .int b2, .int b3, .int b4, .int b5, .int b6, .int b7, .int b8, .int b9, .int (gx_X1_optional_10 b8 b10 0), .int b11, .ref q2])), (q2, .inl (cA, 7, .inl ff))]) [0, 2, 1] (by decide) rfl
        have hP : va_P (dC, dI) vwCl [(q0, .inr (0, [.int a0, .int a1, .int a2, .int (gx_X0_optional_3 a2 a3 0), .int a4, .int a5, .int a6, .int a7, .int a8, .int a9, .int a10, .int a11])), (q1, .inr (1, [.int gx_X1_optional_0, .int b1, .int b2, .int b3, .int b4, .int b5, .int b6, .int b7, .int b8, .int b9, .int (gx_X1_optional_10 b8 b10 0), .int b11, .ref q2])), (q2, .inl (cA, 7, .inl ff))] H := hP
        have hD : va_D (fun q : Nat => s.heap.size ≤ q) [(q0, .inr (0, [.int a0, .int a1, .int a2, .int (gx_X0_optional_3 a2 a3 0), .int a4, .int a5, .int a6, .int a7, .int a8, .int a9, .int a10, .int a11])), (q1, .inr (1, [.int gx_X1_optional_0, .int b1, .int b2, .int b3, .int b4, .int b5, .int b6, .int b7, .int b8, .int b9, .int (gx_X1_optional_10 b8 b10 0), .int b11, .ref q2])), (q2, .inl (cA, 7, .inl ff))] := hD
        refine lv_pop hx hb dL_law_352 rfl ?_
        refine lv_goto (tgt := 458) hx hb dL_law_353 (by decide) ?_
        have hR : Rel [a0, a1, a2, gx_X0_optional_3 a2 a3 0, a4, a5, a6, a7, a8, a9, a10, a11] [gx_X1_optional_0, b1, b2, b3, b4, b5, b6, b7, b8, b9, gx_X1_optional_10 b8 b10 0, b11] ff := (h_optional a0 a1 a2 a3 a4 a5 a6 a7 a8 a9 a10 a11 b0 b1 b2 b3 b4 b5 b6 b7 b8 b9 b10 b11 ff 0 hR (by decide))
        obtain ⟨x3n, ex3n⟩ : ∃ y : Int32, y = x3 + 3 := ⟨_, rfl⟩
        refine lv_iinc (v := x3n) (lv' := [(3, .int x3n), (0, .ref b), (1, .ref q0), (2, .ref q1)]) hx hb dL_law_458 hl (k := 3) rfl (by rw [ex3n]; rfl) (by decide) rfl (fun ls hl => ?_)
        refine lv_goto (tgt := 28) hx hb dL_law_461 (by decide) ?_
        exact ih (i + 3) x3n (by omega) (by omega) (by rw [ex3n, ex3]; exact nI_add i 3) a0 a1 a2 (gx_X0_optional_3 a2 a3 0) a4 a5 a6 a7 a8 a9 a10 a11 gx_X1_optional_0 b1 b2 b3 b4 b5 b6 b7 b8 b9 (gx_X1_optional_10 b8 b10 0) b11 ff hR q0 q1 q2 cA _ _ hK hP hD hS ls (lv_sub hl [1, 2, 3, 0] rfl)
      refine lv_iconst (v := 1) hx hb dL_law_326 (by decide) ?_
      refine lv_goto (tgt := 331) hx hb dL_law_327 (by decide) ?_
      have hPc := hP.sub (ws' := [(q0, .inr (0, [.int a0, .int a1, .int a2, .int a3, .int a4, .int a5, .int a6, .int a7, .int a8, .int a9, .int a10, .int a11]))]) [0] rfl
      have hDc := hD.sub (ws' := [(q0, .inr (0, [.int a0, .int a1, .int a2, .int a3, .int a4, .int a5, .int a6, .int a7, .int a8, .int a9, .int a10, .int a11]))]) [0] (by decide) rfl
      have hKc := hK.sub (tys' := []) [] rfl
      have hFc := va_free (wc := [(q0, .inr (0, [.int a0, .int a1, .int a2, .int a3, .int a4, .int a5, .int a6, .int a7, .int a8, .int a9, .int a10, .int a11]))]) hD hS hA [0] rfl
      refine va_calli (va_runV (As := [.int 1]) (rest := []) ⟨hx, hb, hml, hown, hts⟩ (ct_X0_optional l dC dI q0 H.size a0 a1 a2 a3 a4 a5 a6 a7 a8 a9 a10 a11 1 (by decide)) (cwV 1 hts gL_law_X0_optional rfl rfl rfl (by decide +kernel) ⟨Nat.le_of_ble_eq_true rfl, Nat.le_of_ble_eq_true rfl⟩) ⟨fun a U g mk q => by obtain ⟨q0, q1, qP, qK, qD⟩ := q; exact ⟨q0, q1, qP, va_K.moved (u := U) (U := U.calling g mk a) (Vm.Alike.refl U.vm) qK, qD⟩, va_recv hKc hPc (ci := 0) (q0 := 0) rfl rfl, fun U hU hW => ⟨rfl, by rw [hU], by rw [hU]; exact hPc, va_K.moved hW.alike hKc, hDc.weaken (fun _ _ _ _ => trivial)⟩⟩ rfl rfl hl.1 rfl (lv_room (Nat.le_of_ble_eq_true rfl)) dL_law_331 ⟨Nat.le_of_ble_eq_true rfl, Nat.le_of_ble_eq_true rfl⟩) hS (fun q _ h => hFc q h) hFc (fun r_32 u t H1 locs ht hvm hw hB hz1 hk1 hS => ?_)
      obtain ⟨er, hu⟩ := hw
      subst hu
      subst er
      obtain ⟨hP1, -, hD1⟩ := hB
      rw [ht] at hP1
      obtain ⟨hP, hD⟩ := va_join (wr := [(q1, .inr (1, [.int b0, .int b1, .int b2, .int b3, .int b4, .int b5, .int b6, .int b7, .int b8, .int b9, .int b10, .int b11, .ref q2])), (q2, .inl (cA, 7, .inl ff))]) (w1 := [(q0, .inr (0, [.int a0, .int a1, .int a2, .int (gx_X0_optional_3 a2 a3 1), .int a4, .int a5, .int a6, .int a7, .int a8, .int a9, .int a10, .int a11]))]) hP hD [0] [1, 2] rfl rfl (by decide) (by decide) hk1 hFc hP1 hD1
      generalize H1 = H at hP hS ⊢
      have hP := hP.sub (ws' := [(q0, .inr (0, [.int a0, .int a1, .int a2, .int (gx_X0_optional_3 a2 a3 1), .int a4, .int a5, .int a6, .int a7, .int a8, .int a9, .int a10, .int a11])), (q1, .inr (1, [.int b0, .int b1, .int b2, .int b3, .int b4, .int b5, .int b6, .int b7, .int b8, .int b9, .int b10, .int b11, .ref q2])), (q2, .inl (cA, 7, .inl ff))]) [2, 0, 1] rfl
      have hD := hD.sub (ws' := [(q0, .inr (0, [.int a0, .int a1, .int a2, .int (gx_X0_optional_3 a2 a3 1), .int a4, .int a5, .int a6, .int a7, .int a8, .int a9, .int a10, .int a11])), (q1, .inr (1, [.int b0, .int b1, .int b2, .int b3, .int b4, .int b5, .int b6, .int b7, .int b8, .int b9, .int b10, .int b11, .ref q2])), (q2, .inl (cA, 7, .inl ff))]) [2, 0, 1] (by decide) rfl
      have hP : va_P (dC, dI) vwCl [(q0, .inr (0, [.int a0, .int a1, .int a2, .int (gx_X0_optional_3 a2 a3 1), .int a4, .int a5, .int a6, .int a7, .int a8, .int a9, .int a10, .int a11])), (q1, .inr (1, [.int b0, .int b1, .int b2, .int b3, .int b4, .int b5, .int b6, .int b7, .int b8, .int b9, .int b10, .int b11, .ref q2])), (q2, .inl (cA, 7, .inl ff))] H := hP
      have hD : va_D (fun q : Nat => s.heap.size ≤ q) [(q0, .inr (0, [.int a0, .int a1, .int a2, .int (gx_X0_optional_3 a2 a3 1), .int a4, .int a5, .int a6, .int a7, .int a8, .int a9, .int a10, .int a11])), (q1, .inr (1, [.int b0, .int b1, .int b2, .int b3, .int b4, .int b5, .int b6, .int b7, .int b8, .int b9, .int b10, .int b11, .ref q2])), (q2, .inl (cA, 7, .inl ff))] := hD
      refine lv_pop hx hb dL_law_334 rfl ?_
      refine lv_aload_n hx hb dL_law_335 rfl (lv_at hl 2 rfl) ?_
      refine lv_aload_n hx hb dL_law_336 rfl (lv_at hl 0 rfl) ?_
      refine lv_iload_n hx hb dL_law_337 rfl (lv_at hl 3 rfl) ?_
      refine lv_iconst (v := 1) hx hb dL_law_338 (by decide) ?_
      refine lv_iadd hx hb dL_law_339 ?_
      refine va_sld hx hb hX hbl hbA hS hin1 dL_law_340 ?_
      refine lv_if_eq (tgt := 348) hx hb dL_law_341 (by decide) (fun c9 => absurd c9 c_29) (fun c9 => ?_)
      refine lv_iconst (v := 1) hx hb dL_law_344 (by decide) ?_
      refine lv_goto (tgt := 349) hx hb dL_law_345 (by decide) ?_
      have hPc := hP.sub (ws' := [(q1, .inr (1, [.int b0, .int b1, .int b2, .int b3, .int b4, .int b5, .int b6, .int b7, .int b8, .int b9, .int b10, .int b11, .ref q2]))]) [1] rfl
      have hDc := hD.sub (ws' := [(q1, .inr (1, [.int b0, .int b1, .int b2, .int b3, .int b4, .int b5, .int b6, .int b7, .int b8, .int b9, .int b10, .int b11, .ref q2]))]) [1] (by decide) rfl
      have hKc := hK.sub (tys' := []) [] rfl
      have hFc := va_free (wc := [(q1, .inr (1, [.int b0, .int b1, .int b2, .int b3, .int b4, .int b5, .int b6, .int b7, .int b8, .int b9, .int b10, .int b11, .ref q2]))]) hD hS hA [1] rfl
      refine va_calli (va_runV (As := [.int 1]) (rest := []) ⟨hx, hb, hml, hown, hts⟩ (ct_X1_optional l dC dI q1 q2 H.size b0 b1 b2 b3 b4 b5 b6 b7 b8 b9 b10 b11 1 (by decide)) (cwV 1 hts gL_law_X1_optional rfl rfl rfl (by decide +kernel) ⟨Nat.le_of_ble_eq_true rfl, Nat.le_of_ble_eq_true rfl⟩) ⟨fun a U g mk q => by obtain ⟨q0, q1, qP, qK, qD⟩ := q; exact ⟨q0, q1, qP, va_K.moved (u := U) (U := U.calling g mk a) (Vm.Alike.refl U.vm) qK, qD⟩, va_recv hKc hPc (ci := 1) (q0 := 0) rfl rfl, fun U hU hW => ⟨rfl, by rw [hU], by rw [hU]; exact hPc, va_K.moved hW.alike hKc, hDc.weaken (fun _ _ _ _ => trivial)⟩⟩ rfl rfl hl.1 rfl (lv_room (Nat.le_of_ble_eq_true rfl)) dL_law_349 ⟨Nat.le_of_ble_eq_true rfl, Nat.le_of_ble_eq_true rfl⟩) hS (fun q _ h => hFc q h) hFc (fun r_33 u t H1 locs ht hvm hw hB hz1 hk1 hS => ?_)
      obtain ⟨er, hu⟩ := hw
      subst hu
      subst er
      obtain ⟨hP1, -, hD1⟩ := hB
      rw [ht] at hP1
      obtain ⟨hP, hD⟩ := va_join (wr := [(q0, .inr (0, [.int a0, .int a1, .int a2, .int (gx_X0_optional_3 a2 a3 1), .int a4, .int a5, .int a6, .int a7, .int a8, .int a9, .int a10, .int a11])), (q2, .inl (cA, 7, .inl ff))]) (w1 := [(q1, .inr (1, [.int gx_X1_optional_0, .int b1, .int b2, .int b3, .int b4, .int b5, .int b6, .int b7, .int b8, .int b9, .int (gx_X1_optional_10 b8 b10 1), .int b11, .ref q2]))]) hP hD [1] [0, 2] rfl rfl (by decide) (by decide) hk1 hFc hP1 hD1
      generalize H1 = H at hP hS ⊢
      have hP := hP.sub (ws' := [(q0, .inr (0, [.int a0, .int a1, .int a2, .int (gx_X0_optional_3 a2 a3 1), .int a4, .int a5, .int a6, .int a7, .int a8, .int a9, .int a10, .int a11])), (q1, .inr (1, [.int gx_X1_optional_0, .int b1, .int b2, .int b3, .int b4, .int b5, .int b6, .int b7, .int b8, .int b9, .int (gx_X1_optional_10 b8 b10 1), .int b11, .ref q2])), (q2, .inl (cA, 7, .inl ff))]) [0, 2, 1] rfl
      have hD := hD.sub (ws' := [(q0, .inr (0, [.int a0, .int a1, .int a2, .int (gx_X0_optional_3 a2 a3 1), .int a4, .int a5, .int a6, .int a7, .int a8, .int a9, .int a10, .int a11])), (q1, .inr (1, [.int gx_X1_optional_0, .int b1, .int b2, .int b3, .int b4, .int b5, .int b6, .int b7, .int b8, .int b9, .int (gx_X1_optional_10 b8 b10 1), .int b11, .ref q2])), (q2, .inl (cA, 7, .inl ff))]) [0, 2, 1] (by decide) rfl
      have hP : va_P (dC, dI) vwCl [(q0, .inr (0, [.int a0, .int a1, .int a2, .int (gx_X0_optional_3 a2 a3 1), .int a4, .int a5, .int a6, .int a7, .int a8, .int a9, .int a10, .int a11])), (q1, .inr (1, [.int gx_X1_optional_0, .int b1, .int b2, .int b3, .int b4, .int b5, .int b6, .int b7, .int b8, .int b9, .int (gx_X1_optional_10 b8 b10 1), .int b11, .ref q2])), (q2, .inl (cA, 7, .inl ff))] H := hP
      have hD : va_D (fun q : Nat => s.heap.size ≤ q) [(q0, .inr (0, [.int a0, .int a1, .int a2, .int (gx_X0_optional_3 a2 a3 1), .int a4, .int a5, .int a6, .int a7, .int a8, .int a9, .int a10, .int a11])), (q1, .inr (1, [.int gx_X1_optional_0, .int b1, .int b2, .int b3, .int b4, .int b5, .int b6, .int b7, .int b8, .int b9, .int (gx_X1_optional_10 b8 b10 1), .int b11, .ref q2])), (q2, .inl (cA, 7, .inl ff))] := hD
      refine lv_pop hx hb dL_law_352 rfl ?_
      refine lv_goto (tgt := 458) hx hb dL_law_353 (by decide) ?_
      have hR : Rel [a0, a1, a2, gx_X0_optional_3 a2 a3 1, a4, a5, a6, a7, a8, a9, a10, a11] [gx_X1_optional_0, b1, b2, b3, b4, b5, b6, b7, b8, b9, gx_X1_optional_10 b8 b10 1, b11] ff := (h_optional a0 a1 a2 a3 a4 a5 a6 a7 a8 a9 a10 a11 b0 b1 b2 b3 b4 b5 b6 b7 b8 b9 b10 b11 ff 1 hR (by decide))
      obtain ⟨x3n, ex3n⟩ : ∃ y : Int32, y = x3 + 3 := ⟨_, rfl⟩
      refine lv_iinc (v := x3n) (lv' := [(3, .int x3n), (0, .ref b), (1, .ref q0), (2, .ref q1)]) hx hb dL_law_458 hl (k := 3) rfl (by rw [ex3n]; rfl) (by decide) rfl (fun ls hl => ?_)
      refine lv_goto (tgt := 28) hx hb dL_law_461 (by decide) ?_
      exact ih (i + 3) x3n (by omega) (by omega) (by rw [ex3n, ex3]; exact nI_add i 3) a0 a1 a2 (gx_X0_optional_3 a2 a3 1) a4 a5 a6 a7 a8 a9 a10 a11 gx_X1_optional_0 b1 b2 b3 b4 b5 b6 b7 b8 b9 (gx_X1_optional_10 b8 b10 1) b11 ff hR q0 q1 q2 cA _ _ hK hP hD hS ls (lv_sub hl [1, 2, 3, 0] rfl)
    by_cases c_34 : ((xs (x3).toNatClampNeg) &&& 15) = 8
    · refine lv_tableIn (off := 314) (tgt := 356) hx hb dL_law_42 (by rw [c_34]; decide) (by rw [c_34]; decide) (by rw [c_34]; rfl) (by decide) ?_
      refine lv_aload_n hx hb dL_law_356 rfl (lv_at hl 1 rfl) ?_
      refine lv_aload_n hx hb dL_law_357 rfl (lv_at hl 0 rfl) ?_
      refine lv_iload_n hx hb dL_law_358 rfl (lv_at hl 3 rfl) ?_
      refine lv_iconst (v := 1) hx hb dL_law_359 (by decide) ?_
      refine lv_iadd hx hb dL_law_360 ?_
      refine va_sld hx hb hX hbl hbA hS hin1 dL_law_361 ?_
      refine lv_aload_n hx hb dL_law_362 rfl (lv_at hl 0 rfl) ?_
      refine lv_iload_n hx hb dL_law_363 rfl (lv_at hl 3 rfl) ?_
      refine lv_iconst (v := 2) hx hb dL_law_364 (by decide) ?_
      refine lv_iadd hx hb dL_law_365 ?_
      refine va_sld hx hb hX hbl hbA hS hin2 dL_law_366 ?_
      have hPc := hP.sub (ws' := [(q0, .inr (0, [.int a0, .int a1, .int a2, .int a3, .int a4, .int a5, .int a6, .int a7, .int a8, .int a9, .int a10, .int a11]))]) [0] rfl
      have hDc := hD.sub (ws' := [(q0, .inr (0, [.int a0, .int a1, .int a2, .int a3, .int a4, .int a5, .int a6, .int a7, .int a8, .int a9, .int a10, .int a11]))]) [0] (by decide) rfl
      have hKc := hK.sub (tys' := []) [] rfl
      have hFc := va_free (wc := [(q0, .inr (0, [.int a0, .int a1, .int a2, .int a3, .int a4, .int a5, .int a6, .int a7, .int a8, .int a9, .int a10, .int a11]))]) hD hS hA [0] rfl
      refine va_calli (va_runV (As := [.int (xs (x3 + 1).toNatClampNeg), .int (xs (x3 + 2).toNatClampNeg)]) (rest := []) ⟨hx, hb, hml, hown, hts⟩ (ct_X0_both l dC dI q0 H.size a0 a1 a2 a3 a4 a5 a6 a7 a8 a9 a10 a11 (xs (x3 + 1).toNatClampNeg) (xs (x3 + 2).toNatClampNeg)) (cwV 2 hts gL_law_X0_both rfl rfl rfl (by decide +kernel) ⟨Nat.le_of_ble_eq_true rfl, Nat.le_of_ble_eq_true rfl⟩) ⟨fun a U g mk q => by obtain ⟨q0, q1, qP, qK, qD⟩ := q; exact ⟨q0, q1, qP, va_K.moved (u := U) (U := U.calling g mk a) (Vm.Alike.refl U.vm) qK, qD⟩, va_recv hKc hPc (ci := 0) (q0 := 0) rfl rfl, fun U hU hW => ⟨rfl, by rw [hU], by rw [hU]; exact hPc, va_K.moved hW.alike hKc, hDc.weaken (fun _ _ _ _ => trivial)⟩⟩ rfl rfl hl.1 rfl (lv_room (Nat.le_of_ble_eq_true rfl)) dL_law_367 ⟨Nat.le_of_ble_eq_true rfl, Nat.le_of_ble_eq_true rfl⟩) hS (fun q _ h => hFc q h) hFc (fun r_35 u t H1 locs ht hvm hw hB hz1 hk1 hS => ?_)
      obtain ⟨er, hu⟩ := hw
      subst hu
      subst er
      obtain ⟨hP1, -, hD1⟩ := hB
      rw [ht] at hP1
      obtain ⟨hP, hD⟩ := va_join (wr := [(q1, .inr (1, [.int b0, .int b1, .int b2, .int b3, .int b4, .int b5, .int b6, .int b7, .int b8, .int b9, .int b10, .int b11, .ref q2])), (q2, .inl (cA, 7, .inl ff))]) (w1 := [(q0, .inr (0, [.int a0, .int a1, .int a2, .int a3, .int a4, .int a5, .int a6, .int a7, .int a8, .int a9, .int a10, .int a11]))]) hP hD [0] [1, 2] rfl rfl (by decide) (by decide) hk1 hFc hP1 hD1
      generalize H1 = H at hP hS ⊢
      have hP := hP.sub (ws' := [(q0, .inr (0, [.int a0, .int a1, .int a2, .int a3, .int a4, .int a5, .int a6, .int a7, .int a8, .int a9, .int a10, .int a11])), (q1, .inr (1, [.int b0, .int b1, .int b2, .int b3, .int b4, .int b5, .int b6, .int b7, .int b8, .int b9, .int b10, .int b11, .ref q2])), (q2, .inl (cA, 7, .inl ff))]) [2, 0, 1] rfl
      have hD := hD.sub (ws' := [(q0, .inr (0, [.int a0, .int a1, .int a2, .int a3, .int a4, .int a5, .int a6, .int a7, .int a8, .int a9, .int a10, .int a11])), (q1, .inr (1, [.int b0, .int b1, .int b2, .int b3, .int b4, .int b5, .int b6, .int b7, .int b8, .int b9, .int b10, .int b11, .ref q2])), (q2, .inl (cA, 7, .inl ff))]) [2, 0, 1] (by decide) rfl
      have hP : va_P (dC, dI) vwCl [(q0, .inr (0, [.int a0, .int a1, .int a2, .int a3, .int a4, .int a5, .int a6, .int a7, .int a8, .int a9, .int a10, .int a11])), (q1, .inr (1, [.int b0, .int b1, .int b2, .int b3, .int b4, .int b5, .int b6, .int b7, .int b8, .int b9, .int b10, .int b11, .ref q2])), (q2, .inl (cA, 7, .inl ff))] H := hP
      have hD : va_D (fun q : Nat => s.heap.size ≤ q) [(q0, .inr (0, [.int a0, .int a1, .int a2, .int a3, .int a4, .int a5, .int a6, .int a7, .int a8, .int a9, .int a10, .int a11])), (q1, .inr (1, [.int b0, .int b1, .int b2, .int b3, .int b4, .int b5, .int b6, .int b7, .int b8, .int b9, .int b10, .int b11, .ref q2])), (q2, .inl (cA, 7, .inl ff))] := hD
      refine lv_pop hx hb dL_law_370 rfl ?_
      refine lv_aload_n hx hb dL_law_371 rfl (lv_at hl 2 rfl) ?_
      refine lv_aload_n hx hb dL_law_372 rfl (lv_at hl 0 rfl) ?_
      refine lv_iload_n hx hb dL_law_373 rfl (lv_at hl 3 rfl) ?_
      refine lv_iconst (v := 1) hx hb dL_law_374 (by decide) ?_
      refine lv_iadd hx hb dL_law_375 ?_
      refine va_sld hx hb hX hbl hbA hS hin1 dL_law_376 ?_
      refine lv_aload_n hx hb dL_law_377 rfl (lv_at hl 0 rfl) ?_
      refine lv_iload_n hx hb dL_law_378 rfl (lv_at hl 3 rfl) ?_
      refine lv_iconst (v := 2) hx hb dL_law_379 (by decide) ?_
      refine lv_iadd hx hb dL_law_380 ?_
      refine va_sld hx hb hX hbl hbA hS hin2 dL_law_381 ?_
      have hPc := hP.sub (ws' := [(q1, .inr (1, [.int b0, .int b1, .int b2, .int b3, .int b4, .int b5, .int b6, .int b7, .int b8, .int b9, .int b10, .int b11, .ref q2]))]) [1] rfl
      have hDc := hD.sub (ws' := [(q1, .inr (1, [.int b0, .int b1, .int b2, .int b3, .int b4, .int b5, .int b6, .int b7, .int b8, .int b9, .int b10, .int b11, .ref q2]))]) [1] (by decide) rfl
      have hKc := hK.sub (tys' := []) [] rfl
      have hFc := va_free (wc := [(q1, .inr (1, [.int b0, .int b1, .int b2, .int b3, .int b4, .int b5, .int b6, .int b7, .int b8, .int b9, .int b10, .int b11, .ref q2]))]) hD hS hA [1] rfl
      refine va_calli (va_runV (As := [.int (xs (x3 + 1).toNatClampNeg), .int (xs (x3 + 2).toNatClampNeg)]) (rest := []) ⟨hx, hb, hml, hown, hts⟩ (ct_X1_both l dC dI q1 q2 H.size b0 b1 b2 b3 b4 b5 b6 b7 b8 b9 b10 b11 (xs (x3 + 1).toNatClampNeg) (xs (x3 + 2).toNatClampNeg)) (cwV 2 hts gL_law_X1_both rfl rfl rfl (by decide +kernel) ⟨Nat.le_of_ble_eq_true rfl, Nat.le_of_ble_eq_true rfl⟩) ⟨fun a U g mk q => by obtain ⟨q0, q1, qP, qK, qD⟩ := q; exact ⟨q0, q1, qP, va_K.moved (u := U) (U := U.calling g mk a) (Vm.Alike.refl U.vm) qK, qD⟩, va_recv hKc hPc (ci := 1) (q0 := 0) rfl rfl, fun U hU hW => ⟨rfl, by rw [hU], by rw [hU]; exact hPc, va_K.moved hW.alike hKc, hDc.weaken (fun _ _ _ _ => trivial)⟩⟩ rfl rfl hl.1 rfl (lv_room (Nat.le_of_ble_eq_true rfl)) dL_law_382 ⟨Nat.le_of_ble_eq_true rfl, Nat.le_of_ble_eq_true rfl⟩) hS (fun q _ h => hFc q h) hFc (fun r_36 u t H1 locs ht hvm hw hB hz1 hk1 hS => ?_)
      obtain ⟨er, hu⟩ := hw
      subst hu
      subst er
      obtain ⟨hP1, -, hD1⟩ := hB
      rw [ht] at hP1
      obtain ⟨hP, hD⟩ := va_join (wr := [(q0, .inr (0, [.int a0, .int a1, .int a2, .int a3, .int a4, .int a5, .int a6, .int a7, .int a8, .int a9, .int a10, .int a11])), (q2, .inl (cA, 7, .inl ff))]) (w1 := [(q1, .inr (1, [.int gx_X1_both_0, .int b1, .int b2, .int b3, .int b4, .int b5, .int b6, .int b7, .int b8, .int b9, .int b10, .int b11, .ref q2]))]) hP hD [1] [0, 2] rfl rfl (by decide) (by decide) hk1 hFc hP1 hD1
      generalize H1 = H at hP hS ⊢
      have hP := hP.sub (ws' := [(q0, .inr (0, [.int a0, .int a1, .int a2, .int a3, .int a4, .int a5, .int a6, .int a7, .int a8, .int a9, .int a10, .int a11])), (q1, .inr (1, [.int gx_X1_both_0, .int b1, .int b2, .int b3, .int b4, .int b5, .int b6, .int b7, .int b8, .int b9, .int b10, .int b11, .ref q2])), (q2, .inl (cA, 7, .inl ff))]) [0, 2, 1] rfl
      have hD := hD.sub (ws' := [(q0, .inr (0, [.int a0, .int a1, .int a2, .int a3, .int a4, .int a5, .int a6, .int a7, .int a8, .int a9, .int a10, .int a11])), (q1, .inr (1, [.int gx_X1_both_0, .int b1, .int b2, .int b3, .int b4, .int b5, .int b6, .int b7, .int b8, .int b9, .int b10, .int b11, .ref q2])), (q2, .inl (cA, 7, .inl ff))]) [0, 2, 1] (by decide) rfl
      have hP : va_P (dC, dI) vwCl [(q0, .inr (0, [.int a0, .int a1, .int a2, .int a3, .int a4, .int a5, .int a6, .int a7, .int a8, .int a9, .int a10, .int a11])), (q1, .inr (1, [.int gx_X1_both_0, .int b1, .int b2, .int b3, .int b4, .int b5, .int b6, .int b7, .int b8, .int b9, .int b10, .int b11, .ref q2])), (q2, .inl (cA, 7, .inl ff))] H := hP
      have hD : va_D (fun q : Nat => s.heap.size ≤ q) [(q0, .inr (0, [.int a0, .int a1, .int a2, .int a3, .int a4, .int a5, .int a6, .int a7, .int a8, .int a9, .int a10, .int a11])), (q1, .inr (1, [.int gx_X1_both_0, .int b1, .int b2, .int b3, .int b4, .int b5, .int b6, .int b7, .int b8, .int b9, .int b10, .int b11, .ref q2])), (q2, .inl (cA, 7, .inl ff))] := hD
      refine lv_pop hx hb dL_law_385 rfl ?_
      refine lv_goto (tgt := 458) hx hb dL_law_386 (by decide) ?_
      have hR : Rel [a0, a1, a2, a3, a4, a5, a6, a7, a8, a9, a10, a11] [gx_X1_both_0, b1, b2, b3, b4, b5, b6, b7, b8, b9, b10, b11] ff := (h_both a0 a1 a2 a3 a4 a5 a6 a7 a8 a9 a10 a11 b0 b1 b2 b3 b4 b5 b6 b7 b8 b9 b10 b11 ff (xs (x3 + 1).toNatClampNeg) (xs (x3 + 2).toNatClampNeg) hR)
      obtain ⟨x3n, ex3n⟩ : ∃ y : Int32, y = x3 + 3 := ⟨_, rfl⟩
      refine lv_iinc (v := x3n) (lv' := [(3, .int x3n), (0, .ref b), (1, .ref q0), (2, .ref q1)]) hx hb dL_law_458 hl (k := 3) rfl (by rw [ex3n]; rfl) (by decide) rfl (fun ls hl => ?_)
      refine lv_goto (tgt := 28) hx hb dL_law_461 (by decide) ?_
      exact ih (i + 3) x3n (by omega) (by omega) (by rw [ex3n, ex3]; exact nI_add i 3) a0 a1 a2 a3 a4 a5 a6 a7 a8 a9 a10 a11 gx_X1_both_0 b1 b2 b3 b4 b5 b6 b7 b8 b9 b10 b11 ff hR q0 q1 q2 cA _ _ hK hP hD hS ls (lv_sub hl [1, 2, 3, 0] rfl)
    by_cases c_37 : ((xs (x3).toNatClampNeg) &&& 15) = 9
    · refine lv_tableIn (off := 347) (tgt := 389) hx hb dL_law_42 (by rw [c_37]; decide) (by rw [c_37]; decide) (by rw [c_37]; rfl) (by decide) ?_
      refine lv_aload_n hx hb dL_law_389 rfl (lv_at hl 1 rfl) ?_
      refine lv_aload_n hx hb dL_law_390 rfl (lv_at hl 0 rfl) ?_
      refine lv_iload_n hx hb dL_law_391 rfl (lv_at hl 3 rfl) ?_
      refine lv_iconst (v := 1) hx hb dL_law_392 (by decide) ?_
      refine lv_iadd hx hb dL_law_393 ?_
      refine va_sld hx hb hX hbl hbA hS hin1 dL_law_394 ?_
      have hPc := hP.sub (ws' := [(q0, .inr (0, [.int a0, .int a1, .int a2, .int a3, .int a4, .int a5, .int a6, .int a7, .int a8, .int a9, .int a10, .int a11]))]) [0] rfl
      have hDc := hD.sub (ws' := [(q0, .inr (0, [.int a0, .int a1, .int a2, .int a3, .int a4, .int a5, .int a6, .int a7, .int a8, .int a9, .int a10, .int a11]))]) [0] (by decide) rfl
      have hKc := hK.sub (tys' := []) [] rfl
      have hFc := va_free (wc := [(q0, .inr (0, [.int a0, .int a1, .int a2, .int a3, .int a4, .int a5, .int a6, .int a7, .int a8, .int a9, .int a10, .int a11]))]) hD hS hA [0] rfl
      refine va_calli (va_runV (As := [.int (xs (x3 + 1).toNatClampNeg)]) (rest := []) ⟨hx, hb, hml, hown, hts⟩ (ct_X0_extended l dC dI q0 H.size a0 a1 a2 a3 a4 a5 a6 a7 a8 a9 a10 a11 (xs (x3 + 1).toNatClampNeg)) (cwV 1 hts gL_law_X0_extended rfl rfl rfl (by decide +kernel) ⟨Nat.le_of_ble_eq_true rfl, Nat.le_of_ble_eq_true rfl⟩) ⟨fun a U g mk q => by obtain ⟨q0, q1, qP, qK, qD⟩ := q; exact ⟨q0, q1, qP, va_K.moved (u := U) (U := U.calling g mk a) (Vm.Alike.refl U.vm) qK, qD⟩, va_recv hKc hPc (ci := 0) (q0 := 0) rfl rfl, fun U hU hW => ⟨rfl, by rw [hU], by rw [hU]; exact hPc, va_K.moved hW.alike hKc, hDc.weaken (fun _ _ _ _ => trivial)⟩⟩ rfl rfl hl.1 rfl (lv_room (Nat.le_of_ble_eq_true rfl)) dL_law_395 ⟨Nat.le_of_ble_eq_true rfl, Nat.le_of_ble_eq_true rfl⟩) hS (fun q _ h => hFc q h) hFc (fun r_38 u t H1 locs ht hvm hw hB hz1 hk1 hS => ?_)
      obtain ⟨er, hu⟩ := hw
      subst hu
      subst er
      obtain ⟨hP1, -, hD1⟩ := hB
      rw [ht] at hP1
      obtain ⟨hP, hD⟩ := va_join (wr := [(q1, .inr (1, [.int b0, .int b1, .int b2, .int b3, .int b4, .int b5, .int b6, .int b7, .int b8, .int b9, .int b10, .int b11, .ref q2])), (q2, .inl (cA, 7, .inl ff))]) (w1 := [(q0, .inr (0, [.int a0, .int a1, .int a2, .int a3, .int a4, .int a5, .int a6, .int a7, .int a8, .int a9, .int a10, .int a11]))]) hP hD [0] [1, 2] rfl rfl (by decide) (by decide) hk1 hFc hP1 hD1
      generalize H1 = H at hP hS ⊢
      have hP := hP.sub (ws' := [(q0, .inr (0, [.int a0, .int a1, .int a2, .int a3, .int a4, .int a5, .int a6, .int a7, .int a8, .int a9, .int a10, .int a11])), (q1, .inr (1, [.int b0, .int b1, .int b2, .int b3, .int b4, .int b5, .int b6, .int b7, .int b8, .int b9, .int b10, .int b11, .ref q2])), (q2, .inl (cA, 7, .inl ff))]) [2, 0, 1] rfl
      have hD := hD.sub (ws' := [(q0, .inr (0, [.int a0, .int a1, .int a2, .int a3, .int a4, .int a5, .int a6, .int a7, .int a8, .int a9, .int a10, .int a11])), (q1, .inr (1, [.int b0, .int b1, .int b2, .int b3, .int b4, .int b5, .int b6, .int b7, .int b8, .int b9, .int b10, .int b11, .ref q2])), (q2, .inl (cA, 7, .inl ff))]) [2, 0, 1] (by decide) rfl
      have hP : va_P (dC, dI) vwCl [(q0, .inr (0, [.int a0, .int a1, .int a2, .int a3, .int a4, .int a5, .int a6, .int a7, .int a8, .int a9, .int a10, .int a11])), (q1, .inr (1, [.int b0, .int b1, .int b2, .int b3, .int b4, .int b5, .int b6, .int b7, .int b8, .int b9, .int b10, .int b11, .ref q2])), (q2, .inl (cA, 7, .inl ff))] H := hP
      have hD : va_D (fun q : Nat => s.heap.size ≤ q) [(q0, .inr (0, [.int a0, .int a1, .int a2, .int a3, .int a4, .int a5, .int a6, .int a7, .int a8, .int a9, .int a10, .int a11])), (q1, .inr (1, [.int b0, .int b1, .int b2, .int b3, .int b4, .int b5, .int b6, .int b7, .int b8, .int b9, .int b10, .int b11, .ref q2])), (q2, .inl (cA, 7, .inl ff))] := hD
      refine lv_pop hx hb dL_law_398 rfl ?_
      refine lv_aload_n hx hb dL_law_399 rfl (lv_at hl 2 rfl) ?_
      refine lv_aload_n hx hb dL_law_400 rfl (lv_at hl 0 rfl) ?_
      refine lv_iload_n hx hb dL_law_401 rfl (lv_at hl 3 rfl) ?_
      refine lv_iconst (v := 1) hx hb dL_law_402 (by decide) ?_
      refine lv_iadd hx hb dL_law_403 ?_
      refine va_sld hx hb hX hbl hbA hS hin1 dL_law_404 ?_
      have hPc := hP.sub (ws' := [(q1, .inr (1, [.int b0, .int b1, .int b2, .int b3, .int b4, .int b5, .int b6, .int b7, .int b8, .int b9, .int b10, .int b11, .ref q2]))]) [1] rfl
      have hDc := hD.sub (ws' := [(q1, .inr (1, [.int b0, .int b1, .int b2, .int b3, .int b4, .int b5, .int b6, .int b7, .int b8, .int b9, .int b10, .int b11, .ref q2]))]) [1] (by decide) rfl
      have hKc := hK.sub (tys' := []) [] rfl
      have hFc := va_free (wc := [(q1, .inr (1, [.int b0, .int b1, .int b2, .int b3, .int b4, .int b5, .int b6, .int b7, .int b8, .int b9, .int b10, .int b11, .ref q2]))]) hD hS hA [1] rfl
      refine va_calli (va_runV (As := [.int (xs (x3 + 1).toNatClampNeg)]) (rest := []) ⟨hx, hb, hml, hown, hts⟩ (ct_X1_extended l dC dI q1 q2 H.size b0 b1 b2 b3 b4 b5 b6 b7 b8 b9 b10 b11 (xs (x3 + 1).toNatClampNeg)) (cwV 1 hts gL_law_X1_extended rfl rfl rfl (by decide +kernel) ⟨Nat.le_of_ble_eq_true rfl, Nat.le_of_ble_eq_true rfl⟩) ⟨fun a U g mk q => by obtain ⟨q0, q1, qP, qK, qD⟩ := q; exact ⟨q0, q1, qP, va_K.moved (u := U) (U := U.calling g mk a) (Vm.Alike.refl U.vm) qK, qD⟩, va_recv hKc hPc (ci := 1) (q0 := 0) rfl rfl, fun U hU hW => ⟨rfl, by rw [hU], by rw [hU]; exact hPc, va_K.moved hW.alike hKc, hDc.weaken (fun _ _ _ _ => trivial)⟩⟩ rfl rfl hl.1 rfl (lv_room (Nat.le_of_ble_eq_true rfl)) dL_law_405 ⟨Nat.le_of_ble_eq_true rfl, Nat.le_of_ble_eq_true rfl⟩) hS (fun q _ h => hFc q h) hFc (fun r_39 u t H1 locs ht hvm hw hB hz1 hk1 hS => ?_)
      obtain ⟨er, hu⟩ := hw
      subst hu
      subst er
      obtain ⟨hP1, -, hD1⟩ := hB
      rw [ht] at hP1
      obtain ⟨hP, hD⟩ := va_join (wr := [(q0, .inr (0, [.int a0, .int a1, .int a2, .int a3, .int a4, .int a5, .int a6, .int a7, .int a8, .int a9, .int a10, .int a11])), (q2, .inl (cA, 7, .inl ff))]) (w1 := [(q1, .inr (1, [.int gx_X1_extended_0, .int b1, .int b2, .int b3, .int b4, .int b5, .int b6, .int b7, .int b8, .int b9, .int b10, .int b11, .ref q2]))]) hP hD [1] [0, 2] rfl rfl (by decide) (by decide) hk1 hFc hP1 hD1
      generalize H1 = H at hP hS ⊢
      have hP := hP.sub (ws' := [(q0, .inr (0, [.int a0, .int a1, .int a2, .int a3, .int a4, .int a5, .int a6, .int a7, .int a8, .int a9, .int a10, .int a11])), (q1, .inr (1, [.int gx_X1_extended_0, .int b1, .int b2, .int b3, .int b4, .int b5, .int b6, .int b7, .int b8, .int b9, .int b10, .int b11, .ref q2])), (q2, .inl (cA, 7, .inl ff))]) [0, 2, 1] rfl
      have hD := hD.sub (ws' := [(q0, .inr (0, [.int a0, .int a1, .int a2, .int a3, .int a4, .int a5, .int a6, .int a7, .int a8, .int a9, .int a10, .int a11])), (q1, .inr (1, [.int gx_X1_extended_0, .int b1, .int b2, .int b3, .int b4, .int b5, .int b6, .int b7, .int b8, .int b9, .int b10, .int b11, .ref q2])), (q2, .inl (cA, 7, .inl ff))]) [0, 2, 1] (by decide) rfl
      have hP : va_P (dC, dI) vwCl [(q0, .inr (0, [.int a0, .int a1, .int a2, .int a3, .int a4, .int a5, .int a6, .int a7, .int a8, .int a9, .int a10, .int a11])), (q1, .inr (1, [.int gx_X1_extended_0, .int b1, .int b2, .int b3, .int b4, .int b5, .int b6, .int b7, .int b8, .int b9, .int b10, .int b11, .ref q2])), (q2, .inl (cA, 7, .inl ff))] H := hP
      have hD : va_D (fun q : Nat => s.heap.size ≤ q) [(q0, .inr (0, [.int a0, .int a1, .int a2, .int a3, .int a4, .int a5, .int a6, .int a7, .int a8, .int a9, .int a10, .int a11])), (q1, .inr (1, [.int gx_X1_extended_0, .int b1, .int b2, .int b3, .int b4, .int b5, .int b6, .int b7, .int b8, .int b9, .int b10, .int b11, .ref q2])), (q2, .inl (cA, 7, .inl ff))] := hD
      refine lv_pop hx hb dL_law_408 rfl ?_
      refine lv_goto (tgt := 458) hx hb dL_law_409 (by decide) ?_
      have hR : Rel [a0, a1, a2, a3, a4, a5, a6, a7, a8, a9, a10, a11] [gx_X1_extended_0, b1, b2, b3, b4, b5, b6, b7, b8, b9, b10, b11] ff := (h_extended a0 a1 a2 a3 a4 a5 a6 a7 a8 a9 a10 a11 b0 b1 b2 b3 b4 b5 b6 b7 b8 b9 b10 b11 ff (xs (x3 + 1).toNatClampNeg) hR)
      obtain ⟨x3n, ex3n⟩ : ∃ y : Int32, y = x3 + 3 := ⟨_, rfl⟩
      refine lv_iinc (v := x3n) (lv' := [(3, .int x3n), (0, .ref b), (1, .ref q0), (2, .ref q1)]) hx hb dL_law_458 hl (k := 3) rfl (by rw [ex3n]; rfl) (by decide) rfl (fun ls hl => ?_)
      refine lv_goto (tgt := 28) hx hb dL_law_461 (by decide) ?_
      exact ih (i + 3) x3n (by omega) (by omega) (by rw [ex3n, ex3]; exact nI_add i 3) a0 a1 a2 a3 a4 a5 a6 a7 a8 a9 a10 a11 gx_X1_extended_0 b1 b2 b3 b4 b5 b6 b7 b8 b9 b10 b11 ff hR q0 q1 q2 cA _ _ hK hP hD hS ls (lv_sub hl [1, 2, 3, 0] rfl)
    by_cases c_40 : ((xs (x3).toNatClampNeg) &&& 15) = 10
    · refine lv_tableIn (off := 370) (tgt := 412) hx hb dL_law_42 (by rw [c_40]; decide) (by rw [c_40]; decide) (by rw [c_40]; rfl) (by decide) ?_
      refine lv_aload_n hx hb dL_law_412 rfl (lv_at hl 1 rfl) ?_
      refine lv_aload_n hx hb dL_law_413 rfl (lv_at hl 0 rfl) ?_
      refine lv_iload_n hx hb dL_law_414 rfl (lv_at hl 3 rfl) ?_
      refine lv_iconst (v := 1) hx hb dL_law_415 (by decide) ?_
      refine lv_iadd hx hb dL_law_416 ?_
      refine va_sld hx hb hX hbl hbA hS hin1 dL_law_417 ?_
      have hPc := hP.sub (ws' := [(q0, .inr (0, [.int a0, .int a1, .int a2, .int a3, .int a4, .int a5, .int a6, .int a7, .int a8, .int a9, .int a10, .int a11]))]) [0] rfl
      have hDc := hD.sub (ws' := [(q0, .inr (0, [.int a0, .int a1, .int a2, .int a3, .int a4, .int a5, .int a6, .int a7, .int a8, .int a9, .int a10, .int a11]))]) [0] (by decide) rfl
      have hKc := hK.sub (tys' := []) [] rfl
      have hFc := va_free (wc := [(q0, .inr (0, [.int a0, .int a1, .int a2, .int a3, .int a4, .int a5, .int a6, .int a7, .int a8, .int a9, .int a10, .int a11]))]) hD hS hA [0] rfl
      refine va_calli (va_runV (As := [.int (xs (x3 + 1).toNatClampNeg)]) (rest := []) ⟨hx, hb, hml, hown, hts⟩ (ct_X0_area l dC dI q0 H.size a0 a1 a2 a3 a4 a5 a6 a7 a8 a9 a10 a11 (xs (x3 + 1).toNatClampNeg)) (cwV 1 hts gL_law_X0_area rfl rfl rfl (by decide +kernel) ⟨Nat.le_of_ble_eq_true rfl, Nat.le_of_ble_eq_true rfl⟩) ⟨fun a U g mk q => by obtain ⟨q0, q1, qP, qK, qD⟩ := q; exact ⟨q0, q1, qP, va_K.moved (u := U) (U := U.calling g mk a) (Vm.Alike.refl U.vm) qK, qD⟩, va_recv hKc hPc (ci := 0) (q0 := 0) rfl rfl, fun U hU hW => ⟨rfl, by rw [hU], by rw [hU]; exact hPc, va_K.moved hW.alike hKc, hDc.weaken (fun _ _ _ _ => trivial)⟩⟩ rfl rfl hl.1 rfl (lv_room (Nat.le_of_ble_eq_true rfl)) dL_law_418 ⟨Nat.le_of_ble_eq_true rfl, Nat.le_of_ble_eq_true rfl⟩) hS (fun q _ h => hFc q h) hFc (fun r_41 u t H1 locs ht hvm hw hB hz1 hk1 hS => ?_)
      obtain ⟨er, hu⟩ := hw
      subst hu
      subst er
      obtain ⟨hP1, -, hD1⟩ := hB
      rw [ht] at hP1
      obtain ⟨hP, hD⟩ := va_join (wr := [(q1, .inr (1, [.int b0, .int b1, .int b2, .int b3, .int b4, .int b5, .int b6, .int b7, .int b8, .int b9, .int b10, .int b11, .ref q2])), (q2, .inl (cA, 7, .inl ff))]) (w1 := [(q0, .inr (0, [.int a0, .int a1, .int a2, .int a3, .int a4, .int a5, .int a6, .int a7, .int a8, .int a9, .int a10, .int a11]))]) hP hD [0] [1, 2] rfl rfl (by decide) (by decide) hk1 hFc hP1 hD1
      generalize H1 = H at hP hS ⊢
      have hP := hP.sub (ws' := [(q0, .inr (0, [.int a0, .int a1, .int a2, .int a3, .int a4, .int a5, .int a6, .int a7, .int a8, .int a9, .int a10, .int a11])), (q1, .inr (1, [.int b0, .int b1, .int b2, .int b3, .int b4, .int b5, .int b6, .int b7, .int b8, .int b9, .int b10, .int b11, .ref q2])), (q2, .inl (cA, 7, .inl ff))]) [2, 0, 1] rfl
      have hD := hD.sub (ws' := [(q0, .inr (0, [.int a0, .int a1, .int a2, .int a3, .int a4, .int a5, .int a6, .int a7, .int a8, .int a9, .int a10, .int a11])), (q1, .inr (1, [.int b0, .int b1, .int b2, .int b3, .int b4, .int b5, .int b6, .int b7, .int b8, .int b9, .int b10, .int b11, .ref q2])), (q2, .inl (cA, 7, .inl ff))]) [2, 0, 1] (by decide) rfl
      have hP : va_P (dC, dI) vwCl [(q0, .inr (0, [.int a0, .int a1, .int a2, .int a3, .int a4, .int a5, .int a6, .int a7, .int a8, .int a9, .int a10, .int a11])), (q1, .inr (1, [.int b0, .int b1, .int b2, .int b3, .int b4, .int b5, .int b6, .int b7, .int b8, .int b9, .int b10, .int b11, .ref q2])), (q2, .inl (cA, 7, .inl ff))] H := hP
      have hD : va_D (fun q : Nat => s.heap.size ≤ q) [(q0, .inr (0, [.int a0, .int a1, .int a2, .int a3, .int a4, .int a5, .int a6, .int a7, .int a8, .int a9, .int a10, .int a11])), (q1, .inr (1, [.int b0, .int b1, .int b2, .int b3, .int b4, .int b5, .int b6, .int b7, .int b8, .int b9, .int b10, .int b11, .ref q2])), (q2, .inl (cA, 7, .inl ff))] := hD
      refine lv_aload_n hx hb dL_law_421 rfl (lv_at hl 2 rfl) ?_
      refine lv_aload_n hx hb dL_law_422 rfl (lv_at hl 0 rfl) ?_
      refine lv_iload_n hx hb dL_law_423 rfl (lv_at hl 3 rfl) ?_
      refine lv_iconst (v := 1) hx hb dL_law_424 (by decide) ?_
      refine lv_iadd hx hb dL_law_425 ?_
      refine va_sld hx hb hX hbl hbA hS hin1 dL_law_426 ?_
      have hPc := hP.sub (ws' := [(q1, .inr (1, [.int b0, .int b1, .int b2, .int b3, .int b4, .int b5, .int b6, .int b7, .int b8, .int b9, .int b10, .int b11, .ref q2]))]) [1] rfl
      have hDc := hD.sub (ws' := [(q1, .inr (1, [.int b0, .int b1, .int b2, .int b3, .int b4, .int b5, .int b6, .int b7, .int b8, .int b9, .int b10, .int b11, .ref q2]))]) [1] (by decide) rfl
      have hKc := hK.sub (tys' := []) [] rfl
      have hFc := va_free (wc := [(q1, .inr (1, [.int b0, .int b1, .int b2, .int b3, .int b4, .int b5, .int b6, .int b7, .int b8, .int b9, .int b10, .int b11, .ref q2]))]) hD hS hA [1] rfl
      refine va_calli (va_runV (As := [.int (xs (x3 + 1).toNatClampNeg)]) (rest := [.int (fx_X0_area (xs (x3 + 1).toNatClampNeg))]) ⟨hx, hb, hml, hown, hts⟩ (ct_X1_area l dC dI q1 q2 H.size b0 b1 b2 b3 b4 b5 b6 b7 b8 b9 b10 b11 (xs (x3 + 1).toNatClampNeg)) (cwV 1 hts gL_law_X1_area rfl rfl rfl (by decide +kernel) ⟨Nat.le_of_ble_eq_true rfl, Nat.le_of_ble_eq_true rfl⟩) ⟨fun a U g mk q => by obtain ⟨q0, q1, qP, qK, qD⟩ := q; exact ⟨q0, q1, qP, va_K.moved (u := U) (U := U.calling g mk a) (Vm.Alike.refl U.vm) qK, qD⟩, va_recv hKc hPc (ci := 1) (q0 := 0) rfl rfl, fun U hU hW => ⟨rfl, by rw [hU], by rw [hU]; exact hPc, va_K.moved hW.alike hKc, hDc.weaken (fun _ _ _ _ => trivial)⟩⟩ rfl rfl hl.1 rfl (lv_room (Nat.le_of_ble_eq_true rfl)) dL_law_427 ⟨Nat.le_of_ble_eq_true rfl, Nat.le_of_ble_eq_true rfl⟩) hS (fun q _ h => hFc q h) hFc (fun r_42 u t H1 locs ht hvm hw hB hz1 hk1 hS => ?_)
      obtain ⟨er, hu⟩ := hw
      subst hu
      subst er
      obtain ⟨hP1, -, hD1⟩ := hB
      rw [ht] at hP1
      obtain ⟨hP, hD⟩ := va_join (wr := [(q0, .inr (0, [.int a0, .int a1, .int a2, .int a3, .int a4, .int a5, .int a6, .int a7, .int a8, .int a9, .int a10, .int a11])), (q2, .inl (cA, 7, .inl ff))]) (w1 := [(q1, .inr (1, [.int gx_X1_area_0, .int b1, .int b2, .int b3, .int b4, .int b5, .int b6, .int b7, .int b8, .int b9, .int b10, .int b11, .ref q2]))]) hP hD [1] [0, 2] rfl rfl (by decide) (by decide) hk1 hFc hP1 hD1
      generalize H1 = H at hP hS ⊢
      have hP := hP.sub (ws' := [(q0, .inr (0, [.int a0, .int a1, .int a2, .int a3, .int a4, .int a5, .int a6, .int a7, .int a8, .int a9, .int a10, .int a11])), (q1, .inr (1, [.int gx_X1_area_0, .int b1, .int b2, .int b3, .int b4, .int b5, .int b6, .int b7, .int b8, .int b9, .int b10, .int b11, .ref q2])), (q2, .inl (cA, 7, .inl ff))]) [0, 2, 1] rfl
      have hD := hD.sub (ws' := [(q0, .inr (0, [.int a0, .int a1, .int a2, .int a3, .int a4, .int a5, .int a6, .int a7, .int a8, .int a9, .int a10, .int a11])), (q1, .inr (1, [.int gx_X1_area_0, .int b1, .int b2, .int b3, .int b4, .int b5, .int b6, .int b7, .int b8, .int b9, .int b10, .int b11, .ref q2])), (q2, .inl (cA, 7, .inl ff))]) [0, 2, 1] (by decide) rfl
      have hP : va_P (dC, dI) vwCl [(q0, .inr (0, [.int a0, .int a1, .int a2, .int a3, .int a4, .int a5, .int a6, .int a7, .int a8, .int a9, .int a10, .int a11])), (q1, .inr (1, [.int gx_X1_area_0, .int b1, .int b2, .int b3, .int b4, .int b5, .int b6, .int b7, .int b8, .int b9, .int b10, .int b11, .ref q2])), (q2, .inl (cA, 7, .inl ff))] H := hP
      have hD : va_D (fun q : Nat => s.heap.size ≤ q) [(q0, .inr (0, [.int a0, .int a1, .int a2, .int a3, .int a4, .int a5, .int a6, .int a7, .int a8, .int a9, .int a10, .int a11])), (q1, .inr (1, [.int gx_X1_area_0, .int b1, .int b2, .int b3, .int b4, .int b5, .int b6, .int b7, .int b8, .int b9, .int b10, .int b11, .ref q2])), (q2, .inl (cA, 7, .inl ff))] := hD
      refine lv_icmp_eq (tgt := 458) hx hb dL_law_430 (by decide) (fun c_43 => ?_) (fun c_43 => ?_)
      · have hR : Rel [a0, a1, a2, a3, a4, a5, a6, a7, a8, a9, a10, a11] [gx_X1_area_0, b1, b2, b3, b4, b5, b6, b7, b8, b9, b10, b11] ff := (h_area a0 a1 a2 a3 a4 a5 a6 a7 a8 a9 a10 a11 b0 b1 b2 b3 b4 b5 b6 b7 b8 b9 b10 b11 ff (xs (x3 + 1).toNatClampNeg) hR).2
        obtain ⟨x3n, ex3n⟩ : ∃ y : Int32, y = x3 + 3 := ⟨_, rfl⟩
        refine lv_iinc (v := x3n) (lv' := [(3, .int x3n), (0, .ref b), (1, .ref q0), (2, .ref q1)]) hx hb dL_law_458 hl (k := 3) rfl (by rw [ex3n]; rfl) (by decide) rfl (fun ls hl => ?_)
        refine lv_goto (tgt := 28) hx hb dL_law_461 (by decide) ?_
        exact ih (i + 3) x3n (by omega) (by omega) (by rw [ex3n, ex3]; exact nI_add i 3) a0 a1 a2 a3 a4 a5 a6 a7 a8 a9 a10 a11 gx_X1_area_0 b1 b2 b3 b4 b5 b6 b7 b8 b9 b10 b11 ff hR q0 q1 q2 cA _ _ hK hP hD hS ls (lv_sub hl [1, 2, 3, 0] rfl)
      exact absurd (h_area a0 a1 a2 a3 a4 a5 a6 a7 a8 a9 a10 a11 b0 b1 b2 b3 b4 b5 b6 b7 b8 b9 b10 b11 ff (xs (x3 + 1).toNatClampNeg) hR).1 c_43
    by_cases c_44 : ((xs (x3).toNatClampNeg) &&& 15) = 11
    · refine lv_tableIn (off := 393) (tgt := 435) hx hb dL_law_42 (by rw [c_44]; decide) (by rw [c_44]; decide) (by rw [c_44]; rfl) (by decide) ?_
      refine lv_aload_n hx hb dL_law_435 rfl (lv_at hl 1 rfl) ?_
      refine lv_aload_n hx hb dL_law_436 rfl (lv_at hl 0 rfl) ?_
      refine lv_iload_n hx hb dL_law_437 rfl (lv_at hl 3 rfl) ?_
      refine lv_iconst (v := 1) hx hb dL_law_438 (by decide) ?_
      refine lv_iadd hx hb dL_law_439 ?_
      refine va_sld hx hb hX hbl hbA hS hin1 dL_law_440 ?_
      have hPc := hP.sub (ws' := [(q0, .inr (0, [.int a0, .int a1, .int a2, .int a3, .int a4, .int a5, .int a6, .int a7, .int a8, .int a9, .int a10, .int a11]))]) [0] rfl
      have hDc := hD.sub (ws' := [(q0, .inr (0, [.int a0, .int a1, .int a2, .int a3, .int a4, .int a5, .int a6, .int a7, .int a8, .int a9, .int a10, .int a11]))]) [0] (by decide) rfl
      have hKc := hK.sub (tys' := []) [] rfl
      have hFc := va_free (wc := [(q0, .inr (0, [.int a0, .int a1, .int a2, .int a3, .int a4, .int a5, .int a6, .int a7, .int a8, .int a9, .int a10, .int a11]))]) hD hS hA [0] rfl
      refine va_calli (va_runV (As := [.int (xs (x3 + 1).toNatClampNeg)]) (rest := []) ⟨hx, hb, hml, hown, hts⟩ (ct_X0_count l dC dI q0 H.size a0 a1 a2 a3 a4 a5 a6 a7 a8 a9 a10 a11 (xs (x3 + 1).toNatClampNeg)) (cwV 1 hts gL_law_X0_count rfl rfl rfl (by decide +kernel) ⟨Nat.le_of_ble_eq_true rfl, Nat.le_of_ble_eq_true rfl⟩) ⟨fun a U g mk q => by obtain ⟨q0, q1, qP, qK, qD⟩ := q; exact ⟨q0, q1, qP, va_K.moved (u := U) (U := U.calling g mk a) (Vm.Alike.refl U.vm) qK, qD⟩, va_recv hKc hPc (ci := 0) (q0 := 0) rfl rfl, fun U hU hW => ⟨rfl, by rw [hU], by rw [hU]; exact hPc, va_K.moved hW.alike hKc, hDc.weaken (fun _ _ _ _ => trivial)⟩⟩ rfl rfl hl.1 rfl (lv_room (Nat.le_of_ble_eq_true rfl)) dL_law_441 ⟨Nat.le_of_ble_eq_true rfl, Nat.le_of_ble_eq_true rfl⟩) hS (fun q _ h => hFc q h) hFc (fun r_45 u t H1 locs ht hvm hw hB hz1 hk1 hS => ?_)
      obtain ⟨er, hu⟩ := hw
      subst hu
      subst er
      obtain ⟨hP1, -, hD1⟩ := hB
      rw [ht] at hP1
      obtain ⟨hP, hD⟩ := va_join (wr := [(q1, .inr (1, [.int b0, .int b1, .int b2, .int b3, .int b4, .int b5, .int b6, .int b7, .int b8, .int b9, .int b10, .int b11, .ref q2])), (q2, .inl (cA, 7, .inl ff))]) (w1 := [(q0, .inr (0, [.int a0, .int a1, .int a2, .int a3, .int a4, .int a5, .int a6, .int a7, .int a8, .int a9, .int a10, .int a11]))]) hP hD [0] [1, 2] rfl rfl (by decide) (by decide) hk1 hFc hP1 hD1
      generalize H1 = H at hP hS ⊢
      have hP := hP.sub (ws' := [(q0, .inr (0, [.int a0, .int a1, .int a2, .int a3, .int a4, .int a5, .int a6, .int a7, .int a8, .int a9, .int a10, .int a11])), (q1, .inr (1, [.int b0, .int b1, .int b2, .int b3, .int b4, .int b5, .int b6, .int b7, .int b8, .int b9, .int b10, .int b11, .ref q2])), (q2, .inl (cA, 7, .inl ff))]) [2, 0, 1] rfl
      have hD := hD.sub (ws' := [(q0, .inr (0, [.int a0, .int a1, .int a2, .int a3, .int a4, .int a5, .int a6, .int a7, .int a8, .int a9, .int a10, .int a11])), (q1, .inr (1, [.int b0, .int b1, .int b2, .int b3, .int b4, .int b5, .int b6, .int b7, .int b8, .int b9, .int b10, .int b11, .ref q2])), (q2, .inl (cA, 7, .inl ff))]) [2, 0, 1] (by decide) rfl
      have hP : va_P (dC, dI) vwCl [(q0, .inr (0, [.int a0, .int a1, .int a2, .int a3, .int a4, .int a5, .int a6, .int a7, .int a8, .int a9, .int a10, .int a11])), (q1, .inr (1, [.int b0, .int b1, .int b2, .int b3, .int b4, .int b5, .int b6, .int b7, .int b8, .int b9, .int b10, .int b11, .ref q2])), (q2, .inl (cA, 7, .inl ff))] H := hP
      have hD : va_D (fun q : Nat => s.heap.size ≤ q) [(q0, .inr (0, [.int a0, .int a1, .int a2, .int a3, .int a4, .int a5, .int a6, .int a7, .int a8, .int a9, .int a10, .int a11])), (q1, .inr (1, [.int b0, .int b1, .int b2, .int b3, .int b4, .int b5, .int b6, .int b7, .int b8, .int b9, .int b10, .int b11, .ref q2])), (q2, .inl (cA, 7, .inl ff))] := hD
      refine lv_pop hx hb dL_law_444 rfl ?_
      refine lv_aload_n hx hb dL_law_445 rfl (lv_at hl 2 rfl) ?_
      refine lv_aload_n hx hb dL_law_446 rfl (lv_at hl 0 rfl) ?_
      refine lv_iload_n hx hb dL_law_447 rfl (lv_at hl 3 rfl) ?_
      refine lv_iconst (v := 1) hx hb dL_law_448 (by decide) ?_
      refine lv_iadd hx hb dL_law_449 ?_
      refine va_sld hx hb hX hbl hbA hS hin1 dL_law_450 ?_
      have hPc := hP.sub (ws' := [(q1, .inr (1, [.int b0, .int b1, .int b2, .int b3, .int b4, .int b5, .int b6, .int b7, .int b8, .int b9, .int b10, .int b11, .ref q2]))]) [1] rfl
      have hDc := hD.sub (ws' := [(q1, .inr (1, [.int b0, .int b1, .int b2, .int b3, .int b4, .int b5, .int b6, .int b7, .int b8, .int b9, .int b10, .int b11, .ref q2]))]) [1] (by decide) rfl
      have hKc := hK.sub (tys' := []) [] rfl
      have hFc := va_free (wc := [(q1, .inr (1, [.int b0, .int b1, .int b2, .int b3, .int b4, .int b5, .int b6, .int b7, .int b8, .int b9, .int b10, .int b11, .ref q2]))]) hD hS hA [1] rfl
      refine va_calli (va_runV (As := [.int (xs (x3 + 1).toNatClampNeg)]) (rest := []) ⟨hx, hb, hml, hown, hts⟩ (ct_X1_count l dC dI q1 q2 H.size b0 b1 b2 b3 b4 b5 b6 b7 b8 b9 b10 b11 (xs (x3 + 1).toNatClampNeg)) (cwV 1 hts gL_law_X1_count rfl rfl rfl (by decide +kernel) ⟨Nat.le_of_ble_eq_true rfl, Nat.le_of_ble_eq_true rfl⟩) ⟨fun a U g mk q => by obtain ⟨q0, q1, qP, qK, qD⟩ := q; exact ⟨q0, q1, qP, va_K.moved (u := U) (U := U.calling g mk a) (Vm.Alike.refl U.vm) qK, qD⟩, va_recv hKc hPc (ci := 1) (q0 := 0) rfl rfl, fun U hU hW => ⟨rfl, by rw [hU], by rw [hU]; exact hPc, va_K.moved hW.alike hKc, hDc.weaken (fun _ _ _ _ => trivial)⟩⟩ rfl rfl hl.1 rfl (lv_room (Nat.le_of_ble_eq_true rfl)) dL_law_451 ⟨Nat.le_of_ble_eq_true rfl, Nat.le_of_ble_eq_true rfl⟩) hS (fun q _ h => hFc q h) hFc (fun r_46 u t H1 locs ht hvm hw hB hz1 hk1 hS => ?_)
      obtain ⟨er, hu⟩ := hw
      subst hu
      subst er
      obtain ⟨hP1, -, hD1⟩ := hB
      rw [ht] at hP1
      obtain ⟨hP, hD⟩ := va_join (wr := [(q0, .inr (0, [.int a0, .int a1, .int a2, .int a3, .int a4, .int a5, .int a6, .int a7, .int a8, .int a9, .int a10, .int a11])), (q2, .inl (cA, 7, .inl ff))]) (w1 := [(q1, .inr (1, [.int gx_X1_count_0, .int b1, .int b2, .int b3, .int b4, .int b5, .int b6, .int b7, .int b8, .int b9, .int b10, .int b11, .ref q2]))]) hP hD [1] [0, 2] rfl rfl (by decide) (by decide) hk1 hFc hP1 hD1
      generalize H1 = H at hP hS ⊢
      have hP := hP.sub (ws' := [(q0, .inr (0, [.int a0, .int a1, .int a2, .int a3, .int a4, .int a5, .int a6, .int a7, .int a8, .int a9, .int a10, .int a11])), (q1, .inr (1, [.int gx_X1_count_0, .int b1, .int b2, .int b3, .int b4, .int b5, .int b6, .int b7, .int b8, .int b9, .int b10, .int b11, .ref q2])), (q2, .inl (cA, 7, .inl ff))]) [0, 2, 1] rfl
      have hD := hD.sub (ws' := [(q0, .inr (0, [.int a0, .int a1, .int a2, .int a3, .int a4, .int a5, .int a6, .int a7, .int a8, .int a9, .int a10, .int a11])), (q1, .inr (1, [.int gx_X1_count_0, .int b1, .int b2, .int b3, .int b4, .int b5, .int b6, .int b7, .int b8, .int b9, .int b10, .int b11, .ref q2])), (q2, .inl (cA, 7, .inl ff))]) [0, 2, 1] (by decide) rfl
      have hP : va_P (dC, dI) vwCl [(q0, .inr (0, [.int a0, .int a1, .int a2, .int a3, .int a4, .int a5, .int a6, .int a7, .int a8, .int a9, .int a10, .int a11])), (q1, .inr (1, [.int gx_X1_count_0, .int b1, .int b2, .int b3, .int b4, .int b5, .int b6, .int b7, .int b8, .int b9, .int b10, .int b11, .ref q2])), (q2, .inl (cA, 7, .inl ff))] H := hP
      have hD : va_D (fun q : Nat => s.heap.size ≤ q) [(q0, .inr (0, [.int a0, .int a1, .int a2, .int a3, .int a4, .int a5, .int a6, .int a7, .int a8, .int a9, .int a10, .int a11])), (q1, .inr (1, [.int gx_X1_count_0, .int b1, .int b2, .int b3, .int b4, .int b5, .int b6, .int b7, .int b8, .int b9, .int b10, .int b11, .ref q2])), (q2, .inl (cA, 7, .inl ff))] := hD
      refine lv_pop hx hb dL_law_454 rfl ?_
      refine lv_goto (tgt := 458) hx hb dL_law_455 (by decide) ?_
      have hR : Rel [a0, a1, a2, a3, a4, a5, a6, a7, a8, a9, a10, a11] [gx_X1_count_0, b1, b2, b3, b4, b5, b6, b7, b8, b9, b10, b11] ff := (h_count a0 a1 a2 a3 a4 a5 a6 a7 a8 a9 a10 a11 b0 b1 b2 b3 b4 b5 b6 b7 b8 b9 b10 b11 ff (xs (x3 + 1).toNatClampNeg) hR)
      obtain ⟨x3n, ex3n⟩ : ∃ y : Int32, y = x3 + 3 := ⟨_, rfl⟩
      refine lv_iinc (v := x3n) (lv' := [(3, .int x3n), (0, .ref b), (1, .ref q0), (2, .ref q1)]) hx hb dL_law_458 hl (k := 3) rfl (by rw [ex3n]; rfl) (by decide) rfl (fun ls hl => ?_)
      refine lv_goto (tgt := 28) hx hb dL_law_461 (by decide) ?_
      exact ih (i + 3) x3n (by omega) (by omega) (by rw [ex3n, ex3]; exact nI_add i 3) a0 a1 a2 a3 a4 a5 a6 a7 a8 a9 a10 a11 gx_X1_count_0 b1 b2 b3 b4 b5 b6 b7 b8 b9 b10 b11 ff hR q0 q1 q2 cA _ _ hK hP hD hS ls (lv_sub hl [1, 2, 3, 0] rfl)
    refine lv_tableOut (tgt := 458) hx hb dL_law_42 (by have n_0 : (((xs (x3).toNatClampNeg) &&& 15) : Int32).toInt ≠ 0 := xx_ne c_1 (by decide); have n_1 : (((xs (x3).toNatClampNeg) &&& 15) : Int32).toInt ≠ 1 := xx_ne c_4 (by decide); have n_2 : (((xs (x3).toNatClampNeg) &&& 15) : Int32).toInt ≠ 2 := xx_ne c_7 (by decide); have n_3 : (((xs (x3).toNatClampNeg) &&& 15) : Int32).toInt ≠ 3 := xx_ne c_10 (by decide); have n_4 : (((xs (x3).toNatClampNeg) &&& 15) : Int32).toInt ≠ 4 := xx_ne c_13 (by decide); have n_5 : (((xs (x3).toNatClampNeg) &&& 15) : Int32).toInt ≠ 5 := xx_ne c_19 (by decide); have n_6 : (((xs (x3).toNatClampNeg) &&& 15) : Int32).toInt ≠ 6 := xx_ne c_25 (by decide); have n_7 : (((xs (x3).toNatClampNeg) &&& 15) : Int32).toInt ≠ 7 := xx_ne c_28 (by decide); have n_8 : (((xs (x3).toNatClampNeg) &&& 15) : Int32).toInt ≠ 8 := xx_ne c_34 (by decide); have n_9 : (((xs (x3).toNatClampNeg) &&& 15) : Int32).toInt ≠ 9 := xx_ne c_37 (by decide); have n_10 : (((xs (x3).toNatClampNeg) &&& 15) : Int32).toInt ≠ 10 := xx_ne c_40 (by decide); have n_11 : (((xs (x3).toNatClampNeg) &&& 15) : Int32).toInt ≠ 11 := xx_ne c_44 (by decide); omega) (by decide) ?_
    have hR : Rel [a0, a1, a2, a3, a4, a5, a6, a7, a8, a9, a10, a11] [b0, b1, b2, b3, b4, b5, b6, b7, b8, b9, b10, b11] ff := hR
    obtain ⟨x3n, ex3n⟩ : ∃ y : Int32, y = x3 + 3 := ⟨_, rfl⟩
    refine lv_iinc (v := x3n) (lv' := [(3, .int x3n), (0, .ref b), (1, .ref q0), (2, .ref q1)]) hx hb dL_law_458 hl (k := 3) rfl (by rw [ex3n]; rfl) (by decide) rfl (fun ls hl => ?_)
    refine lv_goto (tgt := 28) hx hb dL_law_461 (by decide) ?_
    exact ih (i + 3) x3n (by omega) (by omega) (by rw [ex3n, ex3]; exact nI_add i 3) a0 a1 a2 a3 a4 a5 a6 a7 a8 a9 a10 a11 b0 b1 b2 b3 b4 b5 b6 b7 b8 b9 b10 b11 ff hR q0 q1 q2 cA _ _ hK hP hD hS ls (lv_sub hl [1, 2, 3, 0] rfl)
