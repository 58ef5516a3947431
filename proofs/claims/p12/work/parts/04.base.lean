/-! words of this proof: what a world is behind a method; switches -/
abbrev at_W (dC : Nat → ClassId) (dI : Nat → Nat → Nat) (tys : List (ClassId × FieldType)) (A : Nat → Prop) (u : va_W) (t : State) : Prop := va_P (dC, dI) vwCl u t.heap ∧ va_K (dC, dI) vwCl tys t ∧ va_D A u
theorem xx_ne {x y : Int32} {n : Int} (h : ¬ x = y) (hn : y.toInt = n) : x.toInt ≠ n := fun e => h (Int32.toInt_inj.mp (e.trans hn.symm))
def xx_no : List (Int × Int) → Int → Prop
  | [], _ => True
  | q :: r, k => q.1 ≠ k ∧ xx_no r k
theorem xx_in16 {x : Int32} (h1 : ¬ x < 1) (h2 : x ≤ 6) : vp_in x 7 := by
  refine vp_in_iff.mpr ?_
  have a1 := Int32.not_lt.mp h1
  have a2 := Int32.le_iff_toInt_le.mp a1
  have a3 := Int32.le_iff_toInt_le.mp h2
  have e1 : (1 : Int32).toInt = 1 := by decide
  have e6 : (6 : Int32).toInt = 6 := by decide
  omega
theorem xx_lk {d k : Int} : ∀ {ps : List (Int × Int)}, xx_no ps k → Op.lookupswitch.offset ps d k = d
  | [], _ => rfl
  | (a, o) :: r, h => by
    rw [Op.lookupswitch.offset_cons, if_neg h.1]
    exact xx_lk h.2
