/-! words of this proof: what a world is behind a method; switches -/
abbrev at_W (dC : Nat → ClassId) (dI : Nat → Nat → Nat) (A : Nat → Prop) (u : va_W) (t : State) : Prop := va_P (dC, dI) vwCl u t.heap ∧ va_K (dC, dI) vwCl [] t ∧ va_D A u
theorem xx_ne {x y : Int32} {n : Int} (h : ¬ x = y) (hn : y.toInt = n) : x.toInt ≠ n := fun e => h (Int32.toInt_inj.mp (e.trans hn.symm))
def xx_no : List (Int × Int) → Int → Prop
  | [], _ => True
  | q :: r, k => q.1 ≠ k ∧ xx_no r k
theorem xx_lk {d k : Int} : ∀ {ps : List (Int × Int)}, xx_no ps k → Op.lookupswitch.offset ps d k = d
  | [], _ => rfl
  | (a, o) :: r, h => by
    rw [Op.lookupswitch.offset_cons, if_neg h.1]
    exact xx_lk h.2
