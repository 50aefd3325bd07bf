/-- two rows of five, added -/
def addrow (f g : Nat → Int64) : Nat → Int64 := fun m => if m < 5 then f m + g m else f m
theorem addrow_eq2 (f g : Nat → Int64) : (vp_updL (vp_updL (vp_updL (vp_updL (vp_updL f (0 : Int32).toNatClampNeg (f (0 : Int32).toNatClampNeg + rd g 0 5)) (1 : Int32).toNatClampNeg ((vp_updL f (0 : Int32).toNatClampNeg (f (0 : Int32).toNatClampNeg + rd g 0 5)) (1 : Int32).toNatClampNeg + rd g 1 5)) (2 : Int32).toNatClampNeg ((vp_updL (vp_updL f (0 : Int32).toNatClampNeg (f (0 : Int32).toNatClampNeg + rd g 0 5)) (1 : Int32).toNatClampNeg ((vp_updL f (0 : Int32).toNatClampNeg (f (0 : Int32).toNatClampNeg + rd g 0 5)) (1 : Int32).toNatClampNeg + rd g 1 5)) (2 : Int32).toNatClampNeg + rd g 2 5)) (3 : Int32).toNatClampNeg ((vp_updL (vp_updL (vp_updL f (0 : Int32).toNatClampNeg (f (0 : Int32).toNatClampNeg + rd g 0 5)) (1 : Int32).toNatClampNeg ((vp_updL f (0 : Int32).toNatClampNeg (f (0 : Int32).toNatClampNeg + rd g 0 5)) (1 : Int32).toNatClampNeg + rd g 1 5)) (2 : Int32).toNatClampNeg ((vp_updL (vp_updL f (0 : Int32).toNatClampNeg (f (0 : Int32).toNatClampNeg + rd g 0 5)) (1 : Int32).toNatClampNeg ((vp_updL f (0 : Int32).toNatClampNeg (f (0 : Int32).toNatClampNeg + rd g 0 5)) (1 : Int32).toNatClampNeg + rd g 1 5)) (2 : Int32).toNatClampNeg + rd g 2 5)) (3 : Int32).toNatClampNeg + rd g 3 5)) (4 : Int32).toNatClampNeg ((vp_updL (vp_updL (vp_updL (vp_updL f (0 : Int32).toNatClampNeg (f (0 : Int32).toNatClampNeg + rd g 0 5)) (1 : Int32).toNatClampNeg ((vp_updL f (0 : Int32).toNatClampNeg (f (0 : Int32).toNatClampNeg + rd g 0 5)) (1 : Int32).toNatClampNeg + rd g 1 5)) (2 : Int32).toNatClampNeg ((vp_updL (vp_updL f (0 : Int32).toNatClampNeg (f (0 : Int32).toNatClampNeg + rd g 0 5)) (1 : Int32).toNatClampNeg ((vp_updL f (0 : Int32).toNatClampNeg (f (0 : Int32).toNatClampNeg + rd g 0 5)) (1 : Int32).toNatClampNeg + rd g 1 5)) (2 : Int32).toNatClampNeg + rd g 2 5)) (3 : Int32).toNatClampNeg ((vp_updL (vp_updL (vp_updL f (0 : Int32).toNatClampNeg (f (0 : Int32).toNatClampNeg + rd g 0 5)) (1 : Int32).toNatClampNeg ((vp_updL f (0 : Int32).toNatClampNeg (f (0 : Int32).toNatClampNeg + rd g 0 5)) (1 : Int32).toNatClampNeg + rd g 1 5)) (2 : Int32).toNatClampNeg ((vp_updL (vp_updL f (0 : Int32).toNatClampNeg (f (0 : Int32).toNatClampNeg + rd g 0 5)) (1 : Int32).toNatClampNeg ((vp_updL f (0 : Int32).toNatClampNeg (f (0 : Int32).toNatClampNeg + rd g 0 5)) (1 : Int32).toNatClampNeg + rd g 1 5)) (2 : Int32).toNatClampNeg + rd g 2 5)) (3 : Int32).toNatClampNeg + rd g 3 5)) (4 : Int32).toNatClampNeg + rd g 4 5)) = addrow f g := by
  have e0 : (0 : Int32).toNatClampNeg = 0 := rfl
  have e1 : (1 : Int32).toNatClampNeg = 1 := rfl
  have e2 : (2 : Int32).toNatClampNeg = 2 := rfl
  have e3 : (3 : Int32).toNatClampNeg = 3 := rfl
  have e4 : (4 : Int32).toNatClampNeg = 4 := rfl
  have r0 : rd g 0 5 = g 0 := rfl
  have r1 : rd g 1 5 = g 1 := rfl
  have r2 : rd g 2 5 = g 2 := rfl
  have r3 : rd g 3 5 = g 3 := rfl
  have r4 : rd g 4 5 = g 4 := rfl
  rw [e0, e1, e2, e3, e4, r0, r1, r2, r3, r4]
  funext m
  rcases (show m = 0 ∨ m = 1 ∨ m = 2 ∨ m = 3 ∨ m = 4 ∨ 5 ≤ m by omega) with rfl | rfl | rfl | rfl | rfl | h
  · simp [vp_updL, addrow]
  · simp [vp_updL, addrow]
  · simp [vp_updL, addrow]
  · simp [vp_updL, addrow]
  · simp [vp_updL, addrow]
  · simp [vp_updL, addrow, show ¬ m < 5 by omega, show m ≠ 0 by omega, show m ≠ 1 by omega, show m ≠ 2 by omega, show m ≠ 3 by omega, show m ≠ 4 by omega]
/-- what a row of references gives to an index that may be anything -/
def rq (g : Nat → Option Nat) (i n : Int32) : Option Nat := if 0 ≤ i ∧ i < n then g i.toNatClampNeg else none
/-- what a booking has found, and what it leaves -/
def bkP (M : Mp) (g : Nat → Option Nat) (d : Nat) : Option (Nat × Nat) → Prop
  | none => (g d).isSome = true
  | some q => g d = none ∧ M q.1 = none ∧ M q.2 = none ∧ q.1 ≠ q.2
def bkM (G : Gx) (M : Mp) (g : Nat → Option Nat) (na d k : Nat) (x : Int64) (ra : Nat) (F : Nat → Int64) : Option (Nat × Nat) → Mp
  | none => va_up M ra (some (.inl (G.2.1 1, 5, .inr (.inl (vp_updL F k (F k + x))))))
  | some q => va_up (va_up (va_up M q.1 (some (.inr (0, [.ref q.2])))) q.2 (some (.inl (G.2.1 1, 5, .inr (.inl (vp_updL (fun _ => 0) k (0 + x))))))) na (some (.inl (G.2.1 5, 1002, .inr (.inr (.inr (.inr (va_up g d (some q.1))))))))
