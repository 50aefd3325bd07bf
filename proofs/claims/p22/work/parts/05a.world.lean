/-! THE WORLD OF THE DESK AND OF THE LAW'S ARRAYS (roles 14 d, 15 a, 16 f, 17 l, 18 r, 19 m, 20 e, 21 b, 22 g: T.1 by role; e is T.2 0, b is T.2 1; th and o mean nothing here), by roles. S.1: 0 0 today; 1 i rate, 2 i points of currency i; 3 i limit of customer i; 4 d holiday; 5 0 how many deals; 6 j customer, 7 j currency, 8 j buys, 9 j left, 10 j rate, 11 j first, 12 j last of deal j. S.2: 2 c limit of customer c as a long; 0 (25 * day + 5 * customer + money) due; 1 (5 * customer + money) balance -/
abbrev Sd : Type := (Nat → Nat → Int32) × (Nat → Nat → Int64)
def u2 {α : Type} (f : Nat → Nat → α) (a b : Nat) (v : α) : Nat → Nat → α := fun x y => if x = a then (if y = b then v else f x y) else f x y
theorem u2_s {α : Type} {f : Nat → Nat → α} {a b : Nat} {v : α} : u2 f a b v a b = v := by simp [u2]
theorem u2_n {α : Type} {f : Nat → Nat → α} {a b x y : Nat} {v : α} (h : ¬ (x = a ∧ y = b)) : u2 f a b v x y = f x y := by
  unfold u2
  by_cases h1 : x = a
  · rw [if_pos h1, if_neg (fun h2 => h ⟨h1, h2⟩)]
  · rw [if_neg h1]
/-- five places of a long row -/
def rw5 (f : Nat → Int64) (x : Nat) : Nat → Int64 := fun m => if m < 5 then f (5 * x + m) else 0
def ndl (S : Sd) : Nat := (S.1 5 0).toNatClampNeg
def cus (S : Sd) (j : Nat) : Nat := (S.1 6 j).toNatClampNeg
def cuy (S : Sd) (j : Nat) : Nat := (S.1 7 j).toNatClampNeg
def ntr (ex : Nat → Option (Nat × Nat)) (ad : Nat → Nat → Nat) (c : Nat) : Nat → Option Nat := fun d => (ex (5 * d + c)).map Prod.fst
def dlr (S : Sd) (ad : Nat → Nat → Nat) : Nat → Option Nat := fun j => if j < ndl S then some (ad 11 j) else none
def crr (ad : Nat → Nat → Nat) : Nat → Option Nat := fun c => if c < 4 then some (ad 4 c) else none
def csr (ad : Nat → Nat → Nat) : Nat → Option Nat := fun c => if c < 5 then some (ad 6 c) else none
/-- what the cell of role k i holds -/
def ct (kA : Nat → ClassId) (S T : Sd) (th : Int32) (o : Int64) (ex : Nat → Option (Nat × Nat)) (ad : Nat → Nat → Nat) (k i : Nat) : Option va_E := match k with
  | 0 => if i = 0 then some (.inr (5, [.ref (ad 1 0), .ref (ad 3 0), .ref (ad 5 0), .ref (ad 10 0), .int (S.1 5 0)])) else none
  | 1 => if i = 0 then some (.inr (1, [.ref (ad 2 0), .int (S.1 0 0)])) else none
  | 2 => if i = 0 then some (.inl (kA 2, 1001, .inl (S.1 4))) else none
  | 3 => if i = 0 then some (.inl (kA 3, 4, .inr (.inr (.inr (.inr (crr ad)))))) else none
  | 4 => if i < 4 then some (.inr (2, [.int (nI i), .int (S.1 1 i), .int (S.1 2 i)])) else none
  | 5 => if i = 0 then some (.inl (kA 4, 5, .inr (.inr (.inr (.inr (csr ad)))))) else none
  | 6 => if i < 5 then some (.inr (3, [.int (S.1 3 i), .ref (ad 7 i), .ref (ad 8 i)])) else none
  | 7 => if i < 5 then some (.inl (kA 5, 1002, .inr (.inr (.inr (.inr (ntr ex ad i)))))) else none
  | 8 => if i < 5 then some (.inr (0, [.ref (ad 9 i)])) else none
  | 9 => if i < 5 then some (.inl (kA 1, 5, .inr (.inl (rw5 (S.2 1) i)))) else none
  | 10 => if i = 0 then some (.inl (kA 6, 20, .inr (.inr (.inr (.inr (dlr S ad)))))) else none
  | 11 => if i < ndl S then some (.inr (4, [.ref (ad 6 (cus S i)), .ref (ad 4 (cuy S i)), .int (S.1 8 i), .int (S.1 9 i), .int (S.1 10 i), .int (S.1 11 i), .int (S.1 12 i)])) else none
  | 12 => (ex i).map (fun q => .inr (0, [.ref q.2]))
  | 13 => (ex i).map (fun _ => .inl (kA 1, 5, .inr (.inl (rw5 (S.2 0) i))))
  | 14 => if i = 0 then some (.inl (kA 0, 20, .inl (T.1 14))) else none
  | 15 => if i = 0 then some (.inl (kA 0, 20, .inl (T.1 15))) else none
  | 16 => if i = 0 then some (.inl (kA 0, 20, .inl (T.1 16))) else none
  | 17 => if i = 0 then some (.inl (kA 0, 20, .inl (T.1 17))) else none
  | 18 => if i = 0 then some (.inl (kA 0, 20, .inl (T.1 18))) else none
  | 19 => if i = 0 then some (.inl (kA 0, 6, .inl (T.1 19))) else none
  | 20 => if i = 0 then some (.inl (kA 1, 60, .inr (.inl (T.2 0)))) else none
  | 21 => if i = 0 then some (.inl (kA 1, 6, .inr (.inl (T.2 1)))) else none
  | 22 => if i = 0 then some (.inl (kA 0, 3, .inl (T.1 22))) else none
  | _ => none
/-- where the cell of role k i lies -/
def adr (ex : Nat → Option (Nat × Nat)) (ad : Nat → Nat → Nat) (k i : Nat) : Nat := match k with
  | 12 => ((ex i).getD (0, 0)).1
  | 13 => ((ex i).getD (0, 0)).2
  | k => ad k i
/-- what holds of the numbers -/
def Iv (S : Sd) : Prop := (0 ≤ (S.1 0 0).toInt ∧ (S.1 0 0).toInt ≤ 1000) ∧ (0 ≤ (S.1 5 0).toInt ∧ (S.1 5 0).toInt ≤ 20) ∧ (∀ j, j < ndl S → (0 ≤ (S.1 6 j).toInt ∧ (S.1 6 j).toInt < 5) ∧ (0 ≤ (S.1 7 j).toInt ∧ (S.1 7 j).toInt < 4) ∧ (S.1 8 j = 0 ∨ S.1 8 j = 1) ∧ 0 ≤ (S.1 9 j).toInt ∧ 0 ≤ (S.1 12 j).toInt ∧ (S.1 12 j).toInt ≤ (S.1 0 0).toInt + 400) ∧ (∀ d, S.1 4 d = 0 ∨ S.1 4 d = 1) ∧ (∀ c, S.2 2 c = (S.1 3 c).toInt64)
def Ix (S : Sd) (ex : Nat → Option (Nat × Nat)) : Prop := (∀ x, ex x = none → ∀ m, m < 5 → S.2 0 (5 * x + m) = 0) ∧ ∀ x q, ex x = some q → x < 5010
def WA (G : Gx) (S T : Sd) (th : Int32) (o : Int64) (ex : Nat → Option (Nat × Nat)) (ad : Nat → Nat → Nat) (M : Mp) : Prop :=
  (∀ k i e, ct G.2.1 S T th o ex ad k i = some e → M (adr ex ad k i) = some e) ∧
  (∀ k i k' i' e e', ct G.2.1 S T th o ex ad k i = some e → ct G.2.1 S T th o ex ad k' i' = some e' → adr ex ad k i = adr ex ad k' i' → k = k' ∧ i = i')
section WAS
variable {G : Gx} {S S' T T' : Sd} {th th' : Int32} {o o' : Int64} {ex : Nat → Option (Nat × Nat)} {ad : Nat → Nat → Nat} {M : Mp}
theorem WA.up (h : WA G S T th o ex ad M) (k0 i0 : Nat) {e0 e1 : va_E} (h0 : ct G.2.1 S T th o ex ad k0 i0 = some e0)
    (hc : ∀ k i, ct G.2.1 S' T' th' o' ex ad k i = if k = k0 ∧ i = i0 then some e1 else ct G.2.1 S T th o ex ad k i) : WA G S' T' th' o' ex ad (va_up M (adr ex ad k0 i0) (some e1)) := by
  have lv : ∀ k i e, ct G.2.1 S' T' th' o' ex ad k i = some e → ∃ f, ct G.2.1 S T th o ex ad k i = some f := by
    intro k i e he
    rw [hc] at he
    by_cases h1 : k = k0 ∧ i = i0
    · obtain ⟨rfl, rfl⟩ := h1
      exact ⟨_, h0⟩
    · rw [if_neg h1] at he
      exact ⟨_, he⟩
  refine ⟨fun k i e he => ?_, fun k i k' i' e e' h1 h2 h3 => ?_⟩
  · have he0 := he
    rw [hc] at he
    by_cases h1 : k = k0 ∧ i = i0
    · rw [if_pos h1] at he
      obtain ⟨rfl, rfl⟩ := h1
      rw [← he]
      exact up_eq
    · rw [if_neg h1] at he
      rw [up_ne (fun h2 => h1 (h.2 k i k0 i0 e e0 he h0 h2))]
      exact h.1 k i e he
  · obtain ⟨f, hf⟩ := lv k i e h1
    obtain ⟨f', hf'⟩ := lv k' i' e' h2
    exact h.2 k i k' i' f f' hf hf' h3
theorem WA.fresh (h : WA G S T th o ex ad M) {q : Nat} (hq : M q = none) (x : Option va_E) : WA G S T th o ex ad (va_up M q x) := by
  refine ⟨fun k i e he => ?_, h.2⟩
  have h1 := h.1 k i e he
  rw [up_ne (fun h2 => by rw [h2, hq] at h1; cases h1)]
  exact h1
theorem WA.same (h : WA G S T th o ex ad M) (hc : ∀ k i, ct G.2.1 S' T' th' o' ex ad k i = ct G.2.1 S T th o ex ad k i) : WA G S' T' th' o' ex ad M := by
  refine ⟨fun k i e he => h.1 k i e (by rw [← hc]; exact he), fun k i k' i' e e' h1 h2 h3 => h.2 k i k' i' e e' (by rw [← hc]; exact h1) (by rw [← hc]; exact h2) h3⟩
theorem WA.ne (h : WA G S T th o ex ad M) {k i k' i' : Nat} {e e' : va_E} (h1 : ct G.2.1 S T th o ex ad k i = some e) (h2 : ct G.2.1 S T th o ex ad k' i' = some e') (h3 : ¬ (k = k' ∧ i = i')) : adr ex ad k i ≠ adr ex ad k' i' := fun h4 => h3 (h.2 k i k' i' e e' h1 h2 h4)
theorem ct0 : ct G.2.1 S T th o ex ad 0 0 = some (.inr (5, [.ref (ad 1 0), .ref (ad 3 0), .ref (ad 5 0), .ref (ad 10 0), .int (S.1 5 0)])) := rfl
theorem ct1 : ct G.2.1 S T th o ex ad 1 0 = some (.inr (1, [.ref (ad 2 0), .int (S.1 0 0)])) := rfl
theorem ct2 : ct G.2.1 S T th o ex ad 2 0 = some (.inl (G.2.1 2, 1001, .inl (S.1 4))) := rfl
theorem ct3 : ct G.2.1 S T th o ex ad 3 0 = some (.inl (G.2.1 3, 4, .inr (.inr (.inr (.inr (crr ad)))))) := rfl
theorem ct4 {i : Nat} (hi : i < 4) : ct G.2.1 S T th o ex ad 4 i = some (.inr (2, [.int (nI i), .int (S.1 1 i), .int (S.1 2 i)])) := if_pos hi
theorem ct5 : ct G.2.1 S T th o ex ad 5 0 = some (.inl (G.2.1 4, 5, .inr (.inr (.inr (.inr (csr ad)))))) := rfl
theorem ct6 {i : Nat} (hi : i < 5) : ct G.2.1 S T th o ex ad 6 i = some (.inr (3, [.int (S.1 3 i), .ref (ad 7 i), .ref (ad 8 i)])) := if_pos hi
theorem ct7 {i : Nat} (hi : i < 5) : ct G.2.1 S T th o ex ad 7 i = some (.inl (G.2.1 5, 1002, .inr (.inr (.inr (.inr (ntr ex ad i)))))) := if_pos hi
theorem ct8 {i : Nat} (hi : i < 5) : ct G.2.1 S T th o ex ad 8 i = some (.inr (0, [.ref (ad 9 i)])) := if_pos hi
theorem ct9 {i : Nat} (hi : i < 5) : ct G.2.1 S T th o ex ad 9 i = some (.inl (G.2.1 1, 5, .inr (.inl (rw5 (S.2 1) i)))) := if_pos hi
theorem ct10 : ct G.2.1 S T th o ex ad 10 0 = some (.inl (G.2.1 6, 20, .inr (.inr (.inr (.inr (dlr S ad)))))) := rfl
theorem ct11 {i : Nat} (hi : i < ndl S) : ct G.2.1 S T th o ex ad 11 i = some (.inr (4, [.ref (ad 6 (cus S i)), .ref (ad 4 (cuy S i)), .int (S.1 8 i), .int (S.1 9 i), .int (S.1 10 i), .int (S.1 11 i), .int (S.1 12 i)])) := if_pos hi
theorem ct12 {i : Nat} {q : Nat × Nat} (hi : ex i = some q) : ct G.2.1 S T th o ex ad 12 i = some (.inr (0, [.ref q.2])) := by
  show (ex i).map _ = _
  rw [hi]
  rfl
theorem ct13 {i : Nat} {q : Nat × Nat} (hi : ex i = some q) : ct G.2.1 S T th o ex ad 13 i = some (.inl (G.2.1 1, 5, .inr (.inl (rw5 (S.2 0) i)))) := by
  show (ex i).map _ = _
  rw [hi]
  rfl
theorem Iv.nd (h : Iv S) : ndl S ≤ 20 := by
  have h1 := h.2.1
  unfold ndl
  rw [Int32.toNatClampNeg]
  omega
theorem Iv.cu (h : Iv S) {j : Nat} (hj : j < ndl S) : cus S j < 5 := by
  have h1 := (h.2.2.1 j hj).1
  unfold cus
  rw [Int32.toNatClampNeg]
  omega
theorem Iv.cy (h : Iv S) {j : Nat} (hj : j < ndl S) : cuy S j < 4 := by
  have h1 := (h.2.2.1 j hj).2.1
  unfold cuy
  rw [Int32.toNatClampNeg]
  omega
end WAS
