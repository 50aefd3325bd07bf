/-! THE RELATION BETWEEN THE DESK S AND THE LAW'S ARRAYS T -/
def tdy (S : Sd) : Nat := (S.1 0 0).toNatClampNeg
def tT (T : Sd) : Nat := (T.1 22 0).toNatClampNeg
def wT (T : Sd) : Nat := (T.1 22 2).toNatClampNeg
def sT (T : Sd) : Nat := stw (tT T) (wT T)
def Tg (T : Sd) : Prop := T.1 22 0 = nI (tT T) ∧ tT T ≤ 1000 ∧ T.1 22 2 = nI (wT T) ∧ okw (wT T)
def mny (k : Nat) : Nat := if k = 2 then 4 else k
def dcd (c y : Nat) (b : Int32) : Int32 := nI (c + 2 * y + if b = 0 then 4 else 0)
def ei (T : Sd) (c k : Nat) : Nat := 6 * ((tT T + sT T) % 10) + 3 * c + k
def owT (T : Sd) (c k : Nat) (x : Int64) : Sd := (T.1, u2 T.2 0 (ei T c k) (T.2 0 (ei T c k) + x))
def cuT (T : Sd) (j : Nat) : Int32 := T.1 14 j &&& 1
def cyT (T : Sd) (j : Nat) : Int32 := (T.1 14 j >>> ((1 : Int32) &&& 31)) &&& 1
def fwT (T : Sd) (c : Nat) (d : Int32) : Int32 := al1 (T.1 19 c + T.1 19 (2 + c) * d)
def gnT (T : Sd) (j : Nat) (rt : Int32) : Int64 := if 3 < T.1 14 j then -(hom (T.1 15 j) rt - hom (T.1 15 j) (T.1 18 j)) else hom (T.1 15 j) rt - hom (T.1 15 j) (T.1 18 j)
def nwT (T : Sd) (j : Nat) : Int32 := fwT T (cyT T j).toNatClampNeg (T.1 17 j - T.1 22 0)
def z1 (x : Int32) : Int32 := if x = 0 then 1 else x
def loT (T : Sd) (c : Nat) (sh : Int32) : Nat → Int64
  | 0 => 0
  | n + 1 => if cuT T n = nI c then loT T c sh n - gnT T n (z1 (nwT T n * sh / 100)) else loT T c sh n
def mx2 (a b : Int64) : Int64 := if a ≤ b then b else a
def exT (T : Sd) (c n : Nat) : Int64 := mx2 (loT T c 110 n) (mx2 (loT T c 90 n) 0)
def Rg (S T : Sd) : Prop := T.1 22 0 = S.1 0 0 ∧ T.1 22 1 = S.1 5 0
def Rm (S T : Sd) : Prop := ∀ c, c < 2 → (T.1 19 c = S.1 1 c ∧ T.1 19 (2 + c) = S.1 2 c ∧ T.1 19 (4 + c) = S.1 3 c) ∧ (1 ≤ (S.1 1 c).toInt ∧ (S.1 1 c).toInt ≤ 100000) ∧ (-50 ≤ (S.1 2 c).toInt ∧ (S.1 2 c).toInt ≤ 50)
def Rj (S T : Sd) (j : Nat) : Prop := (cus S j < 2 ∧ cuy S j < 2) ∧ T.1 14 j = dcd (cus S j) (cuy S j) (S.1 8 j) ∧ T.1 15 j = S.1 9 j ∧ T.1 16 j = S.1 11 j ∧ T.1 17 j = S.1 12 j ∧ T.1 18 j = S.1 10 j ∧ 1 ≤ (S.1 10 j).toInt ∧ (S.1 9 j).toInt ≤ 1000000 ∧ 0 ≤ (S.1 11 j).toInt ∧ (S.1 11 j).toInt ≤ 1400
def Rd (S T : Sd) : Prop := ∀ j, j < ndl S → Rj S T j
def Rh (S T : Sd) : Prop := T.1 22 2 = nI (wT T) ∧ okw (wT T) ∧ (∀ i, 1 ≤ i → i < 10 → S.1 4 (tdy S + i) = nI (bt (wT T) i)) ∧ (∀ d, tdy S + 10 ≤ d → S.1 4 d = 0) ∧ (∀ d, 1000 < d → S.1 4 d = 0)
def Re (S T : Sd) : Prop := (∀ c k i, c < 2 → k < 3 → 1 ≤ i → i < 10 → T.2 0 (6 * ((tdy S + i) % 10) + 3 * c + k) = S.2 0 (5 * (5 * (tdy S + i) + c) + mny k)) ∧ (∀ c k, c < 2 → k < 3 → T.2 0 (6 * (tdy S % 10) + 3 * c + k) = 0) ∧ (∀ c k d, c < 2 → k < 3 → tdy S + 10 ≤ d → S.2 0 (5 * (5 * d + c) + mny k) = 0)
def Rb (S T : Sd) : Prop := (∀ c k, c < 2 → k < 3 → T.2 1 (3 * c + k) = S.2 1 (5 * c + mny k)) ∧ S.2 1 14 = 0 ∧ ∀ d, S.2 0 (5 * (5 * d + 2) + 4) = 0
def Rel (S T : Sd) : Prop := Rg S T ∧ Rm S T ∧ Rd S T ∧ Rh S T ∧ Re S T ∧ Rb S T
section RL0
variable {S S' T T' : Sd}
theorem rg_to (h : Rg S T) (a : S'.1 0 = S.1 0) (b : S'.1 5 = S.1 5) (t : T'.1 22 = T.1 22) : Rg S' T' := by
  unfold Rg
  rw [a, b, t]
  exact h
theorem rm_to (h : Rm S T) (a : S'.1 1 = S.1 1) (b : S'.1 2 = S.1 2) (d : S'.1 3 = S.1 3) (t : T'.1 19 = T.1 19) : Rm S' T' := by
  unfold Rm
  rw [a, b, d, t]
  exact h
theorem rj_to {j : Nat} (h : Rj S T j) (a : ∀ k, 6 ≤ k → k ≤ 12 → S'.1 k j = S.1 k j) (t : ∀ k, 14 ≤ k → k ≤ 18 → T'.1 k j = T.1 k j) : Rj S' T' j := by
  unfold Rj cus cuy at h ⊢
  rw [a 6 (by decide) (by decide), a 7 (by decide) (by decide), a 8 (by decide) (by decide), a 9 (by decide) (by decide), a 10 (by decide) (by decide), a 11 (by decide) (by decide), a 12 (by decide) (by decide), t 14 (by decide) (by decide), t 15 (by decide) (by decide), t 16 (by decide) (by decide), t 17 (by decide) (by decide), t 18 (by decide) (by decide)]
  exact h
theorem rd_to (h : Rd S T) (b : S'.1 5 0 = S.1 5 0) (a : ∀ k, 6 ≤ k → k ≤ 12 → ∀ j, j < ndl S → S'.1 k j = S.1 k j) (t : ∀ k, 14 ≤ k → k ≤ 18 → ∀ j, j < ndl S → T'.1 k j = T.1 k j) : Rd S' T' := by
  intro j hj
  have e : ndl S' = ndl S := by unfold ndl; rw [b]
  rw [e] at hj
  exact rj_to (h j hj) (fun k h1 h2 => a k h1 h2 j hj) (fun k h1 h2 => t k h1 h2 j hj)
theorem rh_to (h : Rh S T) (a : S'.1 0 = S.1 0) (b : S'.1 4 = S.1 4) (t : T'.1 22 2 = T.1 22 2) : Rh S' T' := by
  unfold Rh tdy wT at h ⊢
  rw [a, b, t]
  exact h
theorem re_to (h : Re S T) (a : S'.1 0 = S.1 0) (b : S'.2 0 = S.2 0) (t : T'.2 0 = T.2 0) : Re S' T' := by
  unfold Re tdy at h ⊢
  rw [a, b, t]
  exact h
theorem rb_to (h : Rb S T) (a : S'.2 1 = S.2 1) (b : S'.2 0 = S.2 0) (t : T'.2 1 = T.2 1) : Rb S' T' := by
  unfold Rb at h ⊢
  rw [a, b, t]
  exact h
theorem tdy_i (hi : Iv S) : S.1 0 0 = nI (tdy S) := (nI_id hi.1.1).symm
theorem tdy_le (hi : Iv S) : tdy S ≤ 1000 := by
  have h := hi.1
  unfold tdy
  rw [Int32.toNatClampNeg]
  omega
theorem tdy_int (hi : Iv S) : (S.1 0 0).toInt = (tdy S : Int) := by
  have h := hi.1
  unfold tdy
  rw [Int32.toNatClampNeg]
  omega
theorem ndl_i (hi : Iv S) : S.1 5 0 = nI (ndl S) := (nI_id hi.2.1.1).symm
theorem rl_tT (hR : Rel S T) : tT T = tdy S := by
  unfold tT tdy
  rw [hR.1.1]
theorem rl_tg (hR : Rel S T) (hi : Iv S) : Tg T := by
  refine ⟨?_, ?_, hR.2.2.2.1.1, hR.2.2.2.1.2.1⟩
  · rw [rl_tT hR, hR.1.1]; exact tdy_i hi
  · rw [rl_tT hR]; exact tdy_le hi
theorem tg_st (h : Tg T) : 1 ≤ sT T ∧ sT T ≤ 6 ∧ fr (tT T) (wT T) (sT T) = true := st_ok h.2.2.2 _
theorem rl_sd (hR : Rel S T) (hi : Iv S) : sd S = nI (tdy S + sT T) := by
  obtain ⟨h1, h2, h3, h4, h5⟩ := hR.2.2.2.1
  have ht := tdy_le hi
  have h6 := tg_st (rl_tg hR hi)
  rw [rl_tT hR] at h6
  have h7 := nbd_st (f := S.1 4) (t := tdy S) (w := wT T) ht h3 h5 8 1 1002 (by omega) (by omega) (by omega) (by omega) (by unfold sT stw at h6; rw [rl_tT hR] at h6; exact h6.2.2)
  unfold sd
  rw [tdy_i hi, nI_1]
  rw [h7]
  unfold sT stw
  rw [rl_tT hR]
theorem rl_sn (hR : Rel S T) (hi : Iv S) : sn S = tdy S + sT T := by
  have ht := tdy_le hi
  have h6 := tg_st (rl_tg hR hi)
  unfold sn
  rw [rl_sd hR hi, nI_clamp (by omega)]
end RL0
theorem bu01 {b : Int32} (h : b = 0 ∨ b = 1) : b = 0 ∨ b = 1 := h
theorem dcd_cu {c y : Nat} {b : Int32} (hc : c < 2) (hy : y < 2) (hb : b = 0 ∨ b = 1) : dcd c y b &&& 1 = nI c := by
  rcases (show c = 0 ∨ c = 1 by omega) with rfl | rfl <;> rcases (show y = 0 ∨ y = 1 by omega) with rfl | rfl <;> rcases hb with rfl | rfl <;> decide
theorem dcd_cy {c y : Nat} {b : Int32} (hc : c < 2) (hy : y < 2) (hb : b = 0 ∨ b = 1) : (dcd c y b >>> ((1 : Int32) &&& 31)) &&& 1 = nI y := by
  rcases (show c = 0 ∨ c = 1 by omega) with rfl | rfl <;> rcases (show y = 0 ∨ y = 1 by omega) with rfl | rfl <;> rcases hb with rfl | rfl <;> decide
theorem dcd_gt {c y : Nat} {b : Int32} (hc : c < 2) (hy : y < 2) (hb : b = 0 ∨ b = 1) : 3 < dcd c y b ↔ b = 0 := by
  rcases (show c = 0 ∨ c = 1 by omega) with rfl | rfl <;> rcases (show y = 0 ∨ y = 1 by omega) with rfl | rfl <;> rcases hb with rfl | rfl <;> decide
section RL1
variable {S T : Sd} {j : Nat}
theorem rl_j (hR : Rel S T) (hj : j < ndl S) : Rj S T j := hR.2.2.1 j hj
theorem rl_cu (hR : Rel S T) (hi : Iv S) (hj : j < ndl S) : T.1 14 j &&& 1 = nI (cus S j) := by
  obtain ⟨⟨h1, h2⟩, h3, -⟩ := rl_j hR hj
  rw [h3]
  exact dcd_cu h1 h2 (hi.2.2.1 j hj).2.2.1
theorem rl_cy (hR : Rel S T) (hi : Iv S) (hj : j < ndl S) : (T.1 14 j >>> ((1 : Int32) &&& 31)) &&& 1 = nI (cuy S j) := by
  obtain ⟨⟨h1, h2⟩, h3, -⟩ := rl_j hR hj
  rw [h3]
  exact dcd_cy h1 h2 (hi.2.2.1 j hj).2.2.1
theorem rl_sg (hR : Rel S T) (hi : Iv S) (hj : j < ndl S) : 3 < T.1 14 j ↔ S.1 8 j = 0 := by
  obtain ⟨⟨h1, h2⟩, h3, -⟩ := rl_j hR hj
  rw [h3]
  exact dcd_gt h1 h2 (hi.2.2.1 j hj).2.2.1
theorem rl_fw (hR : Rel S T) {c : Nat} (hc : c < 2) (d : Int32) : fwT T c d = al1 (S.1 1 c + S.1 2 c * d) := by
  unfold fwT
  obtain ⟨h1, h2, -⟩ := (hR.2.1 c hc).1
  rw [h1, h2]
theorem rl_nw (hR : Rel S T) (hi : Iv S) (hj : j < ndl S) : nwT T j = mr S j := by
  unfold nwT cyT
  have h1 := (rl_j hR hj).1.2
  rw [rl_cy hR hi hj, nI_clamp (by omega), rl_fw hR h1, (rl_j hR hj).2.2.2.2.1, hR.1.1]
  rfl
theorem rl_gn (hR : Rel S T) (hi : Iv S) (hj : j < ndl S) (rt : Int32) : gnT T j rt = gn (S.1 8 j) (S.1 9 j) (S.1 10 j) rt := by
  unfold gnT gn
  obtain ⟨-, -, h1, -, -, h2, -⟩ := rl_j hR hj
  rw [h1, h2]
  by_cases c : S.1 8 j = 0
  · rw [if_pos ((rl_sg hR hi hj).mpr c), if_pos c]
  · rw [if_neg (fun z => c ((rl_sg hR hi hj).mp z)), if_neg c]
theorem rl_mg (hR : Rel S T) (hi : Iv S) (hj : j < ndl S) : gnT T j (nwT T j) = mg S j := by
  rw [rl_nw hR hi hj, rl_gn hR hi hj]
  rfl
theorem prod_b {p q : Int} {a b : Nat} (hp : p.natAbs ≤ a) (hq : q.natAbs ≤ b) : -((a * b : Nat) : Int) ≤ p * q ∧ p * q ≤ ((a * b : Nat) : Int) := by
  have h1 := Int.natAbs_mul p q
  have h2 := Nat.mul_le_mul hp hq
  omega
theorem rl_mr (hR : Rel S T) (hi : Iv S) (hj : j < ndl S) : ∃ a : Nat, 1 ≤ a ∧ a ≤ 150000 ∧ mr S j = nI a := by
  obtain ⟨-, hA, hB⟩ := hR.2.1 (cuy S j) (rl_j hR hj).1.2
  have hd := hi.1
  have hl := (hi.2.2.1 j hj).2.2.2.2
  have e1 : (S.1 12 j - S.1 0 0).toInt = (S.1 12 j).toInt - (S.1 0 0).toInt := i_sub (by omega) (by omega)
  have hp := prod_b (p := (S.1 2 (cuy S j)).toInt) (q := (S.1 12 j - S.1 0 0).toInt) (a := 50) (b := 1000) (by omega) (by omega)
  have e2 : (S.1 2 (cuy S j) * (S.1 12 j - S.1 0 0)).toInt = (S.1 2 (cuy S j)).toInt * (S.1 12 j - S.1 0 0).toInt := i_mul (by omega) (by omega)
  have e3 : (S.1 1 (cuy S j) + S.1 2 (cuy S j) * (S.1 12 j - S.1 0 0)).toInt = (S.1 1 (cuy S j)).toInt + (S.1 2 (cuy S j)).toInt * (S.1 12 j - S.1 0 0).toInt := by rw [i_add (by omega) (by omega), e2]
  have h1 := al1_p (S.1 1 (cuy S j) + S.1 2 (cuy S j) * (S.1 12 j - S.1 0 0))
  have h2 : (al1 (S.1 1 (cuy S j) + S.1 2 (cuy S j) * (S.1 12 j - S.1 0 0))).toInt ≤ 150000 := by
    unfold al1
    by_cases c : S.1 1 (cuy S j) + S.1 2 (cuy S j) * (S.1 12 j - S.1 0 0) < 1
    · rw [if_pos c]; decide
    · rw [if_neg c]; omega
  unfold mr
  generalize al1 (S.1 1 (cuy S j) + S.1 2 (cuy S j) * (S.1 12 j - S.1 0 0)) = v at h1 h2 ⊢
  exact ⟨v.toNatClampNeg, by rw [Int32.toNatClampNeg]; omega, by rw [Int32.toNatClampNeg]; omega, (nI_id (by omega)).symm⟩
theorem z1_al1 {a k : Nat} (ha : 1 ≤ a ∧ a ≤ 150000) (hk : k ≤ 110) : z1 (nI a * nI k / 100) = al1 (nI a * nI k / 100) := by
  have hb : a * k ≤ 150000 * 110 := Nat.mul_le_mul ha.2 hk
  have e : nI a * nI k / 100 = nI (a * k / 100) := by
    rw [pk_mul]
    exact pk_div (d := 100) (by omega) (by decide) (by decide)
  rw [e]
  have hq : a * k / 100 < 2 ^ 31 := by omega
  generalize a * k / 100 = q at hq
  unfold z1
  by_cases c : q = 0
  · subst c; decide
  · rw [if_neg (nI_ne0 (by omega) hq)]
    exact al1_ge (nI_le (a := 1) (by omega) hq)
theorem nI_cc {a b : Nat} (ha : a < 2) (hb : b < 2) : nI a = nI b ↔ a = b := nI_eq (by omega) (by omega)
theorem rl_lo (hR : Rel S T) (hi : Iv S) {c : Nat} (hc : c < 2) {sh sk : Int32} {k : Nat} (hk : k ≤ 110) (e1 : sh = nI k) (e2 : 100 + sk = nI k) : ∀ n, n ≤ ndl S → loT T c sh n = la S c sk n
  | 0, _ => rfl
  | n + 1, h => by
    have hj : n < ndl S := by omega
    have ih := rl_lo hR hi hc hk e1 e2 n (by omega)
    show (if cuT T n = nI c then loT T c sh n - gnT T n (z1 (nwT T n * sh / 100)) else loT T c sh n) = (if cus S n = c then la S c sk n + ls1 S sk n else la S c sk n)
    have e3 : cuT T n = nI (cus S n) := rl_cu hR hi hj
    rw [e3, ih]
    by_cases q : cus S n = c
    · rw [if_pos q, if_pos (by rw [q])]
      obtain ⟨a, h1, h2, h3⟩ := rl_mr hR hi hj
      unfold ls1
      rw [rl_nw hR hi hj, rl_gn hR hi hj, h3, e1, e2, z1_al1 ⟨h1, h2⟩ hk, Int64.sub_eq_add_neg]
    · rw [if_neg q, if_neg (fun z => q ((nI_cc (rl_j hR hj).1.1 hc).mp z))]
theorem mx_wl (a b : Int64) : mx2 a (mx2 b 0) = wl a b := by
  unfold mx2 wl
  have e0 : (0 : Int64).toInt = 0 := rfl
  by_cases h1 : b ≤ 0 <;> by_cases h2 : b < a <;> simp only [h1, h2, if_true, if_false]
  · by_cases h3 : a ≤ 0 <;> by_cases h4 : a < 0 <;> simp only [h3, h4, if_true, if_false] <;> simp only [Int64.lt_iff_toInt_lt, Int64.le_iff_toInt_le, ← Int64.toInt_inj, e0] at * <;> omega
  · by_cases h3 : a ≤ 0 <;> by_cases h4 : b < 0 <;> simp only [h3, h4, if_true, if_false] <;> simp only [Int64.lt_iff_toInt_lt, Int64.le_iff_toInt_le, ← Int64.toInt_inj, e0] at * <;> omega
  · by_cases h3 : a ≤ b <;> by_cases h4 : a < 0 <;> simp only [h3, h4, if_true, if_false] <;> simp only [Int64.lt_iff_toInt_lt, Int64.le_iff_toInt_le, ← Int64.toInt_inj, e0] at * <;> omega
  · by_cases h3 : a ≤ b <;> by_cases h4 : b < 0 <;> simp only [h3, h4, if_true, if_false] <;> simp only [Int64.lt_iff_toInt_lt, Int64.le_iff_toInt_le, ← Int64.toInt_inj, e0] at * <;> omega
theorem rl_ex (hR : Rel S T) (hi : Iv S) {c : Nat} (hc : c < 2) : exT T c (ndl S) = exs S c := by
  unfold exT exs
  rw [rl_lo hR hi hc (sh := 110) (k := 110) (by decide) rfl (sk := 10) (by decide) _ (Nat.le_refl _), rl_lo hR hi hc (sh := 90) (k := 90) (by decide) rfl (sk := -10) (by decide) _ (Nat.le_refl _), mx_wl]
theorem rl_la3 (hR : Rel S T) {sh : Int32} {q : Nat} (hq : 2 ≤ q) : ∀ n, n ≤ ndl S → la S q sh n = 0
  | 0, _ => rfl
  | n + 1, h => by
    have h1 := (rl_j hR (j := n) (by omega)).1.1
    show (if cus S n = q then la S q sh n + ls1 S sh n else la S q sh n) = 0
    rw [if_neg (by omega)]
    exact rl_la3 hR hq n (by omega)
theorem rl_ex3 (hR : Rel S T) {q : Nat} (hq : 2 ≤ q) : exs S q = 0 := by
  unfold exs
  rw [rl_la3 hR hq _ (Nat.le_refl _), rl_la3 hR hq _ (Nat.le_refl _)]
  rfl
end RL1
