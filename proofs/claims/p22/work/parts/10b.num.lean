/-! NUMBERS OF THE LAW: bits of the holidays, the settlement day, small helpers -/
def shr1 (x : Int32) : Int32 := (x.toUInt32 >>> ((1 : Int32).toUInt32 &&& Int32.toUInt32 31)).toInt32
theorem nI_tbv (x : Int32) : x = nI x.toBitVec.toNat := by
  apply Int32.toBitVec_inj.1
  show x.toBitVec = BitVec.ofNat 32 x.toBitVec.toNat
  simp
theorem shr1_nI (x : Int32) : ∃ a : Nat, a < 2 ^ 31 ∧ shr1 x = nI a := by
  refine ⟨(shr1 x).toBitVec.toNat, ?_, nI_tbv _⟩
  have h : (shr1 x).toBitVec.toNat = x.toBitVec.toNat / 2 ^ 1 := pk_ushr x 1 1 (by decide)
  have h2 := x.toBitVec.isLt
  rw [h]
  omega
theorem low_rng (x : Int32) {n : Nat} (h0 : 0 < n) (hn : n < 2 ^ 31) : ∃ j : Nat, j < n ∧ shr1 x - shr1 x / nI n * nI n = nI j := by
  obtain ⟨a, ha, e⟩ := shr1_nI x
  refine ⟨a % n, Nat.mod_lt _ h0, ?_⟩
  rw [e]
  exact pk_rem ha h0 hn
theorem and1 (x : Int32) : ∃ j : Nat, j < 2 ∧ x &&& 1 = nI j := pk_andE x 1 (by decide)
theorem al1_t {x : Int32} (h : x ≤ 1) : 1 = al1 x := by
  unfold al1
  by_cases c : x < 1
  · rw [if_pos c]
  · rw [if_neg c]
    exact (Int32.le_antisymm h (Int32.not_lt.mp c)).symm
theorem al1_f {x : Int32} (h : ¬ x ≤ 1) : x = al1 x := by
  unfold al1
  rw [if_neg (fun z => h (Int32.le_of_lt z))]
theorem al1_lt {x : Int32} (h : ¬ 1 ≤ x) : 1 = al1 x := by
  unfold al1
  rw [if_pos (Int32.not_le.mp h)]
theorem al1_ge {x : Int32} (h : 1 ≤ x) : x = al1 x := by
  unfold al1
  rw [if_neg (Int32.not_lt.mpr h)]
theorem al1_1 (x : Int32) : 1 ≤ al1 x := by
  unfold al1
  by_cases c : x < 1
  · rw [if_pos c]; decide
  · rw [if_neg c]; exact Int32.not_lt.mp c
theorem al1_p (x : Int32) : 1 ≤ (al1 x).toInt := Int32.le_iff_toInt_le.mp (al1_1 x)
theorem al1_al1 (x : Int32) : al1 (al1 x) = al1 x := (al1_ge (al1_1 x)).symm
theorem al1_id {x : Int32} (h : 1 ≤ x.toInt) : al1 x = x := (al1_ge (Int32.le_iff_toInt_le.mpr h)).symm
theorem i_add {x y : Int32} (h1 : -2147483648 ≤ x.toInt + y.toInt) (h2 : x.toInt + y.toInt < 2147483648) : (x + y).toInt = x.toInt + y.toInt := by
  rw [Int32.toInt_add]; exact Int.bmod_eq_of_le (by omega) (by omega)
theorem i_sub {x y : Int32} (h1 : -2147483648 ≤ x.toInt - y.toInt) (h2 : x.toInt - y.toInt < 2147483648) : (x - y).toInt = x.toInt - y.toInt := by
  rw [Int32.toInt_sub]; exact Int.bmod_eq_of_le (by omega) (by omega)
theorem i_mul {x y : Int32} (h1 : -2147483648 ≤ x.toInt * y.toInt) (h2 : x.toInt * y.toInt < 2147483648) : (x * y).toInt = x.toInt * y.toInt := by
  rw [Int32.toInt_mul]; exact Int.bmod_eq_of_le (by omega) (by omega)
/-! bits -/
def bt (w j : Nat) : Nat := w / 2 ^ j % 2
def fr (t w i : Nat) : Bool := decide ((t + i) % 7 ≤ 4) && decide (bt w i = 0)
def stl (t w : Nat) : Nat → Nat → Nat
  | 0, i => i
  | n + 1, i => if fr t w i = true then i else stl t w n (i + 1)
/-- how many days later the settlement day is -/
def stw (t w : Nat) : Nat := stl t w 8 1
def cn (w : Nat) : Nat := bt w 1 + bt w 2 + bt w 3 + bt w 4 + bt w 5 + bt w 6 + bt w 7 + bt w 8 + bt w 9
def okw (w : Nat) : Prop := w < 1024 ∧ w % 2 = 0 ∧ cn w ≤ 3
theorem bt_01 (w j : Nat) : bt w j = 0 ∨ bt w j = 1 := by unfold bt; omega
theorem by1024 {P : Nat → Prop} (h : ∀ a, a < 32 → ∀ b, b < 32 → P (32 * a + b)) : ∀ w, w < 1024 → P w := fun w hw => by
  have h1 := h (w / 32) (by omega) (w % 32) (by omega)
  rwa [show 32 * (w / 32) + w % 32 = w by omega] at h1
theorem bt_int {w j : Nat} (hw : w < 1024) (hj : j < 10) : (nI w >>> (nI j &&& 31)) &&& 1 = nI (bt w j) := by
  have hs : ∀ j, j < 10 → ((nI j &&& 31).toBitVec.smod 32).toNat = j := by decide +kernel
  rw [pk_shrN (by omega) _ j (hs j hj), pk_andN (k := 1) (by have : w / 2 ^ j ≤ w := Nat.div_le_self _ _; omega) (by decide)]
  rfl
def okb (w : Nat) : Bool := decide (w < 1024) && (decide (w % 2 = 0) && decide (cn w ≤ 3))
theorem okb_t {w : Nat} (h : okw w) : okb w = true := by unfold okb; simp [h.1, h.2.1, h.2.2]
theorem okb_f {w : Nat} (h : okb w = true) : okw w := by
  unfold okb at h
  simp only [Bool.and_eq_true, decide_eq_true_eq] at h
  exact h
theorem imp_b {a b : Bool} (h : (!a || b) = true) (ha : a = true) : b = true := by
  subst ha
  simpa using h
theorem all_b {n : Nat} {f : Nat → Bool} (h : (List.range n).all f = true) {i : Nat} (hi : i < n) : f i = true := List.all_eq_true.mp h i (List.mem_range.mpr hi)
theorem st_ok7 : ∀ w, w < 1024 → (!okb w || (List.range 7).all (fun t => decide (1 ≤ stw t w) && (decide (stw t w ≤ 6) && fr t w (stw t w)))) = true := by1024 (by decide +kernel)
theorem fr_7 (t w i : Nat) : fr t w i = fr (t % 7) w i := by
  unfold fr
  rw [show (t + i) % 7 = (t % 7 + i) % 7 by omega]
theorem stl_7 (t w : Nat) : ∀ n i, stl t w n i = stl (t % 7) w n i
  | 0, _ => rfl
  | n + 1, i => by
    show (if fr t w i = true then i else stl t w n (i + 1)) = (if fr (t % 7) w i = true then i else stl (t % 7) w n (i + 1))
    rw [← fr_7, ← stl_7 t w n]
theorem st_ok {w : Nat} (h : okw w) (t : Nat) : 1 ≤ stw t w ∧ stw t w ≤ 6 ∧ fr t w (stw t w) = true := by
  have h1 := all_b (imp_b (st_ok7 w h.1) (okb_t h)) (i := t % 7) (by omega)
  simp only [Bool.and_eq_true, decide_eq_true_eq] at h1
  unfold stw at h1 ⊢
  rw [stl_7 t, fr_7]
  exact h1
/-- a day on -/
def sw (w : Nat) : Nat := w / 2 / 2 * 2
theorem sw_int : ∀ w, w < 1024 → (nI w >>> ((1 : Int32) &&& 31)) &&& (-2) = nI (sw w) := by1024 (by decide +kernel)
theorem sw_ok7 : ∀ w, w < 1024 → (!okb w || (okb (sw w) && (decide (bt (sw w) 9 = 0) && (List.range 9).all (fun i => !decide (1 ≤ i) || decide (bt (sw w) i = bt w (i + 1)))))) = true := by1024 (by decide +kernel)
theorem sw_ok {w : Nat} (h : okw w) : okw (sw w) ∧ bt (sw w) 9 = 0 ∧ ∀ i, i < 9 → 1 ≤ i → bt (sw w) i = bt w (i + 1) := by
  have h1 := imp_b (sw_ok7 w h.1) (okb_t h)
  simp only [Bool.and_eq_true, decide_eq_true_eq] at h1
  exact ⟨okb_f h1.1, h1.2.1, fun i hi h2 => of_decide_eq_true (imp_b (all_b h1.2.2 hi) (decide_eq_true h2))⟩
/-- a bit turned -/
def fx (w j : Nat) : Nat := if bt w j = 0 then w + 2 ^ j else w - 2 ^ j
theorem fx_int7 : ∀ w, w < 1024 → ∀ j, j < 10 → nI w ^^^ ((1 : Int32) <<< (nI j &&& 31)) = nI (fx w j) := by1024 (by decide +kernel)
theorem fx_int {w j : Nat} (hw : w < 1024) (hj : j < 10) : nI w ^^^ ((1 : Int32) <<< (nI j &&& 31)) = nI (fx w j) := fx_int7 w hw j hj
theorem fx_ok7 : ∀ w, w < 1024 → (!okb w || (List.range 10).all (fun j => !(decide (1 ≤ j) && (decide (cn w - bt w j ≤ 2) || decide (bt w j = 1))) || (okb (fx w j) && (decide (bt (fx w j) j = 1 - bt w j) && (List.range 10).all (fun i => decide (i = j) || decide (bt (fx w j) i = bt w i)))))) = true := by1024 (by decide +kernel)
theorem fx_ok {w j : Nat} (h : okw w) (hj : j < 10) (h1 : 1 ≤ j) (h2 : cn w - bt w j ≤ 2 ∨ bt w j = 1) : okw (fx w j) ∧ bt (fx w j) j = 1 - bt w j ∧ ∀ i, i < 10 → i ≠ j → bt (fx w j) i = bt w i := by
  have h3 := imp_b (all_b (imp_b (fx_ok7 w h.1) (okb_t h)) hj) (by simp only [Bool.and_eq_true, Bool.or_eq_true, decide_eq_true_eq]; exact ⟨h1, h2⟩)
  simp only [Bool.and_eq_true, decide_eq_true_eq] at h3
  refine ⟨okb_f h3.1, h3.2.1, fun i hi hij => ?_⟩
  have h4 := all_b h3.2.2 hi
  simp only [Bool.or_eq_true, decide_eq_true_eq] at h4
  exact h4.resolve_left hij
/-- the bits but j, below i -/
def cm (w j : Nat) : Nat → Nat
  | 0 => 0
  | i + 1 => if 1 ≤ i ∧ ¬ i = j ∧ bt w i = 1 then cm w j i + 1 else cm w j i
theorem cm_10 : ∀ w, w < 1024 → ∀ j, j < 10 → 1 ≤ j → cm w j 10 = cn w - bt w j := by1024 (by decide +kernel)
theorem cm_le (w j : Nat) : ∀ i, cm w j i ≤ i
  | 0 => Nat.le_refl _
  | i + 1 => by
    have h := cm_le w j i
    show (if 1 ≤ i ∧ ¬ i = j ∧ bt w i = 1 then cm w j i + 1 else cm w j i) ≤ i + 1
    by_cases c : 1 ≤ i ∧ ¬ i = j ∧ bt w i = 1
    · rw [if_pos c]; omega
    · rw [if_neg c]; omega
/-! the desk's search for the settlement day -/
theorem bus_fr {f : Nat → Int32} {t w i : Nat} (hf : f (t + i) = nI (bt w i)) (hd : t + i < 1001) : bus f (nI (t + i)) = if fr t w i = true then 1 else 0 := by
  have e7 : nI (t + i) - nI (t + i) / 7 * 7 = nI ((t + i) % 7) := pk_rem (d := 7) (by omega) (by decide) (by decide)
  have e5 : (nI ((t + i) % 7) < 5) ↔ (t + i) % 7 < 5 := nI_ltI (b := 5) (by omega) (by decide)
  have e0 : 0 ≤ nI (t + i) := nI_pos' (by omega)
  have e1 : nI (t + i) < 1001 := nI_lt (b := 1001) (by omega) (by decide)
  unfold bus fr
  rw [e7, nI_clamp (by omega), hf]
  rcases bt_01 w i with hb | hb
  · rw [hb]
    by_cases c : (t + i) % 7 ≤ 4
    · rw [if_pos ⟨e5.mpr (by omega), fun z => z.2 rfl⟩, if_pos (by simp [c])]
    · rw [if_neg (fun z => c (by have := e5.mp z.1; omega)), if_neg (by simp [c])]
  · rw [hb, if_neg (fun z => z.2 ⟨⟨e0, e1⟩, by decide⟩), if_neg (by simp)]
theorem nbd_st {f : Nat → Int32} {t w : Nat} (ht : t ≤ 1000) (hb : ∀ i, 1 ≤ i → i < 10 → f (t + i) = nI (bt w i)) (hz : ∀ d, 1000 < d → f d = 0) : ∀ n i m, 1 ≤ i → i + n ≤ 9 → t + i ≤ 1001 → n < m → fr t w (stl t w n i) = true → nbd f m (nI (t + i)) = nI (t + stl t w n i)
  | n, i, 0, _, _, _, h, _ => absurd h (by omega)
  | n, i, m + 1, h1, h9, hd, hm, hs => by
    have key : fr t w i = true → nbd f (m + 1) (nI (t + i)) = nI (t + i) := by
      intro h
      show (if nI (t + i) < 1001 ∧ bus f (nI (t + i)) = 0 then nbd f m (nI (t + i) + 1) else nI (t + i)) = nI (t + i)
      by_cases c : t + i < 1001
      · rw [bus_fr (hb i h1 (by omega)) c, if_pos h, if_neg (fun z => absurd z.2 (by decide))]
      · rw [if_neg (fun z => nI_nlt (a := t + i) (b := 1001) (by omega) (by omega) z.1)]
    match n, hs with
    | 0, hs => exact key hs
    | n + 1, hs =>
      by_cases h : fr t w i = true
      · rw [key h]
        show _ = nI (t + (if fr t w i = true then i else stl t w n (i + 1)))
        rw [if_pos h]
      · have hs2 : fr t w (stl t w n (i + 1)) = true := by
          have e : stl t w (n + 1) i = stl t w n (i + 1) := if_neg h
          rw [← e]; exact hs
        have c : t + i < 1001 := by
          rcases Nat.lt_or_ge (t + i) 1001 with q | q
          · exact q
          · exfalso
            apply h
            have e : t + i = 1001 := by omega
            have e2 := hb i h1 (by omega)
            rw [e, hz 1001 (by omega)] at e2
            have e3 : bt w i = 0 := by
              rcases bt_01 w i with q | q
              · exact q
              · rw [q] at e2; exact absurd e2 (by decide)
            unfold fr
            rw [e, e3]
            decide
        have e : stl t w (n + 1) i = stl t w n (i + 1) := if_neg h
        rw [e, ← nbd_st ht hb hz n (i + 1) m (by omega) (by omega) (by omega) (by omega) hs2]
        show (if nI (t + i) < 1001 ∧ bus f (nI (t + i)) = 0 then nbd f m (nI (t + i) + 1) else nI (t + i)) = _
        rw [bus_fr (hb i h1 (by omega)) c, if_neg h, if_pos ⟨nI_lt (b := 1001) (by omega) (by decide), rfl⟩, nI_1]
        rfl
