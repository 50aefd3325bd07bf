set_option maxHeartbeats 1000000 in
theorem w_rl {G : Gx} {S T : Sd} {th : Int32} {o : Int64} {ex : Nat → Option (Nat × Nat)} {ad : Nat → Nat → Nat} {M : Mp} (h : WA G S T th o ex ad M) {j : Nat} (hj : j < ndl S) (x y z : Int32) : WA G (u2 (u2 (u2 S.1 11 j x) 12 j y) 10 j z, S.2) T th o ex ad (va_up M (ad 11 j) (some (.inr (4, [.ref (ad 6 (cus S j)), .ref (ad 4 (cuy S j)), .int (S.1 8 j), .int (S.1 9 j), .int (z), .int (x), .int (y)])))) := by
  refine h.up 11 j (e0 := _) (ct11 hj) (fun k i => ?_)
  by_cases hk : k = 11 ∧ i = j
  · obtain ⟨rfl, rfl⟩ := hk
    rw [if_pos ⟨rfl, rfl⟩]
    show (if i < ndl S then some (.inr (4, [.ref (ad 6 (cus S i)), .ref (ad 4 (cuy S i)), .int (S.1 8 i), .int (S.1 9 i), .int (u2 S.1 10 i z 10 i), .int (u2 S.1 11 i x 11 i), .int (u2 S.1 12 i y 12 i)])) else none : Option va_E) = _; rw [u2_s, u2_s, u2_s, if_pos hj]
  · rw [if_neg hk]
    match k, hk with
    | 0, _ => rfl
    | 1, _ => rfl
    | 2, _ => rfl
    | 3, _ => rfl
    | 4, _ => rfl
    | 5, _ => rfl
    | 6, _ => rfl
    | 7, _ => rfl
    | 8, _ => rfl
    | 9, _ => rfl
    | 10, _ => rfl
    | 11, hk => have hi : ¬ i = j := fun z => hk ⟨rfl, z⟩; show (if i < ndl S then some (.inr (4, [.ref (ad 6 (cus S i)), .ref (ad 4 (cuy S i)), .int (S.1 8 i), .int (S.1 9 i), .int (u2 S.1 10 j z 10 i), .int (u2 S.1 11 j x 11 i), .int (u2 S.1 12 j y 12 i)])) else none : Option va_E) = _; rw [u2_n (f := S.1) (a := 11) (fun z => hi z.2), u2_n (f := S.1) (a := 12) (fun z => hi z.2), u2_n (f := S.1) (a := 10) (fun z => hi z.2)]; rfl
    | 12, _ => rfl
    | 13, _ => rfl
    | 14, _ => rfl
    | 15, _ => rfl
    | 16, _ => rfl
    | 17, _ => rfl
    | 18, _ => rfl
    | 19, _ => rfl
    | 20, _ => rfl
    | 21, _ => rfl
    | 22, _ => rfl
    | 23, _ => rfl
    | 24, _ => rfl
    | 25, _ => rfl
    | 26, _ => rfl
    | 27, _ => rfl
    | 28, _ => rfl
    | k + 29, _ => rfl
theorem rlc10 (S : Sd) (j : Nat) (y : Int32) : (rlc S j y).1 10 j = al1 (S.1 10 j + S.1 2 (cuy S j) * y) := by show u2 _ 10 j _ 10 j = _; exact u2_s
theorem rls10 (S : Sd) (j : Nat) (y : Int32) : (rls S j y).1 10 j = al1 (S.1 1 (cuy S j) + S.1 2 (cuy S j) * (S.1 12 j + y - S.1 0 0)) := by show u2 _ 10 j _ 10 j = _; exact u2_s
/-- is deal i to be closed out today -/
def opn (S : Sd) (i : Nat) : Bool := decide (i < ndl S) && (decide (0 < S.1 9 i) && decide (S.1 12 i = S.1 0 0))
theorem opn_t {S : Sd} {i : Nat} (h1 : i < ndl S) (h2 : 0 < S.1 9 i) (h3 : S.1 12 i = S.1 0 0) : opn S i = true := by simp [opn, h1, h2, h3]
theorem opn_1 {S : Sd} {i : Nat} (h : ¬ i < ndl S) : opn S i = false := by simp [opn, h]
theorem opn_2 {S : Sd} {i : Nat} (h : ¬ 0 < S.1 9 i) : opn S i = false := by simp [opn, h]
theorem opn_3 {S : Sd} {i : Nat} (h : ¬ S.1 12 i = S.1 0 0) : opn S i = false := by simp [opn, h]
/-- the first n deals closed out, where this is their last day -/
def en (S : Sd) : Nat → Sd
  | 0 => S
  | i + 1 => if opn (en S i) i = true then edS (en S i) i else en S i
def enn (S : Sd) : Nat → Nat
  | 0 => 0
  | i + 1 => if opn (en S i) i = true then enn S i + 1 else enn S i
theorem en_k (S : Sd) (k : Nat) (hk : ¬ k = 9) : ∀ i, (en S i).1 k = S.1 k
  | 0 => rfl
  | i + 1 => by
    show (if opn (en S i) i = true then edS (en S i) i else en S i).1 k = S.1 k
    by_cases h : opn (en S i) i = true
    · rw [if_pos h]
      show u2 (en S i).1 9 i 0 k = S.1 k
      rw [← en_k S k hk i]
      funext y
      exact u2_n (fun z => hk z.1)
    · rw [if_neg h]
      exact en_k S k hk i
theorem en_9 (S : Sd) : ∀ i j, i ≤ j → (en S i).1 9 j = S.1 9 j
  | 0, j, _ => rfl
  | i + 1, j, h0 => by
    show (if opn (en S i) i = true then edS (en S i) i else en S i).1 9 j = S.1 9 j
    by_cases h : opn (en S i) i = true
    · rw [if_pos h]
      show u2 (en S i).1 9 i 0 9 j = S.1 9 j
      rw [u2_n (fun z => by omega)]
      exact en_9 S i j (by omega)
    · rw [if_neg h]
      exact en_9 S i j (by omega)
theorem en_nd (S : Sd) (i : Nat) : ndl (en S i) = ndl S := by unfold ndl; rw [en_k S 5 (by decide) i]
theorem enn_le (S : Sd) : ∀ n i, enn S i ≤ enn S (i + n)
  | 0, i => Nat.le_refl _
  | n + 1, i => by
    have h := enn_le S n i
    show enn S i ≤ (if opn (en S (i + n)) (i + n) = true then enn S (i + n) + 1 else enn S (i + n))
    split <;> omega
theorem enn_i (S : Sd) : ∀ i, enn S i ≤ i
  | 0 => Nat.le_refl _
  | i + 1 => by
    have h := enn_i S i
    show (if opn (en S i) i = true then enn S i + 1 else enn S i) ≤ i + 1
    split <;> omega
/-- how many of the first n deals have something left -/
def opc (S : Sd) : Nat → Nat
  | 0 => 0
  | i + 1 => if 0 < S.1 9 i then opc S i + 1 else opc S i
theorem opc_le (S : Sd) : ∀ n, opc S n ≤ n
  | 0 => Nat.le_refl _
  | i + 1 => by
    have h := opc_le S i
    show (if 0 < S.1 9 i then opc S i + 1 else opc S i) ≤ i + 1
    split <;> omega
theorem opc_eq {S S' : Sd} : ∀ n, (∀ j, j < n → S.1 9 j = S'.1 9 j) → opc S n = opc S' n
  | 0, _ => rfl
  | i + 1, h => by
    show (if 0 < S.1 9 i then opc S i + 1 else opc S i) = (if 0 < S'.1 9 i then opc S' i + 1 else opc S' i)
    rw [h i (by omega), opc_eq i (fun j hj => h j (by omega))]
theorem opc_en (S : Sd) : ∀ i, opc (en S i) i + enn S i ≤ opc S i
  | 0 => Nat.le_refl _
  | i + 1 => by
    have ih := opc_en S i
    show opc (if opn (en S i) i = true then edS (en S i) i else en S i) (i + 1) + (if opn (en S i) i = true then enn S i + 1 else enn S i) ≤ (if 0 < S.1 9 i then opc S i + 1 else opc S i)
    by_cases h : opn (en S i) i = true
    · rw [if_pos h, if_pos h]
      have h9 : 0 < (en S i).1 9 i := by
        simp only [opn, Bool.and_eq_true, decide_eq_true_eq] at h
        exact h.2.1
      rw [en_9 S i i (Nat.le_refl _)] at h9
      rw [if_pos h9]
      have e1 : opc (edS (en S i) i) (i + 1) = opc (en S i) i := by
        show (if 0 < (edS (en S i) i).1 9 i then opc (edS (en S i) i) i + 1 else opc (edS (en S i) i) i) = _
        rw [if_neg]
        · exact opc_eq i (fun j hj => by show u2 (en S i).1 9 i 0 9 j = _; exact u2_n (fun z => by omega))
        · show ¬ 0 < u2 (en S i).1 9 i 0 9 i
          rw [u2_s]
          decide
      omega
    · rw [if_neg h, if_neg h]
      show (if 0 < (en S i).1 9 i then opc (en S i) i + 1 else opc (en S i) i) + enn S i ≤ _
      rw [en_9 S i i (Nat.le_refl _)]
      split <;> omega
theorem Iv.eq {S S' : Sd} (h : Iv S) (h0 : S'.1 0 0 = S.1 0 0) (h5 : S'.1 5 0 = S.1 5 0) (h6 : ∀ j, j < ndl S → S'.1 6 j = S.1 6 j) (h7 : ∀ j, j < ndl S → S'.1 7 j = S.1 7 j) (h8 : ∀ j, j < ndl S → S'.1 8 j = S.1 8 j) (h9 : ∀ j, j < ndl S → 0 ≤ (S'.1 9 j).toInt) (h12 : ∀ j, j < ndl S → 0 ≤ (S'.1 12 j).toInt ∧ (S'.1 12 j).toInt ≤ (S.1 0 0).toInt + 400) (h4 : ∀ d, S'.1 4 d = 0 ∨ S'.1 4 d = 1) (hl : ∀ c, S'.2 2 c = (S'.1 3 c).toInt64) : Iv S' := by
  have hn : ndl S' = ndl S := by unfold ndl; rw [h5]
  obtain ⟨a, b, c, d, e⟩ := h
  refine ⟨by rw [h0]; exact a, by rw [h5]; exact b, fun j hj => ?_, h4, hl⟩
  rw [hn] at hj
  have := c j hj
  rw [h6 j hj, h7 j hj, h8 j hj, h0]
  exact ⟨this.1, this.2.1, this.2.2.1, h9 j hj, h12 j hj⟩
theorem en_2 (S : Sd) (k : Nat) (hk : ¬ k = 0) : ∀ i, (en S i).2 k = S.2 k
  | 0 => rfl
  | i + 1 => by
    show (if opn (en S i) i = true then edS (en S i) i else en S i).2 k = S.2 k
    by_cases h : opn (en S i) i = true
    · rw [if_pos h]
      show u2 (en S i).2 0 _ _ k = S.2 k
      rw [← en_2 S k hk i]
      funext y
      exact u2_n (fun z => hk z.1)
    · rw [if_neg h]
      exact en_2 S k hk i
theorem en_90 (S : Sd) : ∀ i j, 0 ≤ (S.1 9 j).toInt → 0 ≤ ((en S i).1 9 j).toInt
  | 0, j, h => h
  | i + 1, j, h0 => by
    show 0 ≤ ((if opn (en S i) i = true then edS (en S i) i else en S i).1 9 j).toInt
    by_cases h : opn (en S i) i = true
    · rw [if_pos h]
      show 0 ≤ (u2 (en S i).1 9 i 0 9 j).toInt
      by_cases hj : j = i
      · subst hj; rw [u2_s]; decide
      · rw [u2_n (fun z => hj z.2)]; exact en_90 S i j h0
    · rw [if_neg h]
      exact en_90 S i j h0
theorem Iv.en {S : Sd} (h : Iv S) (i : Nat) : Iv (en S i) := by
  have k := fun k hk => en_k S k hk i
  refine h.eq (by rw [k 0 (by decide)]) (by rw [k 5 (by decide)]) (fun j _ => by rw [k 6 (by decide)]) (fun j _ => by rw [k 7 (by decide)]) (fun j _ => by rw [k 8 (by decide)]) (fun j hj => en_90 S i j (h.2.2.1 j hj).2.2.2.1) (fun j hj => by rw [k 12 (by decide)]; exact (h.2.2.1 j hj).2.2.2.2) (fun d => by rw [k 4 (by decide)]; exact h.2.2.2.1 d) (fun c => by rw [k 3 (by decide), en_2 S 2 (by decide) i]; exact h.2.2.2.2 c)
set_option maxHeartbeats 4000000 in
set_option maxRecDepth 100000 in
theorem c_X5_roll {l : Launch} (hnt : l.stackTraces = false) (l' : Launch) (G : Gx) (M : Mp) (S T : Sd) (th : Int32) (o : Int64) (ex : Nat → Option (Nat × Nat)) (ad : Nat → Nat → Nat) (n : Int32) (y z : Int32) (hw : WA G S T th o ex ad M) (hi : Iv S) (hx9 : Ix S ex) : vx_Met l yX5_roll wsX5_roll ({ frames := 7, cells := 5, slots := 24, locals := 131 }) (Cv G M [.ref (ad 0 0), .int n, .int y, .int z]) (va_Qi (S := Mp) (fun r M2 => (0 ≤ n ∧ n.toNatClampNeg < ndl S) ∧ (1 ≤ y ∧ y ≤ 100) ∧ ¬ S.1 9 n.toNatClampNeg = 0 ∧ S.1 12 n.toNatClampNeg + y - S.1 0 0 ≤ 400 ∧ r = (if z = 0 then rlc S (n.toNatClampNeg) y else rls S (n.toNatClampNeg) y).1 10 n.toNatClampNeg ∧ ∃ ex2, WA G (if z = 0 then rlc S (n.toNatClampNeg) y else rls S (n.toNatClampNeg) y) T th o ex2 ad M2 ∧ Ix (if z = 0 then rlc S (n.toNatClampNeg) y else rls S (n.toNatClampNeg) y) ex2) (Bm G (fun M2 => M2)) (AG G)) (Xq G M (fun E => (E = IO ∧ ¬ (0 ≤ n ∧ n.toNatClampNeg < ndl S)) ∨ (E = IA ∧ (0 ≤ n ∧ n.toNatClampNeg < ndl S) ∧ ¬ (1 ≤ y ∧ y ≤ 100)) ∨ (E = IS ∧ (0 ≤ n ∧ n.toNatClampNeg < ndl S) ∧ (1 ≤ y ∧ y ≤ 100) ∧ (S.1 9 n.toNatClampNeg = 0 ∨ ¬ S.1 12 n.toNatClampNeg + y - S.1 0 0 ≤ 400)))) (5) (24) (AG G) := by
  refine m_metx [.ref (ad 0 0), .int n, .int y, .int z] [(0, .ref (ad 0 0)), (1, .int n), (2, .int y), (3, .int z)] (by decide) rfl rfl (Nat.le_of_ble_eq_true rfl) ?_
  intro p e s m below meth c ls hx hb hr hml hown hts hlocks hin ht hC hM hl hS
  have f0 : M (ad 0 0) = some (.inr (5, [.ref (ad 1 0), .ref (ad 3 0), .ref (ad 5 0), .ref (ad 10 0), .int (S.1 5 0)])) := hw.1 0 0 _ rfl
  have f1 : M (ad 1 0) = some (.inr (1, [.ref (ad 2 0), .int (S.1 0 0)])) := hw.1 1 0 _ rfl
  have f2 : M (ad 2 0) = some (.inl (G.2.1 2, 1001, .inl (S.1 4))) := hw.1 2 0 _ rfl
  have f3 : M (ad 3 0) = some (.inl (G.2.1 3, 4, .inr (.inr (.inr (.inr (crr ad)))))) := hw.1 3 0 _ rfl
  have f5 : M (ad 5 0) = some (.inl (G.2.1 4, 5, .inr (.inr (.inr (.inr (csr ad)))))) := hw.1 5 0 _ rfl
  have f10 : M (ad 10 0) = some (.inl (G.2.1 6, 20, .inr (.inr (.inr (.inr (dlr S ad)))))) := hw.1 10 0 _ rfl
  refine lv_aload_n hx hb dX5_roll_0 rfl (lv_at hl 0 rfl) ?_
  refine lv_iload_n hx hb dX5_roll_1 rfl (lv_at hl 1 rfl) ?_
  refine kx_q (vx_runV (As := [.int n]) (rest := []) ⟨hx, hb, hml, hown, hts⟩ (c_X5_dealNumbered hnt l G M S T th o ex ad n hw hi) (cwV 1 hts gX5_roll_X5_dealNumbered rfl rfl rfl (by decide +kernel) ⟨Nat.le_of_ble_eq_true rfl, Nat.le_of_ble_eq_true rfl⟩) (preV_of hC hS hM f0 rfl) rfl rfl hl.1 rfl (lv_room (Nat.le_of_ble_eq_true rfl)) dX5_roll_2 ⟨Nat.le_of_ble_eq_true rfl, Nat.le_of_ble_eq_true rfl⟩) hS (fun E ce q9 H locs hE hM hS h1 h2 h3 => ?_) (fun r2 u2 H locs hp2 hM hS => ?_)
  · exact r_out ht hlocks hS hM (Or.inl hE) h1 h2 h3 (Nat.le_of_ble_eq_true rfl) (Nat.le_of_ble_eq_true rfl)
  have hM : Hm G M H := hM
  obtain ⟨e2, b2⟩ := hp2
  subst e2
  have g2 := hw.1 _ _ _ (ct11 (G := G) (S := S) (T := T) (th := th) (o := o) (ex := ex) (ad := ad) b2.2)
  have y2 := hw.1 _ _ _ (ct4 (G := G) (S := S) (T := T) (th := th) (o := o) (ex := ex) (ad := ad) (hi.cy b2.2))
  have gc1_6 : M (ad 6 (cus S (n.toNatClampNeg))) = some (.inr (3, [.int (S.1 3 (cus S (n.toNatClampNeg))), .ref (ad 7 (cus S (n.toNatClampNeg))), .ref (ad 8 (cus S (n.toNatClampNeg)))])) := hw.1 6 _ _ (ct6 (hi.cu b2.2))
  have gc1_7 : M (ad 7 (cus S (n.toNatClampNeg))) = some (.inl (G.2.1 5, 1002, .inr (.inr (.inr (.inr (ntr ex ad (cus S (n.toNatClampNeg)))))))) := hw.1 7 _ _ (ct7 (hi.cu b2.2))
  refine lv_astore (lv' := [(4, .ref (ad 11 (n.toNatClampNeg))), (0, .ref (ad 0 0)), (1, .int n), (2, .int y), (3, .int z)]) hx hb dX5_roll_5 hl (by decide) rfl (fun ls hl => ?_)
  refine lv_iload_n hx hb dX5_roll_7 rfl (lv_at hl 3 rfl) ?_
  refine lv_iconst (v := 1) hx hb dX5_roll_8 (by decide) ?_
  refine lv_bipush (v := 100) hx hb dX5_roll_9 (by decide) ?_
  refine kx_v (vx_runS (As := [.int y, .int 1, .int 100]) (rest := []) ⟨hx, hb, hml, hown, hts⟩ (c_X5_requireRange hnt l G M y (1 : Int32) (100 : Int32)) (va_cwS 3 hts gX5_roll_X5_requireRange rfl rfl rfl (by decide +kernel) ⟨Nat.le_of_ble_eq_true rfl, Nat.le_of_ble_eq_true rfl⟩) (preS_of hC hS hM) rfl rfl hl.1 rfl (lv_room (Nat.le_of_ble_eq_true rfl)) dX5_roll_11 ⟨Nat.le_of_ble_eq_true rfl, Nat.le_of_ble_eq_true rfl⟩) hS (fun E ce q9 H locs hE hM hS h1 h2 h3 => ?_) (fun u11 H locs hp11 hM hS => ?_)
  · exact r_out ht hlocks hS hM (Or.inr (Or.inl ⟨hE.1, b2, hE.2⟩)) h1 h2 h3 (Nat.le_of_ble_eq_true rfl) (Nat.le_of_ble_eq_true rfl)
  have hM : Hm G M H := hM
  refine lv_aload hx hb dX5_roll_14 (lv_at hl 0 rfl) ?_
  refine kx_v (vx_runS (As := [.ref (ad 11 (n.toNatClampNeg))]) (rest := []) ⟨hx, hb, hml, hown, hts⟩ (c_X5_requireLeft hnt l G M (ad 11 (n.toNatClampNeg)) (ad 6 (cus S (n.toNatClampNeg))) (ad 4 (cuy S (n.toNatClampNeg))) (S.1 8 (n.toNatClampNeg)) (S.1 9 (n.toNatClampNeg)) (S.1 10 (n.toNatClampNeg)) (S.1 11 (n.toNatClampNeg)) (S.1 12 (n.toNatClampNeg)) g2) (va_cwS 1 hts gX5_roll_X5_requireLeft rfl rfl rfl (by decide +kernel) ⟨Nat.le_of_ble_eq_true rfl, Nat.le_of_ble_eq_true rfl⟩) (preS_of hC hS hM) rfl rfl hl.1 rfl (lv_room (Nat.le_of_ble_eq_true rfl)) dX5_roll_16 ⟨Nat.le_of_ble_eq_true rfl, Nat.le_of_ble_eq_true rfl⟩) hS (fun E ce q9 H locs hE hM hS h1 h2 h3 => ?_) (fun u16 H locs hp16 hM hS => ?_)
  · exact r_out ht hlocks hS hM (Or.inr (Or.inr ⟨hE.1, b2, hp11, Or.inl hE.2⟩)) h1 h2 h3 (Nat.le_of_ble_eq_true rfl) (Nat.le_of_ble_eq_true rfl)
  have hM : Hm G M H := hM
  refine lv_aload hx hb dX5_roll_19 (lv_at hl 0 rfl) ?_
  refine m_getN (host := RX5) (ci := 4) (v := .int (S.1 12 (n.toNatClampNeg))) (C := RX4) (T := TX4) (N := 7) (a := (ad 11 (n.toNatClampNeg))) hx hb hts (by decide +kernel) hown hC hM g2 rfl 6 (by decide) (hC.w 12 rfl) (fun _ h9 => h9) rfl dX5_roll_21 ?_
  refine lv_iload_n hx hb dX5_roll_24 rfl (lv_at hl 3 rfl) ?_
  refine lv_iadd hx hb dX5_roll_25 ?_
  refine lv_aload_n hx hb dX5_roll_26 rfl (lv_at hl 1 rfl) ?_
  refine m_get (ci := 5) (v := .ref (ad 1 0)) (C := RX5) (T := TX5) (N := 5) (a := (ad 0 0)) hx hb hts (by decide +kernel) hown hC hM f0 rfl 0 (by decide) (hts (.fieldLink RX5 12 "Forwardroll" "calendar" "LForwardroll$Calendar;") (by decide +kernel)) (fun _ h9 => h9) rfl dX5_roll_27 ?_
  refine m_getN (host := RX5) (ci := 1) (v := .int (S.1 0 0)) (C := RX1) (T := TX1) (N := 2) (a := (ad 1 0)) hx hb hts (by decide +kernel) hown hC hM f1 rfl 1 (by decide) (hC.w 0 rfl) (fun _ h9 => h9) rfl dX5_roll_30 ?_
  refine lv_isub hx hb dX5_roll_33 ?_
  refine lv_sipush (v := 400) hx hb dX5_roll_34 (by decide) ?_
  refine lv_icmp_le (tgt := 50) hx hb dX5_roll_37 (by decide) (fun c_37 => ?_) (fun c_37 => ?_)
  · refine lv_iload_n hx hb dX5_roll_50 rfl (lv_at hl 4 rfl) ?_
    refine lv_if_eq (tgt := 87) hx hb dX5_roll_51 (by decide) (fun c_51 => ?_) (fun c_51 => ?_)
    · refine lv_aload hx hb dX5_roll_87 (lv_at hl 0 rfl) ?_
      refine lv_iload_n hx hb dX5_roll_89 rfl (lv_at hl 3 rfl) ?_
      refine k_v (va_runV (As := [.int y]) (rest := []) ⟨hx, hb, hml, hown, hts⟩ (c_X4_moveWindow l G M (ad 11 (n.toNatClampNeg)) (ad 6 (cus S (n.toNatClampNeg))) (ad 4 (cuy S (n.toNatClampNeg))) (S.1 8 (n.toNatClampNeg)) (S.1 9 (n.toNatClampNeg)) (S.1 10 (n.toNatClampNeg)) (S.1 11 (n.toNatClampNeg)) (S.1 12 (n.toNatClampNeg)) y g2) (cwV 1 hts gX5_roll_X4_moveWindow rfl rfl rfl (by decide +kernel) ⟨Nat.le_of_ble_eq_true rfl, Nat.le_of_ble_eq_true rfl⟩) (preV_of hC hS hM g2 rfl) rfl rfl hl.1 rfl (lv_room (Nat.le_of_ble_eq_true rfl)) dX5_roll_90 ⟨Nat.le_of_ble_eq_true rfl, Nat.le_of_ble_eq_true rfl⟩) hS (fun u90 H locs hp90 hM hS => ?_)
      have hM : Hm G (va_up M (ad 11 (n.toNatClampNeg)) (some (.inr (4, [.ref (ad 6 (cus S (n.toNatClampNeg))), .ref (ad 4 (cuy S (n.toNatClampNeg))), .int (S.1 8 (n.toNatClampNeg)), .int (S.1 9 (n.toNatClampNeg)), .int (S.1 10 (n.toNatClampNeg)), .int (S.1 12 (n.toNatClampNeg)), .int ((S.1 12 (n.toNatClampNeg)) + y)])))) H := hM
      have f90_5 : (va_up M (ad 11 (n.toNatClampNeg)) (some (.inr (4, [.ref (ad 6 (cus S (n.toNatClampNeg))), .ref (ad 4 (cuy S (n.toNatClampNeg))), .int (S.1 8 (n.toNatClampNeg)), .int (S.1 9 (n.toNatClampNeg)), .int (S.1 10 (n.toNatClampNeg)), .int (S.1 12 (n.toNatClampNeg)), .int ((S.1 12 (n.toNatClampNeg)) + y)])))) (ad 0 0) = some (.inr (5, [.ref (ad 1 0), .ref (ad 3 0), .ref (ad 5 0), .ref (ad 10 0), .int (S.1 5 0)])) := (up_ne (fun h9 => absurd (Eq.trans (Eq.trans (Eq.symm f0) (congrArg M h9)) g2) (by simp))).trans f0
      have f90_6 : (va_up M (ad 11 (n.toNatClampNeg)) (some (.inr (4, [.ref (ad 6 (cus S (n.toNatClampNeg))), .ref (ad 4 (cuy S (n.toNatClampNeg))), .int (S.1 8 (n.toNatClampNeg)), .int (S.1 9 (n.toNatClampNeg)), .int (S.1 10 (n.toNatClampNeg)), .int (S.1 12 (n.toNatClampNeg)), .int ((S.1 12 (n.toNatClampNeg)) + y)])))) (ad 1 0) = some (.inr (1, [.ref (ad 2 0), .int (S.1 0 0)])) := (up_ne (fun h9 => absurd (Eq.trans (Eq.trans (Eq.symm f1) (congrArg M h9)) g2) (by simp))).trans f1
      have f90_7 : (va_up M (ad 11 (n.toNatClampNeg)) (some (.inr (4, [.ref (ad 6 (cus S (n.toNatClampNeg))), .ref (ad 4 (cuy S (n.toNatClampNeg))), .int (S.1 8 (n.toNatClampNeg)), .int (S.1 9 (n.toNatClampNeg)), .int (S.1 10 (n.toNatClampNeg)), .int (S.1 12 (n.toNatClampNeg)), .int ((S.1 12 (n.toNatClampNeg)) + y)])))) (ad 2 0) = some (.inl (G.2.1 2, 1001, .inl (S.1 4))) := (up_ne (fun h9 => absurd (Eq.trans (Eq.trans (Eq.symm f2) (congrArg M h9)) g2) (by simp))).trans f2
      have f90_8 : (va_up M (ad 11 (n.toNatClampNeg)) (some (.inr (4, [.ref (ad 6 (cus S (n.toNatClampNeg))), .ref (ad 4 (cuy S (n.toNatClampNeg))), .int (S.1 8 (n.toNatClampNeg)), .int (S.1 9 (n.toNatClampNeg)), .int (S.1 10 (n.toNatClampNeg)), .int (S.1 12 (n.toNatClampNeg)), .int ((S.1 12 (n.toNatClampNeg)) + y)])))) (ad 3 0) = some (.inl (G.2.1 3, 4, .inr (.inr (.inr (.inr (crr ad)))))) := (up_ne (fun h9 => absurd (Eq.trans (Eq.trans (Eq.symm f3) (congrArg M h9)) g2) (by simp))).trans f3
      have f90_9 : (va_up M (ad 11 (n.toNatClampNeg)) (some (.inr (4, [.ref (ad 6 (cus S (n.toNatClampNeg))), .ref (ad 4 (cuy S (n.toNatClampNeg))), .int (S.1 8 (n.toNatClampNeg)), .int (S.1 9 (n.toNatClampNeg)), .int (S.1 10 (n.toNatClampNeg)), .int (S.1 12 (n.toNatClampNeg)), .int ((S.1 12 (n.toNatClampNeg)) + y)])))) (ad 5 0) = some (.inl (G.2.1 4, 5, .inr (.inr (.inr (.inr (csr ad)))))) := (up_ne (fun h9 => absurd (Eq.trans (Eq.trans (Eq.symm f5) (congrArg M h9)) g2) (by simp))).trans f5
      have f90_10 : (va_up M (ad 11 (n.toNatClampNeg)) (some (.inr (4, [.ref (ad 6 (cus S (n.toNatClampNeg))), .ref (ad 4 (cuy S (n.toNatClampNeg))), .int (S.1 8 (n.toNatClampNeg)), .int (S.1 9 (n.toNatClampNeg)), .int (S.1 10 (n.toNatClampNeg)), .int (S.1 12 (n.toNatClampNeg)), .int ((S.1 12 (n.toNatClampNeg)) + y)])))) (ad 10 0) = some (.inl (G.2.1 6, 20, .inr (.inr (.inr (.inr (dlr S ad)))))) := (up_ne (fun h9 => absurd (Eq.trans (Eq.trans (Eq.symm f10) (congrArg M h9)) g2) (by simp))).trans f10
      have f90_11 : (va_up M (ad 11 (n.toNatClampNeg)) (some (.inr (4, [.ref (ad 6 (cus S (n.toNatClampNeg))), .ref (ad 4 (cuy S (n.toNatClampNeg))), .int (S.1 8 (n.toNatClampNeg)), .int (S.1 9 (n.toNatClampNeg)), .int (S.1 10 (n.toNatClampNeg)), .int (S.1 12 (n.toNatClampNeg)), .int ((S.1 12 (n.toNatClampNeg)) + y)])))) (ad 11 (n.toNatClampNeg)) = some (.inr (4, [.ref (ad 6 (cus S (n.toNatClampNeg))), .ref (ad 4 (cuy S (n.toNatClampNeg))), .int (S.1 8 (n.toNatClampNeg)), .int (S.1 9 (n.toNatClampNeg)), .int (S.1 10 (n.toNatClampNeg)), .int (S.1 12 (n.toNatClampNeg)), .int ((S.1 12 (n.toNatClampNeg)) + y)])) := up_eq
      have f90_12 : (va_up M (ad 11 (n.toNatClampNeg)) (some (.inr (4, [.ref (ad 6 (cus S (n.toNatClampNeg))), .ref (ad 4 (cuy S (n.toNatClampNeg))), .int (S.1 8 (n.toNatClampNeg)), .int (S.1 9 (n.toNatClampNeg)), .int (S.1 10 (n.toNatClampNeg)), .int (S.1 12 (n.toNatClampNeg)), .int ((S.1 12 (n.toNatClampNeg)) + y)])))) (ad 4 (cuy S (n.toNatClampNeg))) = some (.inr (2, [.int (nI (cuy S (n.toNatClampNeg))), .int (S.1 1 (cuy S (n.toNatClampNeg))), .int (S.1 2 (cuy S (n.toNatClampNeg)))])) := (up_ne (fun h9 => absurd (Eq.trans (Eq.trans (Eq.symm y2) (congrArg M h9)) g2) (by simp))).trans y2
      have f90_13 : (va_up M (ad 11 (n.toNatClampNeg)) (some (.inr (4, [.ref (ad 6 (cus S (n.toNatClampNeg))), .ref (ad 4 (cuy S (n.toNatClampNeg))), .int (S.1 8 (n.toNatClampNeg)), .int (S.1 9 (n.toNatClampNeg)), .int (S.1 10 (n.toNatClampNeg)), .int (S.1 12 (n.toNatClampNeg)), .int ((S.1 12 (n.toNatClampNeg)) + y)])))) (ad 6 (cus S (n.toNatClampNeg))) = some (.inr (3, [.int (S.1 3 (cus S (n.toNatClampNeg))), .ref (ad 7 (cus S (n.toNatClampNeg))), .ref (ad 8 (cus S (n.toNatClampNeg)))])) := (up_ne (fun h9 => absurd (Eq.trans (Eq.trans (Eq.symm gc1_6) (congrArg M h9)) g2) (by simp))).trans gc1_6
      have f90_14 : (va_up M (ad 11 (n.toNatClampNeg)) (some (.inr (4, [.ref (ad 6 (cus S (n.toNatClampNeg))), .ref (ad 4 (cuy S (n.toNatClampNeg))), .int (S.1 8 (n.toNatClampNeg)), .int (S.1 9 (n.toNatClampNeg)), .int (S.1 10 (n.toNatClampNeg)), .int (S.1 12 (n.toNatClampNeg)), .int ((S.1 12 (n.toNatClampNeg)) + y)])))) (ad 7 (cus S (n.toNatClampNeg))) = some (.inl (G.2.1 5, 1002, .inr (.inr (.inr (.inr (ntr ex ad (cus S (n.toNatClampNeg)))))))) := (up_ne (fun h9 => absurd (Eq.trans (Eq.trans (Eq.symm gc1_7) (congrArg M h9)) g2) (by simp))).trans gc1_7
      refine lv_aload hx hb dX5_roll_93 (lv_at hl 0 rfl) ?_
      refine lv_aload hx hb dX5_roll_95 (lv_at hl 0 rfl) ?_
      refine m_getN (host := RX5) (ci := 4) (v := .ref (ad 4 (cuy S (n.toNatClampNeg)))) (C := RX4) (T := TX4) (N := 7) (a := (ad 11 (n.toNatClampNeg))) hx hb hts (by decide +kernel) hown hC hM f90_11 rfl 1 (by decide) (hC.w 7 rfl) (fun _ h9 => h9) rfl dX5_roll_97 ?_
      refine lv_aload hx hb dX5_roll_100 (lv_at hl 0 rfl) ?_
      refine m_getN (host := RX5) (ci := 4) (v := .int (S.1 10 (n.toNatClampNeg))) (C := RX4) (T := TX4) (N := 7) (a := (ad 11 (n.toNatClampNeg))) hx hb hts (by decide +kernel) hown hC hM f90_11 rfl 4 (by decide) (hC.w 10 rfl) (fun _ h9 => h9) rfl dX5_roll_102 ?_
      refine lv_iload_n hx hb dX5_roll_105 rfl (lv_at hl 3 rfl) ?_
      refine k_i (va_runV (As := [.int (S.1 10 (n.toNatClampNeg)), .int y]) (rest := [.ref (ad 11 (n.toNatClampNeg))]) ⟨hx, hb, hml, hown, hts⟩ (c_X2_laterRate l G (va_up M (ad 11 (n.toNatClampNeg)) (some (.inr (4, [.ref (ad 6 (cus S (n.toNatClampNeg))), .ref (ad 4 (cuy S (n.toNatClampNeg))), .int (S.1 8 (n.toNatClampNeg)), .int (S.1 9 (n.toNatClampNeg)), .int (S.1 10 (n.toNatClampNeg)), .int (S.1 12 (n.toNatClampNeg)), .int ((S.1 12 (n.toNatClampNeg)) + y)])))) (ad 4 (cuy S (n.toNatClampNeg))) (nI (cuy S (n.toNatClampNeg))) (S.1 1 (cuy S (n.toNatClampNeg))) (S.1 2 (cuy S (n.toNatClampNeg))) (S.1 10 (n.toNatClampNeg)) y f90_12) (cwV 2 hts gX5_roll_X2_laterRate rfl rfl rfl (by decide +kernel) ⟨Nat.le_of_ble_eq_true rfl, Nat.le_of_ble_eq_true rfl⟩) (preV_of hC hS hM f90_12 rfl) rfl rfl hl.1 rfl (lv_room (Nat.le_of_ble_eq_true rfl)) dX5_roll_106 ⟨Nat.le_of_ble_eq_true rfl, Nat.le_of_ble_eq_true rfl⟩) hS (fun r106 u106 H locs hp106 hM hS => ?_)
      have hM : Hm G (va_up M (ad 11 (n.toNatClampNeg)) (some (.inr (4, [.ref (ad 6 (cus S (n.toNatClampNeg))), .ref (ad 4 (cuy S (n.toNatClampNeg))), .int (S.1 8 (n.toNatClampNeg)), .int (S.1 9 (n.toNatClampNeg)), .int (S.1 10 (n.toNatClampNeg)), .int (S.1 12 (n.toNatClampNeg)), .int ((S.1 12 (n.toNatClampNeg)) + y)])))) H := hM
      have hp106 : r106 = al1 ((S.1 10 (n.toNatClampNeg)) + (S.1 2 (cuy S (n.toNatClampNeg))) * y) := hp106
      subst hp106
      refine m_putN (host := RX5) (ci := 4) (v := .int (al1 ((S.1 10 (n.toNatClampNeg)) + (S.1 2 (cuy S (n.toNatClampNeg))) * y))) (ty := .int) (C := RX4) (T := TX4) (N := 7) (a := (ad 11 (n.toNatClampNeg))) hx hb hts (by decide +kernel) tyX4 tyX4_ok nmX4 hown hC hM hS f90_11 rfl 4 (by decide) (hC.w 10 rfl) (fun _ h9 => h9) rfl (by decide +kernel) rfl rfl (Nat.le_of_ble_eq_true rfl) dX5_roll_109 (fun H locs hM hS => ?_)
      have hM : Hm G (va_up M (ad 11 (n.toNatClampNeg)) (some (.inr (4, [.ref (ad 6 (cus S (n.toNatClampNeg))), .ref (ad 4 (cuy S (n.toNatClampNeg))), .int (S.1 8 (n.toNatClampNeg)), .int (S.1 9 (n.toNatClampNeg)), .int (al1 ((S.1 10 (n.toNatClampNeg)) + (S.1 2 (cuy S (n.toNatClampNeg))) * y)), .int (S.1 12 (n.toNatClampNeg)), .int ((S.1 12 (n.toNatClampNeg)) + y)])))) H := up2 ▸ hM
      have f109_16 : (va_up M (ad 11 (n.toNatClampNeg)) (some (.inr (4, [.ref (ad 6 (cus S (n.toNatClampNeg))), .ref (ad 4 (cuy S (n.toNatClampNeg))), .int (S.1 8 (n.toNatClampNeg)), .int (S.1 9 (n.toNatClampNeg)), .int (al1 ((S.1 10 (n.toNatClampNeg)) + (S.1 2 (cuy S (n.toNatClampNeg))) * y)), .int (S.1 12 (n.toNatClampNeg)), .int ((S.1 12 (n.toNatClampNeg)) + y)])))) (ad 0 0) = some (.inr (5, [.ref (ad 1 0), .ref (ad 3 0), .ref (ad 5 0), .ref (ad 10 0), .int (S.1 5 0)])) := (up_ne (fun h9 => absurd (Eq.trans (Eq.trans (Eq.symm f90_5) (congrArg (va_up M (ad 11 (n.toNatClampNeg)) (some (.inr (4, [.ref (ad 6 (cus S (n.toNatClampNeg))), .ref (ad 4 (cuy S (n.toNatClampNeg))), .int (S.1 8 (n.toNatClampNeg)), .int (S.1 9 (n.toNatClampNeg)), .int (S.1 10 (n.toNatClampNeg)), .int (S.1 12 (n.toNatClampNeg)), .int ((S.1 12 (n.toNatClampNeg)) + y)])))) h9)) f90_11) (by simp))).trans f0
      have f109_17 : (va_up M (ad 11 (n.toNatClampNeg)) (some (.inr (4, [.ref (ad 6 (cus S (n.toNatClampNeg))), .ref (ad 4 (cuy S (n.toNatClampNeg))), .int (S.1 8 (n.toNatClampNeg)), .int (S.1 9 (n.toNatClampNeg)), .int (al1 ((S.1 10 (n.toNatClampNeg)) + (S.1 2 (cuy S (n.toNatClampNeg))) * y)), .int (S.1 12 (n.toNatClampNeg)), .int ((S.1 12 (n.toNatClampNeg)) + y)])))) (ad 1 0) = some (.inr (1, [.ref (ad 2 0), .int (S.1 0 0)])) := (up_ne (fun h9 => absurd (Eq.trans (Eq.trans (Eq.symm f90_6) (congrArg (va_up M (ad 11 (n.toNatClampNeg)) (some (.inr (4, [.ref (ad 6 (cus S (n.toNatClampNeg))), .ref (ad 4 (cuy S (n.toNatClampNeg))), .int (S.1 8 (n.toNatClampNeg)), .int (S.1 9 (n.toNatClampNeg)), .int (S.1 10 (n.toNatClampNeg)), .int (S.1 12 (n.toNatClampNeg)), .int ((S.1 12 (n.toNatClampNeg)) + y)])))) h9)) f90_11) (by simp))).trans f1
      have f109_18 : (va_up M (ad 11 (n.toNatClampNeg)) (some (.inr (4, [.ref (ad 6 (cus S (n.toNatClampNeg))), .ref (ad 4 (cuy S (n.toNatClampNeg))), .int (S.1 8 (n.toNatClampNeg)), .int (S.1 9 (n.toNatClampNeg)), .int (al1 ((S.1 10 (n.toNatClampNeg)) + (S.1 2 (cuy S (n.toNatClampNeg))) * y)), .int (S.1 12 (n.toNatClampNeg)), .int ((S.1 12 (n.toNatClampNeg)) + y)])))) (ad 2 0) = some (.inl (G.2.1 2, 1001, .inl (S.1 4))) := (up_ne (fun h9 => absurd (Eq.trans (Eq.trans (Eq.symm f90_7) (congrArg (va_up M (ad 11 (n.toNatClampNeg)) (some (.inr (4, [.ref (ad 6 (cus S (n.toNatClampNeg))), .ref (ad 4 (cuy S (n.toNatClampNeg))), .int (S.1 8 (n.toNatClampNeg)), .int (S.1 9 (n.toNatClampNeg)), .int (S.1 10 (n.toNatClampNeg)), .int (S.1 12 (n.toNatClampNeg)), .int ((S.1 12 (n.toNatClampNeg)) + y)])))) h9)) f90_11) (by simp))).trans f2
      have f109_19 : (va_up M (ad 11 (n.toNatClampNeg)) (some (.inr (4, [.ref (ad 6 (cus S (n.toNatClampNeg))), .ref (ad 4 (cuy S (n.toNatClampNeg))), .int (S.1 8 (n.toNatClampNeg)), .int (S.1 9 (n.toNatClampNeg)), .int (al1 ((S.1 10 (n.toNatClampNeg)) + (S.1 2 (cuy S (n.toNatClampNeg))) * y)), .int (S.1 12 (n.toNatClampNeg)), .int ((S.1 12 (n.toNatClampNeg)) + y)])))) (ad 3 0) = some (.inl (G.2.1 3, 4, .inr (.inr (.inr (.inr (crr ad)))))) := (up_ne (fun h9 => absurd (Eq.trans (Eq.trans (Eq.symm f90_8) (congrArg (va_up M (ad 11 (n.toNatClampNeg)) (some (.inr (4, [.ref (ad 6 (cus S (n.toNatClampNeg))), .ref (ad 4 (cuy S (n.toNatClampNeg))), .int (S.1 8 (n.toNatClampNeg)), .int (S.1 9 (n.toNatClampNeg)), .int (S.1 10 (n.toNatClampNeg)), .int (S.1 12 (n.toNatClampNeg)), .int ((S.1 12 (n.toNatClampNeg)) + y)])))) h9)) f90_11) (by simp))).trans f3
      have f109_20 : (va_up M (ad 11 (n.toNatClampNeg)) (some (.inr (4, [.ref (ad 6 (cus S (n.toNatClampNeg))), .ref (ad 4 (cuy S (n.toNatClampNeg))), .int (S.1 8 (n.toNatClampNeg)), .int (S.1 9 (n.toNatClampNeg)), .int (al1 ((S.1 10 (n.toNatClampNeg)) + (S.1 2 (cuy S (n.toNatClampNeg))) * y)), .int (S.1 12 (n.toNatClampNeg)), .int ((S.1 12 (n.toNatClampNeg)) + y)])))) (ad 5 0) = some (.inl (G.2.1 4, 5, .inr (.inr (.inr (.inr (csr ad)))))) := (up_ne (fun h9 => absurd (Eq.trans (Eq.trans (Eq.symm f90_9) (congrArg (va_up M (ad 11 (n.toNatClampNeg)) (some (.inr (4, [.ref (ad 6 (cus S (n.toNatClampNeg))), .ref (ad 4 (cuy S (n.toNatClampNeg))), .int (S.1 8 (n.toNatClampNeg)), .int (S.1 9 (n.toNatClampNeg)), .int (S.1 10 (n.toNatClampNeg)), .int (S.1 12 (n.toNatClampNeg)), .int ((S.1 12 (n.toNatClampNeg)) + y)])))) h9)) f90_11) (by simp))).trans f5
      have f109_21 : (va_up M (ad 11 (n.toNatClampNeg)) (some (.inr (4, [.ref (ad 6 (cus S (n.toNatClampNeg))), .ref (ad 4 (cuy S (n.toNatClampNeg))), .int (S.1 8 (n.toNatClampNeg)), .int (S.1 9 (n.toNatClampNeg)), .int (al1 ((S.1 10 (n.toNatClampNeg)) + (S.1 2 (cuy S (n.toNatClampNeg))) * y)), .int (S.1 12 (n.toNatClampNeg)), .int ((S.1 12 (n.toNatClampNeg)) + y)])))) (ad 10 0) = some (.inl (G.2.1 6, 20, .inr (.inr (.inr (.inr (dlr S ad)))))) := (up_ne (fun h9 => absurd (Eq.trans (Eq.trans (Eq.symm f90_10) (congrArg (va_up M (ad 11 (n.toNatClampNeg)) (some (.inr (4, [.ref (ad 6 (cus S (n.toNatClampNeg))), .ref (ad 4 (cuy S (n.toNatClampNeg))), .int (S.1 8 (n.toNatClampNeg)), .int (S.1 9 (n.toNatClampNeg)), .int (S.1 10 (n.toNatClampNeg)), .int (S.1 12 (n.toNatClampNeg)), .int ((S.1 12 (n.toNatClampNeg)) + y)])))) h9)) f90_11) (by simp))).trans f10
      have f109_22 : (va_up M (ad 11 (n.toNatClampNeg)) (some (.inr (4, [.ref (ad 6 (cus S (n.toNatClampNeg))), .ref (ad 4 (cuy S (n.toNatClampNeg))), .int (S.1 8 (n.toNatClampNeg)), .int (S.1 9 (n.toNatClampNeg)), .int (al1 ((S.1 10 (n.toNatClampNeg)) + (S.1 2 (cuy S (n.toNatClampNeg))) * y)), .int (S.1 12 (n.toNatClampNeg)), .int ((S.1 12 (n.toNatClampNeg)) + y)])))) (ad 11 (n.toNatClampNeg)) = some (.inr (4, [.ref (ad 6 (cus S (n.toNatClampNeg))), .ref (ad 4 (cuy S (n.toNatClampNeg))), .int (S.1 8 (n.toNatClampNeg)), .int (S.1 9 (n.toNatClampNeg)), .int (al1 ((S.1 10 (n.toNatClampNeg)) + (S.1 2 (cuy S (n.toNatClampNeg))) * y)), .int (S.1 12 (n.toNatClampNeg)), .int ((S.1 12 (n.toNatClampNeg)) + y)])) := up_eq
      have f109_23 : (va_up M (ad 11 (n.toNatClampNeg)) (some (.inr (4, [.ref (ad 6 (cus S (n.toNatClampNeg))), .ref (ad 4 (cuy S (n.toNatClampNeg))), .int (S.1 8 (n.toNatClampNeg)), .int (S.1 9 (n.toNatClampNeg)), .int (al1 ((S.1 10 (n.toNatClampNeg)) + (S.1 2 (cuy S (n.toNatClampNeg))) * y)), .int (S.1 12 (n.toNatClampNeg)), .int ((S.1 12 (n.toNatClampNeg)) + y)])))) (ad 4 (cuy S (n.toNatClampNeg))) = some (.inr (2, [.int (nI (cuy S (n.toNatClampNeg))), .int (S.1 1 (cuy S (n.toNatClampNeg))), .int (S.1 2 (cuy S (n.toNatClampNeg)))])) := (up_ne (fun h9 => absurd (Eq.trans (Eq.trans (Eq.symm f90_12) (congrArg (va_up M (ad 11 (n.toNatClampNeg)) (some (.inr (4, [.ref (ad 6 (cus S (n.toNatClampNeg))), .ref (ad 4 (cuy S (n.toNatClampNeg))), .int (S.1 8 (n.toNatClampNeg)), .int (S.1 9 (n.toNatClampNeg)), .int (S.1 10 (n.toNatClampNeg)), .int (S.1 12 (n.toNatClampNeg)), .int ((S.1 12 (n.toNatClampNeg)) + y)])))) h9)) f90_11) (by simp))).trans y2
      have f109_24 : (va_up M (ad 11 (n.toNatClampNeg)) (some (.inr (4, [.ref (ad 6 (cus S (n.toNatClampNeg))), .ref (ad 4 (cuy S (n.toNatClampNeg))), .int (S.1 8 (n.toNatClampNeg)), .int (S.1 9 (n.toNatClampNeg)), .int (al1 ((S.1 10 (n.toNatClampNeg)) + (S.1 2 (cuy S (n.toNatClampNeg))) * y)), .int (S.1 12 (n.toNatClampNeg)), .int ((S.1 12 (n.toNatClampNeg)) + y)])))) (ad 6 (cus S (n.toNatClampNeg))) = some (.inr (3, [.int (S.1 3 (cus S (n.toNatClampNeg))), .ref (ad 7 (cus S (n.toNatClampNeg))), .ref (ad 8 (cus S (n.toNatClampNeg)))])) := (up_ne (fun h9 => absurd (Eq.trans (Eq.trans (Eq.symm f90_13) (congrArg (va_up M (ad 11 (n.toNatClampNeg)) (some (.inr (4, [.ref (ad 6 (cus S (n.toNatClampNeg))), .ref (ad 4 (cuy S (n.toNatClampNeg))), .int (S.1 8 (n.toNatClampNeg)), .int (S.1 9 (n.toNatClampNeg)), .int (S.1 10 (n.toNatClampNeg)), .int (S.1 12 (n.toNatClampNeg)), .int ((S.1 12 (n.toNatClampNeg)) + y)])))) h9)) f90_11) (by simp))).trans gc1_6
      have f109_25 : (va_up M (ad 11 (n.toNatClampNeg)) (some (.inr (4, [.ref (ad 6 (cus S (n.toNatClampNeg))), .ref (ad 4 (cuy S (n.toNatClampNeg))), .int (S.1 8 (n.toNatClampNeg)), .int (S.1 9 (n.toNatClampNeg)), .int (al1 ((S.1 10 (n.toNatClampNeg)) + (S.1 2 (cuy S (n.toNatClampNeg))) * y)), .int (S.1 12 (n.toNatClampNeg)), .int ((S.1 12 (n.toNatClampNeg)) + y)])))) (ad 7 (cus S (n.toNatClampNeg))) = some (.inl (G.2.1 5, 1002, .inr (.inr (.inr (.inr (ntr ex ad (cus S (n.toNatClampNeg)))))))) := (up_ne (fun h9 => absurd (Eq.trans (Eq.trans (Eq.symm f90_14) (congrArg (va_up M (ad 11 (n.toNatClampNeg)) (some (.inr (4, [.ref (ad 6 (cus S (n.toNatClampNeg))), .ref (ad 4 (cuy S (n.toNatClampNeg))), .int (S.1 8 (n.toNatClampNeg)), .int (S.1 9 (n.toNatClampNeg)), .int (S.1 10 (n.toNatClampNeg)), .int (S.1 12 (n.toNatClampNeg)), .int ((S.1 12 (n.toNatClampNeg)) + y)])))) h9)) f90_11) (by simp))).trans gc1_7
      refine lv_aload hx hb dX5_roll_112 (lv_at hl 0 rfl) ?_
      refine m_getN (host := RX5) (ci := 4) (v := .int (al1 ((S.1 10 (n.toNatClampNeg)) + (S.1 2 (cuy S (n.toNatClampNeg))) * y))) (C := RX4) (T := TX4) (N := 7) (a := (ad 11 (n.toNatClampNeg))) hx hb hts (by decide +kernel) hown hC hM f109_22 rfl 4 (by decide) (hC.w 10 rfl) (fun _ h9 => h9) rfl dX5_roll_114 ?_
      have e9 : (if z = 0 then rlc S (n.toNatClampNeg) y else rls S (n.toNatClampNeg) y) = rlc S (n.toNatClampNeg) y := if_pos c_51
      have hw9 := w_rl hw b2.2 (S.1 12 (n.toNatClampNeg)) (S.1 12 (n.toNatClampNeg) + y) (al1 ((S.1 10 (n.toNatClampNeg)) + (S.1 2 (cuy S (n.toNatClampNeg))) * y))
      exact vx_ret (r_i hx hb hr hlocks hS (v := al1 ((S.1 10 (n.toNatClampNeg)) + (S.1 2 (cuy S (n.toNatClampNeg))) * y)) _ ⟨b2, hp11, hp16, c_37, by rw [e9]; exact ⟨(rlc10 _ _ _).symm, ex, hw9, hx9⟩⟩ hM (Nat.le_of_ble_eq_true rfl) (Nat.le_of_ble_eq_true rfl) dX5_roll_117)
    · refine lv_aload_n hx hb dX5_roll_54 rfl (lv_at hl 1 rfl) ?_
      refine lv_aload hx hb dX5_roll_55 (lv_at hl 0 rfl) ?_
      refine k_l (va_runV (As := [.ref (ad 11 (n.toNatClampNeg))]) (rest := []) ⟨hx, hb, hml, hown, hts⟩ (c_X5_bookGain l G M S T th o ex ad (n.toNatClampNeg) hw hi hx9 b2.2) (cwV 1 hts gX5_roll_X5_bookGain rfl rfl rfl (by decide +kernel) ⟨Nat.le_of_ble_eq_true rfl, Nat.le_of_ble_eq_true rfl⟩) (preV_of hC hS hM f0 rfl) rfl rfl hl.1 rfl (lv_room (Nat.le_of_ble_eq_true rfl)) dX5_roll_57 ⟨Nat.le_of_ble_eq_true rfl, Nat.le_of_ble_eq_true rfl⟩) hS (fun r57 u57 H locs hp57 hM hS => ?_)
      obtain ⟨er57, ex1, hw1, hx1⟩ := hp57
      subst er57
      have hM : Hm G u57 H := hM
      have f0_26 : u57 (ad 0 0) = some (.inr (5, [.ref (ad 1 0), .ref (ad 3 0), .ref (ad 5 0), .ref (ad 10 0), .int (S.1 5 0)])) := hw1.1 0 0 _ rfl
      have f1_26 : u57 (ad 1 0) = some (.inr (1, [.ref (ad 2 0), .int (S.1 0 0)])) := hw1.1 1 0 _ rfl
      have f2_26 : u57 (ad 2 0) = some (.inl (G.2.1 2, 1001, .inl (S.1 4))) := hw1.1 2 0 _ rfl
      have f3_26 : u57 (ad 3 0) = some (.inl (G.2.1 3, 4, .inr (.inr (.inr (.inr (crr ad)))))) := hw1.1 3 0 _ rfl
      have f5_26 : u57 (ad 5 0) = some (.inl (G.2.1 4, 5, .inr (.inr (.inr (.inr (csr ad)))))) := hw1.1 5 0 _ rfl
      have f10_26 : u57 (ad 10 0) = some (.inl (G.2.1 6, 20, .inr (.inr (.inr (.inr (dlr S ad)))))) := hw1.1 10 0 _ rfl
      have gd27 : u57 (ad 11 (n.toNatClampNeg)) = some (.inr (4, [.ref (ad 6 (cus S (n.toNatClampNeg))), .ref (ad 4 (cuy S (n.toNatClampNeg))), .int (S.1 8 (n.toNatClampNeg)), .int (S.1 9 (n.toNatClampNeg)), .int (S.1 10 (n.toNatClampNeg)), .int (S.1 11 (n.toNatClampNeg)), .int (S.1 12 (n.toNatClampNeg))])) := hw1.1 11 _ _ (ct11 b2.2)
      have gy27 : u57 (ad 4 (cuy S (n.toNatClampNeg))) = some (.inr (2, [.int (nI (cuy S (n.toNatClampNeg))), .int (S.1 1 (cuy S (n.toNatClampNeg))), .int (S.1 2 (cuy S (n.toNatClampNeg)))])) := hw1.1 4 _ _ (ct4 (hi.cy b2.2))
      refine lv_pop2_2 hx hb dX5_roll_60 rfl ?_
      refine lv_aload hx hb dX5_roll_61 (lv_at hl 0 rfl) ?_
      refine lv_iload_n hx hb dX5_roll_63 rfl (lv_at hl 3 rfl) ?_
      refine k_v (va_runV (As := [.int y]) (rest := []) ⟨hx, hb, hml, hown, hts⟩ (c_X4_moveWindow l G u57 (ad 11 (n.toNatClampNeg)) (ad 6 (cus S (n.toNatClampNeg))) (ad 4 (cuy S (n.toNatClampNeg))) (S.1 8 (n.toNatClampNeg)) (S.1 9 (n.toNatClampNeg)) (S.1 10 (n.toNatClampNeg)) (S.1 11 (n.toNatClampNeg)) (S.1 12 (n.toNatClampNeg)) y gd27) (cwV 1 hts gX5_roll_X4_moveWindow rfl rfl rfl (by decide +kernel) ⟨Nat.le_of_ble_eq_true rfl, Nat.le_of_ble_eq_true rfl⟩) (preV_of hC hS hM gd27 rfl) rfl rfl hl.1 rfl (lv_room (Nat.le_of_ble_eq_true rfl)) dX5_roll_64 ⟨Nat.le_of_ble_eq_true rfl, Nat.le_of_ble_eq_true rfl⟩) hS (fun u64 H locs hp64 hM hS => ?_)
      have hM : Hm G (va_up u57 (ad 11 (n.toNatClampNeg)) (some (.inr (4, [.ref (ad 6 (cus S (n.toNatClampNeg))), .ref (ad 4 (cuy S (n.toNatClampNeg))), .int (S.1 8 (n.toNatClampNeg)), .int (S.1 9 (n.toNatClampNeg)), .int (S.1 10 (n.toNatClampNeg)), .int (S.1 12 (n.toNatClampNeg)), .int ((S.1 12 (n.toNatClampNeg)) + y)])))) H := hM
      have f64_29 : (va_up u57 (ad 11 (n.toNatClampNeg)) (some (.inr (4, [.ref (ad 6 (cus S (n.toNatClampNeg))), .ref (ad 4 (cuy S (n.toNatClampNeg))), .int (S.1 8 (n.toNatClampNeg)), .int (S.1 9 (n.toNatClampNeg)), .int (S.1 10 (n.toNatClampNeg)), .int (S.1 12 (n.toNatClampNeg)), .int ((S.1 12 (n.toNatClampNeg)) + y)])))) (ad 0 0) = some (.inr (5, [.ref (ad 1 0), .ref (ad 3 0), .ref (ad 5 0), .ref (ad 10 0), .int (S.1 5 0)])) := (up_ne (fun h9 => absurd (Eq.trans (Eq.trans (Eq.symm f0_26) (congrArg u57 h9)) gd27) (by simp))).trans f0_26
      have f64_30 : (va_up u57 (ad 11 (n.toNatClampNeg)) (some (.inr (4, [.ref (ad 6 (cus S (n.toNatClampNeg))), .ref (ad 4 (cuy S (n.toNatClampNeg))), .int (S.1 8 (n.toNatClampNeg)), .int (S.1 9 (n.toNatClampNeg)), .int (S.1 10 (n.toNatClampNeg)), .int (S.1 12 (n.toNatClampNeg)), .int ((S.1 12 (n.toNatClampNeg)) + y)])))) (ad 1 0) = some (.inr (1, [.ref (ad 2 0), .int (S.1 0 0)])) := (up_ne (fun h9 => absurd (Eq.trans (Eq.trans (Eq.symm f1_26) (congrArg u57 h9)) gd27) (by simp))).trans f1_26
      have f64_31 : (va_up u57 (ad 11 (n.toNatClampNeg)) (some (.inr (4, [.ref (ad 6 (cus S (n.toNatClampNeg))), .ref (ad 4 (cuy S (n.toNatClampNeg))), .int (S.1 8 (n.toNatClampNeg)), .int (S.1 9 (n.toNatClampNeg)), .int (S.1 10 (n.toNatClampNeg)), .int (S.1 12 (n.toNatClampNeg)), .int ((S.1 12 (n.toNatClampNeg)) + y)])))) (ad 2 0) = some (.inl (G.2.1 2, 1001, .inl (S.1 4))) := (up_ne (fun h9 => absurd (Eq.trans (Eq.trans (Eq.symm f2_26) (congrArg u57 h9)) gd27) (by simp))).trans f2_26
      have f64_32 : (va_up u57 (ad 11 (n.toNatClampNeg)) (some (.inr (4, [.ref (ad 6 (cus S (n.toNatClampNeg))), .ref (ad 4 (cuy S (n.toNatClampNeg))), .int (S.1 8 (n.toNatClampNeg)), .int (S.1 9 (n.toNatClampNeg)), .int (S.1 10 (n.toNatClampNeg)), .int (S.1 12 (n.toNatClampNeg)), .int ((S.1 12 (n.toNatClampNeg)) + y)])))) (ad 3 0) = some (.inl (G.2.1 3, 4, .inr (.inr (.inr (.inr (crr ad)))))) := (up_ne (fun h9 => absurd (Eq.trans (Eq.trans (Eq.symm f3_26) (congrArg u57 h9)) gd27) (by simp))).trans f3_26
      have f64_33 : (va_up u57 (ad 11 (n.toNatClampNeg)) (some (.inr (4, [.ref (ad 6 (cus S (n.toNatClampNeg))), .ref (ad 4 (cuy S (n.toNatClampNeg))), .int (S.1 8 (n.toNatClampNeg)), .int (S.1 9 (n.toNatClampNeg)), .int (S.1 10 (n.toNatClampNeg)), .int (S.1 12 (n.toNatClampNeg)), .int ((S.1 12 (n.toNatClampNeg)) + y)])))) (ad 5 0) = some (.inl (G.2.1 4, 5, .inr (.inr (.inr (.inr (csr ad)))))) := (up_ne (fun h9 => absurd (Eq.trans (Eq.trans (Eq.symm f5_26) (congrArg u57 h9)) gd27) (by simp))).trans f5_26
      have f64_34 : (va_up u57 (ad 11 (n.toNatClampNeg)) (some (.inr (4, [.ref (ad 6 (cus S (n.toNatClampNeg))), .ref (ad 4 (cuy S (n.toNatClampNeg))), .int (S.1 8 (n.toNatClampNeg)), .int (S.1 9 (n.toNatClampNeg)), .int (S.1 10 (n.toNatClampNeg)), .int (S.1 12 (n.toNatClampNeg)), .int ((S.1 12 (n.toNatClampNeg)) + y)])))) (ad 10 0) = some (.inl (G.2.1 6, 20, .inr (.inr (.inr (.inr (dlr S ad)))))) := (up_ne (fun h9 => absurd (Eq.trans (Eq.trans (Eq.symm f10_26) (congrArg u57 h9)) gd27) (by simp))).trans f10_26
      have f64_35 : (va_up u57 (ad 11 (n.toNatClampNeg)) (some (.inr (4, [.ref (ad 6 (cus S (n.toNatClampNeg))), .ref (ad 4 (cuy S (n.toNatClampNeg))), .int (S.1 8 (n.toNatClampNeg)), .int (S.1 9 (n.toNatClampNeg)), .int (S.1 10 (n.toNatClampNeg)), .int (S.1 12 (n.toNatClampNeg)), .int ((S.1 12 (n.toNatClampNeg)) + y)])))) (ad 11 (n.toNatClampNeg)) = some (.inr (4, [.ref (ad 6 (cus S (n.toNatClampNeg))), .ref (ad 4 (cuy S (n.toNatClampNeg))), .int (S.1 8 (n.toNatClampNeg)), .int (S.1 9 (n.toNatClampNeg)), .int (S.1 10 (n.toNatClampNeg)), .int (S.1 12 (n.toNatClampNeg)), .int ((S.1 12 (n.toNatClampNeg)) + y)])) := up_eq
      have f64_36 : (va_up u57 (ad 11 (n.toNatClampNeg)) (some (.inr (4, [.ref (ad 6 (cus S (n.toNatClampNeg))), .ref (ad 4 (cuy S (n.toNatClampNeg))), .int (S.1 8 (n.toNatClampNeg)), .int (S.1 9 (n.toNatClampNeg)), .int (S.1 10 (n.toNatClampNeg)), .int (S.1 12 (n.toNatClampNeg)), .int ((S.1 12 (n.toNatClampNeg)) + y)])))) (ad 4 (cuy S (n.toNatClampNeg))) = some (.inr (2, [.int (nI (cuy S (n.toNatClampNeg))), .int (S.1 1 (cuy S (n.toNatClampNeg))), .int (S.1 2 (cuy S (n.toNatClampNeg)))])) := (up_ne (fun h9 => absurd (Eq.trans (Eq.trans (Eq.symm gy27) (congrArg u57 h9)) gd27) (by simp))).trans gy27
      refine lv_aload hx hb dX5_roll_67 (lv_at hl 0 rfl) ?_
      refine lv_aload hx hb dX5_roll_69 (lv_at hl 0 rfl) ?_
      refine lv_aload_n hx hb dX5_roll_71 rfl (lv_at hl 1 rfl) ?_
      refine m_get (ci := 5) (v := .ref (ad 1 0)) (C := RX5) (T := TX5) (N := 5) (a := (ad 0 0)) hx hb hts (by decide +kernel) hown hC hM f64_29 rfl 0 (by decide) (hts (.fieldLink RX5 12 "Forwardroll" "calendar" "LForwardroll$Calendar;") (by decide +kernel)) (fun _ h9 => h9) rfl dX5_roll_72 ?_
      refine m_getN (host := RX5) (ci := 1) (v := .int (S.1 0 0)) (C := RX1) (T := TX1) (N := 2) (a := (ad 1 0)) hx hb hts (by decide +kernel) hown hC hM f64_30 rfl 1 (by decide) (hC.w 0 rfl) (fun _ h9 => h9) rfl dX5_roll_75 ?_
      refine k_i (va_runV (As := [.int (S.1 0 0)]) (rest := [.ref (ad 11 (n.toNatClampNeg))]) ⟨hx, hb, hml, hown, hts⟩ (c_X4_marketRate l G (va_up u57 (ad 11 (n.toNatClampNeg)) (some (.inr (4, [.ref (ad 6 (cus S (n.toNatClampNeg))), .ref (ad 4 (cuy S (n.toNatClampNeg))), .int (S.1 8 (n.toNatClampNeg)), .int (S.1 9 (n.toNatClampNeg)), .int (S.1 10 (n.toNatClampNeg)), .int (S.1 12 (n.toNatClampNeg)), .int ((S.1 12 (n.toNatClampNeg)) + y)])))) (ad 11 (n.toNatClampNeg)) (ad 6 (cus S (n.toNatClampNeg))) (ad 4 (cuy S (n.toNatClampNeg))) (S.1 8 (n.toNatClampNeg)) (S.1 9 (n.toNatClampNeg)) (S.1 10 (n.toNatClampNeg)) (S.1 12 (n.toNatClampNeg)) ((S.1 12 (n.toNatClampNeg)) + y) (nI (cuy S (n.toNatClampNeg))) (S.1 1 (cuy S (n.toNatClampNeg))) (S.1 2 (cuy S (n.toNatClampNeg))) (S.1 0 0) f64_35 f64_36) (cwV 1 hts gX5_roll_X4_marketRate rfl rfl rfl (by decide +kernel) ⟨Nat.le_of_ble_eq_true rfl, Nat.le_of_ble_eq_true rfl⟩) (preV_of hC hS hM f64_35 rfl) rfl rfl hl.1 rfl (lv_room (Nat.le_of_ble_eq_true rfl)) dX5_roll_78 ⟨Nat.le_of_ble_eq_true rfl, Nat.le_of_ble_eq_true rfl⟩) hS (fun r78 u78 H locs hp78 hM hS => ?_)
      have hM : Hm G (va_up u57 (ad 11 (n.toNatClampNeg)) (some (.inr (4, [.ref (ad 6 (cus S (n.toNatClampNeg))), .ref (ad 4 (cuy S (n.toNatClampNeg))), .int (S.1 8 (n.toNatClampNeg)), .int (S.1 9 (n.toNatClampNeg)), .int (S.1 10 (n.toNatClampNeg)), .int (S.1 12 (n.toNatClampNeg)), .int ((S.1 12 (n.toNatClampNeg)) + y)])))) H := hM
      have hp78 : r78 = al1 ((S.1 1 (cuy S (n.toNatClampNeg))) + (S.1 2 (cuy S (n.toNatClampNeg))) * (((S.1 12 (n.toNatClampNeg)) + y) - (S.1 0 0))) := hp78
      subst hp78
      refine m_putN (host := RX5) (ci := 4) (v := .int (al1 ((S.1 1 (cuy S (n.toNatClampNeg))) + (S.1 2 (cuy S (n.toNatClampNeg))) * (((S.1 12 (n.toNatClampNeg)) + y) - (S.1 0 0))))) (ty := .int) (C := RX4) (T := TX4) (N := 7) (a := (ad 11 (n.toNatClampNeg))) hx hb hts (by decide +kernel) tyX4 tyX4_ok nmX4 hown hC hM hS f64_35 rfl 4 (by decide) (hC.w 10 rfl) (fun _ h9 => h9) rfl (by decide +kernel) rfl rfl (Nat.le_of_ble_eq_true rfl) dX5_roll_81 (fun H locs hM hS => ?_)
      have hM : Hm G (va_up u57 (ad 11 (n.toNatClampNeg)) (some (.inr (4, [.ref (ad 6 (cus S (n.toNatClampNeg))), .ref (ad 4 (cuy S (n.toNatClampNeg))), .int (S.1 8 (n.toNatClampNeg)), .int (S.1 9 (n.toNatClampNeg)), .int (al1 ((S.1 1 (cuy S (n.toNatClampNeg))) + (S.1 2 (cuy S (n.toNatClampNeg))) * (((S.1 12 (n.toNatClampNeg)) + y) - (S.1 0 0)))), .int (S.1 12 (n.toNatClampNeg)), .int ((S.1 12 (n.toNatClampNeg)) + y)])))) H := up2 ▸ hM
      have f81_38 : (va_up u57 (ad 11 (n.toNatClampNeg)) (some (.inr (4, [.ref (ad 6 (cus S (n.toNatClampNeg))), .ref (ad 4 (cuy S (n.toNatClampNeg))), .int (S.1 8 (n.toNatClampNeg)), .int (S.1 9 (n.toNatClampNeg)), .int (al1 ((S.1 1 (cuy S (n.toNatClampNeg))) + (S.1 2 (cuy S (n.toNatClampNeg))) * (((S.1 12 (n.toNatClampNeg)) + y) - (S.1 0 0)))), .int (S.1 12 (n.toNatClampNeg)), .int ((S.1 12 (n.toNatClampNeg)) + y)])))) (ad 0 0) = some (.inr (5, [.ref (ad 1 0), .ref (ad 3 0), .ref (ad 5 0), .ref (ad 10 0), .int (S.1 5 0)])) := (up_ne (fun h9 => absurd (Eq.trans (Eq.trans (Eq.symm f64_29) (congrArg (va_up u57 (ad 11 (n.toNatClampNeg)) (some (.inr (4, [.ref (ad 6 (cus S (n.toNatClampNeg))), .ref (ad 4 (cuy S (n.toNatClampNeg))), .int (S.1 8 (n.toNatClampNeg)), .int (S.1 9 (n.toNatClampNeg)), .int (S.1 10 (n.toNatClampNeg)), .int (S.1 12 (n.toNatClampNeg)), .int ((S.1 12 (n.toNatClampNeg)) + y)])))) h9)) f64_35) (by simp))).trans f0_26
      have f81_39 : (va_up u57 (ad 11 (n.toNatClampNeg)) (some (.inr (4, [.ref (ad 6 (cus S (n.toNatClampNeg))), .ref (ad 4 (cuy S (n.toNatClampNeg))), .int (S.1 8 (n.toNatClampNeg)), .int (S.1 9 (n.toNatClampNeg)), .int (al1 ((S.1 1 (cuy S (n.toNatClampNeg))) + (S.1 2 (cuy S (n.toNatClampNeg))) * (((S.1 12 (n.toNatClampNeg)) + y) - (S.1 0 0)))), .int (S.1 12 (n.toNatClampNeg)), .int ((S.1 12 (n.toNatClampNeg)) + y)])))) (ad 1 0) = some (.inr (1, [.ref (ad 2 0), .int (S.1 0 0)])) := (up_ne (fun h9 => absurd (Eq.trans (Eq.trans (Eq.symm f64_30) (congrArg (va_up u57 (ad 11 (n.toNatClampNeg)) (some (.inr (4, [.ref (ad 6 (cus S (n.toNatClampNeg))), .ref (ad 4 (cuy S (n.toNatClampNeg))), .int (S.1 8 (n.toNatClampNeg)), .int (S.1 9 (n.toNatClampNeg)), .int (S.1 10 (n.toNatClampNeg)), .int (S.1 12 (n.toNatClampNeg)), .int ((S.1 12 (n.toNatClampNeg)) + y)])))) h9)) f64_35) (by simp))).trans f1_26
      have f81_40 : (va_up u57 (ad 11 (n.toNatClampNeg)) (some (.inr (4, [.ref (ad 6 (cus S (n.toNatClampNeg))), .ref (ad 4 (cuy S (n.toNatClampNeg))), .int (S.1 8 (n.toNatClampNeg)), .int (S.1 9 (n.toNatClampNeg)), .int (al1 ((S.1 1 (cuy S (n.toNatClampNeg))) + (S.1 2 (cuy S (n.toNatClampNeg))) * (((S.1 12 (n.toNatClampNeg)) + y) - (S.1 0 0)))), .int (S.1 12 (n.toNatClampNeg)), .int ((S.1 12 (n.toNatClampNeg)) + y)])))) (ad 2 0) = some (.inl (G.2.1 2, 1001, .inl (S.1 4))) := (up_ne (fun h9 => absurd (Eq.trans (Eq.trans (Eq.symm f64_31) (congrArg (va_up u57 (ad 11 (n.toNatClampNeg)) (some (.inr (4, [.ref (ad 6 (cus S (n.toNatClampNeg))), .ref (ad 4 (cuy S (n.toNatClampNeg))), .int (S.1 8 (n.toNatClampNeg)), .int (S.1 9 (n.toNatClampNeg)), .int (S.1 10 (n.toNatClampNeg)), .int (S.1 12 (n.toNatClampNeg)), .int ((S.1 12 (n.toNatClampNeg)) + y)])))) h9)) f64_35) (by simp))).trans f2_26
      have f81_41 : (va_up u57 (ad 11 (n.toNatClampNeg)) (some (.inr (4, [.ref (ad 6 (cus S (n.toNatClampNeg))), .ref (ad 4 (cuy S (n.toNatClampNeg))), .int (S.1 8 (n.toNatClampNeg)), .int (S.1 9 (n.toNatClampNeg)), .int (al1 ((S.1 1 (cuy S (n.toNatClampNeg))) + (S.1 2 (cuy S (n.toNatClampNeg))) * (((S.1 12 (n.toNatClampNeg)) + y) - (S.1 0 0)))), .int (S.1 12 (n.toNatClampNeg)), .int ((S.1 12 (n.toNatClampNeg)) + y)])))) (ad 3 0) = some (.inl (G.2.1 3, 4, .inr (.inr (.inr (.inr (crr ad)))))) := (up_ne (fun h9 => absurd (Eq.trans (Eq.trans (Eq.symm f64_32) (congrArg (va_up u57 (ad 11 (n.toNatClampNeg)) (some (.inr (4, [.ref (ad 6 (cus S (n.toNatClampNeg))), .ref (ad 4 (cuy S (n.toNatClampNeg))), .int (S.1 8 (n.toNatClampNeg)), .int (S.1 9 (n.toNatClampNeg)), .int (S.1 10 (n.toNatClampNeg)), .int (S.1 12 (n.toNatClampNeg)), .int ((S.1 12 (n.toNatClampNeg)) + y)])))) h9)) f64_35) (by simp))).trans f3_26
      have f81_42 : (va_up u57 (ad 11 (n.toNatClampNeg)) (some (.inr (4, [.ref (ad 6 (cus S (n.toNatClampNeg))), .ref (ad 4 (cuy S (n.toNatClampNeg))), .int (S.1 8 (n.toNatClampNeg)), .int (S.1 9 (n.toNatClampNeg)), .int (al1 ((S.1 1 (cuy S (n.toNatClampNeg))) + (S.1 2 (cuy S (n.toNatClampNeg))) * (((S.1 12 (n.toNatClampNeg)) + y) - (S.1 0 0)))), .int (S.1 12 (n.toNatClampNeg)), .int ((S.1 12 (n.toNatClampNeg)) + y)])))) (ad 5 0) = some (.inl (G.2.1 4, 5, .inr (.inr (.inr (.inr (csr ad)))))) := (up_ne (fun h9 => absurd (Eq.trans (Eq.trans (Eq.symm f64_33) (congrArg (va_up u57 (ad 11 (n.toNatClampNeg)) (some (.inr (4, [.ref (ad 6 (cus S (n.toNatClampNeg))), .ref (ad 4 (cuy S (n.toNatClampNeg))), .int (S.1 8 (n.toNatClampNeg)), .int (S.1 9 (n.toNatClampNeg)), .int (S.1 10 (n.toNatClampNeg)), .int (S.1 12 (n.toNatClampNeg)), .int ((S.1 12 (n.toNatClampNeg)) + y)])))) h9)) f64_35) (by simp))).trans f5_26
      have f81_43 : (va_up u57 (ad 11 (n.toNatClampNeg)) (some (.inr (4, [.ref (ad 6 (cus S (n.toNatClampNeg))), .ref (ad 4 (cuy S (n.toNatClampNeg))), .int (S.1 8 (n.toNatClampNeg)), .int (S.1 9 (n.toNatClampNeg)), .int (al1 ((S.1 1 (cuy S (n.toNatClampNeg))) + (S.1 2 (cuy S (n.toNatClampNeg))) * (((S.1 12 (n.toNatClampNeg)) + y) - (S.1 0 0)))), .int (S.1 12 (n.toNatClampNeg)), .int ((S.1 12 (n.toNatClampNeg)) + y)])))) (ad 10 0) = some (.inl (G.2.1 6, 20, .inr (.inr (.inr (.inr (dlr S ad)))))) := (up_ne (fun h9 => absurd (Eq.trans (Eq.trans (Eq.symm f64_34) (congrArg (va_up u57 (ad 11 (n.toNatClampNeg)) (some (.inr (4, [.ref (ad 6 (cus S (n.toNatClampNeg))), .ref (ad 4 (cuy S (n.toNatClampNeg))), .int (S.1 8 (n.toNatClampNeg)), .int (S.1 9 (n.toNatClampNeg)), .int (S.1 10 (n.toNatClampNeg)), .int (S.1 12 (n.toNatClampNeg)), .int ((S.1 12 (n.toNatClampNeg)) + y)])))) h9)) f64_35) (by simp))).trans f10_26
      have f81_44 : (va_up u57 (ad 11 (n.toNatClampNeg)) (some (.inr (4, [.ref (ad 6 (cus S (n.toNatClampNeg))), .ref (ad 4 (cuy S (n.toNatClampNeg))), .int (S.1 8 (n.toNatClampNeg)), .int (S.1 9 (n.toNatClampNeg)), .int (al1 ((S.1 1 (cuy S (n.toNatClampNeg))) + (S.1 2 (cuy S (n.toNatClampNeg))) * (((S.1 12 (n.toNatClampNeg)) + y) - (S.1 0 0)))), .int (S.1 12 (n.toNatClampNeg)), .int ((S.1 12 (n.toNatClampNeg)) + y)])))) (ad 11 (n.toNatClampNeg)) = some (.inr (4, [.ref (ad 6 (cus S (n.toNatClampNeg))), .ref (ad 4 (cuy S (n.toNatClampNeg))), .int (S.1 8 (n.toNatClampNeg)), .int (S.1 9 (n.toNatClampNeg)), .int (al1 ((S.1 1 (cuy S (n.toNatClampNeg))) + (S.1 2 (cuy S (n.toNatClampNeg))) * (((S.1 12 (n.toNatClampNeg)) + y) - (S.1 0 0)))), .int (S.1 12 (n.toNatClampNeg)), .int ((S.1 12 (n.toNatClampNeg)) + y)])) := up_eq
      have f81_45 : (va_up u57 (ad 11 (n.toNatClampNeg)) (some (.inr (4, [.ref (ad 6 (cus S (n.toNatClampNeg))), .ref (ad 4 (cuy S (n.toNatClampNeg))), .int (S.1 8 (n.toNatClampNeg)), .int (S.1 9 (n.toNatClampNeg)), .int (al1 ((S.1 1 (cuy S (n.toNatClampNeg))) + (S.1 2 (cuy S (n.toNatClampNeg))) * (((S.1 12 (n.toNatClampNeg)) + y) - (S.1 0 0)))), .int (S.1 12 (n.toNatClampNeg)), .int ((S.1 12 (n.toNatClampNeg)) + y)])))) (ad 4 (cuy S (n.toNatClampNeg))) = some (.inr (2, [.int (nI (cuy S (n.toNatClampNeg))), .int (S.1 1 (cuy S (n.toNatClampNeg))), .int (S.1 2 (cuy S (n.toNatClampNeg)))])) := (up_ne (fun h9 => absurd (Eq.trans (Eq.trans (Eq.symm f64_36) (congrArg (va_up u57 (ad 11 (n.toNatClampNeg)) (some (.inr (4, [.ref (ad 6 (cus S (n.toNatClampNeg))), .ref (ad 4 (cuy S (n.toNatClampNeg))), .int (S.1 8 (n.toNatClampNeg)), .int (S.1 9 (n.toNatClampNeg)), .int (S.1 10 (n.toNatClampNeg)), .int (S.1 12 (n.toNatClampNeg)), .int ((S.1 12 (n.toNatClampNeg)) + y)])))) h9)) f64_35) (by simp))).trans gy27
      refine lv_goto (tgt := 112) hx hb dX5_roll_84 (by decide) ?_
      refine lv_aload hx hb dX5_roll_112 (lv_at hl 0 rfl) ?_
      refine m_getN (host := RX5) (ci := 4) (v := .int (al1 ((S.1 1 (cuy S (n.toNatClampNeg))) + (S.1 2 (cuy S (n.toNatClampNeg))) * (((S.1 12 (n.toNatClampNeg)) + y) - (S.1 0 0))))) (C := RX4) (T := TX4) (N := 7) (a := (ad 11 (n.toNatClampNeg))) hx hb hts (by decide +kernel) hown hC hM f81_44 rfl 4 (by decide) (hC.w 10 rfl) (fun _ h9 => h9) rfl dX5_roll_114 ?_
      have e9 : (if z = 0 then rlc S (n.toNatClampNeg) y else rls S (n.toNatClampNeg) y) = rls S (n.toNatClampNeg) y := if_neg c_51
      have hw9 := w_rl hw1 b2.2 (S.1 12 (n.toNatClampNeg)) (S.1 12 (n.toNatClampNeg) + y) (al1 ((S.1 1 (cuy S (n.toNatClampNeg))) + (S.1 2 (cuy S (n.toNatClampNeg))) * (((S.1 12 (n.toNatClampNeg)) + y) - (S.1 0 0))))
      exact vx_ret (r_i hx hb hr hlocks hS (v := al1 ((S.1 1 (cuy S (n.toNatClampNeg))) + (S.1 2 (cuy S (n.toNatClampNeg))) * (((S.1 12 (n.toNatClampNeg)) + y) - (S.1 0 0)))) _ ⟨b2, hp11, hp16, c_37, by rw [e9]; exact ⟨(rls10 _ _ _).symm, ex1, hw9, hx1⟩⟩ hM (Nat.le_of_ble_eq_true rfl) (Nat.le_of_ble_eq_true rfl) dX5_roll_117)
  · exact m_throw (text := "the last day would be too late") (is := 143) hx hb hnt (hml.trans hl.1.symm) hlocks hown ht hC hS hM (hts (.classLink RX5 57 IS) (by decide +kernel)) (hts (.initialized IS) (by decide +kernel)) (by decide) (fun w h => hts w (List.mem_cons_of_mem _ (List.mem_append_left _ (List.mem_append_left _ (List.mem_append_right _ h))))) tn_61 (by decide +kernel) tg_61 dX5_roll_40 dX5_roll_43 dX5_roll_44 dX5_roll_46 dX5_roll_49 (Nat.le_of_ble_eq_true rfl) (Nat.le_of_ble_eq_true rfl) (Nat.le_of_ble_eq_true rfl) (Nat.le_of_ble_eq_true rfl) (Nat.le_of_ble_eq_true rfl) (Nat.le_of_ble_eq_true rfl) (Or.inr (Or.inr ⟨rfl, b2, hp11, Or.inr c_37⟩))
set_option maxHeartbeats 4000000 in
set_option maxRecDepth 100000 in
theorem c_X5_endDealsOfToday (l : Launch) (G : Gx) (M : Mp) (S T : Sd) (th : Int32) (o : Int64) (ex : Nat → Option (Nat × Nat)) (ad : Nat → Nat → Nat) (k9 : Nat) (hk9 : k9 = 20) (hw : WA G S T th o ex ad M) (hi : Iv S) (hx9 : Ix S ex) : Met l yX5_endDealsOfToday wsX5_endDealsOfToday ({ frames := 6, cells := (2 * enn S k9), slots := (6 * enn S k9), locals := 131 }) (Cv G M [.ref (ad 0 0)]) (va_Qi (S := Mp) (fun r M2 => r = nI (enn S k9) ∧ ∃ ex2, WA G (en S k9) T th o ex2 ad M2 ∧ Ix (en S k9) ex2) (Bm G (fun M2 => M2)) (AG G)) ((2 * enn S k9)) ((6 * enn S k9)) (AG G) := by
  refine m_met [.ref (ad 0 0)] [(0, .ref (ad 0 0))] (by decide) rfl rfl (Nat.le_of_ble_eq_true rfl) ?_
  intro p e s m below meth c ls hx hb hr hml hown hts hlocks hin hC hM hl hS
  have f0 : M (ad 0 0) = some (.inr (5, [.ref (ad 1 0), .ref (ad 3 0), .ref (ad 5 0), .ref (ad 10 0), .int (S.1 5 0)])) := hw.1 0 0 _ rfl
  have f1 : M (ad 1 0) = some (.inr (1, [.ref (ad 2 0), .int (S.1 0 0)])) := hw.1 1 0 _ rfl
  have f2 : M (ad 2 0) = some (.inl (G.2.1 2, 1001, .inl (S.1 4))) := hw.1 2 0 _ rfl
  have f3 : M (ad 3 0) = some (.inl (G.2.1 3, 4, .inr (.inr (.inr (.inr (crr ad)))))) := hw.1 3 0 _ rfl
  have f5 : M (ad 5 0) = some (.inl (G.2.1 4, 5, .inr (.inr (.inr (.inr (csr ad)))))) := hw.1 5 0 _ rfl
  have f10 : M (ad 10 0) = some (.inl (G.2.1 6, 20, .inr (.inr (.inr (.inr (dlr S ad)))))) := hw.1 10 0 _ rfl
  refine lv_iconst (v := 0) hx hb dX5_endDealsOfToday_0 (by decide) ?_
  refine lv_istore_n (lv' := [(1, .int 0), (0, .ref (ad 0 0))]) hx hb dX5_endDealsOfToday_1 rfl hl (by decide) rfl (fun ls hl => ?_)
  refine lv_aload_n hx hb dX5_endDealsOfToday_2 rfl (lv_at hl 1 rfl) ?_
  refine m_get (ci := 5) (v := .ref (ad 10 0)) (C := RX5) (T := TX5) (N := 5) (a := (ad 0 0)) hx hb hts (by decide +kernel) hown hC hM f0 rfl 3 (by decide) (hts (.fieldLink RX5 34 "Forwardroll" "deals" "[LForwardroll$Deal;") (by decide +kernel)) (fun _ h9 => h9) rfl dX5_endDealsOfToday_3 ?_
  refine lv_astore_n (lv' := [(2, .ref (ad 10 0)), (1, .int 0), (0, .ref (ad 0 0))]) hx hb dX5_endDealsOfToday_6 rfl hl (by decide) rfl (fun ls hl => ?_)
  refine lv_aload_n hx hb dX5_endDealsOfToday_7 rfl (lv_at hl 0 rfl) ?_
  refine m_alen (a := (ad 10 0)) hx hb hC hM 6 rfl f10 (v := 20) rfl dX5_endDealsOfToday_8 ?_
  refine lv_istore_n (lv' := [(3, .int 20), (2, .ref (ad 10 0)), (1, .int 0), (0, .ref (ad 0 0))]) hx hb dX5_endDealsOfToday_9 rfl hl (by decide) rfl (fun ls hl => ?_)
  refine lv_iconst (v := 0) hx hb dX5_endDealsOfToday_10 (by decide) ?_
  refine lv_istore (lv' := [(4, .int 0), (3, .int 20), (2, .ref (ad 10 0)), (1, .int 0), (0, .ref (ad 0 0))]) hx hb dX5_endDealsOfToday_11 hl (by decide) rfl (fun ls hl => ?_)
  have loop : ∀ (n9 : Nat) (i9 : Nat) (M9 : Mp) (ex9 : Nat → Option (Nat × Nat)), i9 + n9 = k9 → WA G (en S i9) T th o ex9 ad M9 → Ix (en S i9) ex9 → ∀ ls : Array Slot, lv_has ls 6 [(0, .ref (ad 0 0)), (1, .int (nI (enn S i9))), (2, .ref (ad 10 0)), (3, .int 20), (4, .int (nI i9))] → ∀ (H : Heap) (locs : List Loc), Hm G M9 H → va_S (AG G) s.heap H locs → W p l e { frames := 6, cells := (2 * enn S k9), slots := (6 * enn S k9), locals := 131 } s m ([.ref (ad 0 0)] : List Value).toArray below meth c H locs (2 * enn S i9) (6 * enn S i9) (MQ below (va_Qi (S := Mp) (fun r M2 => r = nI (enn S k9) ∧ ∃ ex2, WA G (en S k9) T th o ex2 ad M2 ∧ Ix (en S k9) ex2) (Bm G (fun M2 => M2)) (AG G)) ([.ref (ad 0 0)] : List Value).toArray s ((2 * enn S k9)) ((6 * enn S k9)) (AG G)) (F0 m 13 ls []) := by
    intro n9
    induction n9 with
    | zero =>
      intro i9 M9 ex9 hn hw9 hx8 ls hl H locs hM hS
      have f0_1 : M9 (ad 0 0) = some (.inr (5, [.ref (ad 1 0), .ref (ad 3 0), .ref (ad 5 0), .ref (ad 10 0), .int ((en S i9).1 5 0)])) := hw9.1 0 0 _ rfl
      have f1_1 : M9 (ad 1 0) = some (.inr (1, [.ref (ad 2 0), .int ((en S i9).1 0 0)])) := hw9.1 1 0 _ rfl
      have f2_1 : M9 (ad 2 0) = some (.inl (G.2.1 2, 1001, .inl ((en S i9).1 4))) := hw9.1 2 0 _ rfl
      have f3_1 : M9 (ad 3 0) = some (.inl (G.2.1 3, 4, .inr (.inr (.inr (.inr (crr ad)))))) := hw9.1 3 0 _ rfl
      have f5_1 : M9 (ad 5 0) = some (.inl (G.2.1 4, 5, .inr (.inr (.inr (.inr (csr ad)))))) := hw9.1 5 0 _ rfl
      have f10_1 : M9 (ad 10 0) = some (.inl (G.2.1 6, 20, .inr (.inr (.inr (.inr (dlr (en S i9) ad)))))) := hw9.1 10 0 _ rfl
      have hm9 := enn_le S (k9 - i9) i9
      rw [show i9 + (k9 - i9) = k9 by omega] at hm9
      refine lv_iload hx hb dX5_endDealsOfToday_13 (lv_at hl 4 rfl) ?_
      refine lv_iload_n hx hb dX5_endDealsOfToday_15 rfl (lv_at hl 3 rfl) ?_
      refine lv_icmp_ge (tgt := 75) hx hb dX5_endDealsOfToday_16 (by decide) (fun c_16 => ?_) (fun c_16 => False.elim (by exact c_16 (nI_le (a := 20) (by omega) (by omega))))
      refine lv_iload_n hx hb dX5_endDealsOfToday_75 rfl (lv_at hl 1 rfl) ?_
      have e20 : i9 = k9 := by omega
      rw [e20] at hw9 hx8
      exact (r_i hx hb hr hlocks hS (v := (nI (enn S i9))) _ ⟨by rw [e20], ex9, hw9, hx8⟩ hM ((by first | omega | (have e9 : enn S (i9 + 1) = enn S i9 + 1 := if_pos (opn_t hj (Int32.not_le.mp c_35) c_50); show _ ≤ 2 * enn S k9; omega) | (have e9 : enn S (i9 + 1) = enn S i9 + 1 := if_pos (opn_t hj (Int32.not_le.mp c_35) c_50); show _ ≤ 6 * enn S k9; omega))) ((by first | omega | (have e9 : enn S (i9 + 1) = enn S i9 + 1 := if_pos (opn_t hj (Int32.not_le.mp c_35) c_50); show _ ≤ 2 * enn S k9; omega) | (have e9 : enn S (i9 + 1) = enn S i9 + 1 := if_pos (opn_t hj (Int32.not_le.mp c_35) c_50); show _ ≤ 6 * enn S k9; omega))) dX5_endDealsOfToday_76)
    | succ n9 ih =>
      intro i9 M9 ex9 hn hw9 hx8 ls hl H locs hM hS
      have f0_3 : M9 (ad 0 0) = some (.inr (5, [.ref (ad 1 0), .ref (ad 3 0), .ref (ad 5 0), .ref (ad 10 0), .int ((en S i9).1 5 0)])) := hw9.1 0 0 _ rfl
      have f1_3 : M9 (ad 1 0) = some (.inr (1, [.ref (ad 2 0), .int ((en S i9).1 0 0)])) := hw9.1 1 0 _ rfl
      have f2_3 : M9 (ad 2 0) = some (.inl (G.2.1 2, 1001, .inl ((en S i9).1 4))) := hw9.1 2 0 _ rfl
      have f3_3 : M9 (ad 3 0) = some (.inl (G.2.1 3, 4, .inr (.inr (.inr (.inr (crr ad)))))) := hw9.1 3 0 _ rfl
      have f5_3 : M9 (ad 5 0) = some (.inl (G.2.1 4, 5, .inr (.inr (.inr (.inr (csr ad)))))) := hw9.1 5 0 _ rfl
      have f10_3 : M9 (ad 10 0) = some (.inl (G.2.1 6, 20, .inr (.inr (.inr (.inr (dlr (en S i9) ad)))))) := hw9.1 10 0 _ rfl
      have hm9 := enn_le S (k9 - i9) i9
      rw [show i9 + (k9 - i9) = k9 by omega] at hm9
      have hm8 := enn_le S (k9 - (i9 + 1)) (i9 + 1)
      rw [show i9 + 1 + (k9 - (i9 + 1)) = k9 by omega] at hm8
      refine lv_iload hx hb dX5_endDealsOfToday_13 (lv_at hl 4 rfl) ?_
      refine lv_iload_n hx hb dX5_endDealsOfToday_15 rfl (lv_at hl 3 rfl) ?_
      refine lv_icmp_ge (tgt := 75) hx hb dX5_endDealsOfToday_16 (by decide) (fun c_16 => False.elim (by exact nI_ge (a := i9) (b := 20) (by omega) (by omega) c_16)) (fun c_16 => ?_)
      refine lv_aload_n hx hb dX5_endDealsOfToday_19 rfl (lv_at hl 2 rfl) ?_
      refine lv_iload hx hb dX5_endDealsOfToday_20 (lv_at hl 4 rfl) ?_
      refine m_aldq (a := (ad 10 0)) hx hb hC hM 6 rfl f10_3 (vp_in_nI (n := i9) (by omega) (by omega)) dX5_endDealsOfToday_22 ?_
      have ei : (nI i9).toNatClampNeg = i9 := nI_clamp (by omega)
      rw [ei]
      by_cases hj : i9 < ndl (en S i9)
      · rw [show dlr (en S i9) ad i9 = some (ad 11 i9) from if_pos hj]
        have gd5 : M9 (ad 11 i9) = some (.inr (4, [.ref (ad 6 (cus (en S i9) i9)), .ref (ad 4 (cuy (en S i9) i9)), .int ((en S i9).1 8 i9), .int ((en S i9).1 9 i9), .int ((en S i9).1 10 i9), .int ((en S i9).1 11 i9), .int ((en S i9).1 12 i9)])) := hw9.1 11 _ _ (ct11 hj)
        refine lv_astore (lv' := [(5, .ref (ad 11 i9)), (0, .ref (ad 0 0)), (1, .int (nI (enn S i9))), (2, .ref (ad 10 0)), (3, .int 20), (4, .int (nI i9))]) hx hb dX5_endDealsOfToday_23 hl (by decide) rfl (fun ls hl => ?_)
        refine lv_aload hx hb dX5_endDealsOfToday_25 (lv_at hl 0 rfl) ?_
        refine lv_ifnull hx hb dX5_endDealsOfToday_27 ?_
        refine lv_aload hx hb dX5_endDealsOfToday_30 (lv_at hl 0 rfl) ?_
        refine m_getN (host := RX5) (ci := 4) (v := .int ((en S i9).1 9 i9)) (C := RX4) (T := TX4) (N := 7) (a := (ad 11 i9)) hx hb hts (by decide +kernel) hown hC hM gd5 rfl 3 (by decide) (hC.w 9 rfl) (fun _ h9 => h9) rfl dX5_endDealsOfToday_32 ?_
        refine lv_if_le (tgt := 69) hx hb dX5_endDealsOfToday_35 (by decide) (fun c_35 => ?_) (fun c_35 => ?_)
        · refine lv_iinc (v := ((nI i9) + 1)) (lv' := [(4, .int ((nI i9) + 1)), (5, .ref (ad 11 i9)), (0, .ref (ad 0 0)), (1, .int (nI (enn S i9))), (2, .ref (ad 10 0)), (3, .int 20)]) hx hb dX5_endDealsOfToday_69 hl (k := 5) rfl rfl (by decide) rfl (fun ls hl => ?_)
          refine lv_goto (tgt := 13) hx hb dX5_endDealsOfToday_72 (by decide) ?_
          rw [show nI i9 + 1 = nI (i9 + 1) from nI_1 i9] at hl
          have eo : opn (en S i9) i9 = false := opn_2 (Int32.not_lt.mpr c_35)
          have es : en S (i9 + 1) = en S i9 := if_neg (by rw [eo]; decide)
          have ec : enn S (i9 + 1) = enn S i9 := if_neg (by rw [eo]; decide)
          rw [← es] at hw9 hx8
          rw [show nI (enn S i9) = nI (enn S (i9 + 1)) from by rw [ec]] at hl
          rw [show 2 * enn S i9 = 2 * enn S (i9 + 1) by rw [ec], show 6 * enn S i9 = 6 * enn S (i9 + 1) by rw [ec]]
          exact ih (i9 + 1) M9 ex9 (by omega) hw9 hx8 ls (lv_sub hl [2, 3, 4, 5, 0] rfl) _ _ hM hS
        · refine lv_aload hx hb dX5_endDealsOfToday_38 (lv_at hl 0 rfl) ?_
          refine m_getN (host := RX5) (ci := 4) (v := .int ((en S i9).1 12 i9)) (C := RX4) (T := TX4) (N := 7) (a := (ad 11 i9)) hx hb hts (by decide +kernel) hown hC hM gd5 rfl 6 (by decide) (hC.w 12 rfl) (fun _ h9 => h9) rfl dX5_endDealsOfToday_40 ?_
          refine lv_aload_n hx hb dX5_endDealsOfToday_43 rfl (lv_at hl 1 rfl) ?_
          refine m_get (ci := 5) (v := .ref (ad 1 0)) (C := RX5) (T := TX5) (N := 5) (a := (ad 0 0)) hx hb hts (by decide +kernel) hown hC hM f0_3 rfl 0 (by decide) (hts (.fieldLink RX5 12 "Forwardroll" "calendar" "LForwardroll$Calendar;") (by decide +kernel)) (fun _ h9 => h9) rfl dX5_endDealsOfToday_44 ?_
          refine m_getN (host := RX5) (ci := 1) (v := .int ((en S i9).1 0 0)) (C := RX1) (T := TX1) (N := 2) (a := (ad 1 0)) hx hb hts (by decide +kernel) hown hC hM f1_3 rfl 1 (by decide) (hC.w 0 rfl) (fun _ h9 => h9) rfl dX5_endDealsOfToday_47 ?_
          refine lv_icmp_ne (tgt := 69) hx hb dX5_endDealsOfToday_50 (by decide) (fun c_50 => ?_) (fun c_50 => ?_)
          · refine lv_iinc (v := ((nI i9) + 1)) (lv' := [(4, .int ((nI i9) + 1)), (5, .ref (ad 11 i9)), (0, .ref (ad 0 0)), (1, .int (nI (enn S i9))), (2, .ref (ad 10 0)), (3, .int 20)]) hx hb dX5_endDealsOfToday_69 hl (k := 5) rfl rfl (by decide) rfl (fun ls hl => ?_)
            refine lv_goto (tgt := 13) hx hb dX5_endDealsOfToday_72 (by decide) ?_
            rw [show nI i9 + 1 = nI (i9 + 1) from nI_1 i9] at hl
            have eo : opn (en S i9) i9 = false := opn_3 c_50
            have es : en S (i9 + 1) = en S i9 := if_neg (by rw [eo]; decide)
            have ec : enn S (i9 + 1) = enn S i9 := if_neg (by rw [eo]; decide)
            rw [← es] at hw9 hx8
            rw [show nI (enn S i9) = nI (enn S (i9 + 1)) from by rw [ec]] at hl
            rw [show 2 * enn S i9 = 2 * enn S (i9 + 1) by rw [ec], show 6 * enn S i9 = 6 * enn S (i9 + 1) by rw [ec]]
            exact ih (i9 + 1) M9 ex9 (by omega) hw9 hx8 ls (lv_sub hl [2, 3, 4, 5, 0] rfl) _ _ hM hS
          · refine lv_aload_n hx hb dX5_endDealsOfToday_53 rfl (lv_at hl 1 rfl) ?_
            refine lv_aload hx hb dX5_endDealsOfToday_54 (lv_at hl 0 rfl) ?_
            refine k_l (va_runV (As := [.ref (ad 11 i9)]) (rest := []) ⟨hx, hb, hml, hown, hts⟩ (c_X5_bookGain l G M9 (en S i9) T th o ex9 ad i9 hw9 (hi.en i9) hx8 hj) (cwV 1 hts gX5_endDealsOfToday_X5_bookGain rfl rfl rfl (by decide +kernel) ⟨Nat.le_of_ble_eq_true rfl, Nat.le_of_ble_eq_true rfl⟩) (preV_of hC hS hM f0_3 rfl) rfl rfl hl.1 rfl (lv_room (Nat.le_of_ble_eq_true rfl)) dX5_endDealsOfToday_56 ⟨(by first | omega | (have e9 : enn S (i9 + 1) = enn S i9 + 1 := if_pos (opn_t hj (Int32.not_le.mp c_35) c_50); show _ ≤ 2 * enn S k9; omega) | (have e9 : enn S (i9 + 1) = enn S i9 + 1 := if_pos (opn_t hj (Int32.not_le.mp c_35) c_50); show _ ≤ 6 * enn S k9; omega)), (by first | omega | (have e9 : enn S (i9 + 1) = enn S i9 + 1 := if_pos (opn_t hj (Int32.not_le.mp c_35) c_50); show _ ≤ 2 * enn S k9; omega) | (have e9 : enn S (i9 + 1) = enn S i9 + 1 := if_pos (opn_t hj (Int32.not_le.mp c_35) c_50); show _ ≤ 6 * enn S k9; omega))⟩) hS (fun r56 u56 H locs hp56 hM hS => ?_)
            obtain ⟨er56, ex1, hw1, hx1⟩ := hp56
            have hM : Hm G u56 H := hM
            have gd9 : u56 (ad 11 i9) = some (.inr (4, [.ref (ad 6 (cus (en S i9) i9)), .ref (ad 4 (cuy (en S i9) i9)), .int ((en S i9).1 8 i9), .int ((en S i9).1 9 i9), .int ((en S i9).1 10 i9), .int ((en S i9).1 11 i9), .int ((en S i9).1 12 i9)])) := hw1.1 11 _ _ (ct11 hj)
            refine lv_pop2_2 hx hb dX5_endDealsOfToday_59 rfl ?_
            refine lv_aload hx hb dX5_endDealsOfToday_60 (lv_at hl 0 rfl) ?_
            refine lv_iconst (v := 0) hx hb dX5_endDealsOfToday_62 (by decide) ?_
            refine m_putN (host := RX5) (ci := 4) (v := .int 0) (ty := .int) (C := RX4) (T := TX4) (N := 7) (a := (ad 11 i9)) hx hb hts (by decide +kernel) tyX4 tyX4_ok nmX4 hown hC hM hS gd9 rfl 3 (by decide) (hC.w 9 rfl) (fun _ h9 => h9) rfl (by decide +kernel) rfl rfl (Nat.le_of_ble_eq_true rfl) dX5_endDealsOfToday_63 (fun H locs hM hS => ?_)
            have hM : Hm G (va_up u56 (ad 11 i9) (some (.inr (4, [.ref (ad 6 (cus (en S i9) i9)), .ref (ad 4 (cuy (en S i9) i9)), .int ((en S i9).1 8 i9), .int 0, .int ((en S i9).1 10 i9), .int ((en S i9).1 11 i9), .int ((en S i9).1 12 i9)])))) H := hM
            have f63_9 : (va_up u56 (ad 11 i9) (some (.inr (4, [.ref (ad 6 (cus (en S i9) i9)), .ref (ad 4 (cuy (en S i9) i9)), .int ((en S i9).1 8 i9), .int 0, .int ((en S i9).1 10 i9), .int ((en S i9).1 11 i9), .int ((en S i9).1 12 i9)])))) (ad 11 i9) = some (.inr (4, [.ref (ad 6 (cus (en S i9) i9)), .ref (ad 4 (cuy (en S i9) i9)), .int ((en S i9).1 8 i9), .int 0, .int ((en S i9).1 10 i9), .int ((en S i9).1 11 i9), .int ((en S i9).1 12 i9)])) := up_eq
            refine lv_iinc (v := ((nI (enn S i9)) + 1)) (lv' := [(1, .int ((nI (enn S i9)) + 1)), (5, .ref (ad 11 i9)), (0, .ref (ad 0 0)), (2, .ref (ad 10 0)), (3, .int 20), (4, .int (nI i9))]) hx hb dX5_endDealsOfToday_66 hl (k := 2) rfl rfl (by decide) rfl (fun ls hl => ?_)
            refine lv_iinc (v := ((nI i9) + 1)) (lv' := [(4, .int ((nI i9) + 1)), (1, .int ((nI (enn S i9)) + 1)), (5, .ref (ad 11 i9)), (0, .ref (ad 0 0)), (2, .ref (ad 10 0)), (3, .int 20)]) hx hb dX5_endDealsOfToday_69 hl (k := 5) rfl rfl (by decide) rfl (fun ls hl => ?_)
            refine lv_goto (tgt := 13) hx hb dX5_endDealsOfToday_72 (by decide) ?_
            rw [show nI i9 + 1 = nI (i9 + 1) from nI_1 i9] at hl
            have eo : opn (en S i9) i9 = true := opn_t hj (Int32.not_le.mp c_35) c_50
            have es : en S (i9 + 1) = edS (en S i9) i9 := if_pos eo
            have ec : enn S (i9 + 1) = enn S i9 + 1 := if_pos eo
            rw [show nI (enn S i9) + 1 = nI (enn S (i9 + 1)) from by rw [ec]; exact nI_1 _] at hl
            have hw2 : WA G (edS (en S i9) i9) T th o ex1 ad (va_up u56 (ad 11 i9) (some (.inr (4, [.ref (ad 6 (cus (en S i9) i9)), .ref (ad 4 (cuy (en S i9) i9)), .int ((en S i9).1 8 i9), .int 0, .int ((en S i9).1 10 i9), .int ((en S i9).1 11 i9), .int ((en S i9).1 12 i9)])))) := w_left hw1 hj 0
            have hx2 : Ix (edS (en S i9) i9) ex1 := hx1
            rw [← es] at hw2 hx2
            refine W.widen (k := 2 * enn S (i9 + 1)) (n := 6 * enn S (i9 + 1)) (by omega) (by omega) ?_
            exact ih (i9 + 1) _ ex1 (by omega) hw2 hx2 ls (lv_sub hl [3, 1, 4, 5, 0] rfl) _ _ hM hS
      · rw [show dlr (en S i9) ad i9 = none from if_neg hj]
        refine lv_astoreN (lv' := [(5, .null), (0, .ref (ad 0 0)), (1, .int (nI (enn S i9))), (2, .ref (ad 10 0)), (3, .int 20), (4, .int (nI i9))]) hx hb dX5_endDealsOfToday_23 hl (by decide) rfl (fun ls hl => ?_)
        refine lv_aloadN hx hb dX5_endDealsOfToday_25 (lv_at hl 0 rfl) ?_
        refine lv_ifnullN (tgt := 69) hx hb dX5_endDealsOfToday_27 (by decide) ?_
        refine lv_iinc (v := ((nI i9) + 1)) (lv' := [(4, .int ((nI i9) + 1)), (5, .null), (0, .ref (ad 0 0)), (1, .int (nI (enn S i9))), (2, .ref (ad 10 0)), (3, .int 20)]) hx hb dX5_endDealsOfToday_69 hl (k := 5) rfl rfl (by decide) rfl (fun ls hl => ?_)
        refine lv_goto (tgt := 13) hx hb dX5_endDealsOfToday_72 (by decide) ?_
        rw [show nI i9 + 1 = nI (i9 + 1) from nI_1 i9] at hl
        have eo : opn (en S i9) i9 = false := opn_1 hj
        have es : en S (i9 + 1) = en S i9 := if_neg (by rw [eo]; decide)
        have ec : enn S (i9 + 1) = enn S i9 := if_neg (by rw [eo]; decide)
        rw [← es] at hw9 hx8
        rw [show nI (enn S i9) = nI (enn S (i9 + 1)) from by rw [ec]] at hl
        rw [show 2 * enn S i9 = 2 * enn S (i9 + 1) by rw [ec], show 6 * enn S i9 = 6 * enn S (i9 + 1) by rw [ec]]
        exact ih (i9 + 1) M9 ex9 (by omega) hw9 hx8 ls (lv_sub hl [2, 3, 4, 5, 0] rfl) _ _ hM hS
  exact loop k9 0 M ex (by omega) hw hx9 ls (lv_sub hl [4, 3, 2, 1, 0] rfl) _ _ hM hS
