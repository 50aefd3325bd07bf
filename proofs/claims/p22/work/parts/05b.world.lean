set_option maxHeartbeats 1000000 in
theorem w_spot {G : Gx} {S T : Sd} {th : Int32} {o : Int64} {ex : Nat → Option (Nat × Nat)} {ad : Nat → Nat → Nat} {M : Mp} (h : WA G S T th o ex ad M) {c : Nat} (hc : c < 4) (x : Int32) : WA G (u2 S.1 1 c x, S.2) T th o ex ad (va_up M (ad 4 c) (some (.inr (2, [.int (nI c), .int x, .int (S.1 2 c)])))) := by
  refine h.up 4 c (e0 := _) (ct4 hc) (fun k i => ?_)
  by_cases hk : k = 4 ∧ i = c
  · obtain ⟨rfl, rfl⟩ := hk
    rw [if_pos ⟨rfl, rfl⟩]
    show (if i < 4 then some (.inr (2, [.int (nI i), .int (u2 S.1 1 i x 1 i), .int (S.1 2 i)])) else none : Option va_E) = _; rw [u2_s, if_pos hc]
  · rw [if_neg hk]
    match k, hk with
    | 0, _ => rfl
    | 1, _ => rfl
    | 2, _ => rfl
    | 3, _ => rfl
    | 4, hk => have hi : ¬ i = c := fun z => hk ⟨rfl, z⟩; show (if i < 4 then some (.inr (2, [.int (nI i), .int (u2 S.1 1 c x 1 i), .int (S.1 2 i)])) else none : Option va_E) = _; rw [u2_n (fun z => hi z.2)]; rfl
    | 5, _ => rfl
    | 6, _ => rfl
    | 7, _ => rfl
    | 8, _ => rfl
    | 9, _ => rfl
    | 10, _ => rfl
    | 11, _ => rfl
    | 12, _ => rfl
    | 13, _ => rfl
    | 14, _ => rfl
    | 15, _ => rfl
    | 16, _ => rfl
    | 17, _ => rfl
    | 18, _ => rfl
    | 19, _ => rfl
    | 20, _ => rfl
    | 21, _ => rfl
    | 22, _ => rfl
    | 23, _ => rfl
    | 24, _ => rfl
    | 25, _ => rfl
    | 26, _ => rfl
    | 27, _ => rfl
    | 28, _ => rfl
    | k + 29, _ => rfl
set_option maxHeartbeats 1000000 in
theorem w_pts {G : Gx} {S T : Sd} {th : Int32} {o : Int64} {ex : Nat → Option (Nat × Nat)} {ad : Nat → Nat → Nat} {M : Mp} (h : WA G S T th o ex ad M) {c : Nat} (hc : c < 4) (x : Int32) : WA G (u2 S.1 2 c x, S.2) T th o ex ad (va_up M (ad 4 c) (some (.inr (2, [.int (nI c), .int (S.1 1 c), .int x])))) := by
  refine h.up 4 c (e0 := _) (ct4 hc) (fun k i => ?_)
  by_cases hk : k = 4 ∧ i = c
  · obtain ⟨rfl, rfl⟩ := hk
    rw [if_pos ⟨rfl, rfl⟩]
    show (if i < 4 then some (.inr (2, [.int (nI i), .int (S.1 1 i), .int (u2 S.1 2 i x 2 i)])) else none : Option va_E) = _; rw [u2_s, if_pos hc]
  · rw [if_neg hk]
    match k, hk with
    | 0, _ => rfl
    | 1, _ => rfl
    | 2, _ => rfl
    | 3, _ => rfl
    | 4, hk => have hi : ¬ i = c := fun z => hk ⟨rfl, z⟩; show (if i < 4 then some (.inr (2, [.int (nI i), .int (S.1 1 i), .int (u2 S.1 2 c x 2 i)])) else none : Option va_E) = _; rw [u2_n (fun z => hi z.2)]; rfl
    | 5, _ => rfl
    | 6, _ => rfl
    | 7, _ => rfl
    | 8, _ => rfl
    | 9, _ => rfl
    | 10, _ => rfl
    | 11, _ => rfl
    | 12, _ => rfl
    | 13, _ => rfl
    | 14, _ => rfl
    | 15, _ => rfl
    | 16, _ => rfl
    | 17, _ => rfl
    | 18, _ => rfl
    | 19, _ => rfl
    | 20, _ => rfl
    | 21, _ => rfl
    | 22, _ => rfl
    | 23, _ => rfl
    | 24, _ => rfl
    | 25, _ => rfl
    | 26, _ => rfl
    | 27, _ => rfl
    | 28, _ => rfl
    | k + 29, _ => rfl
set_option maxHeartbeats 1000000 in
theorem w_lim {G : Gx} {S T : Sd} {th : Int32} {o : Int64} {ex : Nat → Option (Nat × Nat)} {ad : Nat → Nat → Nat} {M : Mp} (h : WA G S T th o ex ad M) {c : Nat} (hc : c < 5) (x : Int32) (y : Int64) : WA G (u2 S.1 3 c x, u2 S.2 2 c y) T th o ex ad (va_up M (ad 6 c) (some (.inr (3, [.int x, .ref (ad 7 c), .ref (ad 8 c)])))) := by
  refine h.up 6 c (e0 := _) (ct6 hc) (fun k i => ?_)
  by_cases hk : k = 6 ∧ i = c
  · obtain ⟨rfl, rfl⟩ := hk
    rw [if_pos ⟨rfl, rfl⟩]
    show (if i < 5 then some (.inr (3, [.int (u2 S.1 3 i x 3 i), .ref (ad 7 i), .ref (ad 8 i)])) else none : Option va_E) = _; rw [u2_s, if_pos hc]
  · rw [if_neg hk]
    match k, hk with
    | 0, _ => rfl
    | 1, _ => rfl
    | 2, _ => rfl
    | 3, _ => rfl
    | 4, _ => rfl
    | 5, _ => rfl
    | 6, hk => have hi : ¬ i = c := fun z => hk ⟨rfl, z⟩; show (if i < 5 then some (.inr (3, [.int (u2 S.1 3 c x 3 i), .ref (ad 7 i), .ref (ad 8 i)])) else none : Option va_E) = _; rw [u2_n (fun z => hi z.2)]; rfl
    | 7, _ => rfl
    | 8, _ => rfl
    | 9, _ => rfl
    | 10, _ => rfl
    | 11, _ => rfl
    | 12, _ => rfl
    | 13, _ => rfl
    | 14, _ => rfl
    | 15, _ => rfl
    | 16, _ => rfl
    | 17, _ => rfl
    | 18, _ => rfl
    | 19, _ => rfl
    | 20, _ => rfl
    | 21, _ => rfl
    | 22, _ => rfl
    | 23, _ => rfl
    | 24, _ => rfl
    | 25, _ => rfl
    | 26, _ => rfl
    | 27, _ => rfl
    | 28, _ => rfl
    | k + 29, _ => rfl
set_option maxHeartbeats 1000000 in
theorem w_hol {G : Gx} {S T : Sd} {th : Int32} {o : Int64} {ex : Nat → Option (Nat × Nat)} {ad : Nat → Nat → Nat} {M : Mp} (h : WA G S T th o ex ad M) (d : Nat) (v : Int32) : WA G (u2 S.1 4 d v, S.2) T th o ex ad (va_up M (ad 2 0) (some (.inl (G.2.1 2, 1001, .inl (upd (S.1 4) d v))))) := by
  refine h.up 2 0 (e0 := _) ct2 (fun k i => ?_)
  by_cases hk : k = 2 ∧ i = 0
  · obtain ⟨rfl, rfl⟩ := hk
    rw [if_pos ⟨rfl, rfl⟩]
    rfl
  · rw [if_neg hk]
    match k, hk with
    | 0, _ => rfl
    | 1, _ => rfl
    | 2, hk => have hi : ¬ i = 0 := fun z => hk ⟨rfl, z⟩; show (if i = 0 then _ else none) = (if i = 0 then _ else none); rw [if_neg hi, if_neg hi]
    | 3, _ => rfl
    | 4, _ => rfl
    | 5, _ => rfl
    | 6, _ => rfl
    | 7, _ => rfl
    | 8, _ => rfl
    | 9, _ => rfl
    | 10, _ => rfl
    | 11, _ => rfl
    | 12, _ => rfl
    | 13, _ => rfl
    | 14, _ => rfl
    | 15, _ => rfl
    | 16, _ => rfl
    | 17, _ => rfl
    | 18, _ => rfl
    | 19, _ => rfl
    | 20, _ => rfl
    | 21, _ => rfl
    | 22, _ => rfl
    | 23, _ => rfl
    | 24, _ => rfl
    | 25, _ => rfl
    | 26, _ => rfl
    | 27, _ => rfl
    | 28, _ => rfl
    | k + 29, _ => rfl
set_option maxHeartbeats 1000000 in
theorem w_day {G : Gx} {S T : Sd} {th : Int32} {o : Int64} {ex : Nat → Option (Nat × Nat)} {ad : Nat → Nat → Nat} {M : Mp} (h : WA G S T th o ex ad M) (v : Int32) : WA G (u2 S.1 0 0 v, S.2) T th o ex ad (va_up M (ad 1 0) (some (.inr (1, [.ref (ad 2 0), .int v])))) := by
  refine h.up 1 0 (e0 := _) ct1 (fun k i => ?_)
  by_cases hk : k = 1 ∧ i = 0
  · obtain ⟨rfl, rfl⟩ := hk
    rw [if_pos ⟨rfl, rfl⟩]
    rfl
  · rw [if_neg hk]
    match k, hk with
    | 0, _ => rfl
    | 1, hk => have hi : ¬ i = 0 := fun z => hk ⟨rfl, z⟩; show (if i = 0 then _ else none) = (if i = 0 then _ else none); rw [if_neg hi, if_neg hi]
    | 2, _ => rfl
    | 3, _ => rfl
    | 4, _ => rfl
    | 5, _ => rfl
    | 6, _ => rfl
    | 7, _ => rfl
    | 8, _ => rfl
    | 9, _ => rfl
    | 10, _ => rfl
    | 11, _ => rfl
    | 12, _ => rfl
    | 13, _ => rfl
    | 14, _ => rfl
    | 15, _ => rfl
    | 16, _ => rfl
    | 17, _ => rfl
    | 18, _ => rfl
    | 19, _ => rfl
    | 20, _ => rfl
    | 21, _ => rfl
    | 22, _ => rfl
    | 23, _ => rfl
    | 24, _ => rfl
    | 25, _ => rfl
    | 26, _ => rfl
    | 27, _ => rfl
    | 28, _ => rfl
    | k + 29, _ => rfl
set_option maxHeartbeats 1000000 in
theorem w_left {G : Gx} {S T : Sd} {th : Int32} {o : Int64} {ex : Nat → Option (Nat × Nat)} {ad : Nat → Nat → Nat} {M : Mp} (h : WA G S T th o ex ad M) {j : Nat} (hj : j < ndl S) (x : Int32) : WA G (u2 S.1 9 j x, S.2) T th o ex ad (va_up M (ad 11 j) (some (.inr (4, [.ref (ad 6 (cus S j)), .ref (ad 4 (cuy S j)), .int (S.1 8 j), .int (x), .int (S.1 10 j), .int (S.1 11 j), .int (S.1 12 j)])))) := by
  refine h.up 11 j (e0 := _) (ct11 hj) (fun k i => ?_)
  by_cases hk : k = 11 ∧ i = j
  · obtain ⟨rfl, rfl⟩ := hk
    rw [if_pos ⟨rfl, rfl⟩]
    show (if i < ndl S then some (.inr (4, [.ref (ad 6 (cus S i)), .ref (ad 4 (cuy S i)), .int (S.1 8 i), .int (u2 S.1 9 i x 9 i), .int (S.1 10 i), .int (S.1 11 i), .int (S.1 12 i)])) else none : Option va_E) = _; rw [u2_s, if_pos hj]
  · rw [if_neg hk]
    match k, hk with
    | 0, _ => rfl
    | 1, _ => rfl
    | 2, _ => rfl
    | 3, _ => rfl
    | 4, _ => rfl
    | 5, _ => rfl
    | 6, _ => rfl
    | 7, _ => rfl
    | 8, _ => rfl
    | 9, _ => rfl
    | 10, _ => rfl
    | 11, hk => have hi : ¬ i = j := fun z => hk ⟨rfl, z⟩; show (if i < ndl S then some (.inr (4, [.ref (ad 6 (cus S i)), .ref (ad 4 (cuy S i)), .int (S.1 8 i), .int (u2 S.1 9 j x 9 i), .int (S.1 10 i), .int (S.1 11 i), .int (S.1 12 i)])) else none : Option va_E) = _; rw [u2_n (fun z => hi z.2)]; rfl
    | 12, _ => rfl
    | 13, _ => rfl
    | 14, _ => rfl
    | 15, _ => rfl
    | 16, _ => rfl
    | 17, _ => rfl
    | 18, _ => rfl
    | 19, _ => rfl
    | 20, _ => rfl
    | 21, _ => rfl
    | 22, _ => rfl
    | 23, _ => rfl
    | 24, _ => rfl
    | 25, _ => rfl
    | 26, _ => rfl
    | 27, _ => rfl
    | 28, _ => rfl
    | k + 29, _ => rfl
set_option maxHeartbeats 1000000 in
theorem w_rate {G : Gx} {S T : Sd} {th : Int32} {o : Int64} {ex : Nat → Option (Nat × Nat)} {ad : Nat → Nat → Nat} {M : Mp} (h : WA G S T th o ex ad M) {j : Nat} (hj : j < ndl S) (x : Int32) : WA G (u2 S.1 10 j x, S.2) T th o ex ad (va_up M (ad 11 j) (some (.inr (4, [.ref (ad 6 (cus S j)), .ref (ad 4 (cuy S j)), .int (S.1 8 j), .int (S.1 9 j), .int (x), .int (S.1 11 j), .int (S.1 12 j)])))) := by
  refine h.up 11 j (e0 := _) (ct11 hj) (fun k i => ?_)
  by_cases hk : k = 11 ∧ i = j
  · obtain ⟨rfl, rfl⟩ := hk
    rw [if_pos ⟨rfl, rfl⟩]
    show (if i < ndl S then some (.inr (4, [.ref (ad 6 (cus S i)), .ref (ad 4 (cuy S i)), .int (S.1 8 i), .int (S.1 9 i), .int (u2 S.1 10 i x 10 i), .int (S.1 11 i), .int (S.1 12 i)])) else none : Option va_E) = _; rw [u2_s, if_pos hj]
  · rw [if_neg hk]
    match k, hk with
    | 0, _ => rfl
    | 1, _ => rfl
    | 2, _ => rfl
    | 3, _ => rfl
    | 4, _ => rfl
    | 5, _ => rfl
    | 6, _ => rfl
    | 7, _ => rfl
    | 8, _ => rfl
    | 9, _ => rfl
    | 10, _ => rfl
    | 11, hk => have hi : ¬ i = j := fun z => hk ⟨rfl, z⟩; show (if i < ndl S then some (.inr (4, [.ref (ad 6 (cus S i)), .ref (ad 4 (cuy S i)), .int (S.1 8 i), .int (S.1 9 i), .int (u2 S.1 10 j x 10 i), .int (S.1 11 i), .int (S.1 12 i)])) else none : Option va_E) = _; rw [u2_n (fun z => hi z.2)]; rfl
    | 12, _ => rfl
    | 13, _ => rfl
    | 14, _ => rfl
    | 15, _ => rfl
    | 16, _ => rfl
    | 17, _ => rfl
    | 18, _ => rfl
    | 19, _ => rfl
    | 20, _ => rfl
    | 21, _ => rfl
    | 22, _ => rfl
    | 23, _ => rfl
    | 24, _ => rfl
    | 25, _ => rfl
    | 26, _ => rfl
    | 27, _ => rfl
    | 28, _ => rfl
    | k + 29, _ => rfl
set_option maxHeartbeats 1000000 in
theorem w_win {G : Gx} {S T : Sd} {th : Int32} {o : Int64} {ex : Nat → Option (Nat × Nat)} {ad : Nat → Nat → Nat} {M : Mp} (h : WA G S T th o ex ad M) {j : Nat} (hj : j < ndl S) (x y : Int32) : WA G (u2 (u2 S.1 11 j x) 12 j y, S.2) T th o ex ad (va_up M (ad 11 j) (some (.inr (4, [.ref (ad 6 (cus S j)), .ref (ad 4 (cuy S j)), .int (S.1 8 j), .int (S.1 9 j), .int (S.1 10 j), .int (x), .int (y)])))) := by
  refine h.up 11 j (e0 := _) (ct11 hj) (fun k i => ?_)
  by_cases hk : k = 11 ∧ i = j
  · obtain ⟨rfl, rfl⟩ := hk
    rw [if_pos ⟨rfl, rfl⟩]
    show (if i < ndl S then some (.inr (4, [.ref (ad 6 (cus S i)), .ref (ad 4 (cuy S i)), .int (S.1 8 i), .int (S.1 9 i), .int (S.1 10 i), .int (u2 S.1 11 i x 11 i), .int (u2 S.1 12 i y 12 i)])) else none : Option va_E) = _; rw [u2_s, u2_s, if_pos hj]
  · rw [if_neg hk]
    match k, hk with
    | 0, _ => rfl
    | 1, _ => rfl
    | 2, _ => rfl
    | 3, _ => rfl
    | 4, _ => rfl
    | 5, _ => rfl
    | 6, _ => rfl
    | 7, _ => rfl
    | 8, _ => rfl
    | 9, _ => rfl
    | 10, _ => rfl
    | 11, hk => have hi : ¬ i = j := fun z => hk ⟨rfl, z⟩; show (if i < ndl S then some (.inr (4, [.ref (ad 6 (cus S i)), .ref (ad 4 (cuy S i)), .int (S.1 8 i), .int (S.1 9 i), .int (S.1 10 i), .int (u2 S.1 11 j x 11 i), .int (u2 S.1 12 j y 12 i)])) else none : Option va_E) = _; rw [u2_n (f := S.1) (a := 11) (fun z => hi z.2), u2_n (f := S.1) (a := 12) (fun z => hi z.2)]; rfl
    | 12, _ => rfl
    | 13, _ => rfl
    | 14, _ => rfl
    | 15, _ => rfl
    | 16, _ => rfl
    | 17, _ => rfl
    | 18, _ => rfl
    | 19, _ => rfl
    | 20, _ => rfl
    | 21, _ => rfl
    | 22, _ => rfl
    | 23, _ => rfl
    | 24, _ => rfl
    | 25, _ => rfl
    | 26, _ => rfl
    | 27, _ => rfl
    | 28, _ => rfl
    | k + 29, _ => rfl
set_option maxHeartbeats 1000000 in
theorem w_qd {G : Gx} {S T : Sd} {th : Int32} {o : Int64} {ex : Nat → Option (Nat × Nat)} {ad : Nat → Nat → Nat} {M : Mp} (h : WA G S T th o ex ad M) (x : Nat) (v : Int32) : WA G S (u2 T.1 14 x v, T.2) th o ex ad (va_up M (ad 14 0) (some (.inl (G.2.1 0, 20, .inl (upd (T.1 14) x v))))) := by
  refine h.up 14 0 (e0 := _) rfl (fun k i => ?_)
  by_cases hk : k = 14 ∧ i = 0
  · obtain ⟨rfl, rfl⟩ := hk
    rw [if_pos ⟨rfl, rfl⟩]
    rfl
  · rw [if_neg hk]
    match k, hk with
    | 0, _ => rfl
    | 1, _ => rfl
    | 2, _ => rfl
    | 3, _ => rfl
    | 4, _ => rfl
    | 5, _ => rfl
    | 6, _ => rfl
    | 7, _ => rfl
    | 8, _ => rfl
    | 9, _ => rfl
    | 10, _ => rfl
    | 11, _ => rfl
    | 12, _ => rfl
    | 13, _ => rfl
    | 14, hk => have hi : ¬ i = 0 := fun z => hk ⟨rfl, z⟩; show (if i = 0 then _ else none) = (if i = 0 then _ else none); rw [if_neg hi, if_neg hi]
    | 15, _ => rfl
    | 16, _ => rfl
    | 17, _ => rfl
    | 18, _ => rfl
    | 19, _ => rfl
    | 20, _ => rfl
    | 21, _ => rfl
    | 22, _ => rfl
    | 23, _ => rfl
    | 24, _ => rfl
    | 25, _ => rfl
    | 26, _ => rfl
    | 27, _ => rfl
    | 28, _ => rfl
    | k + 29, _ => rfl
set_option maxHeartbeats 1000000 in
theorem w_qa {G : Gx} {S T : Sd} {th : Int32} {o : Int64} {ex : Nat → Option (Nat × Nat)} {ad : Nat → Nat → Nat} {M : Mp} (h : WA G S T th o ex ad M) (x : Nat) (v : Int32) : WA G S (u2 T.1 15 x v, T.2) th o ex ad (va_up M (ad 15 0) (some (.inl (G.2.1 0, 20, .inl (upd (T.1 15) x v))))) := by
  refine h.up 15 0 (e0 := _) rfl (fun k i => ?_)
  by_cases hk : k = 15 ∧ i = 0
  · obtain ⟨rfl, rfl⟩ := hk
    rw [if_pos ⟨rfl, rfl⟩]
    rfl
  · rw [if_neg hk]
    match k, hk with
    | 0, _ => rfl
    | 1, _ => rfl
    | 2, _ => rfl
    | 3, _ => rfl
    | 4, _ => rfl
    | 5, _ => rfl
    | 6, _ => rfl
    | 7, _ => rfl
    | 8, _ => rfl
    | 9, _ => rfl
    | 10, _ => rfl
    | 11, _ => rfl
    | 12, _ => rfl
    | 13, _ => rfl
    | 14, _ => rfl
    | 15, hk => have hi : ¬ i = 0 := fun z => hk ⟨rfl, z⟩; show (if i = 0 then _ else none) = (if i = 0 then _ else none); rw [if_neg hi, if_neg hi]
    | 16, _ => rfl
    | 17, _ => rfl
    | 18, _ => rfl
    | 19, _ => rfl
    | 20, _ => rfl
    | 21, _ => rfl
    | 22, _ => rfl
    | 23, _ => rfl
    | 24, _ => rfl
    | 25, _ => rfl
    | 26, _ => rfl
    | 27, _ => rfl
    | 28, _ => rfl
    | k + 29, _ => rfl
set_option maxHeartbeats 1000000 in
theorem w_qf {G : Gx} {S T : Sd} {th : Int32} {o : Int64} {ex : Nat → Option (Nat × Nat)} {ad : Nat → Nat → Nat} {M : Mp} (h : WA G S T th o ex ad M) (x : Nat) (v : Int32) : WA G S (u2 T.1 16 x v, T.2) th o ex ad (va_up M (ad 16 0) (some (.inl (G.2.1 0, 20, .inl (upd (T.1 16) x v))))) := by
  refine h.up 16 0 (e0 := _) rfl (fun k i => ?_)
  by_cases hk : k = 16 ∧ i = 0
  · obtain ⟨rfl, rfl⟩ := hk
    rw [if_pos ⟨rfl, rfl⟩]
    rfl
  · rw [if_neg hk]
    match k, hk with
    | 0, _ => rfl
    | 1, _ => rfl
    | 2, _ => rfl
    | 3, _ => rfl
    | 4, _ => rfl
    | 5, _ => rfl
    | 6, _ => rfl
    | 7, _ => rfl
    | 8, _ => rfl
    | 9, _ => rfl
    | 10, _ => rfl
    | 11, _ => rfl
    | 12, _ => rfl
    | 13, _ => rfl
    | 14, _ => rfl
    | 15, _ => rfl
    | 16, hk => have hi : ¬ i = 0 := fun z => hk ⟨rfl, z⟩; show (if i = 0 then _ else none) = (if i = 0 then _ else none); rw [if_neg hi, if_neg hi]
    | 17, _ => rfl
    | 18, _ => rfl
    | 19, _ => rfl
    | 20, _ => rfl
    | 21, _ => rfl
    | 22, _ => rfl
    | 23, _ => rfl
    | 24, _ => rfl
    | 25, _ => rfl
    | 26, _ => rfl
    | 27, _ => rfl
    | 28, _ => rfl
    | k + 29, _ => rfl
set_option maxHeartbeats 1000000 in
theorem w_ql {G : Gx} {S T : Sd} {th : Int32} {o : Int64} {ex : Nat → Option (Nat × Nat)} {ad : Nat → Nat → Nat} {M : Mp} (h : WA G S T th o ex ad M) (x : Nat) (v : Int32) : WA G S (u2 T.1 17 x v, T.2) th o ex ad (va_up M (ad 17 0) (some (.inl (G.2.1 0, 20, .inl (upd (T.1 17) x v))))) := by
  refine h.up 17 0 (e0 := _) rfl (fun k i => ?_)
  by_cases hk : k = 17 ∧ i = 0
  · obtain ⟨rfl, rfl⟩ := hk
    rw [if_pos ⟨rfl, rfl⟩]
    rfl
  · rw [if_neg hk]
    match k, hk with
    | 0, _ => rfl
    | 1, _ => rfl
    | 2, _ => rfl
    | 3, _ => rfl
    | 4, _ => rfl
    | 5, _ => rfl
    | 6, _ => rfl
    | 7, _ => rfl
    | 8, _ => rfl
    | 9, _ => rfl
    | 10, _ => rfl
    | 11, _ => rfl
    | 12, _ => rfl
    | 13, _ => rfl
    | 14, _ => rfl
    | 15, _ => rfl
    | 16, _ => rfl
    | 17, hk => have hi : ¬ i = 0 := fun z => hk ⟨rfl, z⟩; show (if i = 0 then _ else none) = (if i = 0 then _ else none); rw [if_neg hi, if_neg hi]
    | 18, _ => rfl
    | 19, _ => rfl
    | 20, _ => rfl
    | 21, _ => rfl
    | 22, _ => rfl
    | 23, _ => rfl
    | 24, _ => rfl
    | 25, _ => rfl
    | 26, _ => rfl
    | 27, _ => rfl
    | 28, _ => rfl
    | k + 29, _ => rfl
set_option maxHeartbeats 1000000 in
theorem w_qr {G : Gx} {S T : Sd} {th : Int32} {o : Int64} {ex : Nat → Option (Nat × Nat)} {ad : Nat → Nat → Nat} {M : Mp} (h : WA G S T th o ex ad M) (x : Nat) (v : Int32) : WA G S (u2 T.1 18 x v, T.2) th o ex ad (va_up M (ad 18 0) (some (.inl (G.2.1 0, 20, .inl (upd (T.1 18) x v))))) := by
  refine h.up 18 0 (e0 := _) rfl (fun k i => ?_)
  by_cases hk : k = 18 ∧ i = 0
  · obtain ⟨rfl, rfl⟩ := hk
    rw [if_pos ⟨rfl, rfl⟩]
    rfl
  · rw [if_neg hk]
    match k, hk with
    | 0, _ => rfl
    | 1, _ => rfl
    | 2, _ => rfl
    | 3, _ => rfl
    | 4, _ => rfl
    | 5, _ => rfl
    | 6, _ => rfl
    | 7, _ => rfl
    | 8, _ => rfl
    | 9, _ => rfl
    | 10, _ => rfl
    | 11, _ => rfl
    | 12, _ => rfl
    | 13, _ => rfl
    | 14, _ => rfl
    | 15, _ => rfl
    | 16, _ => rfl
    | 17, _ => rfl
    | 18, hk => have hi : ¬ i = 0 := fun z => hk ⟨rfl, z⟩; show (if i = 0 then _ else none) = (if i = 0 then _ else none); rw [if_neg hi, if_neg hi]
    | 19, _ => rfl
    | 20, _ => rfl
    | 21, _ => rfl
    | 22, _ => rfl
    | 23, _ => rfl
    | 24, _ => rfl
    | 25, _ => rfl
    | 26, _ => rfl
    | 27, _ => rfl
    | 28, _ => rfl
    | k + 29, _ => rfl
set_option maxHeartbeats 1000000 in
theorem w_qm {G : Gx} {S T : Sd} {th : Int32} {o : Int64} {ex : Nat → Option (Nat × Nat)} {ad : Nat → Nat → Nat} {M : Mp} (h : WA G S T th o ex ad M) (x : Nat) (v : Int32) : WA G S (u2 T.1 19 x v, T.2) th o ex ad (va_up M (ad 19 0) (some (.inl (G.2.1 0, 6, .inl (upd (T.1 19) x v))))) := by
  refine h.up 19 0 (e0 := _) rfl (fun k i => ?_)
  by_cases hk : k = 19 ∧ i = 0
  · obtain ⟨rfl, rfl⟩ := hk
    rw [if_pos ⟨rfl, rfl⟩]
    rfl
  · rw [if_neg hk]
    match k, hk with
    | 0, _ => rfl
    | 1, _ => rfl
    | 2, _ => rfl
    | 3, _ => rfl
    | 4, _ => rfl
    | 5, _ => rfl
    | 6, _ => rfl
    | 7, _ => rfl
    | 8, _ => rfl
    | 9, _ => rfl
    | 10, _ => rfl
    | 11, _ => rfl
    | 12, _ => rfl
    | 13, _ => rfl
    | 14, _ => rfl
    | 15, _ => rfl
    | 16, _ => rfl
    | 17, _ => rfl
    | 18, _ => rfl
    | 19, hk => have hi : ¬ i = 0 := fun z => hk ⟨rfl, z⟩; show (if i = 0 then _ else none) = (if i = 0 then _ else none); rw [if_neg hi, if_neg hi]
    | 20, _ => rfl
    | 21, _ => rfl
    | 22, _ => rfl
    | 23, _ => rfl
    | 24, _ => rfl
    | 25, _ => rfl
    | 26, _ => rfl
    | 27, _ => rfl
    | 28, _ => rfl
    | k + 29, _ => rfl
set_option maxHeartbeats 1000000 in
theorem w_qg {G : Gx} {S T : Sd} {th : Int32} {o : Int64} {ex : Nat → Option (Nat × Nat)} {ad : Nat → Nat → Nat} {M : Mp} (h : WA G S T th o ex ad M) (x : Nat) (v : Int32) : WA G S (u2 T.1 22 x v, T.2) th o ex ad (va_up M (ad 22 0) (some (.inl (G.2.1 0, 3, .inl (upd (T.1 22) x v))))) := by
  refine h.up 22 0 (e0 := _) rfl (fun k i => ?_)
  by_cases hk : k = 22 ∧ i = 0
  · obtain ⟨rfl, rfl⟩ := hk
    rw [if_pos ⟨rfl, rfl⟩]
    rfl
  · rw [if_neg hk]
    match k, hk with
    | 0, _ => rfl
    | 1, _ => rfl
    | 2, _ => rfl
    | 3, _ => rfl
    | 4, _ => rfl
    | 5, _ => rfl
    | 6, _ => rfl
    | 7, _ => rfl
    | 8, _ => rfl
    | 9, _ => rfl
    | 10, _ => rfl
    | 11, _ => rfl
    | 12, _ => rfl
    | 13, _ => rfl
    | 14, _ => rfl
    | 15, _ => rfl
    | 16, _ => rfl
    | 17, _ => rfl
    | 18, _ => rfl
    | 19, _ => rfl
    | 20, _ => rfl
    | 21, _ => rfl
    | 22, hk => have hi : ¬ i = 0 := fun z => hk ⟨rfl, z⟩; show (if i = 0 then _ else none) = (if i = 0 then _ else none); rw [if_neg hi, if_neg hi]
    | 23, _ => rfl
    | 24, _ => rfl
    | 25, _ => rfl
    | 26, _ => rfl
    | 27, _ => rfl
    | 28, _ => rfl
    | k + 29, _ => rfl
set_option maxHeartbeats 1000000 in
theorem w_qe {G : Gx} {S T : Sd} {th : Int32} {o : Int64} {ex : Nat → Option (Nat × Nat)} {ad : Nat → Nat → Nat} {M : Mp} (h : WA G S T th o ex ad M) (x : Nat) (v : Int64) : WA G S (T.1, u2 T.2 0 x v) th o ex ad (va_up M (ad 20 0) (some (.inl (G.2.1 1, 60, .inr (.inl (vp_updL (T.2 0) x v)))))) := by
  refine h.up 20 0 (e0 := _) rfl (fun k i => ?_)
  by_cases hk : k = 20 ∧ i = 0
  · obtain ⟨rfl, rfl⟩ := hk
    rw [if_pos ⟨rfl, rfl⟩]
    rfl
  · rw [if_neg hk]
    match k, hk with
    | 0, _ => rfl
    | 1, _ => rfl
    | 2, _ => rfl
    | 3, _ => rfl
    | 4, _ => rfl
    | 5, _ => rfl
    | 6, _ => rfl
    | 7, _ => rfl
    | 8, _ => rfl
    | 9, _ => rfl
    | 10, _ => rfl
    | 11, _ => rfl
    | 12, _ => rfl
    | 13, _ => rfl
    | 14, _ => rfl
    | 15, _ => rfl
    | 16, _ => rfl
    | 17, _ => rfl
    | 18, _ => rfl
    | 19, _ => rfl
    | 20, hk => have hi : ¬ i = 0 := fun z => hk ⟨rfl, z⟩; show (if i = 0 then _ else none) = (if i = 0 then _ else none); rw [if_neg hi, if_neg hi]
    | 21, _ => rfl
    | 22, _ => rfl
    | 23, _ => rfl
    | 24, _ => rfl
    | 25, _ => rfl
    | 26, _ => rfl
    | 27, _ => rfl
    | 28, _ => rfl
    | k + 29, _ => rfl
set_option maxHeartbeats 1000000 in
theorem w_qb {G : Gx} {S T : Sd} {th : Int32} {o : Int64} {ex : Nat → Option (Nat × Nat)} {ad : Nat → Nat → Nat} {M : Mp} (h : WA G S T th o ex ad M) (x : Nat) (v : Int64) : WA G S (T.1, u2 T.2 1 x v) th o ex ad (va_up M (ad 21 0) (some (.inl (G.2.1 1, 6, .inr (.inl (vp_updL (T.2 1) x v)))))) := by
  refine h.up 21 0 (e0 := _) rfl (fun k i => ?_)
  by_cases hk : k = 21 ∧ i = 0
  · obtain ⟨rfl, rfl⟩ := hk
    rw [if_pos ⟨rfl, rfl⟩]
    rfl
  · rw [if_neg hk]
    match k, hk with
    | 0, _ => rfl
    | 1, _ => rfl
    | 2, _ => rfl
    | 3, _ => rfl
    | 4, _ => rfl
    | 5, _ => rfl
    | 6, _ => rfl
    | 7, _ => rfl
    | 8, _ => rfl
    | 9, _ => rfl
    | 10, _ => rfl
    | 11, _ => rfl
    | 12, _ => rfl
    | 13, _ => rfl
    | 14, _ => rfl
    | 15, _ => rfl
    | 16, _ => rfl
    | 17, _ => rfl
    | 18, _ => rfl
    | 19, _ => rfl
    | 20, _ => rfl
    | 21, hk => have hi : ¬ i = 0 := fun z => hk ⟨rfl, z⟩; show (if i = 0 then _ else none) = (if i = 0 then _ else none); rw [if_neg hi, if_neg hi]
    | 22, _ => rfl
    | 23, _ => rfl
    | 24, _ => rfl
    | 25, _ => rfl
    | 26, _ => rfl
    | 27, _ => rfl
    | 28, _ => rfl
    | k + 29, _ => rfl

