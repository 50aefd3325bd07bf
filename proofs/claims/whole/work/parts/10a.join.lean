theorem sm_iv {T T9 : Sd} (hi : Iv T) (h : smS T T9) : Iv T9 := by
  obtain ⟨h2, hk, hj⟩ := h
  have k0 : T9.1 0 0 = T.1 0 0 := by rw [hk 0 (by decide)]
  have k5 : T9.1 5 0 = T.1 5 0 := by rw [hk 5 (by decide)]
  exact hi.eq k0 k5 (fun j q => hj 6 j q) (fun j q => hj 7 j q) (fun j q => hj 8 j q) (fun j q => by rw [hj 9 j q]; exact (hi.2.2.1 j q).2.2.2.1) (fun j q => by rw [hj 12 j q]; exact (hi.2.2.1 j q).2.2.2.2) (fun d => by rw [hk 4 (by decide)]; exact hi.2.2.2.1 d) (fun c => by rw [h2, hk 3 (by decide)]; exact hi.2.2.2.2 c)
theorem sm_ix {T T9 : Sd} {ex : Nat → Option (Nat × Nat)} (hx : Ix T ex) (h : smS T T9) : Ix T9 ex := by
  refine ⟨fun x q m hm => ?_, hx.2⟩
  rw [h.1]
  exact hx.1 x q m hm
theorem sm_0 {G : Gx} {T T9 : Sd} {th : Int32} {o : Int64} {ex : Nat → Option (Nat × Nat)} {ad : Nat → Nat → Nat} {i : Nat} (h : T9.1 5 0 = T.1 5 0) : ct G.2.1 T9 T9 th o ex ad 0 i = ct G.2.1 T T9 th o ex ad 0 i := by
  show (if i = 0 then some (Sum.inr (5, [Value.ref (ad 1 0), Value.ref (ad 3 0), Value.ref (ad 5 0), Value.ref (ad 10 0), Value.int (T9.1 5 0)])) else none : Option va_E) = (if i = 0 then some (Sum.inr (5, [Value.ref (ad 1 0), Value.ref (ad 3 0), Value.ref (ad 5 0), Value.ref (ad 10 0), Value.int (T.1 5 0)])) else none)
  rw [h]
theorem sm_10 {G : Gx} {T T9 : Sd} {th : Int32} {o : Int64} {ex : Nat → Option (Nat × Nat)} {ad : Nat → Nat → Nat} {i : Nat} (h : dlr T9 ad = dlr T ad) : ct G.2.1 T9 T9 th o ex ad 10 i = ct G.2.1 T T9 th o ex ad 10 i := by
  show (if i = 0 then some (Sum.inl (G.2.1 6, 20, Sum.inr (Sum.inr (Sum.inr (Sum.inr (dlr T9 ad)))))) else none : Option va_E) = (if i = 0 then some (Sum.inl (G.2.1 6, 20, Sum.inr (Sum.inr (Sum.inr (Sum.inr (dlr T ad)))))) else none)
  rw [h]
theorem sm_11 {G : Gx} {T T9 : Sd} {th : Int32} {o : Int64} {ex : Nat → Option (Nat × Nat)} {ad : Nat → Nat → Nat} {i : Nat} (hn : ndl T9 = ndl T) (hj : ∀ k j, j < ndl T → T9.1 k j = T.1 k j) : ct G.2.1 T9 T9 th o ex ad 11 i = ct G.2.1 T T9 th o ex ad 11 i := by
  show (if i < ndl T9 then some (Sum.inr (4, [Value.ref (ad 6 (cus T9 i)), Value.ref (ad 4 (cuy T9 i)), Value.int (T9.1 8 i), Value.int (T9.1 9 i), Value.int (T9.1 10 i), Value.int (T9.1 11 i), Value.int (T9.1 12 i)])) else none : Option va_E) = (if i < ndl T then some (Sum.inr (4, [Value.ref (ad 6 (cus T i)), Value.ref (ad 4 (cuy T i)), Value.int (T.1 8 i), Value.int (T.1 9 i), Value.int (T.1 10 i), Value.int (T.1 11 i), Value.int (T.1 12 i)])) else none)
  rw [hn]
  by_cases q : i < ndl T
  · rw [if_pos q, if_pos q, show cus T9 i = cus T i from by unfold cus; rw [hj 6 i q], show cuy T9 i = cuy T i from by unfold cuy; rw [hj 7 i q], hj 8 i q, hj 9 i q, hj 10 i q, hj 11 i q, hj 12 i q]
  · rw [if_neg q, if_neg q]
theorem sm_wa {G : Gx} {T T9 : Sd} {th : Int32} {o : Int64} {ex : Nat → Option (Nat × Nat)} {ad : Nat → Nat → Nat} {M : Mp} (hw : WA G T T9 th o ex ad M) (h : smS T T9) : WA G T9 T9 th o ex ad M := by
  obtain ⟨h2, hk, hj⟩ := h
  have hn : ndl T9 = ndl T := by unfold ndl; rw [hk 5 (by decide)]
  refine hw.same (fun k i => ?_)
  by_cases c0 : k = 0
  · rw [c0]; exact sm_0 (by rw [hk 5 (by decide)])
  · by_cases c10 : k = 10
    · rw [c10]; exact sm_10 (by unfold dlr; rw [hn])
    · by_cases c11 : k = 11
      · rw [c11]; exact sm_11 hn hj
      · exact ctd_ext (hk 0 (by decide)) (hk 1 (by decide)) (hk 2 (by decide)) (hk 3 (by decide)) (hk 4 (by decide)) h2 (fun _ _ => rfl) k i c0 c10 c11
theorem iv_12 {S : Sd} (h : Iv S) {k0 j : Nat} {v : Int32} (hk : k0 = 1 ∨ k0 = 2) : Iv (u2 S.1 k0 j v, S.2) := by
  have o : ∀ k, ¬ k = 1 → ¬ k = 2 → u2 S.1 k0 j v k = S.1 k := fun k a b => u2r (fun z => by omega)
  exact h.eq (by show u2 S.1 k0 j v 0 0 = _; rw [o 0 (by decide) (by decide)]) (by show u2 S.1 k0 j v 5 0 = _; rw [o 5 (by decide) (by decide)]) (fun i _ => by show u2 S.1 k0 j v 6 i = _; rw [o 6 (by decide) (by decide)]) (fun i _ => by show u2 S.1 k0 j v 7 i = _; rw [o 7 (by decide) (by decide)]) (fun i _ => by show u2 S.1 k0 j v 8 i = _; rw [o 8 (by decide) (by decide)])
    (fun i q => by show 0 ≤ (u2 S.1 k0 j v 9 i).toInt; rw [o 9 (by decide) (by decide)]; exact (h.2.2.1 i q).2.2.2.1) (fun i q => by show 0 ≤ (u2 S.1 k0 j v 12 i).toInt ∧ (u2 S.1 k0 j v 12 i).toInt ≤ _; rw [o 12 (by decide) (by decide)]; exact (h.2.2.1 i q).2.2.2.2) (fun d => by show u2 S.1 k0 j v 4 d = 0 ∨ u2 S.1 k0 j v 4 d = 1; rw [o 4 (by decide) (by decide)]; exact h.2.2.2.1 d) (fun c => by show S.2 2 c = (u2 S.1 k0 j v 3 c).toInt64; rw [o 3 (by decide) (by decide)]; exact h.2.2.2.2 c)
theorem iv_hol {S : Sd} (h : Iv S) {j : Nat} {v : Int32} (hv : v = 0 ∨ v = 1) : Iv (u2 S.1 4 j v, S.2) := by
  have o : ∀ k, ¬ k = 4 → u2 S.1 4 j v k = S.1 k := fun k a => u2r a
  exact h.eq (by show u2 S.1 4 j v 0 0 = _; rw [o 0 (by decide)]) (by show u2 S.1 4 j v 5 0 = _; rw [o 5 (by decide)]) (fun i _ => by show u2 S.1 4 j v 6 i = _; rw [o 6 (by decide)]) (fun i _ => by show u2 S.1 4 j v 7 i = _; rw [o 7 (by decide)]) (fun i _ => by show u2 S.1 4 j v 8 i = _; rw [o 8 (by decide)])
    (fun i q => by show 0 ≤ (u2 S.1 4 j v 9 i).toInt; rw [o 9 (by decide)]; exact (h.2.2.1 i q).2.2.2.1) (fun i q => by show 0 ≤ (u2 S.1 4 j v 12 i).toInt ∧ (u2 S.1 4 j v 12 i).toInt ≤ _; rw [o 12 (by decide)]; exact (h.2.2.1 i q).2.2.2.2)
    (fun d => by
      show u2 S.1 4 j v 4 d = 0 ∨ u2 S.1 4 j v 4 d = 1
      by_cases hd : d = j
      · subst hd
        rw [u2_s]; exact hv
      · rw [u2_n (fun z => hd z.2)]; exact h.2.2.2.1 d) (fun c => by show S.2 2 c = (u2 S.1 4 j v 3 c).toInt64; rw [o 3 (by decide)]; exact h.2.2.2.2 c)
theorem iv_lim {S : Sd} (h : Iv S) {j : Nat} {x : Int32} : Iv (u2 S.1 3 j x, u2 S.2 2 j x.toInt64) := by
  have o : ∀ k, ¬ k = 3 → u2 S.1 3 j x k = S.1 k := fun k a => u2r a
  exact h.eq (by show u2 S.1 3 j x 0 0 = _; rw [o 0 (by decide)]) (by show u2 S.1 3 j x 5 0 = _; rw [o 5 (by decide)]) (fun i _ => by show u2 S.1 3 j x 6 i = _; rw [o 6 (by decide)]) (fun i _ => by show u2 S.1 3 j x 7 i = _; rw [o 7 (by decide)]) (fun i _ => by show u2 S.1 3 j x 8 i = _; rw [o 8 (by decide)])
    (fun i q => by show 0 ≤ (u2 S.1 3 j x 9 i).toInt; rw [o 9 (by decide)]; exact (h.2.2.1 i q).2.2.2.1) (fun i q => by show 0 ≤ (u2 S.1 3 j x 12 i).toInt ∧ (u2 S.1 3 j x 12 i).toInt ≤ _; rw [o 12 (by decide)]; exact (h.2.2.1 i q).2.2.2.2)
    (fun d => by show u2 S.1 3 j x 4 d = 0 ∨ u2 S.1 3 j x 4 d = 1; rw [o 4 (by decide)]; exact h.2.2.2.1 d)
    (fun c => by
      show u2 S.2 2 j x.toInt64 2 c = (u2 S.1 3 j x 3 c).toInt64
      by_cases hc : c = j
      · subst hc; rw [u2_s, u2_s]
      · rw [u2_n (fun z => hc z.2), u2_n (fun z => hc z.2)]; exact h.2.2.2.2 c)
theorem ix_lim {S : Sd} {ex : Nat → Option (Nat × Nat)} (h : Ix S ex) {j : Nat} {x : Int32} : Ix (u2 S.1 3 j x, u2 S.2 2 j x.toInt64) ex := by
  refine ⟨fun y q m hm => ?_, h.2⟩
  show u2 S.2 2 j x.toInt64 0 (5 * y + m) = 0
  rw [u2_n (fun z => absurd z.1 (by decide))]
  exact h.1 y q m hm
theorem wa_lim {G : Gx} {T : Sd} {th : Int32} {o : Int64} {ex : Nat → Option (Nat × Nat)} {ad : Nat → Nat → Nat} {M : Mp} {j : Nat} {x : Int32} (hw : WA G (u2 T.1 3 j x, u2 T.2 2 j x.toInt64) (T.1, u2 T.2 2 j x.toInt64) th o ex ad M) : WA G (u2 T.1 3 j x, u2 T.2 2 j x.toInt64) (u2 T.1 3 j x, u2 T.2 2 j x.toInt64) th o ex ad M := by
  refine hw.same (fun k i => ?_)
  match k with
  | 0 => rfl
  | 1 => rfl
  | 2 => rfl
  | 3 => rfl
  | 4 => rfl
  | 5 => rfl
  | 6 => rfl
  | 7 => rfl
  | 8 => rfl
  | 9 => rfl
  | 10 => rfl
  | 11 => rfl
  | 12 => rfl
  | 13 => rfl
  | 14 => rfl
  | 15 => rfl
  | 16 => rfl
  | 17 => rfl
  | 18 => rfl
  | 19 => rfl
  | 20 => rfl
  | 21 => rfl
  | 22 => rfl
  | 23 => rfl
  | 24 => rfl
  | 25 => rfl
  | 26 => rfl
  | 27 => rfl
  | 28 => rfl
  | k + 29 => rfl
theorem iv_roll {S : Sd} (hi : Iv S) {j : Nat} (hj : j < ndl S) {y z : Int32} (hy : 1 ≤ y ∧ y ≤ 100) (h4 : S.1 12 j + y - S.1 0 0 ≤ 400) : Iv (if z = 0 then rlc S j y else rls S j y) := by
  have h0 := hi.1
  have h1 := (hi.2.2.1 j hj).2.2.2.2
  have h2 := r100 hy
  have e4 : (400 : Int32).toInt = 400 := rfl
  have a : (S.1 12 j + y).toInt = (S.1 12 j).toInt + y.toInt := by rw [Int32.toInt_add]; exact Int.bmod_eq_of_le (by omega) (by omega)
  have d : (S.1 12 j + y - S.1 0 0).toInt = (S.1 12 j).toInt + y.toInt - (S.1 0 0).toInt := by rw [Int32.toInt_sub, a]; exact Int.bmod_eq_of_le (by omega) (by omega)
  have h5 := Int32.le_iff_toInt_le.mp h4
  rw [d, e4] at h5
  have key : ∀ (rt : Int32) (g : Nat → Nat → Int64), (∀ c, g 2 c = S.2 2 c) → Iv (u2 (u2 (u2 S.1 11 j (S.1 12 j)) 12 j (S.1 12 j + y)) 10 j rt, g) := by
    intro rt g hg
    have o : ∀ k, ¬ k = 10 → ¬ k = 11 → ¬ k = 12 → u2 (u2 (u2 S.1 11 j (S.1 12 j)) 12 j (S.1 12 j + y)) 10 j rt k = S.1 k := fun k a b c => by rw [u2r a, u2r c, u2r b]
    refine hi.eq ?_ ?_ (fun i _ => ?_) (fun i _ => ?_) (fun i _ => ?_) (fun i q => ?_) (fun i q => ?_) (fun d => ?_) (fun c => ?_)
    · show u2 (u2 (u2 S.1 11 j (S.1 12 j)) 12 j (S.1 12 j + y)) 10 j rt 0 0 = _; rw [o 0 (by decide) (by decide) (by decide)]
    · show u2 (u2 (u2 S.1 11 j (S.1 12 j)) 12 j (S.1 12 j + y)) 10 j rt 5 0 = _; rw [o 5 (by decide) (by decide) (by decide)]
    · show u2 (u2 (u2 S.1 11 j (S.1 12 j)) 12 j (S.1 12 j + y)) 10 j rt 6 i = _; rw [o 6 (by decide) (by decide) (by decide)]
    · show u2 (u2 (u2 S.1 11 j (S.1 12 j)) 12 j (S.1 12 j + y)) 10 j rt 7 i = _; rw [o 7 (by decide) (by decide) (by decide)]
    · show u2 (u2 (u2 S.1 11 j (S.1 12 j)) 12 j (S.1 12 j + y)) 10 j rt 8 i = _; rw [o 8 (by decide) (by decide) (by decide)]
    · show 0 ≤ (u2 (u2 (u2 S.1 11 j (S.1 12 j)) 12 j (S.1 12 j + y)) 10 j rt 9 i).toInt; rw [o 9 (by decide) (by decide) (by decide)]; exact (hi.2.2.1 i q).2.2.2.1
    · show 0 ≤ (u2 (u2 (u2 S.1 11 j (S.1 12 j)) 12 j (S.1 12 j + y)) 10 j rt 12 i).toInt ∧ (u2 (u2 (u2 S.1 11 j (S.1 12 j)) 12 j (S.1 12 j + y)) 10 j rt 12 i).toInt ≤ _
      rw [u2_n (fun z => absurd z.1 (by decide))]
      by_cases hq : i = j
      · subst hq; rw [u2_s, a]; omega
      · rw [u2_n (fun z => hq z.2), u2_n (fun z => hq z.2)]; exact (hi.2.2.1 i q).2.2.2.2
    · show u2 (u2 (u2 S.1 11 j (S.1 12 j)) 12 j (S.1 12 j + y)) 10 j rt 4 d = 0 ∨ u2 (u2 (u2 S.1 11 j (S.1 12 j)) 12 j (S.1 12 j + y)) 10 j rt 4 d = 1; rw [o 4 (by decide) (by decide) (by decide)]; exact hi.2.2.2.1 d
    · show g 2 c = (u2 (u2 (u2 S.1 11 j (S.1 12 j)) 12 j (S.1 12 j + y)) 10 j rt 3 c).toInt64; rw [o 3 (by decide) (by decide) (by decide), hg]; exact hi.2.2.2.2 c
  by_cases hz : z = 0
  · rw [if_pos hz]; exact key _ _ (fun _ => rfl)
  · rw [if_neg hz]; exact key _ _ (fun _ => rfl)
theorem iv_ed {S : Sd} (hi : Iv S) {j : Nat} : Iv (edS S j) := iv_left (S := bkg S j) (iv_bk hi _ _ _ _) (by decide)
theorem iv_dr {S : Sd} (hi : Iv S) {j : Nat} (hj : j < ndl S) {x : Int32} (h : 1 ≤ x ∧ x ≤ S.1 9 j) : Iv (dr3 S j x) := iv_left (S := dr2 S j x) (iv_bk (iv_bk hi _ _ _ _) _ _ _ _) (left_sub (hi.2.2.1 j hj).2.2.2.1 h)
