theorem sn_eq {S S' : Sd} (h4 : S'.1 4 = S.1 4) (h0 : S'.1 0 0 = S.1 0 0) : sn S' = sn S := by
  unfold sn sd
  rw [h4, h0]
theorem iv_bk {S : Sd} (h : Iv S) (c k d : Nat) (x : Int64) : Iv (bk S c k d x) := by
  obtain ⟨a, b, c', d', e⟩ := h
  exact ⟨a, b, c', d', fun y => e y⟩
theorem iv_left {S : Sd} (h : Iv S) {j : Nat} {v : Int32} (hv : 0 ≤ v.toInt) : Iv (u2 S.1 9 j v, S.2) := by
  refine h.eq ?_ ?_ (fun i hi => ?_) (fun i hi => ?_) (fun i hi => ?_) (fun i hi => ?_) (fun i hi => ?_) (fun d => ?_) (fun d => ?_)
  · show u2 S.1 9 j v 0 0 = _; exact u2_n (fun z => absurd z.1 (by decide))
  · show u2 S.1 9 j v 5 0 = _; exact u2_n (fun z => absurd z.1 (by decide))
  · show u2 S.1 9 j v 6 i = _; exact u2_n (fun z => absurd z.1 (by decide))
  · show u2 S.1 9 j v 7 i = _; exact u2_n (fun z => absurd z.1 (by decide))
  · show u2 S.1 9 j v 8 i = _; exact u2_n (fun z => absurd z.1 (by decide))
  · show 0 ≤ (u2 S.1 9 j v 9 i).toInt
    by_cases hq : i = j
    · subst hq; rw [u2_s]; exact hv
    · rw [u2_n (fun z => hq z.2)]; exact (h.2.2.1 i hi).2.2.2.1
  · show 0 ≤ (u2 S.1 9 j v 12 i).toInt ∧ (u2 S.1 9 j v 12 i).toInt ≤ _
    rw [u2_n (fun z => absurd z.1 (by decide))]
    exact (h.2.2.1 i hi).2.2.2.2
  · show u2 S.1 9 j v 4 d = 0 ∨ u2 S.1 9 j v 4 d = 1
    rw [u2_n (fun z => absurd z.1 (by decide))]
    exact h.2.2.2.1 d
  · show S.2 2 d = (u2 S.1 9 j v 3 d).toInt64
    rw [u2_n (fun z => absurd z.1 (by decide))]
    exact h.2.2.2.2 d
theorem left_sub {a x : Int32} (ha : 0 ≤ a.toInt) (h : 1 ≤ x ∧ x ≤ a) : 0 ≤ (a - x).toInt := by
  have h1 := Int32.le_iff_toInt_le.mp h.1
  have h2 := Int32.le_iff_toInt_le.mp h.2
  have e1 : (1 : Int32).toInt = 1 := rfl
  have h3 := Int32.toInt_lt a
  rw [Int32.toInt_sub, show (a.toInt - x.toInt).bmod (2 ^ 32) = a.toInt - x.toInt from Int.bmod_eq_of_le (by omega) (by omega)]
  omega
theorem sub_flip (a p f t : Int32) : a - p * (f - t) = a + p * (t - f) := by
  rw [show f - t = -(t - f) from (Int32.neg_sub).symm, Int32.mul_neg, Int32.sub_neg]
/-- the same desk, but for places that no deal has -/
def smS (T T9 : Sd) : Prop := T9.2 = T.2 ∧ (∀ k, k < 6 → T9.1 k = T.1 k) ∧ ∀ k j, j < ndl T → T9.1 k j = T.1 k j
theorem gb_lo {S : Sd} {n y bu am fd zd rt : Int32} {k : Nat} (h : k < 6) : gbV S n y bu am fd zd rt k = S.1 k := by
  unfold gbV
  rw [u2r (by omega), u2r (by omega), u2r (by omega), u2r (by omega), u2r (by omega), u2r (by omega), u2r (by omega)]
theorem gb_sm {S : Sd} {n y bu am fd zd rt : Int32} : smS S (gbV S n y bu am fd zd rt, S.2) := ⟨rfl, fun _ h => gb_lo h, fun _ _ h => gb_o (by omega)⟩
theorem sm_refl (S : Sd) : smS S S := ⟨rfl, fun _ _ => rfl, fun _ _ _ => rfl⟩
theorem nd_lo {S : Sd} {n y bu am f z : Int32} {k : Nat} (h : k < 5) : (ndS S n y bu am f z).1 k = S.1 k := by
  show u2 (gbV S n y bu am (S.1 0 0 + f) (S.1 0 0 + z) (nrt S y z)) 5 0 (S.1 5 0 + 1) k = _
  rw [u2r (by omega)]
  exact gb_lo (by omega)
theorem nd_hi {S : Sd} {n y bu am f z : Int32} {k j : Nat} (h : 5 < k) : (ndS S n y bu am f z).1 k j = gbV S n y bu am (S.1 0 0 + f) (S.1 0 0 + z) (nrt S y z) k j := by
  show u2 (gbV S n y bu am (S.1 0 0 + f) (S.1 0 0 + z) (nrt S y z)) 5 0 (S.1 5 0 + 1) k j = _
  exact u2_n (fun q => by omega)
theorem nd_o {S : Sd} {n y bu am f z : Int32} {k j : Nat} (h : 5 < k) (hj : ¬ j = ndl S) : (ndS S n y bu am f z).1 k j = S.1 k j := by rw [nd_hi h, gb_o hj]
theorem nd_n {S : Sd} {n y bu am f z : Int32} (hi : Iv S) (h : S.1 5 0 < 20) : ndl (ndS S n y bu am f z) = ndl S + 1 := by
  rw [← nd_succ hi h]
  show (u2 (gbV S n y bu am (S.1 0 0 + f) (S.1 0 0 + z) (nrt S y z)) 5 0 (S.1 5 0 + 1) 5 0).toNatClampNeg = _
  rw [u2_s]
theorem ls1_o {S : Sd} {n y bu am f z sh : Int32} {j : Nat} (hj : ¬ j = ndl S) : ls1 (ndS S n y bu am f z) sh j = ls1 S sh j := by
  unfold ls1 mr cuy
  rw [nd_o (by decide) hj, nd_o (by decide) hj, nd_o (by decide) hj, nd_o (by decide) hj, nd_o (by decide) hj, nd_lo (by decide), nd_lo (by decide), nd_lo (by decide)]
theorem ls1_n {S : Sd} {n y bu am f z sh : Int32} : ls1 (ndS S n y bu am f z) sh (ndl S) = lsx S y.toNatClampNeg bu am (nrt S y z) (S.1 0 0 + z) sh := by
  unfold ls1 mr cuy lsx
  rw [nd_hi (k := 7) (by decide), nd_hi (k := 8) (by decide), nd_hi (k := 9) (by decide), nd_hi (k := 10) (by decide), nd_hi (k := 12) (by decide), nd_lo (k := 1) (by decide), nd_lo (k := 2) (by decide), nd_lo (k := 0) (by decide), gb7, gb8, gb9, gb10, gb12]
theorem la_nd {S : Sd} {n y bu am f z sh : Int32} {q : Nat} : ∀ k, k ≤ ndl S → la (ndS S n y bu am f z) q sh k = la S q sh k
  | 0, _ => rfl
  | k + 1, h => by
    show (if cus (ndS S n y bu am f z) k = q then la (ndS S n y bu am f z) q sh k + ls1 (ndS S n y bu am f z) sh k else la (ndS S n y bu am f z) q sh k) = (if cus S k = q then la S q sh k + ls1 S sh k else la S q sh k)
    rw [la_nd k (by omega), ls1_o (by omega), show cus (ndS S n y bu am f z) k = cus S k from by unfold cus; rw [nd_o (by decide) (by omega)]]
theorem la_nd1 {S : Sd} {n y bu am f z sh : Int32} : la (ndS S n y bu am f z) n.toNatClampNeg sh (ndl S + 1) = la S n.toNatClampNeg sh (ndl S) + lsx S y.toNatClampNeg bu am (nrt S y z) (S.1 0 0 + z) sh := by
  show (if cus (ndS S n y bu am f z) (ndl S) = n.toNatClampNeg then la (ndS S n y bu am f z) n.toNatClampNeg sh (ndl S) + ls1 (ndS S n y bu am f z) sh (ndl S) else la (ndS S n y bu am f z) n.toNatClampNeg sh (ndl S)) = _
  rw [if_pos (by unfold cus; rw [nd_hi (by decide), gb6]), la_nd _ (Nat.le_refl _), ls1_n]
theorem exs_nd {S : Sd} {n y bu am f z : Int32} (hi : Iv S) (h : S.1 5 0 < 20) : exs (ndS S n y bu am f z) n.toNatClampNeg = exw S n y bu am z := by
  unfold exs exw
  rw [nd_n hi h, la_nd1, la_nd1]
theorem iv_nd {S : Sd} {n y bu am f z : Int32} (hi : Iv S) (h : S.1 5 0 < 20) (hbu : bu = 0 ∨ bu = 1) (hn : 0 ≤ n ∧ n < 5) (hy : 0 ≤ y ∧ y < 4) (ha : 1 ≤ am ∧ am ≤ 1000000) (hf : 0 ≤ f ∧ f ≤ 400) (hz : f ≤ z ∧ z ≤ 400) : Iv (ndS S n y bu am f z) := by
  have hnd := nd_n (n := n) (y := y) (bu := bu) (am := am) (f := f) (z := z) hi h
  have k0 : (ndS S n y bu am f z).1 0 0 = S.1 0 0 := by rw [nd_lo (by decide)]
  have k5 : (ndS S n y bu am f z).1 5 0 = S.1 5 0 + 1 := by
    show u2 (gbV S n y bu am (S.1 0 0 + f) (S.1 0 0 + z) (nrt S y z)) 5 0 (S.1 5 0 + 1) 5 0 = _
    exact u2_s
  have n1 := Int32.le_iff_toInt_le.mp hn.1
  have n2 := Int32.lt_iff_toInt_lt.mp hn.2
  have y1 := Int32.le_iff_toInt_le.mp hy.1
  have y2 := Int32.lt_iff_toInt_lt.mp hy.2
  have a1 := Int32.le_iff_toInt_le.mp ha.1
  have f1 := Int32.le_iff_toInt_le.mp hf.1
  have z1 := Int32.le_iff_toInt_le.mp hz.1
  have z2 := Int32.le_iff_toInt_le.mp hz.2
  have d1 := Int32.lt_iff_toInt_lt.mp h
  have e0 : (0 : Int32).toInt = 0 := rfl
  have e1 : (1 : Int32).toInt = 1 := rfl
  have e4 : (4 : Int32).toInt = 4 := rfl
  have e5 : (5 : Int32).toInt = 5 := rfl
  have e20 : (20 : Int32).toInt = 20 := rfl
  have e400 : (400 : Int32).toInt = 400 := rfl
  obtain ⟨a, b, g, d, e⟩ := hi
  have s5 := add1_toInt (x := S.1 5 0) b.1 (by omega)
  have sz : (S.1 0 0 + z).toInt = (S.1 0 0).toInt + z.toInt := by rw [Int32.toInt_add]; exact Int.bmod_eq_of_le (by omega) (by omega)
  refine ⟨by rw [k0]; exact a, by rw [k5, s5]; omega, fun j hj => ?_, fun q => by rw [nd_lo (by decide)]; exact d q, fun q => by rw [nd_lo (by decide)]; exact e q⟩
  rw [hnd] at hj
  rw [k0]
  by_cases hq : j = ndl S
  · subst hq
    rw [nd_hi (by decide), nd_hi (by decide), nd_hi (by decide), nd_hi (by decide), nd_hi (by decide), gb6, gb7, gb8, gb9, gb12, sz]
    refine ⟨by omega, by omega, hbu, by omega, by omega, by omega⟩
  · rw [nd_o (by decide) hq, nd_o (by decide) hq, nd_o (by decide) hq, nd_o (by decide) hq, nd_o (by decide) hq]
    exact g j (by omega)
theorem nd20 {S : Sd} (hi : Iv S) (h : ¬ S.1 5 0 = 20) : S.1 5 0 < 20 := by
  have h1 := hi.2.1
  have e : (20 : Int32).toInt = 20 := rfl
  refine Int32.lt_iff_toInt_lt.mpr ?_
  have h2 : ¬ (S.1 5 0).toInt = 20 := fun z => h (Int32.toInt_inj.mp (by omega))
  omega
theorem nd20n {S : Sd} (h : S.1 5 0 = 20) : ¬ S.1 5 0 < 20 := by rw [h]; decide
theorem iv_12 {S : Sd} (h : Iv S) {k0 j : Nat} {v : Int32} (hk : k0 = 1 ∨ k0 = 2) : Iv (u2 S.1 k0 j v, S.2) := by
  have o : ∀ k, ¬ k = 1 → ¬ k = 2 → u2 S.1 k0 j v k = S.1 k := fun k a b => u2r (fun z => by omega)
  exact h.eq (by show u2 S.1 k0 j v 0 0 = _; rw [o 0 (by decide) (by decide)]) (by show u2 S.1 k0 j v 5 0 = _; rw [o 5 (by decide) (by decide)]) (fun i _ => by show u2 S.1 k0 j v 6 i = _; rw [o 6 (by decide) (by decide)]) (fun i _ => by show u2 S.1 k0 j v 7 i = _; rw [o 7 (by decide) (by decide)]) (fun i _ => by show u2 S.1 k0 j v 8 i = _; rw [o 8 (by decide) (by decide)])
    (fun i q => by show 0 ≤ (u2 S.1 k0 j v 9 i).toInt; rw [o 9 (by decide) (by decide)]; exact (h.2.2.1 i q).2.2.2.1) (fun i q => by show 0 ≤ (u2 S.1 k0 j v 12 i).toInt ∧ (u2 S.1 k0 j v 12 i).toInt ≤ _; rw [o 12 (by decide) (by decide)]; exact (h.2.2.1 i q).2.2.2.2) (fun d => by show u2 S.1 k0 j v 4 d = 0 ∨ u2 S.1 k0 j v 4 d = 1; rw [o 4 (by decide) (by decide)]; exact h.2.2.2.1 d) (fun c => by show S.2 2 c = (u2 S.1 k0 j v 3 c).toInt64; rw [o 3 (by decide) (by decide)]; exact h.2.2.2.2 c)
theorem iv_hol {S : Sd} (h : Iv S) {j : Nat} {v : Int32} (hv : v = 0 ∨ v = 1) : Iv (u2 S.1 4 j v, S.2) := by
  have o : ∀ k, ¬ k = 4 → u2 S.1 4 j v k = S.1 k := fun k a => u2r a
  exact h.eq (by show u2 S.1 4 j v 0 0 = _; rw [o 0 (by decide)]) (by show u2 S.1 4 j v 5 0 = _; rw [o 5 (by decide)]) (fun i _ => by show u2 S.1 4 j v 6 i = _; rw [o 6 (by decide)]) (fun i _ => by show u2 S.1 4 j v 7 i = _; rw [o 7 (by decide)]) (fun i _ => by show u2 S.1 4 j v 8 i = _; rw [o 8 (by decide)])
    (fun i q => by show 0 ≤ (u2 S.1 4 j v 9 i).toInt; rw [o 9 (by decide)]; exact (h.2.2.1 i q).2.2.2.1) (fun i q => by show 0 ≤ (u2 S.1 4 j v 12 i).toInt ∧ (u2 S.1 4 j v 12 i).toInt ≤ _; rw [o 12 (by decide)]; exact (h.2.2.1 i q).2.2.2.2)
    (fun d => by
      show u2 S.1 4 j v 4 d = 0 ∨ u2 S.1 4 j v 4 d = 1
      by_cases hd : d = j
      · subst hd
        rw [u2_s]; exact hv
      · rw [u2_n (fun z => hd z.2)]; exact h.2.2.2.1 d) (fun c => by show S.2 2 c = (u2 S.1 4 j v 3 c).toInt64; rw [o 3 (by decide)]; exact h.2.2.2.2 c)
theorem iv_lim {S : Sd} (h : Iv S) {j : Nat} {x : Int32} : Iv (u2 S.1 3 j x, u2 S.2 2 j x.toInt64) := by
  have o : ∀ k, ¬ k = 3 → u2 S.1 3 j x k = S.1 k := fun k a => u2r a
  exact h.eq (by show u2 S.1 3 j x 0 0 = _; rw [o 0 (by decide)]) (by show u2 S.1 3 j x 5 0 = _; rw [o 5 (by decide)]) (fun i _ => by show u2 S.1 3 j x 6 i = _; rw [o 6 (by decide)]) (fun i _ => by show u2 S.1 3 j x 7 i = _; rw [o 7 (by decide)]) (fun i _ => by show u2 S.1 3 j x 8 i = _; rw [o 8 (by decide)])
    (fun i q => by show 0 ≤ (u2 S.1 3 j x 9 i).toInt; rw [o 9 (by decide)]; exact (h.2.2.1 i q).2.2.2.1) (fun i q => by show 0 ≤ (u2 S.1 3 j x 12 i).toInt ∧ (u2 S.1 3 j x 12 i).toInt ≤ _; rw [o 12 (by decide)]; exact (h.2.2.1 i q).2.2.2.2)
    (fun d => by show u2 S.1 3 j x 4 d = 0 ∨ u2 S.1 3 j x 4 d = 1; rw [o 4 (by decide)]; exact h.2.2.2.1 d)
    (fun c => by
      show u2 S.2 2 j x.toInt64 2 c = (u2 S.1 3 j x 3 c).toInt64
      by_cases hc : c = j
      · subst hc; rw [u2_s, u2_s]
      · rw [u2_n (fun z => hc z.2), u2_n (fun z => hc z.2)]; exact h.2.2.2.2 c)
theorem ix_lim {S : Sd} {ex : Nat → Option (Nat × Nat)} (h : Ix S ex) {j : Nat} {x : Int32} : Ix (u2 S.1 3 j x, u2 S.2 2 j x.toInt64) ex := by
  refine ⟨fun y q m hm => ?_, h.2⟩
  show u2 S.2 2 j x.toInt64 0 (5 * y + m) = 0
  rw [u2_n (fun z => absurd z.1 (by decide))]
  exact h.1 y q m hm
theorem iv_roll {S : Sd} (hi : Iv S) {j : Nat} (hj : j < ndl S) {y z : Int32} (hy : 1 ≤ y ∧ y ≤ 100) (h4 : S.1 12 j + y - S.1 0 0 ≤ 400) : Iv (if z = 0 then rlc S j y else rls S j y) := by
  have h0 := hi.1
  have h1 := (hi.2.2.1 j hj).2.2.2.2
  have h2 := r100 hy
  have e4 : (400 : Int32).toInt = 400 := rfl
  have a : (S.1 12 j + y).toInt = (S.1 12 j).toInt + y.toInt := by rw [Int32.toInt_add]; exact Int.bmod_eq_of_le (by omega) (by omega)
  have d : (S.1 12 j + y - S.1 0 0).toInt = (S.1 12 j).toInt + y.toInt - (S.1 0 0).toInt := by rw [Int32.toInt_sub, a]; exact Int.bmod_eq_of_le (by omega) (by omega)
  have h5 := Int32.le_iff_toInt_le.mp h4
  rw [d, e4] at h5
  have key : ∀ (rt : Int32) (g : Nat → Nat → Int64), (∀ c, g 2 c = S.2 2 c) → Iv (u2 (u2 (u2 S.1 11 j (S.1 12 j)) 12 j (S.1 12 j + y)) 10 j rt, g) := by
    intro rt g hg
    have o : ∀ k, ¬ k = 10 → ¬ k = 11 → ¬ k = 12 → u2 (u2 (u2 S.1 11 j (S.1 12 j)) 12 j (S.1 12 j + y)) 10 j rt k = S.1 k := fun k a b c => by rw [u2r a, u2r c, u2r b]
    refine hi.eq ?_ ?_ (fun i _ => ?_) (fun i _ => ?_) (fun i _ => ?_) (fun i q => ?_) (fun i q => ?_) (fun d => ?_) (fun c => ?_)
    · show u2 (u2 (u2 S.1 11 j (S.1 12 j)) 12 j (S.1 12 j + y)) 10 j rt 0 0 = _; rw [o 0 (by decide) (by decide) (by decide)]
    · show u2 (u2 (u2 S.1 11 j (S.1 12 j)) 12 j (S.1 12 j + y)) 10 j rt 5 0 = _; rw [o 5 (by decide) (by decide) (by decide)]
    · show u2 (u2 (u2 S.1 11 j (S.1 12 j)) 12 j (S.1 12 j + y)) 10 j rt 6 i = _; rw [o 6 (by decide) (by decide) (by decide)]
    · show u2 (u2 (u2 S.1 11 j (S.1 12 j)) 12 j (S.1 12 j + y)) 10 j rt 7 i = _; rw [o 7 (by decide) (by decide) (by decide)]
    · show u2 (u2 (u2 S.1 11 j (S.1 12 j)) 12 j (S.1 12 j + y)) 10 j rt 8 i = _; rw [o 8 (by decide) (by decide) (by decide)]
    · show 0 ≤ (u2 (u2 (u2 S.1 11 j (S.1 12 j)) 12 j (S.1 12 j + y)) 10 j rt 9 i).toInt; rw [o 9 (by decide) (by decide) (by decide)]; exact (hi.2.2.1 i q).2.2.2.1
    · show 0 ≤ (u2 (u2 (u2 S.1 11 j (S.1 12 j)) 12 j (S.1 12 j + y)) 10 j rt 12 i).toInt ∧ (u2 (u2 (u2 S.1 11 j (S.1 12 j)) 12 j (S.1 12 j + y)) 10 j rt 12 i).toInt ≤ _
      rw [u2_n (fun z => absurd z.1 (by decide))]
      by_cases hq : i = j
      · subst hq; rw [u2_s, a]; omega
      · rw [u2_n (fun z => hq z.2), u2_n (fun z => hq z.2)]; exact (hi.2.2.1 i q).2.2.2.2
    · show u2 (u2 (u2 S.1 11 j (S.1 12 j)) 12 j (S.1 12 j + y)) 10 j rt 4 d = 0 ∨ u2 (u2 (u2 S.1 11 j (S.1 12 j)) 12 j (S.1 12 j + y)) 10 j rt 4 d = 1; rw [o 4 (by decide) (by decide) (by decide)]; exact hi.2.2.2.1 d
    · show g 2 c = (u2 (u2 (u2 S.1 11 j (S.1 12 j)) 12 j (S.1 12 j + y)) 10 j rt 3 c).toInt64; rw [o 3 (by decide) (by decide) (by decide), hg]; exact hi.2.2.2.2 c
  by_cases hz : z = 0
  · rw [if_pos hz]; exact key _ _ (fun _ => rfl)
  · rw [if_neg hz]; exact key _ _ (fun _ => rfl)
theorem iv_ed {S : Sd} (hi : Iv S) {j : Nat} : Iv (edS S j) := iv_left (S := bkg S j) (iv_bk hi _ _ _ _) (by decide)
theorem iv_dr {S : Sd} (hi : Iv S) {j : Nat} (hj : j < ndl S) {x : Int32} (h : 1 ≤ x ∧ x ≤ S.1 9 j) : Iv (dr3 S j x) := iv_left (S := dr2 S j x) (iv_bk (iv_bk hi _ _ _ _) _ _ _ _) (left_sub (hi.2.2.1 j hj).2.2.2.1 h)
/-! the law's arrays, as the world holds them -/
theorem qa14 {G : Gx} {S T : Sd} {th : Int32} {o : Int64} {ex : Nat → Option (Nat × Nat)} {ad : Nat → Nat → Nat} {M : Mp} (hw : WA G S T th o ex ad M) : M (ad 14 0) = some (.inl (G.2.1 0, 20, .inl (T.1 14))) := hw.1 14 0 _ rfl
theorem qs14 {G : Gx} {S T : Sd} {th : Int32} {o : Int64} {ex : Nat → Option (Nat × Nat)} {ad : Nat → Nat → Nat} {M : Mp} (hw : WA G S T th o ex ad M) {x : Nat} {v : Int32} {H : Heap} (hM : Hm G (va_up M (ad 14 0) (some (.inl (G.2.1 0, 20, .inl (upd (T.1 14) x v))))) H) : ∃ (T1 : Sd) (M1 : Mp), T1 = (u2 T.1 14 x v, T.2) ∧ WA G S T1 th o ex ad M1 ∧ Hm G M1 H := ⟨_, _, rfl, w_qd hw x v, hM⟩
theorem qa15 {G : Gx} {S T : Sd} {th : Int32} {o : Int64} {ex : Nat → Option (Nat × Nat)} {ad : Nat → Nat → Nat} {M : Mp} (hw : WA G S T th o ex ad M) : M (ad 15 0) = some (.inl (G.2.1 0, 20, .inl (T.1 15))) := hw.1 15 0 _ rfl
theorem qs15 {G : Gx} {S T : Sd} {th : Int32} {o : Int64} {ex : Nat → Option (Nat × Nat)} {ad : Nat → Nat → Nat} {M : Mp} (hw : WA G S T th o ex ad M) {x : Nat} {v : Int32} {H : Heap} (hM : Hm G (va_up M (ad 15 0) (some (.inl (G.2.1 0, 20, .inl (upd (T.1 15) x v))))) H) : ∃ (T1 : Sd) (M1 : Mp), T1 = (u2 T.1 15 x v, T.2) ∧ WA G S T1 th o ex ad M1 ∧ Hm G M1 H := ⟨_, _, rfl, w_qa hw x v, hM⟩
theorem qa16 {G : Gx} {S T : Sd} {th : Int32} {o : Int64} {ex : Nat → Option (Nat × Nat)} {ad : Nat → Nat → Nat} {M : Mp} (hw : WA G S T th o ex ad M) : M (ad 16 0) = some (.inl (G.2.1 0, 20, .inl (T.1 16))) := hw.1 16 0 _ rfl
theorem qs16 {G : Gx} {S T : Sd} {th : Int32} {o : Int64} {ex : Nat → Option (Nat × Nat)} {ad : Nat → Nat → Nat} {M : Mp} (hw : WA G S T th o ex ad M) {x : Nat} {v : Int32} {H : Heap} (hM : Hm G (va_up M (ad 16 0) (some (.inl (G.2.1 0, 20, .inl (upd (T.1 16) x v))))) H) : ∃ (T1 : Sd) (M1 : Mp), T1 = (u2 T.1 16 x v, T.2) ∧ WA G S T1 th o ex ad M1 ∧ Hm G M1 H := ⟨_, _, rfl, w_qf hw x v, hM⟩
theorem qa17 {G : Gx} {S T : Sd} {th : Int32} {o : Int64} {ex : Nat → Option (Nat × Nat)} {ad : Nat → Nat → Nat} {M : Mp} (hw : WA G S T th o ex ad M) : M (ad 17 0) = some (.inl (G.2.1 0, 20, .inl (T.1 17))) := hw.1 17 0 _ rfl
theorem qs17 {G : Gx} {S T : Sd} {th : Int32} {o : Int64} {ex : Nat → Option (Nat × Nat)} {ad : Nat → Nat → Nat} {M : Mp} (hw : WA G S T th o ex ad M) {x : Nat} {v : Int32} {H : Heap} (hM : Hm G (va_up M (ad 17 0) (some (.inl (G.2.1 0, 20, .inl (upd (T.1 17) x v))))) H) : ∃ (T1 : Sd) (M1 : Mp), T1 = (u2 T.1 17 x v, T.2) ∧ WA G S T1 th o ex ad M1 ∧ Hm G M1 H := ⟨_, _, rfl, w_ql hw x v, hM⟩
theorem qa18 {G : Gx} {S T : Sd} {th : Int32} {o : Int64} {ex : Nat → Option (Nat × Nat)} {ad : Nat → Nat → Nat} {M : Mp} (hw : WA G S T th o ex ad M) : M (ad 18 0) = some (.inl (G.2.1 0, 20, .inl (T.1 18))) := hw.1 18 0 _ rfl
theorem qs18 {G : Gx} {S T : Sd} {th : Int32} {o : Int64} {ex : Nat → Option (Nat × Nat)} {ad : Nat → Nat → Nat} {M : Mp} (hw : WA G S T th o ex ad M) {x : Nat} {v : Int32} {H : Heap} (hM : Hm G (va_up M (ad 18 0) (some (.inl (G.2.1 0, 20, .inl (upd (T.1 18) x v))))) H) : ∃ (T1 : Sd) (M1 : Mp), T1 = (u2 T.1 18 x v, T.2) ∧ WA G S T1 th o ex ad M1 ∧ Hm G M1 H := ⟨_, _, rfl, w_qr hw x v, hM⟩
theorem qa19 {G : Gx} {S T : Sd} {th : Int32} {o : Int64} {ex : Nat → Option (Nat × Nat)} {ad : Nat → Nat → Nat} {M : Mp} (hw : WA G S T th o ex ad M) : M (ad 19 0) = some (.inl (G.2.1 0, 6, .inl (T.1 19))) := hw.1 19 0 _ rfl
theorem qs19 {G : Gx} {S T : Sd} {th : Int32} {o : Int64} {ex : Nat → Option (Nat × Nat)} {ad : Nat → Nat → Nat} {M : Mp} (hw : WA G S T th o ex ad M) {x : Nat} {v : Int32} {H : Heap} (hM : Hm G (va_up M (ad 19 0) (some (.inl (G.2.1 0, 6, .inl (upd (T.1 19) x v))))) H) : ∃ (T1 : Sd) (M1 : Mp), T1 = (u2 T.1 19 x v, T.2) ∧ WA G S T1 th o ex ad M1 ∧ Hm G M1 H := ⟨_, _, rfl, w_qm hw x v, hM⟩
theorem qa22 {G : Gx} {S T : Sd} {th : Int32} {o : Int64} {ex : Nat → Option (Nat × Nat)} {ad : Nat → Nat → Nat} {M : Mp} (hw : WA G S T th o ex ad M) : M (ad 22 0) = some (.inl (G.2.1 0, 3, .inl (T.1 22))) := hw.1 22 0 _ rfl
theorem qs22 {G : Gx} {S T : Sd} {th : Int32} {o : Int64} {ex : Nat → Option (Nat × Nat)} {ad : Nat → Nat → Nat} {M : Mp} (hw : WA G S T th o ex ad M) {x : Nat} {v : Int32} {H : Heap} (hM : Hm G (va_up M (ad 22 0) (some (.inl (G.2.1 0, 3, .inl (upd (T.1 22) x v))))) H) : ∃ (T1 : Sd) (M1 : Mp), T1 = (u2 T.1 22 x v, T.2) ∧ WA G S T1 th o ex ad M1 ∧ Hm G M1 H := ⟨_, _, rfl, w_qg hw x v, hM⟩
theorem qa20 {G : Gx} {S T : Sd} {th : Int32} {o : Int64} {ex : Nat → Option (Nat × Nat)} {ad : Nat → Nat → Nat} {M : Mp} (hw : WA G S T th o ex ad M) : M (ad 20 0) = some (.inl (G.2.1 1, 60, .inr (.inl (T.2 0)))) := hw.1 20 0 _ rfl
theorem qs20 {G : Gx} {S T : Sd} {th : Int32} {o : Int64} {ex : Nat → Option (Nat × Nat)} {ad : Nat → Nat → Nat} {M : Mp} (hw : WA G S T th o ex ad M) {x : Nat} {v : Int64} {H : Heap} (hM : Hm G (va_up M (ad 20 0) (some (.inl (G.2.1 1, 60, .inr (.inl (vp_updL (T.2 0) x v)))))) H) : ∃ (T1 : Sd) (M1 : Mp), T1 = (T.1, u2 T.2 0 x v) ∧ WA G S T1 th o ex ad M1 ∧ Hm G M1 H := ⟨_, _, rfl, w_qe hw x v, hM⟩
theorem qa21 {G : Gx} {S T : Sd} {th : Int32} {o : Int64} {ex : Nat → Option (Nat × Nat)} {ad : Nat → Nat → Nat} {M : Mp} (hw : WA G S T th o ex ad M) : M (ad 21 0) = some (.inl (G.2.1 1, 6, .inr (.inl (T.2 1)))) := hw.1 21 0 _ rfl
theorem qs21 {G : Gx} {S T : Sd} {th : Int32} {o : Int64} {ex : Nat → Option (Nat × Nat)} {ad : Nat → Nat → Nat} {M : Mp} (hw : WA G S T th o ex ad M) {x : Nat} {v : Int64} {H : Heap} (hM : Hm G (va_up M (ad 21 0) (some (.inl (G.2.1 1, 6, .inr (.inl (vp_updL (T.2 1) x v)))))) H) : ∃ (T1 : Sd) (M1 : Mp), T1 = (T.1, u2 T.2 1 x v) ∧ WA G S T1 th o ex ad M1 ∧ Hm G M1 H := ⟨_, _, rfl, w_qb hw x v, hM⟩
theorem qa0 {G : Gx} {S T : Sd} {th : Int32} {o : Int64} {ex : Nat → Option (Nat × Nat)} {ad : Nat → Nat → Nat} {M : Mp} (hw : WA G S T th o ex ad M) : M (ad 0 0) = some (.inr (5, [.ref (ad 1 0), .ref (ad 3 0), .ref (ad 5 0), .ref (ad 10 0), .int (S.1 5 0)])) := hw.1 0 0 _ rfl
section KK
variable {p : Program} {l : Launch} {e : Env} {R : Room} {s : State} {m : MethodId} {args : Array Value} {below : List Frame} {meth : Method} {c : Code} {H : Heap} {locs : List Loc} {cells slots : Nat} {Q : State → Prop}
variable {cc : ByteArray} {pc : Nat} {ls : Array Slot} {rest : List Value} {G : Gx} {M : Mp} {H0 : Heap} {a : Nat}
theorem k_iald (hexec : p.tables.exec = Jvm.exec) (hb : c.code = cc) (hC : Cx G s) (hM : Hm G M H) {n : Nat} {f : Nat → Int32} (ha : M a = some (.inl (G.2.1 0, n, .inl f))) {i : Int32} (k : Nat) (hk : i.toNatClampNeg = k ∧ vp_in i n) (hdg : decode cc pc = .ok (.iaload, 1))
    (kk : W p l e R s m args below meth c H locs cells slots Q (F0 m (pc + 1) ls (.int (f k) :: rest))) : W p l e R s m args below meth c H locs cells slots Q (F0 m pc ls (.int i :: .ref a :: rest)) := by
  obtain ⟨h1, h2⟩ := hk
  subst h1
  exact m_iald hexec hb hC hM ha h2 hdg kk
theorem k_lald (hexec : p.tables.exec = Jvm.exec) (hb : c.code = cc) (hC : Cx G s) (hM : Hm G M H) {n : Nat} {f : Nat → Int64} (ha : M a = some (.inl (G.2.1 1, n, .inr (.inl f)))) {i : Int32} (k : Nat) (hk : i.toNatClampNeg = k ∧ vp_in i n) (hdg : decode cc pc = .ok (.laload, 1))
    (kk : W p l e R s m args below meth c H locs cells slots Q (F0 m (pc + 1) ls (.long (f k) :: rest))) : W p l e R s m args below meth c H locs cells slots Q (F0 m pc ls (.int i :: .ref a :: rest)) := by
  obtain ⟨h1, h2⟩ := hk
  subst h1
  exact m_lald hexec hb hC hM ha h2 hdg kk
theorem k_iast (hexec : p.tables.exec = Jvm.exec) (hb : c.code = cc) (hC : Cx G s) (hM : Hm G M H) (hS : va_S (AG G) H0 H locs) {n : Nat} {f : Nat → Int32} (ha : M a = some (.inl (G.2.1 0, n, .inl f))) {i : Int32} {x : Int32} (k : Nat) (hk : i.toNatClampNeg = k ∧ vp_in i n) (hdg : decode cc pc = .ok (.iastore, 1))
    (kk : ∀ (H1 : Heap) (locs1 : List Loc), Hm G (va_up M a (some (.inl (G.2.1 0, n, .inl (upd f k x))))) H1 → va_S (AG G) H0 H1 locs1 → W p l e R s m args below meth c H1 locs1 cells slots Q (F0 m (pc + 1) ls rest)) : W p l e R s m args below meth c H locs cells slots Q (F0 m pc ls (.int x :: .int i :: .ref a :: rest)) := by
  obtain ⟨h1, h2⟩ := hk
  subst h1
  exact m_iast hexec hb hC hM hS ha h2 hdg kk
theorem k_last (hexec : p.tables.exec = Jvm.exec) (hb : c.code = cc) (hC : Cx G s) (hM : Hm G M H) (hS : va_S (AG G) H0 H locs) {n : Nat} {f : Nat → Int64} (ha : M a = some (.inl (G.2.1 1, n, .inr (.inl f)))) {i : Int32} {x : Int64} (k : Nat) (hk : i.toNatClampNeg = k ∧ vp_in i n) (hdg : decode cc pc = .ok (.lastore, 1))
    (kk : ∀ (H1 : Heap) (locs1 : List Loc), Hm G (va_up M a (some (.inl (G.2.1 1, n, .inr (.inl (vp_updL f k x)))))) H1 → va_S (AG G) H0 H1 locs1 → W p l e R s m args below meth c H1 locs1 cells slots Q (F0 m (pc + 1) ls rest)) : W p l e R s m args below meth c H locs cells slots Q (F0 m pc ls (.long x :: .int i :: .ref a :: rest)) := by
  obtain ⟨h1, h2⟩ := hk
  subst h1
  exact m_last hexec hb hC hM hS ha h2 hdg kk
end KK
theorem ix_lit {i : Int32} {k n : Nat} (h : i = nI k) (hk : k < n) (hn : n < 2 ^ 31) : i.toNatClampNeg = k ∧ vp_in i n := by
  subst h
  exact ⟨nI_clamp (by omega), vp_in_nI hk hn⟩
