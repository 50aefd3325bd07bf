/-! WHAT KEEPS THE RELATION -/
theorem uu {α : Type} {f : Nat → Nat → α} {b : Nat} {v : α} (k a : Nat) (h : ¬ k = a) : u2 f a b v k = f k := u2r h
theorem stP_o {S : Sd} {d n a b : Nat} (h : ¬ a = 1) : (stP S d n).2 a b = S.2 a b := by
  show (if a = 1 ∧ b < n then S.2 1 b + S.2 0 (25 * d + b) else S.2 a b) = S.2 a b
  exact if_neg (fun z => h z.1)
section TR
variable {S T T' : Sd}
theorem mny_c (k : Nat) (hk : k < 3) : (mny k = 0 ∧ k = 0) ∨ (mny k = 1 ∧ k = 1) ∨ (mny k = 4 ∧ k = 2) := by
  rcases (show k = 0 ∨ k = 1 ∨ k = 2 by omega) with rfl | rfl | rfl
  · exact Or.inl ⟨rfl, rfl⟩
  · exact Or.inr (Or.inl ⟨rfl, rfl⟩)
  · exact Or.inr (Or.inr ⟨rfl, rfl⟩)
theorem rl_m0 (hR : Rel S T) {c : Nat} (hc : c < 2) {x : Int32} (h1 : 1 ≤ x.toInt) (h2 : x.toInt ≤ 100000) (e : T' = (u2 T.1 19 c x, T.2)) : Rel (u2 S.1 1 c x, S.2) T' := by
  subst e
  obtain ⟨a, b, d, h, r, q⟩ := hR
  have oS : ∀ k, ¬ k = 1 → u2 S.1 1 c x k = S.1 k := fun k h => u2r h
  have oT : ∀ k, ¬ k = 19 → u2 T.1 19 c x k = T.1 k := fun k h => u2r h
  refine ⟨rg_to a (oS 0 (by decide)) (oS 5 (by decide)) (oT 22 (by decide)), ?_, rd_to d (by show u2 S.1 1 c x 5 0 = _; rw [u2r (by decide)]) (fun k _ _ j _ => by show u2 S.1 1 c x k j = _; rw [u2r (by omega)]) (fun k _ _ j _ => by show u2 T.1 19 c x k j = _; rw [u2r (by omega)]), rh_to h (oS 0 (by decide)) (oS 4 (by decide)) (by show u2 T.1 19 c x 22 2 = _; rw [u2r (by decide)]), re_to r (oS 0 (by decide)) rfl rfl, rb_to q rfl rfl rfl⟩
  intro c' hc'
  have hb := b c' hc'
  show (u2 T.1 19 c x 19 c' = u2 S.1 1 c x 1 c' ∧ u2 T.1 19 c x 19 (2 + c') = u2 S.1 1 c x 2 c' ∧ u2 T.1 19 c x 19 (4 + c') = u2 S.1 1 c x 3 c') ∧ (1 ≤ (u2 S.1 1 c x 1 c').toInt ∧ (u2 S.1 1 c x 1 c').toInt ≤ 100000) ∧ (-50 ≤ (u2 S.1 1 c x 2 c').toInt ∧ (u2 S.1 1 c x 2 c').toInt ≤ 50)
  rw [u2_n (f := T.1) (x := 19) (y := 2 + c') (by omega), u2_n (f := T.1) (x := 19) (y := 4 + c') (by omega), u2r (f := S.1) (x := 2) (by decide), u2r (f := S.1) (x := 3) (by decide)]
  by_cases z : c' = c
  · subst z
    rw [u2_s, u2_s]
    exact ⟨⟨rfl, hb.1.2⟩, ⟨h1, h2⟩, hb.2.2⟩
  · rw [u2_n (f := T.1) (fun y => z y.2), u2_n (f := S.1) (fun y => z y.2)]
    exact hb
theorem rl_m1 (hR : Rel S T) {c : Nat} (hc : c < 2) {x : Int32} (h1 : -50 ≤ x.toInt) (h2 : x.toInt ≤ 50) (e : T' = (u2 T.1 19 (2 + c) x, T.2)) : Rel (u2 S.1 2 c x, S.2) T' := by
  subst e
  obtain ⟨a, b, d, h, r, q⟩ := hR
  have oS : ∀ k, ¬ k = 2 → u2 S.1 2 c x k = S.1 k := fun k h => u2r h
  have oT : ∀ k, ¬ k = 19 → u2 T.1 19 (2 + c) x k = T.1 k := fun k h => u2r h
  refine ⟨rg_to a (oS 0 (by decide)) (oS 5 (by decide)) (oT 22 (by decide)), ?_, rd_to d (by show u2 S.1 2 c x 5 0 = _; rw [u2r (by decide)]) (fun k _ _ j _ => by show u2 S.1 2 c x k j = _; rw [u2r (by omega)]) (fun k _ _ j _ => by show u2 T.1 19 (2 + c) x k j = _; rw [u2r (by omega)]), rh_to h (oS 0 (by decide)) (oS 4 (by decide)) (by show u2 T.1 19 (2 + c) x 22 2 = _; rw [u2r (by decide)]), re_to r (oS 0 (by decide)) rfl rfl, rb_to q rfl rfl rfl⟩
  intro c' hc'
  have hb := b c' hc'
  show (u2 T.1 19 (2 + c) x 19 c' = u2 S.1 2 c x 1 c' ∧ u2 T.1 19 (2 + c) x 19 (2 + c') = u2 S.1 2 c x 2 c' ∧ u2 T.1 19 (2 + c) x 19 (4 + c') = u2 S.1 2 c x 3 c') ∧ (1 ≤ (u2 S.1 2 c x 1 c').toInt ∧ (u2 S.1 2 c x 1 c').toInt ≤ 100000) ∧ (-50 ≤ (u2 S.1 2 c x 2 c').toInt ∧ (u2 S.1 2 c x 2 c').toInt ≤ 50)
  rw [u2_n (f := T.1) (x := 19) (y := c') (by omega), u2_n (f := T.1) (x := 19) (y := 4 + c') (by omega), u2r (f := S.1) (x := 1) (by decide), u2r (f := S.1) (x := 3) (by decide)]
  by_cases z : c' = c
  · subst z
    rw [u2_s, u2_s]
    exact ⟨⟨hb.1.1, rfl, hb.1.2.2⟩, hb.2.1, h1, h2⟩
  · rw [u2_n (f := T.1) (by omega), u2_n (f := S.1) (fun y => z y.2)]
    exact hb
theorem rl_m2 (hR : Rel S T) {c : Nat} (hc : c < 2) {x : Int32} {y : Int64} (e : T' = (u2 T.1 19 (4 + c) x, T.2)) : Rel (u2 S.1 3 c x, u2 S.2 2 c y) T' := by
  subst e
  obtain ⟨a, b, d, h, r, q⟩ := hR
  have oS : ∀ k, ¬ k = 3 → u2 S.1 3 c x k = S.1 k := fun k h => u2r h
  have oT : ∀ k, ¬ k = 19 → u2 T.1 19 (4 + c) x k = T.1 k := fun k h => u2r h
  have o2 : ∀ k, ¬ k = 2 → u2 S.2 2 c y k = S.2 k := fun k h => u2r h
  refine ⟨rg_to a (oS 0 (by decide)) (oS 5 (by decide)) (oT 22 (by decide)), ?_, rd_to d (by show u2 S.1 3 c x 5 0 = _; rw [u2r (by decide)]) (fun k _ _ j _ => by show u2 S.1 3 c x k j = _; rw [u2r (by omega)]) (fun k _ _ j _ => by show u2 T.1 19 (4 + c) x k j = _; rw [u2r (by omega)]), rh_to h (oS 0 (by decide)) (oS 4 (by decide)) (by show u2 T.1 19 (4 + c) x 22 2 = _; rw [u2r (by decide)]), re_to r (oS 0 (by decide)) (o2 0 (by decide)) rfl, rb_to q (o2 1 (by decide)) (o2 0 (by decide)) rfl⟩
  intro c' hc'
  have hb := b c' hc'
  show (u2 T.1 19 (4 + c) x 19 c' = u2 S.1 3 c x 1 c' ∧ u2 T.1 19 (4 + c) x 19 (2 + c') = u2 S.1 3 c x 2 c' ∧ u2 T.1 19 (4 + c) x 19 (4 + c') = u2 S.1 3 c x 3 c') ∧ (1 ≤ (u2 S.1 3 c x 1 c').toInt ∧ (u2 S.1 3 c x 1 c').toInt ≤ 100000) ∧ (-50 ≤ (u2 S.1 3 c x 2 c').toInt ∧ (u2 S.1 3 c x 2 c').toInt ≤ 50)
  rw [u2_n (f := T.1) (x := 19) (y := c') (by omega), u2_n (f := T.1) (x := 19) (y := 2 + c') (by omega), u2r (f := S.1) (x := 1) (by decide), u2r (f := S.1) (x := 2) (by decide)]
  by_cases z : c' = c
  · subst z
    rw [u2_s, u2_s]
    exact ⟨⟨hb.1.1, hb.1.2.1, rfl⟩, hb.2⟩
  · rw [u2_n (f := T.1) (by omega), u2_n (f := S.1) (fun y => z y.2)]
    exact hb
theorem tg_bt (w j : Nat) : tg (nI (bt w j)) = nI (1 - bt w j) := by
  rcases bt_01 w j with h | h <;> rw [h] <;> decide
theorem rl_m3 (hR : Rel S T) {j : Nat} (h1 : 1 ≤ j) (h9 : j < 10) (hd : tdy S + j ≤ 1000) (hc : cn (wT T) - bt (wT T) j ≤ 2 ∨ bt (wT T) j = 1) (e : T' = (u2 T.1 22 2 (nI (fx (wT T) j)), T.2)) :
    Rel (u2 S.1 4 (tdy S + j) (tg (S.1 4 (tdy S + j))), S.2) T' ∧ tg (S.1 4 (tdy S + j)) = nI (bt (fx (wT T) j) j) ∧ fx (wT T) j < 1024 := by
  subst e
  obtain ⟨a, b, d, ⟨k1, k2, k3, k4, k5⟩, r, q⟩ := hR
  obtain ⟨f1, f2, f3⟩ := fx_ok k2 h9 h1 hc
  have ev : tg (S.1 4 (tdy S + j)) = nI (bt (fx (wT T) j) j) := by rw [k3 j h1 h9, tg_bt, f2]
  have ew : wT (u2 T.1 22 2 (nI (fx (wT T) j)), T.2) = fx (wT T) j := by
    show (u2 T.1 22 2 (nI (fx (wT T) j)) 22 2).toNatClampNeg = _
    have := f1.1
    rw [u2_s, nI_clamp (by omega)]
  have oS : ∀ k, ¬ k = 4 → u2 S.1 4 (tdy S + j) (tg (S.1 4 (tdy S + j))) k = S.1 k := fun k h => u2r h
  have oT : ∀ k, ¬ k = 22 → u2 T.1 22 2 (nI (fx (wT T) j)) k = T.1 k := fun k h => u2r h
  have o3 : ∀ i, ¬ i = 2 → u2 T.1 22 2 (nI (fx (wT T) j)) 22 i = T.1 22 i := fun i h => u2_n (fun z => h z.2)
  have o4 : u2 T.1 22 2 (nI (fx (wT T) j)) 22 2 = nI (fx (wT T) j) := u2_s
  refine ⟨⟨⟨?_, ?_⟩, rm_to b (oS 1 (by decide)) (oS 2 (by decide)) (oS 3 (by decide)) (oT 19 (by decide)), rd_to d (congrFun (oS 5 (by decide)) 0) (fun k _ _ i _ => congrFun (oS k (by omega)) i) (fun k _ _ i _ => congrFun (oT k (by omega)) i), ⟨?_, ?_, ?_, ?_, ?_⟩, re_to r (oS 0 (by decide)) rfl rfl, rb_to q rfl rfl rfl⟩, ev, f1.1⟩
  · exact (o3 0 (by decide)).trans (a.1.trans (congrFun (oS 0 (by decide)) 0).symm)
  · exact (o3 1 (by decide)).trans (a.2.trans (congrFun (oS 5 (by decide)) 0).symm)
  · rw [ew]
    exact o4
  · rw [ew]; exact f1
  · intro i hi1 hi9
    rw [ew]
    show u2 S.1 4 (tdy S + j) (tg (S.1 4 (tdy S + j))) 4 (u2 S.1 4 (tdy S + j) (tg (S.1 4 (tdy S + j))) 0 0 |>.toNatClampNeg |> (· + i)) = _
    rw [u2r (f := S.1) (x := 0) (by decide)]
    show u2 S.1 4 (tdy S + j) (tg (S.1 4 (tdy S + j))) 4 (tdy S + i) = _
    by_cases z : i = j
    · subst z
      rw [u2_s, ev]
    · rw [u2_n (by omega), f3 i hi9 z]
      exact k3 i hi1 hi9
  · intro i hi
    have et : tdy (u2 S.1 4 (tdy S + j) (tg (S.1 4 (tdy S + j))), S.2) = tdy S := by
      show (u2 S.1 4 (tdy S + j) (tg (S.1 4 (tdy S + j))) 0 0).toNatClampNeg = _
      rw [u2r (by decide)]
      rfl
    rw [et] at hi
    show u2 S.1 4 (tdy S + j) (tg (S.1 4 (tdy S + j))) 4 i = 0
    rw [u2_n (by omega)]
    exact k4 i hi
  · intro i hi
    show u2 S.1 4 (tdy S + j) (tg (S.1 4 (tdy S + j))) 4 i = 0
    rw [u2_n (by omega)]
    exact k5 i hi
/-- a booking -/
theorem re_bk (h : Re S T) {c k s : Nat} (hc : c < 2) (hk : k < 3) (h1 : 1 ≤ s) (h9 : s < 10) (x : Int64) : Re (bk S c (mny k) (tdy S + s) x) (T.1, u2 T.2 0 (6 * ((tdy S + s) % 10) + 3 * c + k) (T.2 0 (6 * ((tdy S + s) % 10) + 3 * c + k) + x)) := by
  obtain ⟨a, b, d⟩ := h
  have hm := mny_c k hk
  refine ⟨fun c' k' i hc' hk' hi1 hi9 => ?_, fun c' k' hc' hk' => ?_, fun c' k' d' hc' hk' hd' => ?_⟩
  · show u2 T.2 0 (6 * ((tdy S + s) % 10) + 3 * c + k) _ 0 (6 * ((tdy S + i) % 10) + 3 * c' + k') = u2 S.2 0 (5 * (5 * (tdy S + s) + c) + mny k) _ 0 (5 * (5 * (tdy S + i) + c') + mny k')
    have hm' := mny_c k' hk'
    by_cases z : c' = c ∧ k' = k ∧ i = s
    · obtain ⟨rfl, rfl, rfl⟩ := z
      rw [u2_s, u2_s, a c' k' i hc' hk' hi1 hi9]
    · rw [u2_n (by omega), u2_n (by omega)]
      exact a c' k' i hc' hk' hi1 hi9
  · show u2 T.2 0 (6 * ((tdy S + s) % 10) + 3 * c + k) _ 0 (6 * (tdy S % 10) + 3 * c' + k') = 0
    rw [u2_n (by omega)]
    exact b c' k' hc' hk'
  · show u2 S.2 0 (5 * (5 * (tdy S + s) + c) + mny k) _ 0 (5 * (5 * d' + c') + mny k') = 0
    have hm' := mny_c k' hk'
    have hd2 : tdy S + 10 ≤ d' := hd'
    rw [u2_n (by omega)]
    exact d c' k' d' hc' hk' hd2
theorem rb_bk (h : Rb S T) {c k d : Nat} (hc : c < 2) (hk : k < 3) (x : Int64) {T' : Sd} (ht : T'.2 1 = T.2 1) : Rb (bk S c (mny k) d x) T' := by
  obtain ⟨a, b, e⟩ := h
  have hm := mny_c k hk
  have oB : ∀ q, ¬ q = 0 → u2 S.2 0 (5 * (5 * d + c) + mny k) (S.2 0 (5 * (5 * d + c) + mny k) + x) q = S.2 q := fun q h => u2r h
  refine ⟨fun c' k' hc' hk' => ?_, (congrFun (oB 1 (by decide)) 14).trans b, fun d' => ?_⟩
  · rw [ht]
    exact (a c' k' hc' hk').trans (congrFun (oB 1 (by decide)) _).symm
  · show u2 S.2 0 (5 * (5 * d + c) + mny k) (S.2 0 (5 * (5 * d + c) + mny k) + x) 0 (5 * (5 * d' + 2) + 4) = 0
    rw [u2_n (by omega)]
    exact e d'
theorem rl_bk (hR : Rel S T) (hi : Iv S) {c k : Nat} (hc : c < 2) (hk : k < 3) (x : Int64) : Rel (bk S c (mny k) (sn S) x) (owT T c k x) := by
  have hs := tg_st (rl_tg hR hi)
  have e1 := rl_tT hR
  obtain ⟨a, b, d, h, r, q⟩ := id hR
  have r2 := re_bk r hc hk hs.1 (by omega) x
  refine ⟨a, b, d, h, ?_, ?_⟩
  · rw [rl_sn hR hi]
    unfold owT ei
    rw [e1]
    exact r2
  · exact rb_bk q hc hk x (by show u2 T.2 0 (ei T c k) (T.2 0 (ei T c k) + x) 1 = T.2 1; exact u2r (by decide))
/-- what is left of a deal -/
theorem rl_left (hR : Rel S T) (j : Nat) (v : Int32) (hv : v.toInt ≤ 1000000) : Rel (u2 S.1 9 j v, S.2) (u2 T.1 15 j v, T.2) := by
  obtain ⟨a, b, d, h, r, q⟩ := hR
  have oS : ∀ k, ¬ k = 9 → u2 S.1 9 j v k = S.1 k := fun k h => u2r h
  have oT : ∀ k, ¬ k = 15 → u2 T.1 15 j v k = T.1 k := fun k h => u2r h
  refine ⟨rg_to a (oS 0 (by decide)) (oS 5 (by decide)) (oT 22 (by decide)), rm_to b (oS 1 (by decide)) (oS 2 (by decide)) (oS 3 (by decide)) (oT 19 (by decide)), ?_, rh_to h (oS 0 (by decide)) (oS 4 (by decide)) (by show u2 T.1 15 j v 22 2 = _; rw [u2r (by decide)]), re_to r (oS 0 (by decide)) rfl rfl, rb_to q rfl rfl rfl⟩
  intro i hi
  have hi2 : i < ndl S := by
    have e : ndl (u2 S.1 9 j v, S.2) = ndl S := by
      show (u2 S.1 9 j v 5 0).toNatClampNeg = _
      rw [u2r (by decide)]
      rfl
    rw [e] at hi
    exact hi
  obtain ⟨⟨h1, h2⟩, h3, h4, h5, h6, h7, h8⟩ := d i hi2
  show (((u2 S.1 9 j v 6 i).toNatClampNeg < 2 ∧ (u2 S.1 9 j v 7 i).toNatClampNeg < 2) ∧ u2 T.1 15 j v 14 i = dcd (u2 S.1 9 j v 6 i).toNatClampNeg (u2 S.1 9 j v 7 i).toNatClampNeg (u2 S.1 9 j v 8 i) ∧ u2 T.1 15 j v 15 i = u2 S.1 9 j v 9 i ∧ u2 T.1 15 j v 16 i = u2 S.1 9 j v 11 i ∧ u2 T.1 15 j v 17 i = u2 S.1 9 j v 12 i ∧ u2 T.1 15 j v 18 i = u2 S.1 9 j v 10 i ∧ 1 ≤ (u2 S.1 9 j v 10 i).toInt ∧ (u2 S.1 9 j v 9 i).toInt ≤ 1000000 ∧ 0 ≤ (u2 S.1 9 j v 11 i).toInt ∧ (u2 S.1 9 j v 11 i).toInt ≤ 1400)
  rw [u2r (f := S.1) (x := 6) (by decide), u2r (f := S.1) (x := 7) (by decide), u2r (f := S.1) (x := 8) (by decide), u2r (f := S.1) (x := 11) (by decide), u2r (f := S.1) (x := 12) (by decide), u2r (f := S.1) (x := 10) (by decide), u2r (f := T.1) (x := 14) (by decide), u2r (f := T.1) (x := 16) (by decide), u2r (f := T.1) (x := 17) (by decide), u2r (f := T.1) (x := 18) (by decide)]
  refine ⟨⟨h1, h2⟩, h3, ?_, h5, h6, h7, h8.1, ?_, h8.2.2⟩
  · by_cases z : i = j
    · subst z; rw [u2_s, u2_s]
    · rw [u2_n (fun y => z y.2), u2_n (fun y => z y.2)]; exact h4
  · by_cases z : i = j
    · subst z; rw [u2_s]; exact hv
    · rw [u2_n (fun y => z y.2)]; exact h8.2.1
theorem ow_15 (j : Nat) (v : Int32) (c k : Nat) (x : Int64) : owT (u2 T.1 15 j v, T.2) c k x = (u2 (owT T c k x).1 15 j v, (owT T c k x).2) := by
  have e : ei (u2 T.1 15 j v, T.2) c k = ei T c k := by
    unfold ei tT sT tT wT
    show 6 * (((u2 T.1 15 j v 22 0).toNatClampNeg + stw (u2 T.1 15 j v 22 0).toNatClampNeg (u2 T.1 15 j v 22 2).toNatClampNeg) % 10) + 3 * c + k = _
    rw [u2r (by decide)]
  show (u2 T.1 15 j v, u2 T.2 0 (ei (u2 T.1 15 j v, T.2) c k) (T.2 0 (ei (u2 T.1 15 j v, T.2) c k) + x)) = (u2 T.1 15 j v, u2 T.2 0 (ei T c k) (T.2 0 (ei T c k) + x))
  rw [e]
/-- closed out -/
theorem rl_ed (hR : Rel S T) (hi : Iv S) {j : Nat} (hj : j < ndl S) : Rel (edS S j) (u2 (owT T (cus S j) 2 (mg S j)).1 15 j 0, (owT T (cus S j) 2 (mg S j)).2) := rl_left (rl_bk hR hi (rl_j hR hj).1.1 (by decide : 2 < 3) (mg S j)) j 0 (by decide)
/-- drawn -/
theorem rl_dr (hR : Rel S T) (hi : Iv S) {j : Nat} (hj : j < ndl S) {x v : Int32} {v1 v2 : Int64} (hx : 1 ≤ x ∧ x ≤ S.1 9 j) (ev : v = S.1 9 j - x) (e1 : v1 = if S.1 8 j = 0 then (-x).toInt64 else x.toInt64) (e2 : v2 = if S.1 8 j = 0 then hom x (drt S j) else -hom x (drt S j)) :
    Rel (dr3 S j x) (owT (owT (u2 T.1 15 j v, T.2) (cus S j) (cuy S j) v1) (cus S j) 2 v2) := by
  obtain ⟨h1, h2⟩ := (rl_j hR hj).1
  have ey : mny (cuy S j) = cuy S j := by unfold mny; rw [if_neg (by omega)]
  have r1 := rl_bk hR hi h1 (k := cuy S j) (by omega) v1
  rw [ey] at r1
  have r2 := rl_bk r1 (iv_bk hi _ _ _ _) h1 (k := 2) (by decide) v2
  have hv : v.toInt ≤ 1000000 := by
    have q1 := Int32.le_iff_toInt_le.mp hx.1
    have q2 := Int32.le_iff_toInt_le.mp hx.2
    have q3 : (1 : Int32).toInt = 1 := rfl
    have q4 := (rl_j hR hj).2.2.2.2.2.2.2.1
    rw [ev, i_sub (by omega) (by omega)]
    omega
  have r3 := rl_left r2 j v hv
  rw [ow_15, ow_15]
  subst ev e1 e2
  exact r3
/-- a window moved -/
theorem rl_win (hR : Rel S T) {j : Nat} {a b r : Int32} (hr : 1 ≤ r.toInt) (ha : 0 ≤ a.toInt ∧ a.toInt ≤ 1400) (h2 : T'.2 = T.2) (h14 : T'.1 14 = T.1 14) (h15 : T'.1 15 = T.1 15) (h19 : T'.1 19 = T.1 19) (h22 : T'.1 22 = T.1 22) (h16 : ∀ i, T'.1 16 i = if i = j then a else T.1 16 i) (h17 : ∀ i, T'.1 17 i = if i = j then b else T.1 17 i) (h18 : ∀ i, T'.1 18 i = if i = j then r else T.1 18 i) : Rel (u2 (u2 (u2 S.1 11 j a) 12 j b) 10 j r, S.2) T' := by
  have o : ∀ k, ¬ k = 10 → ¬ k = 11 → ¬ k = 12 → u2 (u2 (u2 S.1 11 j a) 12 j b) 10 j r k = S.1 k := fun k p q s => by rw [u2r p, u2r s, u2r q]
  obtain ⟨g, m, d, h, e, q⟩ := hR
  refine ⟨rg_to g (o 0 (by decide) (by decide) (by decide)) (o 5 (by decide) (by decide) (by decide)) h22, rm_to m (o 1 (by decide) (by decide) (by decide)) (o 2 (by decide) (by decide) (by decide)) (o 3 (by decide) (by decide) (by decide)) h19, ?_, rh_to h (o 0 (by decide) (by decide) (by decide)) (o 4 (by decide) (by decide) (by decide)) (by rw [h22]), re_to e (o 0 (by decide) (by decide) (by decide)) rfl (by rw [h2]), rb_to q rfl rfl (by rw [h2])⟩
  intro i hi
  have hi2 : i < ndl S := by
    have e : ndl (u2 (u2 (u2 S.1 11 j a) 12 j b) 10 j r, S.2) = ndl S := by
      show (u2 (u2 (u2 S.1 11 j a) 12 j b) 10 j r 5 0).toNatClampNeg = _
      rw [o 5 (by decide) (by decide) (by decide)]
      rfl
    rw [e] at hi
    exact hi
  obtain ⟨⟨h1, h2⟩, h3, h4, h5, h6, h7, h8⟩ := d i hi2
  show (((u2 (u2 (u2 S.1 11 j a) 12 j b) 10 j r 6 i).toNatClampNeg < 2 ∧ (u2 (u2 (u2 S.1 11 j a) 12 j b) 10 j r 7 i).toNatClampNeg < 2) ∧ T'.1 14 i = dcd (u2 (u2 (u2 S.1 11 j a) 12 j b) 10 j r 6 i).toNatClampNeg (u2 (u2 (u2 S.1 11 j a) 12 j b) 10 j r 7 i).toNatClampNeg (u2 (u2 (u2 S.1 11 j a) 12 j b) 10 j r 8 i) ∧ T'.1 15 i = u2 (u2 (u2 S.1 11 j a) 12 j b) 10 j r 9 i ∧ T'.1 16 i = u2 (u2 (u2 S.1 11 j a) 12 j b) 10 j r 11 i ∧ T'.1 17 i = u2 (u2 (u2 S.1 11 j a) 12 j b) 10 j r 12 i ∧ T'.1 18 i = u2 (u2 (u2 S.1 11 j a) 12 j b) 10 j r 10 i ∧ 1 ≤ (u2 (u2 (u2 S.1 11 j a) 12 j b) 10 j r 10 i).toInt ∧ (u2 (u2 (u2 S.1 11 j a) 12 j b) 10 j r 9 i).toInt ≤ 1000000 ∧ 0 ≤ (u2 (u2 (u2 S.1 11 j a) 12 j b) 10 j r 11 i).toInt ∧ (u2 (u2 (u2 S.1 11 j a) 12 j b) 10 j r 11 i).toInt ≤ 1400)
  rw [o 6 (by decide) (by decide) (by decide), o 7 (by decide) (by decide) (by decide), o 8 (by decide) (by decide) (by decide), o 9 (by decide) (by decide) (by decide), h14, h15, h16, h17, h18, u2r (f := u2 (u2 S.1 11 j a) 12 j b) (x := 11) (by decide), u2r (f := u2 S.1 11 j a) (x := 11) (by decide), u2r (f := u2 (u2 S.1 11 j a) 12 j b) (x := 12) (by decide)]
  refine ⟨⟨h1, h2⟩, h3, h4, ?_⟩
  by_cases z : i = j
  · subst z
    rw [if_pos rfl, if_pos rfl, if_pos rfl, u2_s, u2_s, u2_s]
    exact ⟨rfl, rfl, rfl, hr, h8.2.1, ha⟩
  · rw [if_neg z, if_neg z, if_neg z, u2_n (fun y => z y.2), u2_n (fun y => z y.2), u2_n (fun y => z y.2), u2_n (fun y => z y.2), u2_n (fun y => z y.2), u2_n (fun y => z y.2)]
    exact ⟨h5, h6, h7, h8⟩
/-- a new deal -/
theorem rl_nd (hR : Rel S T) (hi : Iv S) (h20 : S.1 5 0 < 20) {c y : Nat} (hc : c < 2) (hy : y < 2) {bu am f z : Int32} (hbu : bu = 0 ∨ bu = 1) (ham : am.toInt ≤ 1000000) (hf : 0 ≤ (S.1 0 0 + f).toInt ∧ (S.1 0 0 + f).toInt ≤ 1400) (h2 : T'.2 = T.2) (h19 : T'.1 19 = T.1 19) (g0 : T'.1 22 0 = T.1 22 0) (g1 : T'.1 22 1 = S.1 5 0 + 1) (g2 : T'.1 22 2 = T.1 22 2)
    (h14 : ∀ i, T'.1 14 i = if i = ndl S then dcd c y bu else T.1 14 i) (h15 : ∀ i, T'.1 15 i = if i = ndl S then am else T.1 15 i) (h16 : ∀ i, T'.1 16 i = if i = ndl S then S.1 0 0 + f else T.1 16 i) (h17 : ∀ i, T'.1 17 i = if i = ndl S then S.1 0 0 + z else T.1 17 i) (h18 : ∀ i, T'.1 18 i = if i = ndl S then nrt S (nI y) z else T.1 18 i) : Rel (ndS S (nI c) (nI y) bu am f z) T' := by
  have lo : ∀ k, k < 5 → (ndS S (nI c) (nI y) bu am f z).1 k = S.1 k := fun k hk => nd_lo hk
  have e5 : (ndS S (nI c) (nI y) bu am f z).1 5 0 = S.1 5 0 + 1 := by
    show u2 (gbV S (nI c) (nI y) bu am (S.1 0 0 + f) (S.1 0 0 + z) (nrt S (nI y) z)) 5 0 (S.1 5 0 + 1) 5 0 = _
    exact u2_s
  obtain ⟨g, m, d, h, e, q⟩ := hR
  refine ⟨⟨by rw [g0, lo 0 (by decide)]; exact g.1, by rw [g1, e5]⟩, rm_to m (lo 1 (by decide)) (lo 2 (by decide)) (lo 3 (by decide)) h19, ?_, rh_to h (lo 0 (by decide)) (lo 4 (by decide)) g2, re_to e (lo 0 (by decide)) rfl (by rw [h2]), rb_to q rfl rfl (by rw [h2])⟩
  intro i hi2
  rw [nd_n hi h20] at hi2
  by_cases w : i = ndl S
  · subst w
    unfold Rj cus cuy
    rw [nd_hi (by decide), nd_hi (by decide), nd_hi (by decide), nd_hi (by decide), nd_hi (by decide), nd_hi (by decide), nd_hi (by decide), gb6, gb7, gb8, gb9, gb10, gb11, gb12, h14, h15, h16, h17, h18, if_pos rfl, if_pos rfl, if_pos rfl, if_pos rfl, if_pos rfl, nI_clamp (by omega), nI_clamp (by omega)]
    exact ⟨⟨hc, hy⟩, rfl, rfl, rfl, rfl, rfl, al1_p _, ham, hf⟩
  · refine rj_to (d i (by omega)) (fun k h1 h2 => nd_o (by omega) w) (fun k h1 h2 => ?_)
    rcases (show k = 14 ∨ k = 15 ∨ k = 16 ∨ k = 17 ∨ k = 18 by omega) with rfl | rfl | rfl | rfl | rfl
    · rw [h14, if_neg w]
    · rw [h15, if_neg w]
    · rw [h16, if_neg w]
    · rw [h17, if_neg w]
    · rw [h18, if_neg w]
/-- the law's arrays changed behind the deals alone -/
theorem rl_same (hR : Rel S T) (h2 : T'.2 = T.2) (h19 : T'.1 19 = T.1 19) (g : ∀ i, i < 3 → T'.1 22 i = T.1 22 i) (h : ∀ k, 14 ≤ k → k ≤ 18 → ∀ i, i < ndl S → T'.1 k i = T.1 k i) : Rel S T' := by
  obtain ⟨a, b, d, k, r, q⟩ := hR
  exact ⟨⟨by rw [g 0 (by decide)]; exact a.1, by rw [g 1 (by decide)]; exact a.2⟩, rm_to b rfl rfl rfl h19, rd_to d rfl (fun _ _ _ _ _ => rfl) h, rh_to k rfl rfl (g 2 (by decide)), re_to r rfl rfl (by rw [h2]), rb_to q rfl rfl (by rw [h2])⟩
/-- a day passes, behind the deals that end -/
theorem rl_day (hR : Rel S T) (hi : Iv S) (g0 : T'.1 22 0 = S.1 0 0 + 1) (g1 : T'.1 22 1 = T.1 22 1) (g2 : T'.1 22 2 = nI (sw (wT T))) (hk : ∀ k, ¬ k = 22 → T'.1 k = T.1 k)
    (hb : ∀ c k, c < 2 → k < 3 → T'.2 1 (3 * c + k) = T.2 1 (3 * c + k) + T.2 0 (6 * ((tdy S + 1) % 10) + 3 * c + k)) (h0 : ∀ c k, c < 2 → k < 3 → T'.2 0 (6 * ((tdy S + 1) % 10) + 3 * c + k) = 0) (he : ∀ x c k, x < 10 → ¬ x = (tdy S + 1) % 10 → c < 2 → k < 3 → T'.2 0 (6 * x + 3 * c + k) = T.2 0 (6 * x + 3 * c + k)) :
    Rel (stP (u2 S.1 0 0 (S.1 0 0 + 1), S.2) (S.1 0 0 + 1).toNatClampNeg 25) T' := by
  obtain ⟨g, m, d, ⟨k1, k2, k3, k4, k5⟩, ⟨r1, r2, r3⟩, q1, q2, q3⟩ := hR
  have ht := tdy_le hi
  have et : S.1 0 0 + 1 = nI (tdy S + 1) := by rw [tdy_i hi]; exact nI_1 _
  have ed : (S.1 0 0 + 1).toNatClampNeg = tdy S + 1 := by rw [et, nI_clamp (by omega)]
  have e0 : tdy (stP (u2 S.1 0 0 (S.1 0 0 + 1), S.2) (S.1 0 0 + 1).toNatClampNeg 25) = tdy S + 1 := by
    show (u2 S.1 0 0 (S.1 0 0 + 1) 0 0).toNatClampNeg = _
    rw [u2_s, ed]
  obtain ⟨w1, w2, w3⟩ := sw_ok k2
  have ew : wT T' = sw (wT T) := by
    unfold wT at w1 ⊢
    rw [g2]
    have := w1.1
    unfold wT
    rw [nI_clamp (by omega)]
  have s0 : ∀ x, (stP (u2 S.1 0 0 (S.1 0 0 + 1), S.2) (S.1 0 0 + 1).toNatClampNeg 25).2 0 x = S.2 0 x := fun x => stP_o (by decide)
  have s1 : ∀ x, x < 25 → (stP (u2 S.1 0 0 (S.1 0 0 + 1), S.2) (S.1 0 0 + 1).toNatClampNeg 25).2 1 x = S.2 1 x + S.2 0 (25 * (tdy S + 1) + x) := fun x hx => by rw [stP_1 hx, ed]
  have ka : ∀ k, ¬ k = 0 → (stP (u2 S.1 0 0 (S.1 0 0 + 1), S.2) (S.1 0 0 + 1).toNatClampNeg 25).1 k = S.1 k := fun k hk => u2r hk
  refine ⟨⟨?_, ?_⟩, rm_to m (ka 1 (by decide)) (ka 2 (by decide)) (ka 3 (by decide)) (hk 19 (by decide)), rd_to d (by rw [ka 5 (by decide)]) (fun k _ _ j _ => by rw [ka k (by omega)]) (fun k _ _ j _ => by rw [hk k (by omega)]), ⟨?_, ?_, ?_, ?_, ?_⟩, ⟨?_, ?_, ?_⟩, ?_, ?_, ?_⟩
  · rw [g0]
    show _ = u2 S.1 0 0 (S.1 0 0 + 1) 0 0
    rw [u2_s]
  · rw [g1, ka 5 (by decide)]; exact g.2
  · rw [g2, ew]
  · rw [ew]; exact w1
  · intro i hi1 hi9
    rw [e0, ew, ka 4 (by decide)]
    by_cases z : i = 9
    · subst z
      rw [w2, k4 _ (by omega)]
      rfl
    · rw [w3 i (by omega) hi1, ← k3 (i + 1) (by omega) (by omega), show tdy S + 1 + i = tdy S + (i + 1) by omega]
  · intro x hx
    rw [e0] at hx
    rw [ka 4 (by decide)]
    exact k4 x (by omega)
  · intro x hx
    rw [ka 4 (by decide)]
    exact k5 x hx
  · intro c k i hc hk3 hi1 hi9
    rw [e0, s0, he _ c k (by omega) (by omega) hc hk3]
    by_cases z : i = 9
    · subst z
      rw [r3 c k (tdy S + 1 + 9) hc hk3 (by omega), show (tdy S + 1 + 9) % 10 = tdy S % 10 by omega]
      exact r2 c k hc hk3
    · rw [show tdy S + 1 + i = tdy S + (i + 1) by omega]
      exact r1 c k (i + 1) hc hk3 (by omega) (by omega)
  · intro c k hc hk3
    rw [e0]
    exact h0 c k hc hk3
  · intro c k x hc hk3 hx
    rw [e0] at hx
    rw [s0]
    exact r3 c k x hc hk3 (by omega)
  · intro c k hc hk3
    have hm := mny_c k hk3
    rw [hb c k hc hk3, s1 _ (by omega), q1 c k hc hk3, r1 c k 1 hc hk3 (by decide) (by decide), show 5 * (5 * (tdy S + 1) + c) + mny k = 25 * (tdy S + 1) + (5 * c + mny k) by omega]
  · rw [s1 14 (by decide), q2, show 25 * (tdy S + 1) + 14 = 5 * (5 * (tdy S + 1) + 2) + 4 by omega, q3]
    rfl
  · intro x
    rw [s0]
    exact q3 x
/-- behind the last deal no day ends one -/
theorem en_st (S : Sd) : ∀ n, ndl S ≤ n → en S n = en S (ndl S) ∧ enn S n = enn S (ndl S)
  | 0, h => by
    have e : ndl S = 0 := by omega
    rw [e]
    exact ⟨rfl, rfl⟩
  | n + 1, h => by
    by_cases c : ndl S = n + 1
    · rw [c]; exact ⟨rfl, rfl⟩
    · have ih := en_st S n (by omega)
      have eo : opn (en S n) n = false := opn_1 (by rw [en_nd]; omega)
      refine ⟨?_, ?_⟩
      · show (if opn (en S n) n = true then edS (en S n) n else en S n) = _
        rw [if_neg (by rw [eo]; decide)]; exact ih.1
      · show (if opn (en S n) n = true then enn S n + 1 else enn S n) = _
        rw [if_neg (by rw [eo]; decide)]; exact ih.2
theorem tg_to (h : Tg T) (e : T'.1 22 = T.1 22) : Tg T' := by
  unfold Tg tT wT at h ⊢
  rw [e]
  exact h
theorem ow_1 {T T1 : Sd} {c k : Nat} {x : Int64} (e : T1 = owT T c k x) : T1.1 = T.1 := by rw [e]; rfl
theorem rl_a (hR : Rel S T) (hi : Iv S) {j : Nat} (hj : j < ndl S) : ∃ a : Nat, a ≤ 1000000 ∧ S.1 9 j = nI a ∧ T.1 15 j = nI a := by
  have h0 := (hi.2.2.1 j hj).2.2.2.1
  have h1 := (rl_j hR hj).2.2.2.2.2.2.2.1
  have e : S.1 9 j = nI (S.1 9 j).toNatClampNeg := (nI_id h0).symm
  exact ⟨(S.1 9 j).toNatClampNeg, by rw [Int32.toNatClampNeg]; omega, e, (rl_j hR hj).2.2.1.trans e⟩
theorem nw_gen (hR : Rel S T) (hi : Iv S) {j : Nat} (hj : j < ndl S) {v : Int32} (h14 : T'.1 14 = T.1 14) (h19 : T'.1 19 = T.1 19) (h17 : T'.1 17 j = v) (h22 : T'.1 22 = T.1 22) : nwT T' j = al1 (S.1 1 (cuy S j) + S.1 2 (cuy S j) * (v - S.1 0 0)) := by
  have h1 := (rl_j hR hj).1.2
  obtain ⟨e1, e2, -⟩ := (hR.2.1 (cuy S j) h1).1
  unfold nwT cyT fwT
  rw [h14, h19, h17, h22, rl_cy hR hi hj, nI_clamp (by omega), e1, e2, hR.1.1]
theorem dcd_i {c y : Nat} {b v : Int32} (h : v = if b = 0 then 4 else 0) : nI c + 2 * nI y + v = dcd c y b := by
  subst h
  unfold dcd
  by_cases z : b = 0
  · rw [if_pos z, if_pos z]
    show nI c + nI 2 * nI y + nI 4 = _
    rw [pk_mul, nI_add, nI_add]
  · rw [if_neg z, if_neg z]
    show nI c + nI 2 * nI y + nI 0 = _
    rw [pk_mul, nI_add, nI_add]
theorem no_sub1 {a : Nat} (h : a < 2 ^ 30) : ¬ nI a ≤ nI a - 1 := fun z => by
  have h1 := Int32.le_iff_toInt_le.mp z
  have e : (nI a - 1).toInt = (a : Int) - 1 := pk_sub_toInt (b := 1) h (by decide)
  rw [e, nI_toInt (by omega)] at h1
  omega
theorem dy_le {x y : Int32} (hx : 0 ≤ x.toInt ∧ x.toInt ≤ 1400) (hy : 0 ≤ y.toInt ∧ y.toInt ≤ 1000) : x - y ≤ 0 ↔ ¬ y < x := by
  have e : (x - y).toInt = x.toInt - y.toInt := i_sub (by omega) (by omega)
  have e0 : (0 : Int32).toInt = 0 := rfl
  rw [Int32.le_iff_toInt_le, Int32.lt_iff_toInt_lt, e, e0]
  omega
theorem drt_1 (hR : Rel S T) (hi : Iv S) {j : Nat} (hj : j < ndl S) (h : S.1 11 j - S.1 0 0 ≤ 0) : drt S j = S.1 10 j := by
  unfold drt
  rw [if_neg ((dy_le (rl_j hR hj).2.2.2.2.2.2.2.2 hi.1).mp h)]
theorem drt_2 (hR : Rel S T) (hi : Iv S) {j : Nat} (hj : j < ndl S) (h : ¬ S.1 11 j - S.1 0 0 ≤ 0) : drt S j = al1 (S.1 10 j - S.1 2 (cuy S j) * (S.1 11 j - S.1 0 0)) := by
  unfold drt
  rw [if_pos (Decidable.byContradiction (fun z => h ((dy_le (rl_j hR hj).2.2.2.2.2.2.2.2 hi.1).mpr z))), sub_flip]
theorem sg_1 {S : Sd} {j : Nat} {sg x : Int32} (h : (S.1 8 j = 0 ∧ sg = -1) ∨ (¬ S.1 8 j = 0 ∧ sg = 1)) : (sg * x).toInt64 = if S.1 8 j = 0 then (-x).toInt64 else x.toInt64 := by
  rcases h with ⟨a, rfl⟩ | ⟨a, rfl⟩
  · rw [if_pos a, Int32.neg_mul, Int32.one_mul]
  · rw [if_neg a, Int32.one_mul]
theorem sg_2 {S : Sd} {j : Nat} {sg : Int32} {y : Int64} (h : (S.1 8 j = 0 ∧ sg = -1) ∨ (¬ S.1 8 j = 0 ∧ sg = 1)) : (-sg).toInt64 * y = if S.1 8 j = 0 then y else -y := by
  rcases h with ⟨a, rfl⟩ | ⟨a, rfl⟩
  · rw [if_pos a, show (-(-1 : Int32)).toInt64 = 1 from rfl, Int64.one_mul]
  · rw [if_neg a, show (-(1 : Int32)).toInt64 = -1 from rfl, Int64.neg_mul, Int64.one_mul]
end TR
