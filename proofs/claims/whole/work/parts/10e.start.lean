/-! THE WORLD AT THE LOOP'S FIRST ROUND, and what every method is given, at the law's entry -/
def ad0 (a5 a6 : Nat → Nat → Nat) (q : Nat) : Nat → Nat → Nat := fun k i => if k < 14 then a5 k i else if k < 28 then a6 k i else q
def L0 (kA : Nat → ClassId) (a5 a6 : Nat → Nat → Nat) (k i : Nat) : Option va_E := if k < 14 then cI kA a5 1 1 4 5 k i else if k < 28 then cM kA a6 k i else if k = 28 ∧ i = 0 then some (.inl (kA 1, 1, .inr (.inl (fun _ => 0)))) else none
theorem ndl_S0 : ndl S0 = 0 := rfl
theorem ct_S0 {kA : Nat → ClassId} {a5 a6 : Nat → Nat → Nat} {q : Nat} (k i : Nat) : ct kA S0 S0 0 0 (fun _ => none) (ad0 a5 a6 q) k i = L0 kA a5 a6 k i := by
  match k with
  | 0 => rfl
  | 1 => rfl
  | 2 => rfl
  | 3 => rfl
  | 4 =>
    show (if i < 4 then some (Sum.inr (2, [Value.int (nI i), Value.int (if i < 4 then 10000 else 0), Value.int 0])) else none : Option va_E) = (if i < 4 then some (Sum.inr (2, [Value.int (nI i), Value.int 10000, Value.int 0])) else none)
    by_cases h : i < 4
    · rw [if_pos h, if_pos h, if_pos h]
    · rw [if_neg h, if_neg h]
  | 5 =>
    show (if i = 0 then some (Sum.inl (kA 4, 5, Sum.inr (Sum.inr (Sum.inr (Sum.inr (fun c => if c < 5 then some (a5 6 c) else none)))))) else none : Option va_E) = (if i = 0 ∧ ¬ 1 = 0 then some (Sum.inl (kA 4, 5, Sum.inr (Sum.inr (Sum.inr (Sum.inr (fun c => if c < 5 then some (a5 6 c) else none)))))) else none)
    by_cases h : i = 0
    · rw [if_pos h, if_pos ⟨h, by decide⟩]
    · rw [if_neg h, if_neg (fun z => h z.1)]
  | 6 =>
    show (if i < 5 then some (Sum.inr (3, [Value.int (if i < 5 then 1000000 else 0), Value.ref (a5 7 i), Value.ref (a5 8 i)])) else none : Option va_E) = (if i < 5 then some (Sum.inr (3, [Value.int 1000000, Value.ref (a5 7 i), Value.ref (a5 8 i)])) else none)
    by_cases h : i < 5
    · rw [if_pos h, if_pos h, if_pos h]
    · rw [if_neg h, if_neg h]
  | 7 => rfl
  | 8 => rfl
  | 9 =>
    have e : rw5 (S0.2 1) i = fun _ => 0 := by
      funext m
      unfold rw5
      by_cases h : m < 5
      · rw [if_pos h]; rfl
      · rw [if_neg h]
    show (if i < 5 then some (Sum.inl (kA 1, 5, Sum.inr (Sum.inl (rw5 (S0.2 1) i)))) else none : Option va_E) = (if i < 5 then some (Sum.inl (kA 1, 5, Sum.inr (Sum.inl (fun _ => 0)))) else none)
    rw [e]
  | 10 =>
    have e : dlr S0 (ad0 a5 a6 q) = fun _ => none := by
      funext j
      unfold dlr
      rw [ndl_S0]
      exact if_neg (Nat.not_lt_zero j)
    show (if i = 0 then some (Sum.inl (kA 6, 20, Sum.inr (Sum.inr (Sum.inr (Sum.inr (dlr S0 (ad0 a5 a6 q))))))) else none : Option va_E) = (if i = 0 ∧ ¬ 1 = 0 then some (Sum.inl (kA 6, 20, Sum.inr (Sum.inr (Sum.inr (Sum.inr (fun _ => none)))))) else none)
    rw [e]
    by_cases h : i = 0
    · rw [if_pos h, if_pos ⟨h, by decide⟩]
    · rw [if_neg h, if_neg (fun z => h z.1)]
  | 11 =>
    show (if i < ndl S0 then some (Sum.inr (4, [Value.ref (ad0 a5 a6 q 6 (cus S0 i)), Value.ref (ad0 a5 a6 q 4 (cuy S0 i)), Value.int (S0.1 8 i), Value.int (S0.1 9 i), Value.int (S0.1 10 i), Value.int (S0.1 11 i), Value.int (S0.1 12 i)])) else none : Option va_E) = none
    rw [ndl_S0]
    exact if_neg (Nat.not_lt_zero i)
  | 12 => rfl
  | 13 => rfl
  | 14 => rfl
  | 15 => rfl
  | 16 => rfl
  | 17 => rfl
  | 18 => rfl
  | 19 => rfl
  | 20 => rfl
  | 21 => rfl
  | 22 => rfl
  | 23 => rfl
  | 24 => rfl
  | 25 => rfl
  | 26 => rfl
  | 27 => rfl
  | 28 =>
    show (if i = 0 then some (Sum.inl (kA 1, 1, Sum.inr (Sum.inl (fun _ => 0)))) else none : Option va_E) = (if 28 = 28 ∧ i = 0 then some (Sum.inl (kA 1, 1, Sum.inr (Sum.inl (fun _ => 0)))) else none)
    by_cases h : i = 0
    · rw [if_pos h, if_pos ⟨rfl, h⟩]
    · rw [if_neg h, if_neg (fun z => h z.2)]
  | k + 29 =>
    unfold L0
    rw [if_neg (by omega), if_neg (by omega), if_neg (by omega)]
    rfl
theorem adr_none {ad : Nat → Nat → Nat} {k i : Nat} (h : ¬ k = 12) (h' : ¬ k = 13) : adr (fun _ => none) ad k i = ad k i := by
  unfold adr
  split
  · exact absurd rfl h
  · exact absurd rfl h'
  · rfl
theorem L0_not {kA : Nat → ClassId} {a5 a6 : Nat → Nat → Nat} {k i : Nat} {e : va_E} (h : L0 kA a5 a6 k i = some e) : ¬ k = 12 ∧ ¬ k = 13 := by
  refine ⟨fun z => ?_, fun z => ?_⟩
  · subst z
    exact absurd h (by show ¬ (none : Option va_E) = some e; simp)
  · subst z
    exact absurd h (by show ¬ (none : Option va_E) = some e; simp)
theorem wa_S0 {G : Gx} {a5 a6 : Nat → Nat → Nat} {q1 q2 q : Nat} {M1 M2 M4 : Mp} {e6 : va_E} (h5 : WI M1 q1 (cI G.2.1 a5 1 1 4 5) a5 M2) (h2 : M2 q2 = none) (h6 : WI (va_up M2 q2 (some e6)) q2 (cM G.2.1 a6) a6 M4) (h4 : M4 q = none) : WA G S0 S0 0 0 (fun _ => none) (ad0 a5 a6 q) (va_up M4 q (some (.inl (G.2.1 1, 1, .inr (.inl (fun _ => 0)))))) := by
  have p5 : ∀ k i e, cI G.2.1 a5 1 1 4 5 k i = some e → M4 (a5 k i) = some e ∧ ¬ a5 k i = q2 ∧ va_up M2 q2 (some e6) (a5 k i) = some e := fun k i e he => by
    have w := h5.1 k i e he
    have n : ¬ a5 k i = q2 := ne_of w h2
    have w2 : va_up M2 q2 (some e6) (a5 k i) = some e := (up_ne n).trans w
    exact ⟨h6.2.2.2 _ _ n w2, n, w2⟩
  have d : ∀ k i k' i' e e', cI G.2.1 a5 1 1 4 5 k i = some e → cM G.2.1 a6 k' i' = some e' → ¬ a5 k i = a6 k' i' := fun k i k' i' e e' he he' z => by
    obtain ⟨-, n, w⟩ := p5 k i e he
    rcases h6.2.2.1 k' i' e' he' with u | u
    · exact n (z.trans u)
    · rw [← z, w] at u; cases u
  have nq : ∀ a e, M4 a = some e → ¬ a = q := fun a e h => ne_of h h4
  have cs : ∀ k i e, L0 G.2.1 a5 a6 k i = some e → (k < 14 ∧ ad0 a5 a6 q k i = a5 k i ∧ cI G.2.1 a5 1 1 4 5 k i = some e) ∨ (¬ k < 14 ∧ k < 28 ∧ ad0 a5 a6 q k i = a6 k i ∧ cM G.2.1 a6 k i = some e) ∨ ((k = 28 ∧ i = 0) ∧ ad0 a5 a6 q k i = q ∧ e = .inl (G.2.1 1, 1, .inr (.inl (fun _ => 0)))) := fun k i e h => by
    unfold L0 at h
    unfold ad0
    by_cases c1 : k < 14
    · rw [if_pos c1] at h
      exact Or.inl ⟨c1, if_pos c1, h⟩
    · rw [if_neg c1] at h
      by_cases c2 : k < 28
      · rw [if_pos c2] at h
        exact Or.inr (Or.inl ⟨c1, c2, by rw [if_neg c1, if_pos c2], h⟩)
      · rw [if_neg c2] at h
        by_cases c3 : k = 28 ∧ i = 0
        · rw [if_pos c3] at h
          exact Or.inr (Or.inr ⟨c3, by rw [if_neg c1, if_neg c2], (Option.some.inj h).symm⟩)
        · rw [if_neg c3] at h; cases h
  refine ⟨fun k i e he => ?_, fun k i k' i' e e' he he' hz => ?_⟩
  · rw [ct_S0] at he
    rw [adr_none (L0_not he).1 (L0_not he).2]
    rcases cs k i e he with ⟨-, h1, h3⟩ | ⟨-, -, h1, h3⟩ | ⟨-, h1, h3⟩
    · rw [h1]
      have w := (p5 k i e h3).1
      exact (up_ne (nq _ _ w)).trans w
    · rw [h1]
      have w := h6.1 k i e h3
      exact (up_ne (nq _ _ w)).trans w
    · rw [h1, h3]
      exact up_eq
  · rw [ct_S0] at he he'
    rw [adr_none (L0_not he).1 (L0_not he).2, adr_none (L0_not he').1 (L0_not he').2] at hz
    rcases cs k i e he with ⟨c, h1, h3⟩ | ⟨c, c', h1, h3⟩ | ⟨c, h1, h3⟩
    · rw [h1] at hz
      rcases cs k' i' e' he' with ⟨d1, g1, g3⟩ | ⟨d1, d2, g1, g3⟩ | ⟨d1, g1, g3⟩
      · rw [g1] at hz; exact h5.2.1 k i k' i' e e' h3 g3 hz
      · rw [g1] at hz; exact absurd hz (d k i k' i' e e' h3 g3)
      · rw [g1] at hz; exact absurd hz (nq _ _ (p5 k i e h3).1)
    · rw [h1] at hz
      rcases cs k' i' e' he' with ⟨d1, g1, g3⟩ | ⟨d1, d2, g1, g3⟩ | ⟨d1, g1, g3⟩
      · rw [g1] at hz; exact absurd hz.symm (d k' i' k i e' e g3 h3)
      · rw [g1] at hz; exact h6.2.1 k i k' i' e e' h3 g3 hz
      · rw [g1] at hz; exact absurd hz (nq _ _ (h6.1 k i e h3))
    · rw [h1] at hz
      rcases cs k' i' e' he' with ⟨d1, g1, g3⟩ | ⟨d1, d2, g1, g3⟩ | ⟨d1, g1, g3⟩
      · rw [g1] at hz; exact absurd hz.symm (nq _ _ (p5 k' i' e' g3).1)
      · rw [g1] at hz; exact absurd hz.symm (nq _ _ (h6.1 k' i' e' g3))
      · exact ⟨c.1.trans d1.1.symm, c.2.trans d1.2.symm⟩
theorem iv_S0 : Iv S0 := by
  refine ⟨⟨by decide, by decide⟩, ⟨by decide, by decide⟩, fun j hj => absurd hj (by rw [ndl_S0]; exact Nat.not_lt_zero j), fun d => Or.inl rfl, fun c => ?_⟩
  show (if c < 5 then (1000000 : Int64) else 0) = (if c < 5 then (1000000 : Int32) else 0).toInt64
  by_cases h : c < 5
  · rw [if_pos h, if_pos h]; decide
  · rw [if_neg h, if_neg h]; decide
theorem ix_S0 : Ix S0 (fun _ => none) := ⟨fun _ _ _ _ => rfl, fun _ _ h => by cases h⟩
theorem in_r {big : List Cond} (ws : List Cond) (ps : List Nat) (hp : ws = ps.filterMap (fun i => big[i]?)) : ∀ w ∈ ws, w ∈ big := by
  intro w hw
  rw [hp] at hw
  obtain ⟨i, -, hi⟩ := List.mem_filterMap.mp hw
  exact List.mem_of_getElem? hi
set_option maxRecDepth 20000 in
theorem xw_in : ∀ w ∈ XW, w ∈ lw_tbl := in_r XW [53, 68, 70, 72, 101, 104, 332, 334, 336, 338, 340, 342, 344, 47, 83, 91, 142, 382, 415, 420] (by decide +kernel)
set_option maxRecDepth 20000 in
theorem xc_in : ∀ w ∈ XC, w ∈ lw_tbl := in_r XC [165, 237, 268, 171, 169, 167] (by decide +kernel)
set_option maxRecDepth 20000 in
theorem xs_in : ∀ w ∈ XS.map (fun q => Cond.stringRef RX5 q.1 q.2), w ∈ lw_tbl := in_r (XS.map (fun q => Cond.stringRef RX5 q.1 q.2)) [204, 244, 275, 297, 325, 392, 404, 431, 432, 523] (by decide +kernel)
def XR : List Cond := [.instantiable RX0 1, .instantiable RX1 2, .instantiable RX2 3, .instantiable RX3 3, .instantiable RX4 7, .instantiable RX5 5, .instantiable RX6 16, .arrayClass .int, .arrayClass .long, .arrayClass .boolean, .arrayOver (.object RX2), .arrayOver (.object RX3), .arrayOver (.object RX0), .arrayOver (.object RX4), .laysStatic Bundle.tN "UNASSIGNED_STACK" Bundle.steD, .laysStatic Bundle.tN "SUPPRESSED_SENTINEL" Bundle.listD, .initialized Bundle.tN]
set_option maxRecDepth 20000 in
theorem xr_in : ∀ w ∈ XR, w ∈ lw_tbl := in_r XR [90, 46, 62, 82, 326, 38, 543, 598, 99, 59, 61, 81, 89, 113, 190, 192, 29] (by decide +kernel)
def XG : List Cond := [.not (.castable "java/lang/IllegalArgumentException" "java/lang/IndexOutOfBoundsException"), .not (.castable "java/lang/IllegalStateException" "java/lang/IndexOutOfBoundsException"), .not (.castable "java/lang/IllegalStateException" "java/lang/IllegalArgumentException"), .isRef (.static Bundle.tN "UNASSIGNED_STACK" Bundle.steD), .isRef (.static Bundle.tN "SUPPRESSED_SENTINEL" Bundle.listD)]
set_option maxRecDepth 20000 in
theorem xg_in : ∀ w ∈ XG, w ∈ flatC (Jvm.Cond.and given_1 narrow_1) := by decide +kernel
theorem arr_p {s : State} {args : Array Value} {ty : FieldType} (h : (Cond.arrayClass ty).before args s = true) (hty : ty = .int ∨ ty = .long ∨ ty = .boolean) : ∃ cA, ArrOfT s cA ty ∧ va_RA s cA ty := by
  obtain ⟨cA, kA, comp, h1, h2, h3⟩ := Cond.arrayClass_spec h
  refine ⟨cA, fun n z => ⟨fun k h => (by cases h), kA, h2, comp, h3⟩, ?_⟩
  rcases hty with e | e | e <;> subst e <;> exact h1
theorem arr_o {s : State} {C : String} (h : va_AO C s) : ∃ cA, ArrOfT s cA (.object C) ∧ va_RA s cA (.object C) := by
  obtain ⟨comp, cA, kA, h1, h2, h3, h4, h5⟩ := Cond.arrayOver_spec h
  exact ⟨cA, fun n z => ⟨fun k h => (by cases h), kA, h3, comp, h4⟩, kA, comp, h3, h4, h1, h5⟩
def sel7 {α : Type} (a0 a1 a2 a3 a4 a5 a6 : α) : Nat → α := fun k => match k with
  | 0 => a0
  | 1 => a1
  | 2 => a2
  | 3 => a3
  | 4 => a4
  | 5 => a5
  | _ => a6
theorem cx_start {p : Program} {s : State} {m : MethodId} {meth : Method} {c : Code} {b L : Nat} {xs : Nat → Int32} (C0 : lw_At p s m meth c b L xs) : ∃ G : Gx, G.2.2 = s.heap.size ∧ Cx G s := by
  obtain ⟨hx, hb, hr, hml, hown, hts, hX, hbl, hlocks, hgv⟩ := C0
  have hR := fun (i : Nat) (w : Cond) (h : XR[i]? = some w) => hts w (xr_in w (List.mem_of_getElem? h))
  have hGv := fun (i : Nat) (w : Cond) (h : XG[i]? = some w) => flat_of_before _ hgv w (xg_in w (List.mem_of_getElem? h))
  obtain ⟨c0, i0, k0⟩ := u_known (C := RX0) (T := TX0) (N := 1) (n := 1) hts inX0 (hR 0 _ rfl)
  obtain ⟨c1, i1, k1⟩ := u_known (C := RX1) (T := TX1) (N := 2) (n := 2) hts inX1 (hR 1 _ rfl)
  obtain ⟨c2, i2, k2⟩ := u_known (C := RX2) (T := TX2) (N := 3) (n := 3) hts inX2 (hR 2 _ rfl)
  obtain ⟨c3, i3, k3⟩ := u_known (C := RX3) (T := TX3) (N := 3) (n := 3) hts inX3 (hR 3 _ rfl)
  obtain ⟨c4, i4, k4⟩ := u_known (C := RX4) (T := TX4) (N := 7) (n := 7) hts inX4 (hR 4 _ rfl)
  obtain ⟨c5, i5, k5⟩ := u_known (C := RX5) (T := TX5) (N := 5) (n := 5) hts inX5 (hR 5 _ rfl)
  obtain ⟨c6, i6, k6⟩ := u_known (C := RX6) (T := TX6) (N := 16) (n := 16) hts inX6 (hR 6 _ rfl)
  have o2 : va_AO RX2 s := va_AO.of (hR 10 _ rfl)
  have o3 : va_AO RX3 s := va_AO.of (hR 11 _ rfl)
  have o0 : va_AO RX0 s := va_AO.of (hR 12 _ rfl)
  have o4 : va_AO RX4 s := va_AO.of (hR 13 _ rfl)
  obtain ⟨t0, a0⟩ := arr_p (hR 7 _ rfl) (Or.inl rfl)
  obtain ⟨t1, a1⟩ := arr_p (hR 8 _ rfl) (Or.inr (Or.inl rfl))
  obtain ⟨t2, a2⟩ := arr_p (hR 9 _ rfl) (Or.inr (Or.inr rfl))
  obtain ⟨t3, a3⟩ := arr_o o2
  obtain ⟨t4, a4⟩ := arr_o o3
  obtain ⟨t5, a5⟩ := arr_o o0
  obtain ⟨t6, a6⟩ := arr_o o4
  have hA : ∀ a : Nat, a < s.heap.size → ¬ AG ((sel7 c0 c1 c2 c3 c4 c5 c6, sel7 i0 i1 i2 i3 i4 i5 i6), sel7 t0 t1 t2 t3 t4 t5 t6, s.heap.size) a := fun a h z => Nat.not_lt.mpr z h
  refine ⟨((sel7 c0 c1 c2 c3 c4 c5 c6, sel7 i0 i1 i2 i3 i4 i5 i6), sel7 t0 t1 t2 t3 t4 t5 t6, s.heap.size), rfl, Nat.le_refl _, ⟨fun k q hq => ?_, fun k q hq => ?_⟩, fun w hw => ?_, fun w hw => ?_, fun q hq => ?_, fun q hq => ?_, fun C hC => ?_, vx_Zqof (hR 14 _ rfl) (hR 16 _ rfl) (hGv 3 _ rfl) hA, vx_Zqof (hR 15 _ rfl) (hR 16 _ rfl) (hGv 4 _ rfl) hA⟩
  · match k, hq with
    | 0, hq => cases hq; exact k0
    | 1, hq => cases hq; exact k1
    | 2, hq => cases hq; exact k2
    | 3, hq => cases hq; exact k3
    | 4, hq => cases hq; exact k4
    | 5, hq => cases hq; exact k5
    | 6, hq => cases hq; exact k6
    | k + 7, hq => simp [vwCl] at hq
  · match k, hq with
    | 0, hq => cases hq; exact a0
    | 1, hq => cases hq; exact a1
    | 2, hq => cases hq; exact a2
    | 3, hq => cases hq; exact a3
    | 4, hq => cases hq; exact a4
    | 5, hq => cases hq; exact a5
    | 6, hq => cases hq; exact a6
    | k + 7, hq => simp [tyG] at hq
  · exact va_Nw.of (List.all_eq_true.mp (by decide +kernel : XW.all (fun w => w.onTables) = true) w hw) (hts w (xw_in w hw))
  · exact va_Nw.of (List.all_eq_true.mp (by decide +kernel : XC.all (fun w => w.onTables) = true) w hw) (hts w (xc_in w hw))
  · have h1 := hts _ (xs_in _ (List.mem_map.mpr ⟨q, hq, rfl⟩))
    obtain ⟨kC, cf, i, a, -, -, -, -, -, hev⟩ := Cond.stringRef_spec k5.2.1 h1
    exact ⟨a, vk_R.of h1 hev⟩
  · simp only [XN, List.mem_cons, List.not_mem_nil, or_false] at hq
    rcases hq with rfl | rfl | rfl
    · exact va_Nc.of (hGv 0 _ rfl)
    · exact va_Nc.of (hGv 1 _ rfl)
    · exact va_Nc.of (hGv 2 _ rfl)
  · simp only [List.mem_cons, List.not_mem_nil, or_false] at hC
    rcases hC with rfl | rfl | rfl | rfl
    · exact o0
    · exact o2
    · exact o3
    · exact o4
