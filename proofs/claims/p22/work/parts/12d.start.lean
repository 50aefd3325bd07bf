/-! THE WORLD AT THE LAW'S ENTRY, and what every method is given there -/
def S0 : Sd := (fun k i => if k = 1 then (if i < 4 then 10000 else 0) else if k = 3 then (if i < 5 then 1000000 else 0) else 0, fun k i => if k = 2 then (if i < 5 then 1000000 else 0) else 0)
def T0 : Sd := (fun _ _ => 0, fun _ _ => 0)
def L9 (kA : Nat → ClassId) (a5 : Nat → Nat → Nat) : Nat → Nat → Option va_E := lu (lu (lu (lu (lu (lu (lu (lu (lu (cI kA a5 1 1 4 5) 14 0 (.inl (kA 0, 20, .inl (fun _ => 0)))) 15 0 (.inl (kA 0, 20, .inl (fun _ => 0)))) 16 0 (.inl (kA 0, 20, .inl (fun _ => 0)))) 17 0 (.inl (kA 0, 20, .inl (fun _ => 0)))) 18 0 (.inl (kA 0, 20, .inl (fun _ => 0)))) 19 0 (.inl (kA 0, 6, .inl (fun _ => 0)))) 20 0 (.inl (kA 1, 60, .inr (.inl (fun _ => 0))))) 21 0 (.inl (kA 1, 6, .inr (.inl (fun _ => 0))))) 22 0 (.inl (kA 0, 3, .inl (fun _ => 0)))
theorem lu_n {L : Nat → Nat → Option va_E} {k0 i0 k i : Nat} {e : va_E} (h : ¬ k = k0) : lu L k0 i0 e k i = L k i := if_neg (fun z => h z.1)
theorem L9_lo {kA : Nat → ClassId} {a5 : Nat → Nat → Nat} {k i : Nat} (h : k < 14) : L9 kA a5 k i = cI kA a5 1 1 4 5 k i := by
  unfold L9
  rw [lu_n (by omega), lu_n (by omega), lu_n (by omega), lu_n (by omega), lu_n (by omega), lu_n (by omega), lu_n (by omega), lu_n (by omega), lu_n (by omega)]
theorem L9_hi {kA : Nat → ClassId} {a5 : Nat → Nat → Nat} {k i : Nat} (h : 22 < k) : L9 kA a5 k i = none := by
  unfold L9
  rw [lu_n (by omega), lu_n (by omega), lu_n (by omega), lu_n (by omega), lu_n (by omega), lu_n (by omega), lu_n (by omega), lu_n (by omega), lu_n (by omega)]
  unfold cI
  split <;> first | omega | rfl
theorem ndl_S0 : ndl S0 = 0 := rfl
theorem L9_14 {kA : Nat → ClassId} {a5 : Nat → Nat → Nat} {i : Nat} : L9 kA a5 14 i = if i = 0 then some (.inl (kA 0, 20, .inl (fun _ => 0))) else none := by
  unfold L9
  rw [lu_n (by decide), lu_n (by decide), lu_n (by decide), lu_n (by decide), lu_n (by decide), lu_n (by decide), lu_n (by decide), lu_n (by decide)]
  unfold lu
  by_cases h : i = 0
  · rw [if_pos ⟨rfl, h⟩, if_pos h]
  · rw [if_neg (fun z => h z.2), if_neg h]
    rfl
theorem L9_15 {kA : Nat → ClassId} {a5 : Nat → Nat → Nat} {i : Nat} : L9 kA a5 15 i = if i = 0 then some (.inl (kA 0, 20, .inl (fun _ => 0))) else none := by
  unfold L9
  rw [lu_n (by decide), lu_n (by decide), lu_n (by decide), lu_n (by decide), lu_n (by decide), lu_n (by decide), lu_n (by decide)]
  unfold lu
  by_cases h : i = 0
  · rw [if_pos ⟨rfl, h⟩, if_pos h]
  · rw [if_neg (fun z => h z.2), if_neg (fun z => absurd z.1 (by decide)), if_neg h]
    rfl
theorem L9_16 {kA : Nat → ClassId} {a5 : Nat → Nat → Nat} {i : Nat} : L9 kA a5 16 i = if i = 0 then some (.inl (kA 0, 20, .inl (fun _ => 0))) else none := by
  unfold L9
  rw [lu_n (by decide), lu_n (by decide), lu_n (by decide), lu_n (by decide), lu_n (by decide), lu_n (by decide)]
  unfold lu
  by_cases h : i = 0
  · rw [if_pos ⟨rfl, h⟩, if_pos h]
  · rw [if_neg (fun z => h z.2), if_neg (fun z => absurd z.1 (by decide)), if_neg (fun z => absurd z.1 (by decide)), if_neg h]
    rfl
theorem L9_17 {kA : Nat → ClassId} {a5 : Nat → Nat → Nat} {i : Nat} : L9 kA a5 17 i = if i = 0 then some (.inl (kA 0, 20, .inl (fun _ => 0))) else none := by
  unfold L9
  rw [lu_n (by decide), lu_n (by decide), lu_n (by decide), lu_n (by decide), lu_n (by decide)]
  unfold lu
  by_cases h : i = 0
  · rw [if_pos ⟨rfl, h⟩, if_pos h]
  · rw [if_neg (fun z => h z.2), if_neg (fun z => absurd z.1 (by decide)), if_neg (fun z => absurd z.1 (by decide)), if_neg (fun z => absurd z.1 (by decide)), if_neg h]
    rfl
theorem L9_18 {kA : Nat → ClassId} {a5 : Nat → Nat → Nat} {i : Nat} : L9 kA a5 18 i = if i = 0 then some (.inl (kA 0, 20, .inl (fun _ => 0))) else none := by
  unfold L9
  rw [lu_n (by decide), lu_n (by decide), lu_n (by decide), lu_n (by decide)]
  unfold lu
  by_cases h : i = 0
  · rw [if_pos ⟨rfl, h⟩, if_pos h]
  · rw [if_neg (fun z => h z.2), if_neg (fun z => absurd z.1 (by decide)), if_neg (fun z => absurd z.1 (by decide)), if_neg (fun z => absurd z.1 (by decide)), if_neg (fun z => absurd z.1 (by decide)), if_neg h]
    rfl
theorem L9_19 {kA : Nat → ClassId} {a5 : Nat → Nat → Nat} {i : Nat} : L9 kA a5 19 i = if i = 0 then some (.inl (kA 0, 6, .inl (fun _ => 0))) else none := by
  unfold L9
  rw [lu_n (by decide), lu_n (by decide), lu_n (by decide)]
  unfold lu
  by_cases h : i = 0
  · rw [if_pos ⟨rfl, h⟩, if_pos h]
  · rw [if_neg (fun z => h z.2), if_neg (fun z => absurd z.1 (by decide)), if_neg (fun z => absurd z.1 (by decide)), if_neg (fun z => absurd z.1 (by decide)), if_neg (fun z => absurd z.1 (by decide)), if_neg (fun z => absurd z.1 (by decide)), if_neg h]
    rfl
theorem L9_20 {kA : Nat → ClassId} {a5 : Nat → Nat → Nat} {i : Nat} : L9 kA a5 20 i = if i = 0 then some (.inl (kA 1, 60, .inr (.inl (fun _ => 0)))) else none := by
  unfold L9
  rw [lu_n (by decide), lu_n (by decide)]
  unfold lu
  by_cases h : i = 0
  · rw [if_pos ⟨rfl, h⟩, if_pos h]
  · rw [if_neg (fun z => h z.2), if_neg (fun z => absurd z.1 (by decide)), if_neg (fun z => absurd z.1 (by decide)), if_neg (fun z => absurd z.1 (by decide)), if_neg (fun z => absurd z.1 (by decide)), if_neg (fun z => absurd z.1 (by decide)), if_neg (fun z => absurd z.1 (by decide)), if_neg h]
    rfl
theorem L9_21 {kA : Nat → ClassId} {a5 : Nat → Nat → Nat} {i : Nat} : L9 kA a5 21 i = if i = 0 then some (.inl (kA 1, 6, .inr (.inl (fun _ => 0)))) else none := by
  unfold L9
  rw [lu_n (by decide)]
  unfold lu
  by_cases h : i = 0
  · rw [if_pos ⟨rfl, h⟩, if_pos h]
  · rw [if_neg (fun z => h z.2), if_neg (fun z => absurd z.1 (by decide)), if_neg (fun z => absurd z.1 (by decide)), if_neg (fun z => absurd z.1 (by decide)), if_neg (fun z => absurd z.1 (by decide)), if_neg (fun z => absurd z.1 (by decide)), if_neg (fun z => absurd z.1 (by decide)), if_neg (fun z => absurd z.1 (by decide)), if_neg h]
    rfl
theorem L9_22 {kA : Nat → ClassId} {a5 : Nat → Nat → Nat} {i : Nat} : L9 kA a5 22 i = if i = 0 then some (.inl (kA 0, 3, .inl (fun _ => 0))) else none := by
  unfold L9
  unfold lu
  by_cases h : i = 0
  · rw [if_pos ⟨rfl, h⟩, if_pos h]
  · rw [if_neg (fun z => h z.2), if_neg (fun z => absurd z.1 (by decide)), if_neg (fun z => absurd z.1 (by decide)), if_neg (fun z => absurd z.1 (by decide)), if_neg (fun z => absurd z.1 (by decide)), if_neg (fun z => absurd z.1 (by decide)), if_neg (fun z => absurd z.1 (by decide)), if_neg (fun z => absurd z.1 (by decide)), if_neg (fun z => absurd z.1 (by decide)), if_neg h]
    rfl
theorem ct_S0 {kA : Nat → ClassId} {a5 ad : Nat → Nat → Nat} (ha : ∀ k, k < 14 → ad k = a5 k) (k i : Nat) : ct kA S0 T0 0 0 (fun _ => none) ad k i = L9 kA a5 k i := by
  match k with
  | 0 =>
    rw [L9_lo (by decide)]
    show (if i = 0 then some (Sum.inr (5, [Value.ref (ad 1 0), Value.ref (ad 3 0), Value.ref (ad 5 0), Value.ref (ad 10 0), Value.int 0])) else none : Option va_E) = (if i = 0 then some (Sum.inr (5, [Value.ref (a5 1 0), Value.ref (a5 3 0), Value.ref (a5 5 0), Value.ref (a5 10 0), Value.int 0])) else none)
    rw [ha 1 (by decide), ha 3 (by decide), ha 5 (by decide), ha 10 (by decide)]
  | 1 =>
    rw [L9_lo (by decide)]
    show (if i = 0 then some (Sum.inr (1, [Value.ref (ad 2 0), Value.int 0])) else none : Option va_E) = (if i = 0 then some (Sum.inr (1, [Value.ref (a5 2 0), Value.int 0])) else none)
    rw [ha 2 (by decide)]
  | 2 => rw [L9_lo (by decide)]; rfl
  | 3 =>
    rw [L9_lo (by decide)]
    show (if i = 0 then some (Sum.inl (kA 3, 4, Sum.inr (Sum.inr (Sum.inr (Sum.inr (fun c => if c < 4 then some (ad 4 c) else none)))))) else none : Option va_E) = (if i = 0 then some (Sum.inl (kA 3, 4, Sum.inr (Sum.inr (Sum.inr (Sum.inr (fun c => if c < 4 then some (a5 4 c) else none)))))) else none)
    rw [ha 4 (by decide)]
  | 4 =>
    rw [L9_lo (by decide)]
    show (if i < 4 then some (Sum.inr (2, [Value.int (nI i), Value.int (if i < 4 then 10000 else 0), Value.int 0])) else none : Option va_E) = (if i < 4 then some (Sum.inr (2, [Value.int (nI i), Value.int 10000, Value.int 0])) else none)
    by_cases h : i < 4
    · rw [if_pos h, if_pos h, if_pos h]
    · rw [if_neg h, if_neg h]
  | 5 =>
    rw [L9_lo (by decide)]
    show (if i = 0 then some (Sum.inl (kA 4, 5, Sum.inr (Sum.inr (Sum.inr (Sum.inr (fun c => if c < 5 then some (ad 6 c) else none)))))) else none : Option va_E) = (if i = 0 ∧ ¬ 1 = 0 then some (Sum.inl (kA 4, 5, Sum.inr (Sum.inr (Sum.inr (Sum.inr (fun c => if c < 5 then some (a5 6 c) else none)))))) else none)
    rw [ha 6 (by decide)]
    by_cases h : i = 0
    · rw [if_pos h, if_pos ⟨h, by decide⟩]
    · rw [if_neg h, if_neg (fun z => h z.1)]
  | 6 =>
    rw [L9_lo (by decide)]
    show (if i < 5 then some (Sum.inr (3, [Value.int (if i < 5 then 1000000 else 0), Value.ref (ad 7 i), Value.ref (ad 8 i)])) else none : Option va_E) = (if i < 5 then some (Sum.inr (3, [Value.int 1000000, Value.ref (a5 7 i), Value.ref (a5 8 i)])) else none)
    rw [ha 7 (by decide), ha 8 (by decide)]
    by_cases h : i < 5
    · rw [if_pos h, if_pos h, if_pos h]
    · rw [if_neg h, if_neg h]
  | 7 => rw [L9_lo (by decide)]; rfl
  | 8 =>
    rw [L9_lo (by decide)]
    show (if i < 5 then some (Sum.inr (0, [Value.ref (ad 9 i)])) else none : Option va_E) = (if i < 5 then some (Sum.inr (0, [Value.ref (a5 9 i)])) else none)
    rw [ha 9 (by decide)]
  | 9 =>
    rw [L9_lo (by decide)]
    have e : rw5 (S0.2 1) i = fun _ => 0 := by
      funext m
      unfold rw5
      by_cases h : m < 5
      · rw [if_pos h]; rfl
      · rw [if_neg h]
    show (if i < 5 then some (Sum.inl (kA 1, 5, Sum.inr (Sum.inl (rw5 (S0.2 1) i)))) else none : Option va_E) = (if i < 5 then some (Sum.inl (kA 1, 5, Sum.inr (Sum.inl (fun _ => 0)))) else none)
    rw [e]
  | 10 =>
    rw [L9_lo (by decide)]
    have e : dlr S0 ad = fun _ => none := by
      funext j
      unfold dlr
      rw [ndl_S0]
      exact if_neg (Nat.not_lt_zero j)
    show (if i = 0 then some (Sum.inl (kA 6, 20, Sum.inr (Sum.inr (Sum.inr (Sum.inr (dlr S0 ad)))))) else none : Option va_E) = (if i = 0 ∧ ¬ 1 = 0 then some (Sum.inl (kA 6, 20, Sum.inr (Sum.inr (Sum.inr (Sum.inr (fun _ => none)))))) else none)
    rw [e]
    by_cases h : i = 0
    · rw [if_pos h, if_pos ⟨h, by decide⟩]
    · rw [if_neg h, if_neg (fun z => h z.1)]
  | 11 =>
    rw [L9_lo (by decide)]
    show (if i < ndl S0 then some (Sum.inr (4, [Value.ref (ad 6 (cus S0 i)), Value.ref (ad 4 (cuy S0 i)), Value.int (S0.1 8 i), Value.int (S0.1 9 i), Value.int (S0.1 10 i), Value.int (S0.1 11 i), Value.int (S0.1 12 i)])) else none : Option va_E) = none
    rw [ndl_S0]
    exact if_neg (Nat.not_lt_zero i)
  | 12 => rw [L9_lo (by decide)]; rfl
  | 13 => rw [L9_lo (by decide)]; rfl
  | 14 => rw [L9_14]; rfl
  | 15 => rw [L9_15]; rfl
  | 16 => rw [L9_16]; rfl
  | 17 => rw [L9_17]; rfl
  | 18 => rw [L9_18]; rfl
  | 19 => rw [L9_19]; rfl
  | 20 => rw [L9_20]; rfl
  | 21 => rw [L9_21]; rfl
  | 22 => rw [L9_22]; rfl
  | k + 23 => rw [L9_hi (by omega)]; rfl
theorem adr_none {ad : Nat → Nat → Nat} {k i : Nat} (h : ¬ k = 12) (h' : ¬ k = 13) : adr (fun _ => none) ad k i = ad k i := by
  unfold adr
  split
  · exact absurd rfl h
  · exact absurd rfl h'
  · rfl
theorem L9_not {kA : Nat → ClassId} {a5 : Nat → Nat → Nat} {k i : Nat} {e : va_E} (h : L9 kA a5 k i = some e) : ¬ k = 12 ∧ ¬ k = 13 := by
  refine ⟨fun z => ?_, fun z => ?_⟩
  · subst z
    rw [L9_lo (by decide)] at h
    exact absurd h (by show ¬ (none : Option va_E) = some e; simp)
  · subst z
    rw [L9_lo (by decide)] at h
    exact absurd h (by show ¬ (none : Option va_E) = some e; simp)
theorem wa_S0 {G : Gx} {a5 ad : Nat → Nat → Nat} {q1 : Nat} {M1 M : Mp} (ha : ∀ k, k < 14 → ad k = a5 k) (h : WI M1 q1 (L9 G.2.1 a5) ad M) : WA G S0 T0 0 0 (fun _ => none) ad M := by
  refine ⟨fun k i e he => ?_, fun k i k' i' e e' he he' hz => ?_⟩
  · rw [ct_S0 ha] at he
    rw [adr_none (L9_not he).1 (L9_not he).2]
    exact h.1 k i e he
  · rw [ct_S0 ha] at he he'
    rw [adr_none (L9_not he).1 (L9_not he).2, adr_none (L9_not he').1 (L9_not he').2] at hz
    exact h.2.1 k i k' i' e e' he he' hz
theorem iv_S0 : Iv S0 := by
  refine ⟨⟨by decide, by decide⟩, ⟨by decide, by decide⟩, fun j hj => absurd hj (by rw [ndl_S0]; exact Nat.not_lt_zero j), fun d => Or.inl rfl, fun c => ?_⟩
  show (if c < 5 then (1000000 : Int64) else 0) = (if c < 5 then (1000000 : Int32) else 0).toInt64
  by_cases h : c < 5
  · rw [if_pos h, if_pos h]; decide
  · rw [if_neg h, if_neg h]; decide
theorem ix_S0 : Ix S0 (fun _ => none) := ⟨fun _ _ _ _ => rfl, fun _ _ h => by cases h⟩
theorem rl_S0 {T : Sd} (h2 : ∀ a b, T.2 a b = 0) (h22 : ∀ i, T.1 22 i = 0) (m0 : T.1 19 0 = 10000) (m1 : T.1 19 1 = 10000) (m2 : T.1 19 2 = 0) (m3 : T.1 19 3 = 0) (m4 : T.1 19 4 = 1000000) (m5 : T.1 19 5 = 1000000) : Rel S0 T := by
  have hw : wT T = 0 := by unfold wT; rw [h22]; rfl
  have ht : tdy S0 = 0 := rfl
  refine ⟨⟨h22 0, h22 1⟩, fun c hc => ?_, fun j hj => absurd hj (by rw [ndl_S0]; exact Nat.not_lt_zero j), ⟨by rw [h22, hw]; rfl, by rw [hw]; exact ⟨by decide, by decide, by decide⟩, fun i _ hi => ?_, fun d _ => rfl, fun d _ => rfl⟩, ⟨fun c k i _ _ _ _ => h2 _ _, fun c k _ _ => h2 _ _, fun c k d _ _ _ => rfl⟩, fun c k _ _ => h2 _ _, rfl, fun d => rfl⟩
  · rcases (show c = 0 ∨ c = 1 by omega) with rfl | rfl
    · exact ⟨⟨m0, m2, m4⟩, by decide, by decide⟩
    · exact ⟨⟨m1, m3, m5⟩, by decide, by decide⟩
  · rw [hw]
    have e : bt 0 i = 0 := by unfold bt; rw [Nat.zero_div]
    rw [e]
    rfl
theorem in_r {big : List Cond} (ws : List Cond) (ps : List Nat) (hp : ws = ps.filterMap (fun i => big[i]?)) : ∀ w ∈ ws, w ∈ big := by
  intro w hw
  rw [hp] at hw
  obtain ⟨i, -, hi⟩ := List.mem_filterMap.mp hw
  exact List.mem_of_getElem? hi
set_option maxRecDepth 20000 in
theorem xw_in : ∀ w ∈ XW, w ∈ lw_tbl := in_r XW [40, 55, 57, 59, 88, 91, 321, 323, 325, 327, 329, 331, 333, 34, 70, 78, 285, 371, 429, 434] (by decide +kernel)
set_option maxRecDepth 20000 in
theorem xc_in : ∀ w ∈ XC, w ∈ lw_tbl := in_r XC [146, 218, 267, 152, 150, 148] (by decide +kernel)
set_option maxRecDepth 20000 in
theorem xs_in : ∀ w ∈ XS.map (fun q => Cond.stringRef RX5 q.1 q.2), w ∈ lw_tbl := in_r (XS.map (fun q => Cond.stringRef RX5 q.1 q.2)) [185, 225, 274, 254, 303, 381, 410, 445, 446, 486] (by decide +kernel)
def XR : List Cond := [.instantiable RX0 1, .instantiable RX1 2, .instantiable RX2 3, .instantiable RX3 3, .instantiable RX4 7, .instantiable RX5 5, .arrayClass .int, .arrayClass .long, .arrayClass .boolean, .arrayOver (.object RX2), .arrayOver (.object RX3), .arrayOver (.object RX0), .arrayOver (.object RX4), .laysStatic Bundle.tN "UNASSIGNED_STACK" Bundle.steD, .laysStatic Bundle.tN "SUPPRESSED_SENTINEL" Bundle.listD, .initialized Bundle.tN]
set_option maxRecDepth 20000 in
theorem xr_in : ∀ w ∈ XR, w ∈ lw_tbl := in_r XR [77, 33, 49, 69, 304, 25, 573, 86, 46, 48, 68, 76, 100, 171, 173, 16] (by decide +kernel)
def XG : List Cond := [.not (.castable "java/lang/IllegalArgumentException" "java/lang/IndexOutOfBoundsException"), .not (.castable "java/lang/IllegalStateException" "java/lang/IndexOutOfBoundsException"), .not (.castable "java/lang/IllegalStateException" "java/lang/IllegalArgumentException"), .isRef (.static Bundle.tN "UNASSIGNED_STACK" Bundle.steD), .isRef (.static Bundle.tN "SUPPRESSED_SENTINEL" Bundle.listD)]
set_option maxRecDepth 20000 in
theorem xg_in : ∀ w ∈ XG, w ∈ flatC (Jvm.Cond.and given_1 narrow_1) := by decide +kernel
theorem arr_p {s : State} {args : Array Value} {ty : FieldType} (h : (Cond.arrayClass ty).before args s = true) (hty : ty = .int ∨ ty = .long ∨ ty = .boolean) : ∃ cA, ArrOfT s cA ty ∧ va_RA s cA ty := by
  obtain ⟨cA, kA, comp, h1, h2, h3⟩ := Cond.arrayClass_spec h
  refine ⟨cA, fun n z => ⟨fun k h => (by cases h), kA, h2, comp, h3⟩, ?_⟩
  rcases hty with e | e | e <;> subst e <;> exact h1
theorem arr_o {s : State} {C : String} (h : va_AO C s) : ∃ cA, ArrOfT s cA (.object C) ∧ va_RA s cA (.object C) := by
  obtain ⟨comp, cA, kA, h1, h2, h3, h4, h5⟩ := Cond.arrayOver_spec h
  exact ⟨cA, fun n z => ⟨fun k h => (by cases h), kA, h3, comp, h4⟩, kA, comp, h3, h4, h1, h5⟩
def sel7 {α : Type} (a0 a1 a2 a3 a4 a5 a6 : α) : Nat → α := fun k => match k with
  | 0 => a0
  | 1 => a1
  | 2 => a2
  | 3 => a3
  | 4 => a4
  | 5 => a5
  | _ => a6
theorem cx_start {p : Program} {s : State} {m : MethodId} {meth : Method} {c : Code} {b L : Nat} {xs : Nat → Int32} (C0 : lw_At p s m meth c b L xs) : ∃ G : Gx, G.2.2 = s.heap.size ∧ Cx G s := by
  obtain ⟨hx, hb, hr, hml, hown, hts, hX, hbl, hlocks, hgv⟩ := C0
  have hR := fun (i : Nat) (w : Cond) (h : XR[i]? = some w) => hts w (xr_in w (List.mem_of_getElem? h))
  have hGv := fun (i : Nat) (w : Cond) (h : XG[i]? = some w) => flat_of_before _ hgv w (xg_in w (List.mem_of_getElem? h))
  obtain ⟨c0, i0, k0⟩ := u_known (C := RX0) (T := TX0) (N := 1) (n := 1) hts inX0 (hR 0 _ rfl)
  obtain ⟨c1, i1, k1⟩ := u_known (C := RX1) (T := TX1) (N := 2) (n := 2) hts inX1 (hR 1 _ rfl)
  obtain ⟨c2, i2, k2⟩ := u_known (C := RX2) (T := TX2) (N := 3) (n := 3) hts inX2 (hR 2 _ rfl)
  obtain ⟨c3, i3, k3⟩ := u_known (C := RX3) (T := TX3) (N := 3) (n := 3) hts inX3 (hR 3 _ rfl)
  obtain ⟨c4, i4, k4⟩ := u_known (C := RX4) (T := TX4) (N := 7) (n := 7) hts inX4 (hR 4 _ rfl)
  obtain ⟨c5, i5, k5⟩ := u_known (C := RX5) (T := TX5) (N := 5) (n := 5) hts inX5 (hR 5 _ rfl)
  have o2 : va_AO RX2 s := va_AO.of (hR 9 _ rfl)
  have o3 : va_AO RX3 s := va_AO.of (hR 10 _ rfl)
  have o0 : va_AO RX0 s := va_AO.of (hR 11 _ rfl)
  have o4 : va_AO RX4 s := va_AO.of (hR 12 _ rfl)
  obtain ⟨t0, a0⟩ := arr_p (hR 6 _ rfl) (Or.inl rfl)
  obtain ⟨t1, a1⟩ := arr_p (hR 7 _ rfl) (Or.inr (Or.inl rfl))
  obtain ⟨t2, a2⟩ := arr_p (hR 8 _ rfl) (Or.inr (Or.inr rfl))
  obtain ⟨t3, a3⟩ := arr_o o2
  obtain ⟨t4, a4⟩ := arr_o o3
  obtain ⟨t5, a5⟩ := arr_o o0
  obtain ⟨t6, a6⟩ := arr_o o4
  have hA : ∀ a : Nat, a < s.heap.size → ¬ AG ((sel7 c0 c1 c2 c3 c4 c5 c5, sel7 i0 i1 i2 i3 i4 i5 i5), sel7 t0 t1 t2 t3 t4 t5 t6, s.heap.size) a := fun a h z => Nat.not_lt.mpr z h
  refine ⟨((sel7 c0 c1 c2 c3 c4 c5 c5, sel7 i0 i1 i2 i3 i4 i5 i5), sel7 t0 t1 t2 t3 t4 t5 t6, s.heap.size), rfl, Nat.le_refl _, ⟨fun k q hq => ?_, fun k q hq => ?_⟩, fun w hw => ?_, fun w hw => ?_, fun q hq => ?_, fun q hq => ?_, fun C hC => ?_, vx_Zqof (hR 13 _ rfl) (hR 15 _ rfl) (hGv 3 _ rfl) hA, vx_Zqof (hR 14 _ rfl) (hR 15 _ rfl) (hGv 4 _ rfl) hA⟩
  · match k, hq with
    | 0, hq => cases hq; exact k0
    | 1, hq => cases hq; exact k1
    | 2, hq => cases hq; exact k2
    | 3, hq => cases hq; exact k3
    | 4, hq => cases hq; exact k4
    | 5, hq => cases hq; exact k5
    | k + 6, hq => simp [vwCl] at hq
  · match k, hq with
    | 0, hq => cases hq; exact a0
    | 1, hq => cases hq; exact a1
    | 2, hq => cases hq; exact a2
    | 3, hq => cases hq; exact a3
    | 4, hq => cases hq; exact a4
    | 5, hq => cases hq; exact a5
    | 6, hq => cases hq; exact a6
    | k + 7, hq => simp [tyG] at hq
  · exact va_Nw.of (List.all_eq_true.mp (by decide +kernel : XW.all (fun w => w.onTables) = true) w hw) (hts w (xw_in w hw))
  · exact va_Nw.of (List.all_eq_true.mp (by decide +kernel : XC.all (fun w => w.onTables) = true) w hw) (hts w (xc_in w hw))
  · have h1 := hts _ (xs_in _ (List.mem_map.mpr ⟨q, hq, rfl⟩))
    obtain ⟨kC, cf, i, a, -, -, -, -, -, hev⟩ := Cond.stringRef_spec k5.2.1 h1
    exact ⟨a, vk_R.of h1 hev⟩
  · simp only [XN, List.mem_cons, List.not_mem_nil, or_false] at hq
    rcases hq with rfl | rfl | rfl
    · exact va_Nc.of (hGv 0 _ rfl)
    · exact va_Nc.of (hGv 1 _ rfl)
    · exact va_Nc.of (hGv 2 _ rfl)
  · simp only [List.mem_cons, List.not_mem_nil, or_false] at hC
    rcases hC with rfl | rfl | rfl | rfl
    · exact o0
    · exact o2
    · exact o3
    · exact o4
