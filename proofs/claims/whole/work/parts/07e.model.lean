theorem opn_nd {T : Sd} {i j : Nat} (h : ndl T ≤ j) : opn (en T i) j = false := opn_1 (by rw [en_nd]; omega)
theorem en_all {T : Sd} : ∀ n, en T (ndl T + n) = en T (ndl T)
  | 0 => rfl
  | n + 1 => by
    show (if opn (en T (ndl T + n)) (ndl T + n) = true then edS (en T (ndl T + n)) (ndl T + n) else en T (ndl T + n)) = _
    rw [if_neg (by rw [opn_nd (by omega)]; decide)]
    exact en_all n
theorem enn_all {T : Sd} : ∀ n, enn T (ndl T + n) = enn T (ndl T)
  | 0 => rfl
  | n + 1 => by
    show (if opn (en T (ndl T + n)) (ndl T + n) = true then enn T (ndl T + n) + 1 else enn T (ndl T + n)) = _
    rw [if_neg (by rw [opn_nd (by omega)]; decide)]
    exact enn_all n
theorem en_k9 {T : Sd} (hi : Iv T) {k9 : Nat} (hk9 : k9 = 20) : en T k9 = en T (ndl T) := by
  have h := hi.nd
  have e := en_all (T := T) (k9 - ndl T)
  rwa [show ndl T + (k9 - ndl T) = k9 by omega] at e
theorem enn_k9 {T : Sd} (hi : Iv T) {k9 : Nat} (hk9 : k9 = 20) : enn T k9 = enn T (ndl T) := by
  have h := hi.nd
  have e := enn_all (T := T) (k9 - ndl T)
  rwa [show ndl T + (k9 - ndl T) = k9 by omega] at e
theorem jn_ok {T : Sd} (hi : Iv T) {i k : Nat} (h : i < ndl T) : 0 ≤ nI i ∧ (nI i).toNatClampNeg < ndl (en T k) := by
  refine ⟨?_, by rw [cl_n hi h, en_nd]; exact h⟩
  have h1 := vin_n hi h
  rw [vp_in_iff] at h1
  exact Int32.le_iff_toInt_le.mpr h1.1
theorem stP_zz {S : Sd} {d : Nat} : stP S d 0 = S := by
  unfold stP
  rw [show (fun a b => if a = 1 ∧ b < 0 then S.2 1 b + S.2 0 (25 * d + b) else S.2 a b) = S.2 from by funext a b; exact if_neg (fun z => absurd z.2 (by omega))]
theorem stP_d {S : Sd} {d n x : Nat} : (stP S d n).2 0 x = S.2 0 x := by
  show (if 0 = 1 ∧ x < n then S.2 1 x + S.2 0 (25 * d + x) else S.2 0 x) = _
  exact if_neg (fun z => absurd z.1 (by decide))
theorem stP_suc {S : Sd} {d i : Nat} : ((stP S d i).1, u2 (stP S d i).2 1 i ((stP S d i).2 1 i + (stP S d i).2 0 (25 * d + i))) = stP S d (i + 1) := by
  rw [stP_d, stP_0 (by omega)]
  refine Prod.ext rfl ?_
  funext a b
  show (if a = 1 then (if b = i then _ else (if a = 1 ∧ b < i then _ else _)) else (if a = 1 ∧ b < i then _ else _)) = (if a = 1 ∧ b < i + 1 then _ else _)
  by_cases ha : a = 1
  · subst ha
    rw [if_pos rfl]
    by_cases hb : b = i
    · subst hb; rw [if_pos rfl, if_pos ⟨rfl, by omega⟩]
    · rw [if_neg hb]
      by_cases hl : b < i
      · rw [if_pos ⟨rfl, hl⟩, if_pos ⟨rfl, by omega⟩]
      · rw [if_neg (fun z => hl z.2), if_neg (fun z => by omega)]
  · rw [if_neg ha, if_neg (fun z => ha z.1), if_neg (fun z => ha z.1)]
theorem ix25 {T : Sd} (hi : Iv T) (k9 : Nat) {i : Nat} (h : i < 25) : vp_in (25 * ((en T k9).1 0 0 + 1) + nI i) 25750 ∧ (25 * ((en T k9).1 0 0 + 1) + nI i).toNatClampNeg = 25 * ((en T k9).1 0 0 + 1).toNatClampNeg + i := by
  have h0 := hi.1
  have e := congrFun (en_k T 0 (by decide) k9) 0
  rw [e]
  have e1 := add1_toInt h0.1 h0.2
  have e25 : (25 : Int32).toInt = 25 := rfl
  have ei : (nI i).toInt = i := nI_toInt (by omega)
  have a : (25 * (T.1 0 0 + 1)).toInt = 25 * ((T.1 0 0).toInt + 1) := by rw [Int32.toInt_mul, e25, e1]; exact Int.bmod_eq_of_le (by omega) (by omega)
  have b : (25 * (T.1 0 0 + 1) + nI i).toInt = 25 * ((T.1 0 0).toInt + 1) + i := by rw [Int32.toInt_add, a, ei]; exact Int.bmod_eq_of_le (by omega) (by omega)
  refine ⟨by rw [vp_in_iff, b]; omega, ?_⟩
  rw [Int32.toNatClampNeg, Int32.toNatClampNeg, b, e1]
  omega
set_option maxHeartbeats 4000000 in
set_option maxRecDepth 100000 in
theorem c_X6_passes (l : Launch) (G : Gx) (M : Mp) (S T : Sd) (th : Int32) (o : Int64) (ex : Nat → Option (Nat × Nat)) (ad : Nat → Nat → Nat) (k9 : Nat) (hk9 : k9 = 20) (hw : WA G S T th o ex ad M) (hi : Iv T) : Met l yX6_passes wsX6_passes ({ frames := 4, cells := 0, slots := 0, locals := 90 }) (Cv G M [.ref (ad 14 0)]) (va_Qi (S := Mp) (fun r M2 => r = nI (enn T k9) ∧ WA G S (day1 T k9) th o ex ad M2) (Bm G (fun M2 => M2)) (AG G)) (0) (0) (AG G) := by
  refine m_met [.ref (ad 14 0)] [(0, .ref (ad 14 0))] (by decide) rfl rfl (Nat.le_of_ble_eq_true rfl) ?_
  intro p e s m below meth c ls hx hb hr hml hown hts hlocks hin hC hM hl hS
  have m14 : M (ad 14 0) = some (.inr (6, [.int th, .int (T.1 0 0), .ref (ad 15 0), .ref (ad 16 0), .ref (ad 17 0), .ref (ad 18 0), .int (T.1 5 0), .ref (ad 19 0), .ref (ad 20 0), .ref (ad 21 0), .ref (ad 22 0), .ref (ad 23 0), .ref (ad 24 0), .ref (ad 25 0), .ref (ad 26 0), .ref (ad 27 0)])) := hw.1 14 0 _ rfl
  have m22 : M (ad 22 0) = some (.inl (G.2.1 0, 20, .inl (T.1 9))) := hw.1 22 0 _ rfl
  have m24 : M (ad 24 0) = some (.inl (G.2.1 0, 20, .inl (T.1 12))) := hw.1 24 0 _ rfl
  have m27 : M (ad 27 0) = some (.inl (G.2.1 1, 25, .inr (.inl (T.2 1)))) := hw.1 27 0 _ rfl
  have m26 : M (ad 26 0) = some (.inl (G.2.1 1, 25750, .inr (.inl (T.2 0)))) := hw.1 26 0 _ rfl
  refine lv_iconst (v := 0) hx hb dX6_passes_0 (by decide) ?_
  refine lv_istore_n (lv' := [(1, .int 0), (0, .ref (ad 14 0))]) hx hb dX6_passes_1 rfl hl (by decide) rfl (fun ls hl => ?_)
  refine lv_iconst (v := 0) hx hb dX6_passes_2 (by decide) ?_
  refine lv_istore_n (lv' := [(2, .int 0), (1, .int 0), (0, .ref (ad 14 0))]) hx hb dX6_passes_3 rfl hl (by decide) rfl (fun ls hl => ?_)
  have loop : ∀ (n9 : Nat) (i9 : Nat) (M9 : Mp), i9 + n9 = ndl T → WA G S (en T i9) th o ex ad M9 → ∀ ls : Array Slot, lv_has ls 3 [(0, .ref (ad 14 0)), (1, .int (nI (enn T i9))), (2, .int (nI i9))] → ∀ (H : Heap) (locs : List Loc), Hm G M9 H → va_S (AG G) s.heap H locs → W p l e { frames := 4, cells := 0, slots := 0, locals := 90 } s m ([.ref (ad 14 0)] : List Value).toArray below meth c H locs (0) (0) (MQ below (va_Qi (S := Mp) (fun r M2 => r = nI (enn T k9) ∧ WA G S (day1 T k9) th o ex ad M2) (Bm G (fun M2 => M2)) (AG G)) ([.ref (ad 14 0)] : List Value).toArray s (0) (0) (AG G)) (F0 m 4 ls []) := by
    intro n9
    induction n9 with
    | zero =>
      intro i9 M9 hn hw9 ls hl H locs hM hS
      have m14_1 : M9 (ad 14 0) = some (.inr (6, [.int th, .int ((en T i9).1 0 0), .ref (ad 15 0), .ref (ad 16 0), .ref (ad 17 0), .ref (ad 18 0), .int ((en T i9).1 5 0), .ref (ad 19 0), .ref (ad 20 0), .ref (ad 21 0), .ref (ad 22 0), .ref (ad 23 0), .ref (ad 24 0), .ref (ad 25 0), .ref (ad 26 0), .ref (ad 27 0)])) := hw9.1 14 0 _ rfl
      have m22_1 : M9 (ad 22 0) = some (.inl (G.2.1 0, 20, .inl ((en T i9).1 9))) := hw9.1 22 0 _ rfl
      have m24_1 : M9 (ad 24 0) = some (.inl (G.2.1 0, 20, .inl ((en T i9).1 12))) := hw9.1 24 0 _ rfl
      refine lv_iload_n hx hb dX6_passes_4 rfl (lv_at hl 2 rfl) ?_
      refine lv_aload_n hx hb dX6_passes_5 rfl (lv_at hl 0 rfl) ?_
      refine m_get (ci := 6) (v := .int ((en T i9).1 5 0)) (C := RX6) (T := TX6) (N := 16) (a := (ad 14 0)) hx hb hts (by decide +kernel) hown hC hM m14_1 rfl 6 (by decide) (hts (.fieldLink RX6 61 "ForwardrollModel" "deals" "I") (by decide +kernel)) (fun _ h9 => h9) rfl dX6_passes_6 ?_
      refine lv_icmp_ge (tgt := 49) hx hb dX6_passes_9 (by decide) (fun c_9 => ?_) (fun c_9 => False.elim (by rw [en_k T 5 (by decide), ← nd_id hi] at c_9; exact c_9 (nI_le (by omega) (by have := hi.nd; omega))))
      have e9 : i9 = ndl T := by omega
      rw [e9, ← en_k9 hi hk9] at hw9
      rw [e9, ← enn_k9 hi hk9] at hl
      have hM : Hm G M9 H := hM
      have m14_3 : M9 (ad 14 0) = some (.inr (6, [.int th, .int ((en T k9).1 0 0), .ref (ad 15 0), .ref (ad 16 0), .ref (ad 17 0), .ref (ad 18 0), .int ((en T k9).1 5 0), .ref (ad 19 0), .ref (ad 20 0), .ref (ad 21 0), .ref (ad 22 0), .ref (ad 23 0), .ref (ad 24 0), .ref (ad 25 0), .ref (ad 26 0), .ref (ad 27 0)])) := hw9.1 14 0 _ rfl
      refine lv_aload_n hx hb dX6_passes_49 rfl (lv_at hl 0 rfl) ?_
      refine lv_dup hx hb dX6_passes_50 rfl ?_
      refine m_get (ci := 6) (v := .int ((en T k9).1 0 0)) (C := RX6) (T := TX6) (N := 16) (a := (ad 14 0)) hx hb hts (by decide +kernel) hown hC hM m14_3 rfl 1 (by decide) (hts (.fieldLink RX6 64 "ForwardrollModel" "today" "I") (by decide +kernel)) (fun _ h9 => h9) rfl dX6_passes_51 ?_
      refine lv_iconst (v := 1) hx hb dX6_passes_54 (by decide) ?_
      refine lv_iadd hx hb dX6_passes_55 ?_
      refine m_put (host := "") (ci := 6) (v := .int (((en T k9).1 0 0) + 1)) (ty := .int) (C := RX6) (T := TX6) (N := 16) (a := (ad 14 0)) hx hb hts (by decide +kernel) tyX6 tyX6_ok nmX6 hown hC hM hS m14_3 rfl 1 (by decide) (hts (.fieldLink RX6 64 "ForwardrollModel" "today" "I") (by decide +kernel)) (fun _ h9 => h9) rfl (by decide +kernel) rfl rfl (Nat.le_of_ble_eq_true rfl) dX6_passes_56 (fun H locs hM hS => ?_)
      have hM : Hm G (va_up M9 (ad 14 0) (some (.inr (6, [.int th, .int (((en T k9).1 0 0) + 1), .ref (ad 15 0), .ref (ad 16 0), .ref (ad 17 0), .ref (ad 18 0), .int ((en T k9).1 5 0), .ref (ad 19 0), .ref (ad 20 0), .ref (ad 21 0), .ref (ad 22 0), .ref (ad 23 0), .ref (ad 24 0), .ref (ad 25 0), .ref (ad 26 0), .ref (ad 27 0)])))) H := hM
      have f56_5 : (va_up M9 (ad 14 0) (some (.inr (6, [.int th, .int (((en T k9).1 0 0) + 1), .ref (ad 15 0), .ref (ad 16 0), .ref (ad 17 0), .ref (ad 18 0), .int ((en T k9).1 5 0), .ref (ad 19 0), .ref (ad 20 0), .ref (ad 21 0), .ref (ad 22 0), .ref (ad 23 0), .ref (ad 24 0), .ref (ad 25 0), .ref (ad 26 0), .ref (ad 27 0)])))) (ad 14 0) = some (.inr (6, [.int th, .int (((en T k9).1 0 0) + 1), .ref (ad 15 0), .ref (ad 16 0), .ref (ad 17 0), .ref (ad 18 0), .int ((en T k9).1 5 0), .ref (ad 19 0), .ref (ad 20 0), .ref (ad 21 0), .ref (ad 22 0), .ref (ad 23 0), .ref (ad 24 0), .ref (ad 25 0), .ref (ad 26 0), .ref (ad 27 0)])) := up_eq
      refine lv_iconst (v := 0) hx hb dX6_passes_59 (by decide) ?_
      refine lv_istore_n (lv' := [(2, .int 0), (0, .ref (ad 14 0)), (1, .int (nI (enn T k9)))]) hx hb dX6_passes_60 rfl hl (by decide) rfl (fun ls hl => ?_)
      have hwt : WA G S (tck T k9) th o ex ad (va_up M9 (ad 14 0) (some (.inr (6, [.int th, .int (((en T k9).1 0 0) + 1), .ref (ad 15 0), .ref (ad 16 0), .ref (ad 17 0), .ref (ad 18 0), .int ((en T k9).1 5 0), .ref (ad 19 0), .ref (ad 20 0), .ref (ad 21 0), .ref (ad 22 0), .ref (ad 23 0), .ref (ad 24 0), .ref (ad 25 0), .ref (ad 26 0), .ref (ad 27 0)])))) := w_mday hw9 _
      have loop2 : ∀ (n9 : Nat) (i9 : Nat) (M9 : Mp), i9 + n9 = 25 → WA G S (stP (tck T k9) ((en T k9).1 0 0 + 1).toNatClampNeg i9) th o ex ad M9 → ∀ ls : Array Slot, lv_has ls 3 [(0, .ref (ad 14 0)), (1, .int (nI (enn T k9))), (2, .int (nI i9))] → ∀ (H : Heap) (locs : List Loc), Hm G M9 H → va_S (AG G) s.heap H locs → W p l e { frames := 4, cells := 0, slots := 0, locals := 90 } s m ([.ref (ad 14 0)] : List Value).toArray below meth c H locs (0) (0) (MQ below (va_Qi (S := Mp) (fun r M2 => r = nI (enn T k9) ∧ WA G S (day1 T k9) th o ex ad M2) (Bm G (fun M2 => M2)) (AG G)) ([.ref (ad 14 0)] : List Value).toArray s (0) (0) (AG G)) (F0 m 61 ls []) := by
        intro n9
        induction n9 with
        | zero =>
          intro i9 M9 hn hw9 ls hl H locs hM hS
          have m14_6 : M9 (ad 14 0) = some (.inr (6, [.int th, .int ((en T k9).1 0 0 + 1), .ref (ad 15 0), .ref (ad 16 0), .ref (ad 17 0), .ref (ad 18 0), .int ((stP (tck T k9) ((en T k9).1 0 0 + 1).toNatClampNeg i9).1 5 0), .ref (ad 19 0), .ref (ad 20 0), .ref (ad 21 0), .ref (ad 22 0), .ref (ad 23 0), .ref (ad 24 0), .ref (ad 25 0), .ref (ad 26 0), .ref (ad 27 0)])) := hw9.1 14 0 _ rfl
          have m26_6 : M9 (ad 26 0) = some (.inl (G.2.1 1, 25750, .inr (.inl ((stP (tck T k9) ((en T k9).1 0 0 + 1).toNatClampNeg i9).2 0)))) := hw9.1 26 0 _ rfl
          have m27_6 : M9 (ad 27 0) = some (.inl (G.2.1 1, 25, .inr (.inl ((stP (tck T k9) ((en T k9).1 0 0 + 1).toNatClampNeg i9).2 1)))) := hw9.1 27 0 _ rfl
          refine lv_iload_n hx hb dX6_passes_61 rfl (lv_at hl 2 rfl) ?_
          refine lv_bipush (v := 25) hx hb dX6_passes_62 (by decide) ?_
          refine lv_icmp_ge (tgt := 96) hx hb dX6_passes_64 (by decide) (fun c_64 => ?_) (fun c_64 => False.elim (by exact c_64 (nI_le (a := 25) (by omega) (by omega))))
          refine lv_iload_n hx hb dX6_passes_96 rfl (lv_at hl 1 rfl) ?_
          have e25 : i9 = 25 := by omega
          rw [e25] at hw9
          exact (r_i hx hb hr hlocks hS (v := (nI (enn T k9))) _ ⟨rfl, hw9⟩ hM (Nat.le_of_ble_eq_true rfl) (Nat.le_of_ble_eq_true rfl) dX6_passes_97)
        | succ n9 ih =>
          intro i9 M9 hn hw9 ls hl H locs hM hS
          have m14_8 : M9 (ad 14 0) = some (.inr (6, [.int th, .int ((en T k9).1 0 0 + 1), .ref (ad 15 0), .ref (ad 16 0), .ref (ad 17 0), .ref (ad 18 0), .int ((stP (tck T k9) ((en T k9).1 0 0 + 1).toNatClampNeg i9).1 5 0), .ref (ad 19 0), .ref (ad 20 0), .ref (ad 21 0), .ref (ad 22 0), .ref (ad 23 0), .ref (ad 24 0), .ref (ad 25 0), .ref (ad 26 0), .ref (ad 27 0)])) := hw9.1 14 0 _ rfl
          have m26_8 : M9 (ad 26 0) = some (.inl (G.2.1 1, 25750, .inr (.inl ((stP (tck T k9) ((en T k9).1 0 0 + 1).toNatClampNeg i9).2 0)))) := hw9.1 26 0 _ rfl
          have m27_8 : M9 (ad 27 0) = some (.inl (G.2.1 1, 25, .inr (.inl ((stP (tck T k9) ((en T k9).1 0 0 + 1).toNatClampNeg i9).2 1)))) := hw9.1 27 0 _ rfl
          refine lv_iload_n hx hb dX6_passes_61 rfl (lv_at hl 2 rfl) ?_
          refine lv_bipush (v := 25) hx hb dX6_passes_62 (by decide) ?_
          refine lv_icmp_ge (tgt := 96) hx hb dX6_passes_64 (by decide) (fun c_64 => False.elim (by exact nI_ge (a := i9) (b := 25) (by omega) (by omega) c_64)) (fun c_64 => ?_)
          refine lv_aload_n hx hb dX6_passes_67 rfl (lv_at hl 0 rfl) ?_
          refine m_get (ci := 6) (v := .ref (ad 27 0)) (C := RX6) (T := TX6) (N := 16) (a := (ad 14 0)) hx hb hts (by decide +kernel) hown hC hM m14_8 rfl 15 (by decide) (hts (.fieldLink RX6 50 "ForwardrollModel" "balance" "[J") (by decide +kernel)) (fun _ h9 => h9) rfl dX6_passes_68 ?_
          refine lv_iload_n hx hb dX6_passes_71 rfl (lv_at hl 2 rfl) ?_
          refine lv_dup2_11 hx hb dX6_passes_72 rfl rfl ?_
          refine m_lald (a := (ad 27 0)) hx hb hC hM m27_8 (vp_in_nI (n := i9) (by omega) (by omega)) dX6_passes_73 ?_
          refine lv_aload_n hx hb dX6_passes_74 rfl (lv_at hl 0 rfl) ?_
          refine m_get (ci := 6) (v := .ref (ad 26 0)) (C := RX6) (T := TX6) (N := 16) (a := (ad 14 0)) hx hb hts (by decide +kernel) hown hC hM m14_8 rfl 14 (by decide) (hts (.fieldLink RX6 47 "ForwardrollModel" "due" "[J") (by decide +kernel)) (fun _ h9 => h9) rfl dX6_passes_75 ?_
          refine lv_bipush (v := 25) hx hb dX6_passes_78 (by decide) ?_
          refine lv_aload_n hx hb dX6_passes_80 rfl (lv_at hl 0 rfl) ?_
          refine m_get (ci := 6) (v := .int ((en T k9).1 0 0 + 1)) (C := RX6) (T := TX6) (N := 16) (a := (ad 14 0)) hx hb hts (by decide +kernel) hown hC hM m14_8 rfl 1 (by decide) (hts (.fieldLink RX6 64 "ForwardrollModel" "today" "I") (by decide +kernel)) (fun _ h9 => h9) rfl dX6_passes_81 ?_
          refine lv_imul hx hb dX6_passes_84 ?_
          refine lv_iload_n hx hb dX6_passes_85 rfl (lv_at hl 2 rfl) ?_
          refine lv_iadd hx hb dX6_passes_86 ?_
          refine m_lald (a := (ad 26 0)) hx hb hC hM m26_8 (ix25 hi k9 (i := i9) (by omega)).1 dX6_passes_87 ?_
          refine lv_ladd hx hb dX6_passes_88 ?_
          refine m_last (a := (ad 27 0)) hx hb hC hM hS m27_8 (vp_in_nI (n := i9) (by omega) (by omega)) dX6_passes_89 (fun H locs hM hS => ?_)
          have hM : Hm G (va_up M9 (ad 27 0) (some (.inl (G.2.1 1, 25, .inr (.inl (vp_updL ((stP (tck T k9) ((en T k9).1 0 0 + 1).toNatClampNeg i9).2 1) (nI i9).toNatClampNeg ((((stP (tck T k9) ((en T k9).1 0 0 + 1).toNatClampNeg i9).2 1) (nI i9).toNatClampNeg) + (((stP (tck T k9) ((en T k9).1 0 0 + 1).toNatClampNeg i9).2 0) ((25 * ((en T k9).1 0 0 + 1)) + (nI i9)).toNatClampNeg)))))))) H := hM
          have f89_11 : (va_up M9 (ad 27 0) (some (.inl (G.2.1 1, 25, .inr (.inl (vp_updL ((stP (tck T k9) ((en T k9).1 0 0 + 1).toNatClampNeg i9).2 1) (nI i9).toNatClampNeg ((((stP (tck T k9) ((en T k9).1 0 0 + 1).toNatClampNeg i9).2 1) (nI i9).toNatClampNeg) + (((stP (tck T k9) ((en T k9).1 0 0 + 1).toNatClampNeg i9).2 0) ((25 * ((en T k9).1 0 0 + 1)) + (nI i9)).toNatClampNeg)))))))) (ad 14 0) = some (.inr (6, [.int th, .int ((en T k9).1 0 0 + 1), .ref (ad 15 0), .ref (ad 16 0), .ref (ad 17 0), .ref (ad 18 0), .int ((stP (tck T k9) ((en T k9).1 0 0 + 1).toNatClampNeg i9).1 5 0), .ref (ad 19 0), .ref (ad 20 0), .ref (ad 21 0), .ref (ad 22 0), .ref (ad 23 0), .ref (ad 24 0), .ref (ad 25 0), .ref (ad 26 0), .ref (ad 27 0)])) := (up_ne (hw.ne (k := 14) (i := 0) (k' := 27) (i' := 0) rfl rfl (by decide))).trans m14_8
          have f89_12 : (va_up M9 (ad 27 0) (some (.inl (G.2.1 1, 25, .inr (.inl (vp_updL ((stP (tck T k9) ((en T k9).1 0 0 + 1).toNatClampNeg i9).2 1) (nI i9).toNatClampNeg ((((stP (tck T k9) ((en T k9).1 0 0 + 1).toNatClampNeg i9).2 1) (nI i9).toNatClampNeg) + (((stP (tck T k9) ((en T k9).1 0 0 + 1).toNatClampNeg i9).2 0) ((25 * ((en T k9).1 0 0 + 1)) + (nI i9)).toNatClampNeg)))))))) (ad 26 0) = some (.inl (G.2.1 1, 25750, .inr (.inl ((stP (tck T k9) ((en T k9).1 0 0 + 1).toNatClampNeg i9).2 0)))) := (up_ne (hw.ne (k := 26) (i := 0) (k' := 27) (i' := 0) rfl rfl (by decide))).trans m26_8
          have f89_13 : (va_up M9 (ad 27 0) (some (.inl (G.2.1 1, 25, .inr (.inl (vp_updL ((stP (tck T k9) ((en T k9).1 0 0 + 1).toNatClampNeg i9).2 1) (nI i9).toNatClampNeg ((((stP (tck T k9) ((en T k9).1 0 0 + 1).toNatClampNeg i9).2 1) (nI i9).toNatClampNeg) + (((stP (tck T k9) ((en T k9).1 0 0 + 1).toNatClampNeg i9).2 0) ((25 * ((en T k9).1 0 0 + 1)) + (nI i9)).toNatClampNeg)))))))) (ad 27 0) = some (.inl (G.2.1 1, 25, .inr (.inl (vp_updL ((stP (tck T k9) ((en T k9).1 0 0 + 1).toNatClampNeg i9).2 1) (nI i9).toNatClampNeg ((((stP (tck T k9) ((en T k9).1 0 0 + 1).toNatClampNeg i9).2 1) (nI i9).toNatClampNeg) + (((stP (tck T k9) ((en T k9).1 0 0 + 1).toNatClampNeg i9).2 0) ((25 * ((en T k9).1 0 0 + 1)) + (nI i9)).toNatClampNeg)))))) := up_eq
          refine lv_iinc (v := ((nI i9) + 1)) (lv' := [(2, .int ((nI i9) + 1)), (0, .ref (ad 14 0)), (1, .int (nI (enn T k9)))]) hx hb dX6_passes_90 hl (k := 2) rfl rfl (by decide) rfl (fun ls hl => ?_)
          refine lv_goto (tgt := 61) hx hb dX6_passes_93 (by decide) ?_
          have ei : (nI i9).toNatClampNeg = i9 := nI_clamp (by omega)
          have hix := ix25 hi k9 (i := i9) (by omega)
          have hwu := w_mbal hw9 (nI i9).toNatClampNeg (((stP (tck T k9) ((en T k9).1 0 0 + 1).toNatClampNeg i9).2 1) (nI i9).toNatClampNeg + ((stP (tck T k9) ((en T k9).1 0 0 + 1).toNatClampNeg i9).2 0) (25 * ((en T k9).1 0 0 + 1) + nI i9).toNatClampNeg)
          have es : ((stP (tck T k9) ((en T k9).1 0 0 + 1).toNatClampNeg i9).1, u2 (stP (tck T k9) ((en T k9).1 0 0 + 1).toNatClampNeg i9).2 1 (nI i9).toNatClampNeg (((stP (tck T k9) ((en T k9).1 0 0 + 1).toNatClampNeg i9).2 1) (nI i9).toNatClampNeg + ((stP (tck T k9) ((en T k9).1 0 0 + 1).toNatClampNeg i9).2 0) (25 * ((en T k9).1 0 0 + 1) + nI i9).toNatClampNeg)) = stP (tck T k9) ((en T k9).1 0 0 + 1).toNatClampNeg (i9 + 1) := by rw [ei, hix.2]; exact stP_suc
          rw [es] at hwu
          rw [show nI i9 + 1 = nI (i9 + 1) from nI_1 i9] at hl
          exact ih (i9 + 1) _ (by omega) hwu ls (lv_sub hl [1, 2, 0] rfl) _ _ hM hS
      exact loop2 25 0 (va_up M9 (ad 14 0) (some (.inr (6, [.int th, .int (((en T k9).1 0 0) + 1), .ref (ad 15 0), .ref (ad 16 0), .ref (ad 17 0), .ref (ad 18 0), .int ((en T k9).1 5 0), .ref (ad 19 0), .ref (ad 20 0), .ref (ad 21 0), .ref (ad 22 0), .ref (ad 23 0), .ref (ad 24 0), .ref (ad 25 0), .ref (ad 26 0), .ref (ad 27 0)])))) rfl (by rw [stP_zz]; exact hwt) ls (lv_sub hl [1, 2, 0] rfl) _ _ hM hS
    | succ n9 ih =>
      intro i9 M9 hn hw9 ls hl H locs hM hS
      have m14_14 : M9 (ad 14 0) = some (.inr (6, [.int th, .int ((en T i9).1 0 0), .ref (ad 15 0), .ref (ad 16 0), .ref (ad 17 0), .ref (ad 18 0), .int ((en T i9).1 5 0), .ref (ad 19 0), .ref (ad 20 0), .ref (ad 21 0), .ref (ad 22 0), .ref (ad 23 0), .ref (ad 24 0), .ref (ad 25 0), .ref (ad 26 0), .ref (ad 27 0)])) := hw9.1 14 0 _ rfl
      have m22_14 : M9 (ad 22 0) = some (.inl (G.2.1 0, 20, .inl ((en T i9).1 9))) := hw9.1 22 0 _ rfl
      have m24_14 : M9 (ad 24 0) = some (.inl (G.2.1 0, 20, .inl ((en T i9).1 12))) := hw9.1 24 0 _ rfl
      refine lv_iload_n hx hb dX6_passes_4 rfl (lv_at hl 2 rfl) ?_
      refine lv_aload_n hx hb dX6_passes_5 rfl (lv_at hl 0 rfl) ?_
      refine m_get (ci := 6) (v := .int ((en T i9).1 5 0)) (C := RX6) (T := TX6) (N := 16) (a := (ad 14 0)) hx hb hts (by decide +kernel) hown hC hM m14_14 rfl 6 (by decide) (hts (.fieldLink RX6 61 "ForwardrollModel" "deals" "I") (by decide +kernel)) (fun _ h9 => h9) rfl dX6_passes_6 ?_
      refine lv_icmp_ge (tgt := 49) hx hb dX6_passes_9 (by decide) (fun c_9 => False.elim (by rw [en_k T 5 (by decide), ← nd_id hi] at c_9; exact nI_ge (a := i9) (b := ndl T) (by omega) (by have := hi.nd; omega) c_9)) (fun c_9 => ?_)
      refine lv_aload_n hx hb dX6_passes_12 rfl (lv_at hl 0 rfl) ?_
      refine m_get (ci := 6) (v := .ref (ad 22 0)) (C := RX6) (T := TX6) (N := 16) (a := (ad 14 0)) hx hb hts (by decide +kernel) hown hC hM m14_14 rfl 10 (by decide) (hts (.fieldLink RX6 35 "ForwardrollModel" "left" "[I") (by decide +kernel)) (fun _ h9 => h9) rfl dX6_passes_13 ?_
      refine lv_iload_n hx hb dX6_passes_16 rfl (lv_at hl 2 rfl) ?_
      refine m_iald (a := (ad 22 0)) hx hb hC hM m22_14 (vin_n hi (show i9 < ndl T by omega)) dX6_passes_17 ?_
      refine lv_if_le (tgt := 43) hx hb dX6_passes_18 (by decide) (fun c_18 => ?_) (fun c_18 => ?_)
      · refine lv_iinc (v := ((nI i9) + 1)) (lv' := [(2, .int ((nI i9) + 1)), (0, .ref (ad 14 0)), (1, .int (nI (enn T i9)))]) hx hb dX6_passes_43 hl (k := 2) rfl rfl (by decide) rfl (fun ls hl => ?_)
        refine lv_goto (tgt := 4) hx hb dX6_passes_46 (by decide) ?_
        rw [show nI i9 + 1 = nI (i9 + 1) from nI_1 i9] at hl
        have hj9 : i9 < ndl T := by omega
        rw [cl_n hi hj9] at c_18
        have eo : opn (en T i9) i9 = false := opn_2 (Int32.not_lt.mpr c_18)
        have es : en T (i9 + 1) = en T i9 := if_neg (by rw [eo]; decide)
        have ec : enn T (i9 + 1) = enn T i9 := if_neg (by rw [eo]; decide)
        rw [show nI (enn T i9) = nI (enn T (i9 + 1)) from by rw [ec]] at hl
        exact ih (i9 + 1) M9 (by omega) (by rw [es]; exact hw9) ls (lv_sub hl [1, 2, 0] rfl) _ _ hM hS
      · refine lv_aload_n hx hb dX6_passes_21 rfl (lv_at hl 0 rfl) ?_
        refine m_get (ci := 6) (v := .ref (ad 24 0)) (C := RX6) (T := TX6) (N := 16) (a := (ad 14 0)) hx hb hts (by decide +kernel) hown hC hM m14_14 rfl 12 (by decide) (hts (.fieldLink RX6 41 "ForwardrollModel" "last" "[I") (by decide +kernel)) (fun _ h9 => h9) rfl dX6_passes_22 ?_
        refine lv_iload_n hx hb dX6_passes_25 rfl (lv_at hl 2 rfl) ?_
        refine m_iald (a := (ad 24 0)) hx hb hC hM m24_14 (vin_n hi (show i9 < ndl T by omega)) dX6_passes_26 ?_
        refine lv_aload_n hx hb dX6_passes_27 rfl (lv_at hl 0 rfl) ?_
        refine m_get (ci := 6) (v := .int ((en T i9).1 0 0)) (C := RX6) (T := TX6) (N := 16) (a := (ad 14 0)) hx hb hts (by decide +kernel) hown hC hM m14_14 rfl 1 (by decide) (hts (.fieldLink RX6 64 "ForwardrollModel" "today" "I") (by decide +kernel)) (fun _ h9 => h9) rfl dX6_passes_28 ?_
        refine lv_icmp_ne (tgt := 43) hx hb dX6_passes_31 (by decide) (fun c_31 => ?_) (fun c_31 => ?_)
        · refine lv_iinc (v := ((nI i9) + 1)) (lv' := [(2, .int ((nI i9) + 1)), (0, .ref (ad 14 0)), (1, .int (nI (enn T i9)))]) hx hb dX6_passes_43 hl (k := 2) rfl rfl (by decide) rfl (fun ls hl => ?_)
          refine lv_goto (tgt := 4) hx hb dX6_passes_46 (by decide) ?_
          rw [show nI i9 + 1 = nI (i9 + 1) from nI_1 i9] at hl
          have hj9 : i9 < ndl T := by omega
          rw [cl_n hi hj9] at c_18
          rw [cl_n hi hj9] at c_31
          have eo : opn (en T i9) i9 = false := opn_3 c_31
          have es : en T (i9 + 1) = en T i9 := if_neg (by rw [eo]; decide)
          have ec : enn T (i9 + 1) = enn T i9 := if_neg (by rw [eo]; decide)
          rw [show nI (enn T i9) = nI (enn T (i9 + 1)) from by rw [ec]] at hl
          exact ih (i9 + 1) M9 (by omega) (by rw [es]; exact hw9) ls (lv_sub hl [1, 2, 0] rfl) _ _ hM hS
        · refine lv_aload_n hx hb dX6_passes_34 rfl (lv_at hl 0 rfl) ?_
          refine lv_iload_n hx hb dX6_passes_35 rfl (lv_at hl 2 rfl) ?_
          refine k_l (va_runV (As := [.int (nI i9)]) (rest := []) ⟨hx, hb, hml, hown, hts⟩ (c_X6_closes l G M9 S (en T i9) th o ex ad (nI i9) hw9 (hi.en i9) (jn_ok hi (show i9 < ndl T by omega))) (cwV 1 hts gX6_passes_X6_closes rfl rfl rfl (by decide +kernel) ⟨Nat.le_of_ble_eq_true rfl, Nat.le_of_ble_eq_true rfl⟩) (preV_of hC hS hM m14_14 rfl) rfl rfl hl.1 rfl (lv_room (Nat.le_of_ble_eq_true rfl)) dX6_passes_36 ⟨Nat.le_of_ble_eq_true rfl, Nat.le_of_ble_eq_true rfl⟩) hS (fun r36 u36 H locs hp36 hM hS => ?_)
          obtain ⟨er36, hw36⟩ := hp36
          have hM : Hm G u36 H := hM
          refine lv_pop2_2 hx hb dX6_passes_39 rfl ?_
          refine lv_iinc (v := ((nI (enn T i9)) + 1)) (lv' := [(1, .int ((nI (enn T i9)) + 1)), (0, .ref (ad 14 0)), (2, .int (nI i9))]) hx hb dX6_passes_40 hl (k := 1) rfl rfl (by decide) rfl (fun ls hl => ?_)
          refine lv_iinc (v := ((nI i9) + 1)) (lv' := [(2, .int ((nI i9) + 1)), (1, .int ((nI (enn T i9)) + 1)), (0, .ref (ad 14 0))]) hx hb dX6_passes_43 hl (k := 2) rfl rfl (by decide) rfl (fun ls hl => ?_)
          refine lv_goto (tgt := 4) hx hb dX6_passes_46 (by decide) ?_
          rw [show nI i9 + 1 = nI (i9 + 1) from nI_1 i9] at hl
          have hj9 : i9 < ndl T := by omega
          rw [cl_n hi hj9] at c_18
          rw [cl_n hi hj9] at c_31
          have eo : opn (en T i9) i9 = true := opn_t (by rw [en_nd]; exact hj9) (Int32.not_le.mp c_18) c_31
          have es : en T (i9 + 1) = edS (en T i9) i9 := if_pos eo
          have ec : enn T (i9 + 1) = enn T i9 + 1 := if_pos eo
          rw [show nI (enn T i9) + 1 = nI (enn T (i9 + 1)) from by rw [ec]; exact nI_1 _] at hl
          have hw7 : WA G S (en T (i9 + 1)) th o ex ad u36 := by rw [es]; rw [cl_n hi hj9] at hw36; exact hw36
          exact ih (i9 + 1) u36 (by omega) hw7 ls (lv_sub hl [2, 1, 0] rfl) _ _ hM hS
  exact loop (ndl T) 0 M (by omega) hw ls (lv_sub hl [2, 1, 0] rfl) _ _ hM hS
set_option maxHeartbeats 4000000 in
set_option maxRecDepth 100000 in
theorem c_X6_pass (l : Launch) (G : Gx) (M : Mp) (S T : Sd) (th : Int32) (o : Int64) (ex : Nat → Option (Nat × Nat)) (ad : Nat → Nat → Nat) (k9 : Nat) (hk9 : k9 = 20) (x : Int32) (hw : WA G S T th o ex ad M) (hi : Iv T) : Met l yX6_pass wsX6_pass ({ frames := 5, cells := 0, slots := 0, locals := 112 }) (Cv G M [.ref (ad 14 0), .int x]) (va_Qi (S := Mp) (fun r M2 => (¬ (1 ≤ x ∧ x ≤ 100) ∧ WA G S T 1 o ex ad M2) ∨ ((1 ≤ x ∧ x ≤ 100) ∧ ¬ T.1 0 0 + x ≤ 1000 ∧ WA G S T 2 o ex ad M2) ∨ ((1 ≤ x ∧ x ≤ 100) ∧ T.1 0 0 + x ≤ 1000 ∧ r = nI (pn T k9 x.toNatClampNeg) ∧ WA G S (pd T k9 x.toNatClampNeg) 0 o ex ad M2)) (Bm G (fun M2 => M2)) (AG G)) (0) (0) (AG G) := by
  refine m_met [.ref (ad 14 0), .int x] [(0, .ref (ad 14 0)), (1, .int x)] (by decide) rfl rfl (Nat.le_of_ble_eq_true rfl) ?_
  intro p e s m below meth c ls hx hb hr hml hown hts hlocks hin hC hM hl hS
  have m14 : M (ad 14 0) = some (.inr (6, [.int th, .int (T.1 0 0), .ref (ad 15 0), .ref (ad 16 0), .ref (ad 17 0), .ref (ad 18 0), .int (T.1 5 0), .ref (ad 19 0), .ref (ad 20 0), .ref (ad 21 0), .ref (ad 22 0), .ref (ad 23 0), .ref (ad 24 0), .ref (ad 25 0), .ref (ad 26 0), .ref (ad 27 0)])) := hw.1 14 0 _ rfl
  refine lv_aload_n hx hb dX6_pass_0 rfl (lv_at hl 0 rfl) ?_
  refine lv_iload_n hx hb dX6_pass_1 rfl (lv_at hl 1 rfl) ?_
  refine lv_iconst (v := 1) hx hb dX6_pass_2 (by decide) ?_
  refine lv_bipush (v := 100) hx hb dX6_pass_3 (by decide) ?_
  refine k_i (va_runS (As := [.int x, .int 1, .int 100]) (rest := [.ref (ad 14 0)]) ⟨hx, hb, hml, hown, hts⟩ (c_X6_in l G M x (1 : Int32) (100 : Int32)) (va_cwS 3 hts gX6_pass_X6_in rfl rfl rfl (by decide +kernel) ⟨Nat.le_of_ble_eq_true rfl, Nat.le_of_ble_eq_true rfl⟩) (preS_of hC hS hM) rfl rfl hl.1 rfl (lv_room (Nat.le_of_ble_eq_true rfl)) dX6_pass_5 ⟨Nat.le_of_ble_eq_true rfl, Nat.le_of_ble_eq_true rfl⟩) hS (fun r5 u5 H locs hp5 hM hS => ?_)
  have hM : Hm G M H := hM
  have hp5 : r5 = inb x (1 : Int32) (100 : Int32) := hp5
  subst hp5
  refine lv_if_ne (tgt := 15) hx hb dX6_pass_8 (by decide) (fun c_8 => ?_) (fun c_8 => ?_)
  · refine lv_aload_n hx hb dX6_pass_15 rfl (lv_at hl 0 rfl) ?_
    refine m_get (ci := 6) (v := .int (T.1 0 0)) (C := RX6) (T := TX6) (N := 16) (a := (ad 14 0)) hx hb hts (by decide +kernel) hown hC hM m14 rfl 1 (by decide) (hts (.fieldLink RX6 64 "ForwardrollModel" "today" "I") (by decide +kernel)) (fun _ h9 => h9) rfl dX6_pass_16 ?_
    refine lv_iload_n hx hb dX6_pass_19 rfl (lv_at hl 1 rfl) ?_
    refine lv_iadd hx hb dX6_pass_20 ?_
    refine lv_sipush (v := 1000) hx hb dX6_pass_21 (by decide) ?_
    refine lv_icmp_le (tgt := 31) hx hb dX6_pass_24 (by decide) (fun c_24 => ?_) (fun c_24 => ?_)
    · refine lv_iconst (v := 0) hx hb dX6_pass_31 (by decide) ?_
      refine m_put (host := "") (ci := 6) (v := .int 0) (ty := .int) (C := RX6) (T := TX6) (N := 16) (a := (ad 14 0)) hx hb hts (by decide +kernel) tyX6 tyX6_ok nmX6 hown hC hM hS m14 rfl 0 (by decide) (hts (.fieldLink RX6 53 "ForwardrollModel" "thrown" "I") (by decide +kernel)) (fun _ h9 => h9) rfl (by decide +kernel) rfl rfl (Nat.le_of_ble_eq_true rfl) dX6_pass_32 (fun H locs hM hS => ?_)
      have hM : Hm G (va_up M (ad 14 0) (some (.inr (6, [.int 0, .int (T.1 0 0), .ref (ad 15 0), .ref (ad 16 0), .ref (ad 17 0), .ref (ad 18 0), .int (T.1 5 0), .ref (ad 19 0), .ref (ad 20 0), .ref (ad 21 0), .ref (ad 22 0), .ref (ad 23 0), .ref (ad 24 0), .ref (ad 25 0), .ref (ad 26 0), .ref (ad 27 0)])))) H := hM
      have f32_4 : (va_up M (ad 14 0) (some (.inr (6, [.int 0, .int (T.1 0 0), .ref (ad 15 0), .ref (ad 16 0), .ref (ad 17 0), .ref (ad 18 0), .int (T.1 5 0), .ref (ad 19 0), .ref (ad 20 0), .ref (ad 21 0), .ref (ad 22 0), .ref (ad 23 0), .ref (ad 24 0), .ref (ad 25 0), .ref (ad 26 0), .ref (ad 27 0)])))) (ad 14 0) = some (.inr (6, [.int 0, .int (T.1 0 0), .ref (ad 15 0), .ref (ad 16 0), .ref (ad 17 0), .ref (ad 18 0), .int (T.1 5 0), .ref (ad 19 0), .ref (ad 20 0), .ref (ad 21 0), .ref (ad 22 0), .ref (ad 23 0), .ref (ad 24 0), .ref (ad 25 0), .ref (ad 26 0), .ref (ad 27 0)])) := up_eq
      refine lv_iconst (v := 0) hx hb dX6_pass_35 (by decide) ?_
      refine lv_istore_n (lv' := [(2, .int 0), (0, .ref (ad 14 0)), (1, .int x)]) hx hb dX6_pass_36 rfl hl (by decide) rfl (fun ls hl => ?_)
      refine lv_iconst (v := 0) hx hb dX6_pass_37 (by decide) ?_
      refine lv_istore_n (lv' := [(3, .int 0), (2, .int 0), (0, .ref (ad 14 0)), (1, .int x)]) hx hb dX6_pass_38 rfl hl (by decide) rfl (fun ls hl => ?_)
      have hp4 := inb_t c_8
      have hdl := day_le hi hp4 c_24
      have loop : ∀ (n9 : Nat) (i9 : Nat) (M9 : Mp), i9 + n9 = x.toNatClampNeg → WA G S (pd T k9 i9) 0 o ex ad M9 → ∀ ls : Array Slot, lv_has ls 4 [(0, .ref (ad 14 0)), (1, .int x), (2, .int (nI (pn T k9 i9))), (3, .int (nI i9))] → ∀ (H : Heap) (locs : List Loc), Hm G M9 H → va_S (AG G) s.heap H locs → W p l e { frames := 5, cells := 0, slots := 0, locals := 112 } s m ([.ref (ad 14 0), .int x] : List Value).toArray below meth c H locs (0) (0) (MQ below (va_Qi (S := Mp) (fun r M2 => (¬ (1 ≤ x ∧ x ≤ 100) ∧ WA G S T 1 o ex ad M2) ∨ ((1 ≤ x ∧ x ≤ 100) ∧ ¬ T.1 0 0 + x ≤ 1000 ∧ WA G S T 2 o ex ad M2) ∨ ((1 ≤ x ∧ x ≤ 100) ∧ T.1 0 0 + x ≤ 1000 ∧ r = nI (pn T k9 x.toNatClampNeg) ∧ WA G S (pd T k9 x.toNatClampNeg) 0 o ex ad M2)) (Bm G (fun M2 => M2)) (AG G)) ([.ref (ad 14 0), .int x] : List Value).toArray s (0) (0) (AG G)) (F0 m 39 ls []) := by
        intro n9
        induction n9 with
        | zero =>
          intro i9 M9 hn hw9 ls hl H locs hM hS
          have m14_5 : M9 (ad 14 0) = some (.inr (6, [.int 0, .int ((pd T k9 i9).1 0 0), .ref (ad 15 0), .ref (ad 16 0), .ref (ad 17 0), .ref (ad 18 0), .int ((pd T k9 i9).1 5 0), .ref (ad 19 0), .ref (ad 20 0), .ref (ad 21 0), .ref (ad 22 0), .ref (ad 23 0), .ref (ad 24 0), .ref (ad 25 0), .ref (ad 26 0), .ref (ad 27 0)])) := hw9.1 14 0 _ rfl
          refine lv_iload_n hx hb dX6_pass_39 rfl (lv_at hl 3 rfl) ?_
          refine lv_iload_n hx hb dX6_pass_40 rfl (lv_at hl 1 rfl) ?_
          refine lv_icmp_ge (tgt := 64) hx hb dX6_pass_41 (by decide) (fun c_41 => ?_) (fun c_41 => False.elim (by rw [show i9 = x.toNatClampNeg by omega, nI_id (by have := r100 hp4; omega)] at c_41; exact c_41 (Int32.le_refl x)))
          refine lv_iload_n hx hb dX6_pass_64 rfl (lv_at hl 2 rfl) ?_
          have e20 : i9 = x.toNatClampNeg := by omega
          rw [e20] at hw9
          exact (r_i hx hb hr hlocks hS (v := (nI (pn T k9 i9))) _ (Or.inr (Or.inr ⟨hp4, c_24, by rw [e20], hw9⟩)) hM (Nat.le_of_ble_eq_true rfl) (Nat.le_of_ble_eq_true rfl) dX6_pass_65)
        | succ n9 ih =>
          intro i9 M9 hn hw9 ls hl H locs hM hS
          have m14_7 : M9 (ad 14 0) = some (.inr (6, [.int 0, .int ((pd T k9 i9).1 0 0), .ref (ad 15 0), .ref (ad 16 0), .ref (ad 17 0), .ref (ad 18 0), .int ((pd T k9 i9).1 5 0), .ref (ad 19 0), .ref (ad 20 0), .ref (ad 21 0), .ref (ad 22 0), .ref (ad 23 0), .ref (ad 24 0), .ref (ad 25 0), .ref (ad 26 0), .ref (ad 27 0)])) := hw9.1 14 0 _ rfl
          refine lv_iload_n hx hb dX6_pass_39 rfl (lv_at hl 3 rfl) ?_
          refine lv_iload_n hx hb dX6_pass_40 rfl (lv_at hl 1 rfl) ?_
          refine lv_icmp_ge (tgt := 64) hx hb dX6_pass_41 (by decide) (fun c_41 => False.elim (by rw [← nI_id (x := x) (by have := r100 hp4; omega)] at c_41; exact nI_ge (a := i9) (b := x.toNatClampNeg) (by omega) (by have := x100 hp4; omega) c_41)) (fun c_41 => ?_)
          refine lv_aload_n hx hb dX6_pass_44 rfl (lv_at hl 0 rfl) ?_
          refine m_get (ci := 6) (v := .int 0) (C := RX6) (T := TX6) (N := 16) (a := (ad 14 0)) hx hb hts (by decide +kernel) hown hC hM m14_7 rfl 0 (by decide) (hts (.fieldLink RX6 53 "ForwardrollModel" "thrown" "I") (by decide +kernel)) (fun _ h9 => h9) rfl dX6_pass_45 ?_
          refine lv_if_ne (tgt := 64) hx hb dX6_pass_48 (by decide) (fun c_48 => False.elim (by revert c_48; decide)) (fun c_48 => ?_)
          refine lv_iload_n hx hb dX6_pass_51 rfl (lv_at hl 2 rfl) ?_
          refine lv_aload_n hx hb dX6_pass_52 rfl (lv_at hl 0 rfl) ?_
          refine k_i (va_runV (As := []) (rest := [.int (nI (pn T k9 i9))]) ⟨hx, hb, hml, hown, hts⟩ (c_X6_passes l G M9 S (pd T k9 i9) 0 o ex ad k9 hk9 hw9 (iv_pd hi k9 i9 (by omega))) (cwV 0 hts gX6_pass_X6_passes rfl rfl rfl (by decide +kernel) ⟨Nat.le_of_ble_eq_true rfl, Nat.le_of_ble_eq_true rfl⟩) (preV_of hC hS hM m14_7 rfl) rfl rfl hl.1 rfl (lv_room (Nat.le_of_ble_eq_true rfl)) dX6_pass_53 ⟨Nat.le_of_ble_eq_true rfl, Nat.le_of_ble_eq_true rfl⟩) hS (fun r53 u53 H locs hp53 hM hS => ?_)
          obtain ⟨er53, hw7⟩ := hp53
          subst er53
          have hM : Hm G u53 H := hM
          refine lv_iadd hx hb dX6_pass_56 ?_
          refine lv_istore_n (lv' := [(2, .int ((nI (pn T k9 i9)) + (nI (enn (pd T k9 i9) k9)))), (0, .ref (ad 14 0)), (1, .int x), (3, .int (nI i9))]) hx hb dX6_pass_57 rfl hl (by decide) rfl (fun ls hl => ?_)
          refine lv_iinc (v := ((nI i9) + 1)) (lv' := [(3, .int ((nI i9) + 1)), (2, .int ((nI (pn T k9 i9)) + (nI (enn (pd T k9 i9) k9)))), (0, .ref (ad 14 0)), (1, .int x)]) hx hb dX6_pass_58 hl (k := 3) rfl rfl (by decide) rfl (fun ls hl => ?_)
          refine lv_goto (tgt := 39) hx hb dX6_pass_61 (by decide) ?_
          rw [show nI i9 + 1 = nI (i9 + 1) from nI_1 i9, show nI (pn T k9 i9) + nI (enn (pd T k9 i9) k9) = nI (pn T k9 (i9 + 1)) from nI_add _ _] at hl
          exact ih (i9 + 1) u53 (by omega) hw7 ls (lv_sub hl [2, 3, 1, 0] rfl) _ _ hM hS
      exact loop x.toNatClampNeg 0 (va_up M (ad 14 0) (some (.inr (6, [.int 0, .int (T.1 0 0), .ref (ad 15 0), .ref (ad 16 0), .ref (ad 17 0), .ref (ad 18 0), .int (T.1 5 0), .ref (ad 19 0), .ref (ad 20 0), .ref (ad 21 0), .ref (ad 22 0), .ref (ad 23 0), .ref (ad 24 0), .ref (ad 25 0), .ref (ad 26 0), .ref (ad 27 0)])))) (by omega) (w_mth hw 0) ls (lv_sub hl [2, 3, 1, 0] rfl) _ _ hM hS
    · refine lv_iconst (v := 2) hx hb dX6_pass_27 (by decide) ?_
      refine lv_goto (tgt := 32) hx hb dX6_pass_28 (by decide) ?_
      refine m_put (host := "") (ci := 6) (v := .int 2) (ty := .int) (C := RX6) (T := TX6) (N := 16) (a := (ad 14 0)) hx hb hts (by decide +kernel) tyX6 tyX6_ok nmX6 hown hC hM hS m14 rfl 0 (by decide) (hts (.fieldLink RX6 53 "ForwardrollModel" "thrown" "I") (by decide +kernel)) (fun _ h9 => h9) rfl (by decide +kernel) rfl rfl (Nat.le_of_ble_eq_true rfl) dX6_pass_32 (fun H locs hM hS => ?_)
      have hM : Hm G (va_up M (ad 14 0) (some (.inr (6, [.int 2, .int (T.1 0 0), .ref (ad 15 0), .ref (ad 16 0), .ref (ad 17 0), .ref (ad 18 0), .int (T.1 5 0), .ref (ad 19 0), .ref (ad 20 0), .ref (ad 21 0), .ref (ad 22 0), .ref (ad 23 0), .ref (ad 24 0), .ref (ad 25 0), .ref (ad 26 0), .ref (ad 27 0)])))) H := hM
      have f32_11 : (va_up M (ad 14 0) (some (.inr (6, [.int 2, .int (T.1 0 0), .ref (ad 15 0), .ref (ad 16 0), .ref (ad 17 0), .ref (ad 18 0), .int (T.1 5 0), .ref (ad 19 0), .ref (ad 20 0), .ref (ad 21 0), .ref (ad 22 0), .ref (ad 23 0), .ref (ad 24 0), .ref (ad 25 0), .ref (ad 26 0), .ref (ad 27 0)])))) (ad 14 0) = some (.inr (6, [.int 2, .int (T.1 0 0), .ref (ad 15 0), .ref (ad 16 0), .ref (ad 17 0), .ref (ad 18 0), .int (T.1 5 0), .ref (ad 19 0), .ref (ad 20 0), .ref (ad 21 0), .ref (ad 22 0), .ref (ad 23 0), .ref (ad 24 0), .ref (ad 25 0), .ref (ad 26 0), .ref (ad 27 0)])) := up_eq
      refine lv_iconst (v := 0) hx hb dX6_pass_35 (by decide) ?_
      refine lv_istore_n (lv' := [(2, .int 0), (0, .ref (ad 14 0)), (1, .int x)]) hx hb dX6_pass_36 rfl hl (by decide) rfl (fun ls hl => ?_)
      refine lv_iconst (v := 0) hx hb dX6_pass_37 (by decide) ?_
      refine lv_istore_n (lv' := [(3, .int 0), (2, .int 0), (0, .ref (ad 14 0)), (1, .int x)]) hx hb dX6_pass_38 rfl hl (by decide) rfl (fun ls hl => ?_)
      refine lv_iload_n hx hb dX6_pass_39 rfl (lv_at hl 0 rfl) ?_
      refine lv_iload_n hx hb dX6_pass_40 rfl (lv_at hl 3 rfl) ?_
      refine lv_icmp_ge (tgt := 64) hx hb dX6_pass_41 (by decide) (fun c_41 => ?_) (fun c_41 => ?_)
      · refine lv_iload_n hx hb dX6_pass_64 rfl (lv_at hl 1 rfl) ?_
        exact (r_i hx hb hr hlocks hS (v := 0) _ (Or.inr (Or.inl ⟨inb_t c_8, c_24, w_mth hw 2⟩)) hM (Nat.le_of_ble_eq_true rfl) (Nat.le_of_ble_eq_true rfl) dX6_pass_65)
      · refine lv_aload_n hx hb dX6_pass_44 rfl (lv_at hl 2 rfl) ?_
        refine m_get (ci := 6) (v := .int 2) (C := RX6) (T := TX6) (N := 16) (a := (ad 14 0)) hx hb hts (by decide +kernel) hown hC hM f32_11 rfl 0 (by decide) (hts (.fieldLink RX6 53 "ForwardrollModel" "thrown" "I") (by decide +kernel)) (fun _ h9 => h9) rfl dX6_pass_45 ?_
        refine lv_if_ne (tgt := 64) hx hb dX6_pass_48 (by decide) (fun c_48 => ?_) (fun c_48 => False.elim (by revert c_48; decide))
        refine lv_iload_n hx hb dX6_pass_64 rfl (lv_at hl 1 rfl) ?_
        exact (r_i hx hb hr hlocks hS (v := 0) _ (Or.inr (Or.inl ⟨inb_t c_8, c_24, w_mth hw 2⟩)) hM (Nat.le_of_ble_eq_true rfl) (Nat.le_of_ble_eq_true rfl) dX6_pass_65)
  · refine lv_iconst (v := 1) hx hb dX6_pass_11 (by decide) ?_
    refine lv_goto (tgt := 32) hx hb dX6_pass_12 (by decide) ?_
    refine m_put (host := "") (ci := 6) (v := .int 1) (ty := .int) (C := RX6) (T := TX6) (N := 16) (a := (ad 14 0)) hx hb hts (by decide +kernel) tyX6 tyX6_ok nmX6 hown hC hM hS m14 rfl 0 (by decide) (hts (.fieldLink RX6 53 "ForwardrollModel" "thrown" "I") (by decide +kernel)) (fun _ h9 => h9) rfl (by decide +kernel) rfl rfl (Nat.le_of_ble_eq_true rfl) dX6_pass_32 (fun H locs hM hS => ?_)
    have hM : Hm G (va_up M (ad 14 0) (some (.inr (6, [.int 1, .int (T.1 0 0), .ref (ad 15 0), .ref (ad 16 0), .ref (ad 17 0), .ref (ad 18 0), .int (T.1 5 0), .ref (ad 19 0), .ref (ad 20 0), .ref (ad 21 0), .ref (ad 22 0), .ref (ad 23 0), .ref (ad 24 0), .ref (ad 25 0), .ref (ad 26 0), .ref (ad 27 0)])))) H := hM
    have f32_15 : (va_up M (ad 14 0) (some (.inr (6, [.int 1, .int (T.1 0 0), .ref (ad 15 0), .ref (ad 16 0), .ref (ad 17 0), .ref (ad 18 0), .int (T.1 5 0), .ref (ad 19 0), .ref (ad 20 0), .ref (ad 21 0), .ref (ad 22 0), .ref (ad 23 0), .ref (ad 24 0), .ref (ad 25 0), .ref (ad 26 0), .ref (ad 27 0)])))) (ad 14 0) = some (.inr (6, [.int 1, .int (T.1 0 0), .ref (ad 15 0), .ref (ad 16 0), .ref (ad 17 0), .ref (ad 18 0), .int (T.1 5 0), .ref (ad 19 0), .ref (ad 20 0), .ref (ad 21 0), .ref (ad 22 0), .ref (ad 23 0), .ref (ad 24 0), .ref (ad 25 0), .ref (ad 26 0), .ref (ad 27 0)])) := up_eq
    refine lv_iconst (v := 0) hx hb dX6_pass_35 (by decide) ?_
    refine lv_istore_n (lv' := [(2, .int 0), (0, .ref (ad 14 0)), (1, .int x)]) hx hb dX6_pass_36 rfl hl (by decide) rfl (fun ls hl => ?_)
    refine lv_iconst (v := 0) hx hb dX6_pass_37 (by decide) ?_
    refine lv_istore_n (lv' := [(3, .int 0), (2, .int 0), (0, .ref (ad 14 0)), (1, .int x)]) hx hb dX6_pass_38 rfl hl (by decide) rfl (fun ls hl => ?_)
    refine lv_iload_n hx hb dX6_pass_39 rfl (lv_at hl 0 rfl) ?_
    refine lv_iload_n hx hb dX6_pass_40 rfl (lv_at hl 3 rfl) ?_
    refine lv_icmp_ge (tgt := 64) hx hb dX6_pass_41 (by decide) (fun c_41 => ?_) (fun c_41 => ?_)
    · refine lv_iload_n hx hb dX6_pass_64 rfl (lv_at hl 1 rfl) ?_
      exact (r_i hx hb hr hlocks hS (v := 0) _ (Or.inl ⟨inb_f c_8, w_mth hw 1⟩) hM (Nat.le_of_ble_eq_true rfl) (Nat.le_of_ble_eq_true rfl) dX6_pass_65)
    · refine lv_aload_n hx hb dX6_pass_44 rfl (lv_at hl 2 rfl) ?_
      refine m_get (ci := 6) (v := .int 1) (C := RX6) (T := TX6) (N := 16) (a := (ad 14 0)) hx hb hts (by decide +kernel) hown hC hM f32_15 rfl 0 (by decide) (hts (.fieldLink RX6 53 "ForwardrollModel" "thrown" "I") (by decide +kernel)) (fun _ h9 => h9) rfl dX6_pass_45 ?_
      refine lv_if_ne (tgt := 64) hx hb dX6_pass_48 (by decide) (fun c_48 => ?_) (fun c_48 => False.elim (by revert c_48; decide))
      refine lv_iload_n hx hb dX6_pass_64 rfl (lv_at hl 1 rfl) ?_
      exact (r_i hx hb hr hlocks hS (v := 0) _ (Or.inl ⟨inb_f c_8, w_mth hw 1⟩) hM (Nat.le_of_ble_eq_true rfl) (Nat.le_of_ble_eq_true rfl) dX6_pass_65)
