/-- the sum of the values of customer c9 in the first n deals -/
def vaM (T : Sd) (c9 sh : Int32) : Nat → Int64
  | 0 => 0
  | n + 1 => vaM T c9 sh n + (if T.1 6 n = c9 then gn (T.1 8 n) (T.1 9 n) (T.1 10 n) (al1 (mr T n * (100 + sh) / 100)) else 0)
theorem nn_of {x : Int32} (h : 0 ≤ x) : 0 ≤ x.toInt := Int32.le_iff_toInt_le.mp h
theorem i_eq {x y : Int32} (hx : 0 ≤ x.toInt) (hy : 0 ≤ y.toInt) (h : x.toNatClampNeg = y.toNatClampNeg) : x = y := by
  rw [Int32.toNatClampNeg, Int32.toNatClampNeg] at h
  exact Int32.toInt_inj.mp (by omega)
theorem vaM_la {T : Sd} (hi : Iv T) {c9 sh : Int32} (hc : 0 ≤ c9) : ∀ n, n ≤ ndl T → -vaM T c9 sh n = la T c9.toNatClampNeg sh n
  | 0, _ => by show -(0 : Int64) = 0; rfl
  | n + 1, h => by
    have ih := vaM_la hi (sh := sh) hc n (by omega)
    have h6 := (hi.2.2.1 n (by omega)).1
    show -(vaM T c9 sh n + (if T.1 6 n = c9 then gn (T.1 8 n) (T.1 9 n) (T.1 10 n) (al1 (mr T n * (100 + sh) / 100)) else 0)) = (if cus T n = c9.toNatClampNeg then la T c9.toNatClampNeg sh n + ls1 T sh n else la T c9.toNatClampNeg sh n)
    by_cases hq : T.1 6 n = c9
    · rw [if_pos hq, if_pos (show cus T n = c9.toNatClampNeg by unfold cus; rw [hq]), ← ih]
      rw [Int64.neg_add]
      exact Int64.sub_eq_add_neg _ _
    · rw [if_neg hq, if_neg (show ¬ cus T n = c9.toNatClampNeg from fun z => hq (i_eq h6.1 (nn_of hc) z)), Int64.add_zero, ih]
theorem nd_id {T : Sd} (hi : Iv T) : nI (ndl T) = T.1 5 0 := nI_id hi.2.1.1
theorem vin_n {i : Nat} {T : Sd} (hi : Iv T) (h : i < ndl T) : vp_in (nI i) 20 := vp_in_nI (by have := hi.nd; omega) (by omega)
theorem cl_n {i : Nat} {T : Sd} (hi : Iv T) (h : i < ndl T) : (nI i).toNatClampNeg = i := nI_clamp (by have := hi.nd; omega)
theorem wl_eq {a b : Int64} (h1 : b < a) : wl a b = if a < 0 then 0 else a := by unfold wl; rw [if_pos h1]
theorem wl_eq2 {a b : Int64} (h1 : ¬ b < a) : wl a b = if b < 0 then 0 else b := by unfold wl; rw [if_neg h1]
theorem cmp_lt {x : Int64} (h : ¬ 0 ≤ lg_cmp x 0) : x < 0 := Int64.not_le.mp (fun z => h ((lg_cmp_ge x 0).mpr z))
theorem cmp_ge {x : Int64} (h : 0 ≤ lg_cmp x 0) : ¬ x < 0 := Int64.not_lt.mpr ((lg_cmp_ge x 0).mp h)
theorem ix26d {S : Sd} (hi : Iv S) {c k y : Int32} (hc : 0 ≤ c ∧ c < 5) (hk : 0 ≤ k ∧ k ≤ 4) (hy : 1 ≤ y ∧ y ≤ 20) : vp_in (25 * (S.1 0 0 + y) + 5 * c + k) 25750 ∧ (25 * (S.1 0 0 + y) + 5 * c + k).toNatClampNeg = 5 * (5 * (S.1 0 0 + y).toNatClampNeg + c.toNatClampNeg) + k.toNatClampNeg := by
  have h0 := hi.1
  have c1 := Int32.le_iff_toInt_le.mp hc.1
  have c2 := Int32.lt_iff_toInt_lt.mp hc.2
  have k1 := Int32.le_iff_toInt_le.mp hk.1
  have k2 := Int32.le_iff_toInt_le.mp hk.2
  have y1 := Int32.le_iff_toInt_le.mp hy.1
  have y2 := Int32.le_iff_toInt_le.mp hy.2
  have e0 : (0 : Int32).toInt = 0 := rfl
  have e1 : (1 : Int32).toInt = 1 := rfl
  have e4 : (4 : Int32).toInt = 4 := rfl
  have e20 : (20 : Int32).toInt = 20 := rfl
  have e25 : (25 : Int32).toInt = 25 := rfl
  have e5 : (5 : Int32).toInt = 5 := rfl
  have s : (S.1 0 0 + y).toInt = (S.1 0 0).toInt + y.toInt := by rw [Int32.toInt_add]; exact Int.bmod_eq_of_le (by omega) (by omega)
  have a : (25 * (S.1 0 0 + y)).toInt = 25 * ((S.1 0 0).toInt + y.toInt) := by rw [Int32.toInt_mul, e25, s]; exact Int.bmod_eq_of_le (by omega) (by omega)
  have b : (5 * c).toInt = 5 * c.toInt := by rw [Int32.toInt_mul, e5]; exact Int.bmod_eq_of_le (by omega) (by omega)
  have d : (25 * (S.1 0 0 + y) + 5 * c).toInt = 25 * ((S.1 0 0).toInt + y.toInt) + 5 * c.toInt := by rw [Int32.toInt_add, a, b]; exact Int.bmod_eq_of_le (by omega) (by omega)
  have e : (25 * (S.1 0 0 + y) + 5 * c + k).toInt = 25 * ((S.1 0 0).toInt + y.toInt) + 5 * c.toInt + k.toInt := by rw [Int32.toInt_add, d]; exact Int.bmod_eq_of_le (by omega) (by omega)
  refine ⟨by rw [vp_in_iff, e]; omega, ?_⟩
  rw [Int32.toNatClampNeg, Int32.toNatClampNeg, Int32.toNatClampNeg, Int32.toNatClampNeg, e, s]
  omega
theorem ix27 {c k : Int32} (hc : 0 ≤ c ∧ c < 5) (hk : 0 ≤ k ∧ k ≤ 4) : vp_in (5 * c + k) 25 ∧ (5 * c + k).toNatClampNeg = 5 * c.toNatClampNeg + k.toNatClampNeg := by
  have c1 := Int32.le_iff_toInt_le.mp hc.1
  have c2 := Int32.lt_iff_toInt_lt.mp hc.2
  have k1 := Int32.le_iff_toInt_le.mp hk.1
  have k2 := Int32.le_iff_toInt_le.mp hk.2
  have e0 : (0 : Int32).toInt = 0 := rfl
  have e4 : (4 : Int32).toInt = 4 := rfl
  have e5 : (5 : Int32).toInt = 5 := rfl
  have b : (5 * c).toInt = 5 * c.toInt := by rw [Int32.toInt_mul, e5]; exact Int.bmod_eq_of_le (by omega) (by omega)
  have e : (5 * c + k).toInt = 5 * c.toInt + k.toInt := by rw [Int32.toInt_add, b]; exact Int.bmod_eq_of_le (by omega) (by omega)
  refine ⟨by rw [vp_in_iff, e]; omega, ?_⟩
  rw [Int32.toNatClampNeg, Int32.toNatClampNeg, Int32.toNatClampNeg, e]
  omega
set_option maxHeartbeats 4000000 in
set_option maxRecDepth 100000 in
theorem c_X6_valueAt (l : Launch) (G : Gx) (M : Mp) (S T : Sd) (th : Int32) (o : Int64) (ex : Nat → Option (Nat × Nat)) (ad : Nat → Nat → Nat) (c9 sh : Int32) (hw : WA G S T th o ex ad M) (hi : Iv T) : Met l yX6_valueAt wsX6_valueAt ({ frames := 2, cells := 0, slots := 0, locals := 46 }) (Cv G M [.ref (ad 14 0), .int c9, .int sh]) (va_Ql (S := Unit) (fun r _ => r = vaM T c9 sh (ndl T)) (Bm G (fun _ => M)) (AG G)) (0) (0) (AG G) := by
  refine m_met [.ref (ad 14 0), .int c9, .int sh] [(0, .ref (ad 14 0)), (1, .int c9), (2, .int sh)] (by decide) rfl rfl (Nat.le_of_ble_eq_true rfl) ?_
  intro p e s m below meth c ls hx hb hr hml hown hts hlocks hin hC hM hl hS
  have m14 : M (ad 14 0) = some (.inr (6, [.int th, .int (T.1 0 0), .ref (ad 15 0), .ref (ad 16 0), .ref (ad 17 0), .ref (ad 18 0), .int (T.1 5 0), .ref (ad 19 0), .ref (ad 20 0), .ref (ad 21 0), .ref (ad 22 0), .ref (ad 23 0), .ref (ad 24 0), .ref (ad 25 0), .ref (ad 26 0), .ref (ad 27 0)])) := hw.1 14 0 _ rfl
  have m20 : M (ad 20 0) = some (.inl (G.2.1 0, 20, .inl (T.1 7))) := hw.1 20 0 _ rfl
  have m24 : M (ad 24 0) = some (.inl (G.2.1 0, 20, .inl (T.1 12))) := hw.1 24 0 _ rfl
  have m19 : M (ad 19 0) = some (.inl (G.2.1 0, 20, .inl (T.1 6))) := hw.1 19 0 _ rfl
  have m22 : M (ad 22 0) = some (.inl (G.2.1 0, 20, .inl (T.1 9))) := hw.1 22 0 _ rfl
  refine lv_lconst (v := 0) hx hb dX6_valueAt_0 (by decide) ?_
  refine lv_lstore_n (lv' := [(3, .long 0), (0, .ref (ad 14 0)), (1, .int c9), (2, .int sh)]) hx hb dX6_valueAt_1 rfl hl (by decide) rfl (fun ls hl => ?_)
  refine lv_iconst (v := 0) hx hb dX6_valueAt_2 (by decide) ?_
  refine lv_istore (lv' := [(5, .int 0), (3, .long 0), (0, .ref (ad 14 0)), (1, .int c9), (2, .int sh)]) hx hb dX6_valueAt_3 hl (by decide) rfl (fun ls hl => ?_)
  have loop : ∀ (n9 : Nat) (i9 : Nat) (z9 : Int64), i9 + n9 = ndl T → z9 = vaM T c9 sh i9 → ∀ ls : Array Slot, lv_has ls 7 [(0, .ref (ad 14 0)), (1, .int c9), (2, .int sh), (3, .long z9), (5, .int (nI i9))] → ∀ (H : Heap) (locs : List Loc), Hm G M H → va_S (AG G) s.heap H locs → W p l e { frames := 2, cells := 0, slots := 0, locals := 46 } s m ([.ref (ad 14 0), .int c9, .int sh] : List Value).toArray below meth c H locs (0) (0) (MQ below (va_Ql (S := Unit) (fun r _ => r = vaM T c9 sh (ndl T)) (Bm G (fun _ => M)) (AG G)) ([.ref (ad 14 0), .int c9, .int sh] : List Value).toArray s (0) (0) (AG G)) (F0 m 5 ls []) := by
    intro n9
    induction n9 with
    | zero =>
      intro i9 z9 hn hz ls hl H locs hM hS
      refine lv_iload hx hb dX6_valueAt_5 (lv_at hl 4 rfl) ?_
      refine lv_aload_n hx hb dX6_valueAt_7 rfl (lv_at hl 0 rfl) ?_
      refine m_get (ci := 6) (v := .int (T.1 5 0)) (C := RX6) (T := TX6) (N := 16) (a := (ad 14 0)) hx hb hts (by decide +kernel) hown hC hM m14 rfl 6 (by decide) (hts (.fieldLink RX6 61 "ForwardrollModel" "deals" "I") (by decide +kernel)) (fun _ h9 => h9) rfl dX6_valueAt_8 ?_
      refine lv_icmp_ge (tgt := 84) hx hb dX6_valueAt_11 (by decide) (fun c_11 => ?_) (fun c_11 => False.elim (by rw [← nd_id hi] at c_11; exact c_11 (nI_le (by omega) (by have := hi.nd; omega))))
      refine lv_lload_n hx hb dX6_valueAt_84 rfl (lv_at hl 3 rfl) ?_
      exact (r_l hx hb hr hlocks hS (v := z9) () (by rw [hz, show i9 = ndl T by omega]) hM (Nat.le_of_ble_eq_true rfl) (Nat.le_of_ble_eq_true rfl) dX6_valueAt_85)
    | succ n9 ih =>
      intro i9 z9 hn hz ls hl H locs hM hS
      refine lv_iload hx hb dX6_valueAt_5 (lv_at hl 4 rfl) ?_
      refine lv_aload_n hx hb dX6_valueAt_7 rfl (lv_at hl 0 rfl) ?_
      refine m_get (ci := 6) (v := .int (T.1 5 0)) (C := RX6) (T := TX6) (N := 16) (a := (ad 14 0)) hx hb hts (by decide +kernel) hown hC hM m14 rfl 6 (by decide) (hts (.fieldLink RX6 61 "ForwardrollModel" "deals" "I") (by decide +kernel)) (fun _ h9 => h9) rfl dX6_valueAt_8 ?_
      refine lv_icmp_ge (tgt := 84) hx hb dX6_valueAt_11 (by decide) (fun c_11 => False.elim (by rw [← nd_id hi] at c_11; exact nI_ge (a := i9) (b := ndl T) (by omega) (by have := hi.nd; omega) c_11)) (fun c_11 => ?_)
      refine lv_aload_n hx hb dX6_valueAt_14 rfl (lv_at hl 0 rfl) ?_
      refine lv_aload_n hx hb dX6_valueAt_15 rfl (lv_at hl 0 rfl) ?_
      refine m_get (ci := 6) (v := .ref (ad 20 0)) (C := RX6) (T := TX6) (N := 16) (a := (ad 14 0)) hx hb hts (by decide +kernel) hown hC hM m14 rfl 8 (by decide) (hts (.fieldLink RX6 29 "ForwardrollModel" "currency" "[I") (by decide +kernel)) (fun _ h9 => h9) rfl dX6_valueAt_16 ?_
      refine lv_iload hx hb dX6_valueAt_19 (lv_at hl 4 rfl) ?_
      refine m_iald (a := (ad 20 0)) hx hb hC hM m20 (vin_n hi (show i9 < ndl T by omega)) dX6_valueAt_21 ?_
      refine lv_aload_n hx hb dX6_valueAt_22 rfl (lv_at hl 0 rfl) ?_
      refine m_get (ci := 6) (v := .ref (ad 24 0)) (C := RX6) (T := TX6) (N := 16) (a := (ad 14 0)) hx hb hts (by decide +kernel) hown hC hM m14 rfl 12 (by decide) (hts (.fieldLink RX6 41 "ForwardrollModel" "last" "[I") (by decide +kernel)) (fun _ h9 => h9) rfl dX6_valueAt_23 ?_
      refine lv_iload hx hb dX6_valueAt_26 (lv_at hl 4 rfl) ?_
      refine m_iald (a := (ad 24 0)) hx hb hC hM m24 (vin_n hi (show i9 < ndl T by omega)) dX6_valueAt_28 ?_
      refine k_i (va_runV (As := [.int ((T.1 7) (nI i9).toNatClampNeg), .int ((T.1 12) (nI i9).toNatClampNeg)]) (rest := []) ⟨hx, hb, hml, hown, hts⟩ (c_X6_forwardFor l G M S T th o ex ad ((T.1 7) (nI i9).toNatClampNeg) ((T.1 12) (nI i9).toNatClampNeg) hw (cyv hi (by rw [cl_n hi (show i9 < ndl T by omega)]; omega))) (cwV 2 hts gX6_valueAt_X6_forwardFor rfl rfl rfl (by decide +kernel) ⟨Nat.le_of_ble_eq_true rfl, Nat.le_of_ble_eq_true rfl⟩) (preV_of hC hS hM m14 rfl) rfl rfl hl.1 rfl (lv_room (Nat.le_of_ble_eq_true rfl)) dX6_valueAt_29 ⟨Nat.le_of_ble_eq_true rfl, Nat.le_of_ble_eq_true rfl⟩) hS (fun r29 u29 H locs hp29 hM hS => ?_)
      have hM : Hm G M H := hM
      have hp29 : r29 = al1 (T.1 1 ((T.1 7) (nI i9).toNatClampNeg).toNatClampNeg + T.1 2 ((T.1 7) (nI i9).toNatClampNeg).toNatClampNeg * (((T.1 12) (nI i9).toNatClampNeg) - T.1 0 0)) := hp29
      subst hp29
      refine lv_bipush (v := 100) hx hb dX6_valueAt_32 (by decide) ?_
      refine lv_iload_n hx hb dX6_valueAt_34 rfl (lv_at hl 2 rfl) ?_
      refine lv_iadd hx hb dX6_valueAt_35 ?_
      refine lv_imul hx hb dX6_valueAt_36 ?_
      refine lv_bipush (v := 100) hx hb dX6_valueAt_37 (by decide) ?_
      refine lv_idiv hx hb dX6_valueAt_39 (by decide) ?_
      refine k_i (va_runS (As := [.int (((al1 (T.1 1 ((T.1 7) (nI i9).toNatClampNeg).toNatClampNeg + T.1 2 ((T.1 7) (nI i9).toNatClampNeg).toNatClampNeg * (((T.1 12) (nI i9).toNatClampNeg) - T.1 0 0))) * (100 + sh)) / 100)]) (rest := []) ⟨hx, hb, hml, hown, hts⟩ (c_X6_atLeastOne l G M (((al1 (T.1 1 ((T.1 7) (nI i9).toNatClampNeg).toNatClampNeg + T.1 2 ((T.1 7) (nI i9).toNatClampNeg).toNatClampNeg * (((T.1 12) (nI i9).toNatClampNeg) - T.1 0 0))) * (100 + sh)) / 100)) (va_cwS 1 hts gX6_valueAt_X6_atLeastOne rfl rfl rfl (by decide +kernel) ⟨Nat.le_of_ble_eq_true rfl, Nat.le_of_ble_eq_true rfl⟩) (preS_of hC hS hM) rfl rfl hl.1 rfl (lv_room (Nat.le_of_ble_eq_true rfl)) dX6_valueAt_40 ⟨Nat.le_of_ble_eq_true rfl, Nat.le_of_ble_eq_true rfl⟩) hS (fun r40 u40 H locs hp40 hM hS => ?_)
      have hM : Hm G M H := hM
      have hp40 : r40 = al1 (((al1 (T.1 1 ((T.1 7) (nI i9).toNatClampNeg).toNatClampNeg + T.1 2 ((T.1 7) (nI i9).toNatClampNeg).toNatClampNeg * (((T.1 12) (nI i9).toNatClampNeg) - T.1 0 0))) * (100 + sh)) / 100) := hp40
      subst hp40
      refine lv_istore (lv' := [(6, .int (al1 (((al1 (T.1 1 ((T.1 7) (nI i9).toNatClampNeg).toNatClampNeg + T.1 2 ((T.1 7) (nI i9).toNatClampNeg).toNatClampNeg * (((T.1 12) (nI i9).toNatClampNeg) - T.1 0 0))) * (100 + sh)) / 100))), (0, .ref (ad 14 0)), (1, .int c9), (2, .int sh), (3, .long z9), (5, .int (nI i9))]) hx hb dX6_valueAt_43 hl (by decide) rfl (fun ls hl => ?_)
      refine lv_lload_n hx hb dX6_valueAt_45 rfl (lv_at hl 4 rfl) ?_
      refine lv_aload_n hx hb dX6_valueAt_46 rfl (lv_at hl 1 rfl) ?_
      refine m_get (ci := 6) (v := .ref (ad 19 0)) (C := RX6) (T := TX6) (N := 16) (a := (ad 14 0)) hx hb hts (by decide +kernel) hown hC hM m14 rfl 7 (by decide) (hts (.fieldLink RX6 26 "ForwardrollModel" "customer" "[I") (by decide +kernel)) (fun _ h9 => h9) rfl dX6_valueAt_47 ?_
      refine lv_iload hx hb dX6_valueAt_50 (lv_at hl 5 rfl) ?_
      refine m_iald (a := (ad 19 0)) hx hb hC hM m19 (vin_n hi (show i9 < ndl T by omega)) dX6_valueAt_52 ?_
      refine lv_iload_n hx hb dX6_valueAt_53 rfl (lv_at hl 2 rfl) ?_
      refine lv_icmp_ne (tgt := 75) hx hb dX6_valueAt_54 (by decide) (fun c_54 => ?_) (fun c_54 => ?_)
      · refine lv_lconst (v := 0) hx hb dX6_valueAt_75 (by decide) ?_
        refine lv_ladd hx hb dX6_valueAt_76 ?_
        refine lv_lstore_n (lv' := [(3, .long (z9 + 0)), (6, .int (al1 (((al1 (T.1 1 ((T.1 7) (nI i9).toNatClampNeg).toNatClampNeg + T.1 2 ((T.1 7) (nI i9).toNatClampNeg).toNatClampNeg * (((T.1 12) (nI i9).toNatClampNeg) - T.1 0 0))) * (100 + sh)) / 100))), (0, .ref (ad 14 0)), (1, .int c9), (2, .int sh), (5, .int (nI i9))]) hx hb dX6_valueAt_77 rfl hl (by decide) rfl (fun ls hl => ?_)
        refine lv_iinc (v := ((nI i9) + 1)) (lv' := [(5, .int ((nI i9) + 1)), (3, .long (z9 + 0)), (6, .int (al1 (((al1 (T.1 1 ((T.1 7) (nI i9).toNatClampNeg).toNatClampNeg + T.1 2 ((T.1 7) (nI i9).toNatClampNeg).toNatClampNeg * (((T.1 12) (nI i9).toNatClampNeg) - T.1 0 0))) * (100 + sh)) / 100))), (0, .ref (ad 14 0)), (1, .int c9), (2, .int sh)]) hx hb dX6_valueAt_78 hl (k := 5) rfl rfl (by decide) rfl (fun ls hl => ?_)
        refine lv_goto (tgt := 5) hx hb dX6_valueAt_81 (by decide) ?_
        have ez : (z9 + 0) = vaM T c9 sh (i9 + 1) := by
          show _ = vaM T c9 sh i9 + (if T.1 6 i9 = c9 then gn (T.1 8 i9) (T.1 9 i9) (T.1 10 i9) (al1 (mr T i9 * (100 + sh) / 100)) else 0)
          rw [cl_n hi (show i9 < ndl T by omega)] at c_54
          rw [if_neg c_54, hz]
          skip
        rw [show nI i9 + 1 = nI (i9 + 1) from nI_1 i9] at hl
        exact ih (i9 + 1) (z9 + 0) (by omega) ez ls (lv_sub hl [3, 4, 5, 1, 0] rfl) _ _ hM hS
      · refine lv_aload_n hx hb dX6_valueAt_57 rfl (lv_at hl 1 rfl) ?_
        refine lv_iload hx hb dX6_valueAt_58 (lv_at hl 5 rfl) ?_
        refine lv_aload_n hx hb dX6_valueAt_60 rfl (lv_at hl 1 rfl) ?_
        refine m_get (ci := 6) (v := .ref (ad 22 0)) (C := RX6) (T := TX6) (N := 16) (a := (ad 14 0)) hx hb hts (by decide +kernel) hown hC hM m14 rfl 10 (by decide) (hts (.fieldLink RX6 35 "ForwardrollModel" "left" "[I") (by decide +kernel)) (fun _ h9 => h9) rfl dX6_valueAt_61 ?_
        refine lv_iload hx hb dX6_valueAt_64 (lv_at hl 5 rfl) ?_
        refine m_iald (a := (ad 22 0)) hx hb hC hM m22 (vin_n hi (show i9 < ndl T by omega)) dX6_valueAt_66 ?_
        refine lv_iload hx hb dX6_valueAt_67 (lv_at hl 0 rfl) ?_
        refine k_l (va_runV (As := [.int (nI i9), .int ((T.1 9) (nI i9).toNatClampNeg), .int (al1 (((al1 (T.1 1 ((T.1 7) (nI i9).toNatClampNeg).toNatClampNeg + T.1 2 ((T.1 7) (nI i9).toNatClampNeg).toNatClampNeg * (((T.1 12) (nI i9).toNatClampNeg) - T.1 0 0))) * (100 + sh)) / 100))]) (rest := [.long z9]) ⟨hx, hb, hml, hown, hts⟩ (c_X6_gainOf l G M S T th o ex ad (nI i9) ((T.1 9) (nI i9).toNatClampNeg) (al1 (((al1 (T.1 1 ((T.1 7) (nI i9).toNatClampNeg).toNatClampNeg + T.1 2 ((T.1 7) (nI i9).toNatClampNeg).toNatClampNeg * (((T.1 12) (nI i9).toNatClampNeg) - T.1 0 0))) * (100 + sh)) / 100)) hw (vin_n hi (show i9 < ndl T by omega))) (cwV 3 hts gX6_valueAt_X6_gainOf rfl rfl rfl (by decide +kernel) ⟨Nat.le_of_ble_eq_true rfl, Nat.le_of_ble_eq_true rfl⟩) (preV_of hC hS hM m14 rfl) rfl rfl hl.1 rfl (lv_room (Nat.le_of_ble_eq_true rfl)) dX6_valueAt_69 ⟨Nat.le_of_ble_eq_true rfl, Nat.le_of_ble_eq_true rfl⟩) hS (fun r69 u69 H locs hp69 hM hS => ?_)
        have hM : Hm G M H := hM
        have hp69 : r69 = gn (T.1 8 (nI i9).toNatClampNeg) ((T.1 9) (nI i9).toNatClampNeg) (T.1 10 (nI i9).toNatClampNeg) (al1 (((al1 (T.1 1 ((T.1 7) (nI i9).toNatClampNeg).toNatClampNeg + T.1 2 ((T.1 7) (nI i9).toNatClampNeg).toNatClampNeg * (((T.1 12) (nI i9).toNatClampNeg) - T.1 0 0))) * (100 + sh)) / 100)) := hp69
        subst hp69
        refine lv_goto (tgt := 76) hx hb dX6_valueAt_72 (by decide) ?_
        refine lv_ladd hx hb dX6_valueAt_76 ?_
        refine lv_lstore_n (lv' := [(3, .long (z9 + (gn (T.1 8 (nI i9).toNatClampNeg) ((T.1 9) (nI i9).toNatClampNeg) (T.1 10 (nI i9).toNatClampNeg) (al1 (((al1 (T.1 1 ((T.1 7) (nI i9).toNatClampNeg).toNatClampNeg + T.1 2 ((T.1 7) (nI i9).toNatClampNeg).toNatClampNeg * (((T.1 12) (nI i9).toNatClampNeg) - T.1 0 0))) * (100 + sh)) / 100))))), (6, .int (al1 (((al1 (T.1 1 ((T.1 7) (nI i9).toNatClampNeg).toNatClampNeg + T.1 2 ((T.1 7) (nI i9).toNatClampNeg).toNatClampNeg * (((T.1 12) (nI i9).toNatClampNeg) - T.1 0 0))) * (100 + sh)) / 100))), (0, .ref (ad 14 0)), (1, .int c9), (2, .int sh), (5, .int (nI i9))]) hx hb dX6_valueAt_77 rfl hl (by decide) rfl (fun ls hl => ?_)
        refine lv_iinc (v := ((nI i9) + 1)) (lv' := [(5, .int ((nI i9) + 1)), (3, .long (z9 + (gn (T.1 8 (nI i9).toNatClampNeg) ((T.1 9) (nI i9).toNatClampNeg) (T.1 10 (nI i9).toNatClampNeg) (al1 (((al1 (T.1 1 ((T.1 7) (nI i9).toNatClampNeg).toNatClampNeg + T.1 2 ((T.1 7) (nI i9).toNatClampNeg).toNatClampNeg * (((T.1 12) (nI i9).toNatClampNeg) - T.1 0 0))) * (100 + sh)) / 100))))), (6, .int (al1 (((al1 (T.1 1 ((T.1 7) (nI i9).toNatClampNeg).toNatClampNeg + T.1 2 ((T.1 7) (nI i9).toNatClampNeg).toNatClampNeg * (((T.1 12) (nI i9).toNatClampNeg) - T.1 0 0))) * (100 + sh)) / 100))), (0, .ref (ad 14 0)), (1, .int c9), (2, .int sh)]) hx hb dX6_valueAt_78 hl (k := 5) rfl rfl (by decide) rfl (fun ls hl => ?_)
        refine lv_goto (tgt := 5) hx hb dX6_valueAt_81 (by decide) ?_
        have ez : (z9 + (gn (T.1 8 (nI i9).toNatClampNeg) ((T.1 9) (nI i9).toNatClampNeg) (T.1 10 (nI i9).toNatClampNeg) (al1 (((al1 (T.1 1 ((T.1 7) (nI i9).toNatClampNeg).toNatClampNeg + T.1 2 ((T.1 7) (nI i9).toNatClampNeg).toNatClampNeg * (((T.1 12) (nI i9).toNatClampNeg) - T.1 0 0))) * (100 + sh)) / 100)))) = vaM T c9 sh (i9 + 1) := by
          show _ = vaM T c9 sh i9 + (if T.1 6 i9 = c9 then gn (T.1 8 i9) (T.1 9 i9) (T.1 10 i9) (al1 (mr T i9 * (100 + sh) / 100)) else 0)
          rw [cl_n hi (show i9 < ndl T by omega)] at c_54
          rw [if_pos c_54, cl_n hi (show i9 < ndl T by omega), hz]
          rfl
        rw [show nI i9 + 1 = nI (i9 + 1) from nI_1 i9] at hl
        exact ih (i9 + 1) (z9 + (gn (T.1 8 (nI i9).toNatClampNeg) ((T.1 9) (nI i9).toNatClampNeg) (T.1 10 (nI i9).toNatClampNeg) (al1 (((al1 (T.1 1 ((T.1 7) (nI i9).toNatClampNeg).toNatClampNeg + T.1 2 ((T.1 7) (nI i9).toNatClampNeg).toNatClampNeg * (((T.1 12) (nI i9).toNatClampNeg) - T.1 0 0))) * (100 + sh)) / 100)))) (by omega) ez ls (lv_sub hl [3, 4, 5, 1, 0] rfl) _ _ hM hS
  exact loop (ndl T) 0 0 (by omega) rfl ls (lv_sub hl [2, 3, 4, 1, 0] rfl) _ _ hM hS
set_option maxHeartbeats 4000000 in
set_option maxRecDepth 100000 in
theorem c_X6_exposureOf (l : Launch) (G : Gx) (M : Mp) (S T : Sd) (th : Int32) (o : Int64) (ex : Nat → Option (Nat × Nat)) (ad : Nat → Nat → Nat) (c9 : Int32) (hw : WA G S T th o ex ad M) (hi : Iv T) (hc : 0 ≤ c9) : Met l yX6_exposureOf wsX6_exposureOf ({ frames := 3, cells := 0, slots := 0, locals := 72 }) (Cv G M [.ref (ad 14 0), .int c9]) (va_Ql (S := Unit) (fun r _ => r = exs T c9.toNatClampNeg) (Bm G (fun _ => M)) (AG G)) (0) (0) (AG G) := by
  refine m_met [.ref (ad 14 0), .int c9] [(0, .ref (ad 14 0)), (1, .int c9)] (by decide) rfl rfl (Nat.le_of_ble_eq_true rfl) ?_
  intro p e s m below meth c ls hx hb hr hml hown hts hlocks hin hC hM hl hS
  have m14 : M (ad 14 0) = some (.inr (6, [.int th, .int (T.1 0 0), .ref (ad 15 0), .ref (ad 16 0), .ref (ad 17 0), .ref (ad 18 0), .int (T.1 5 0), .ref (ad 19 0), .ref (ad 20 0), .ref (ad 21 0), .ref (ad 22 0), .ref (ad 23 0), .ref (ad 24 0), .ref (ad 25 0), .ref (ad 26 0), .ref (ad 27 0)])) := hw.1 14 0 _ rfl
  refine lv_aload_n hx hb dX6_exposureOf_0 rfl (lv_at hl 0 rfl) ?_
  refine lv_iload_n hx hb dX6_exposureOf_1 rfl (lv_at hl 1 rfl) ?_
  refine lv_bipush (v := 10) hx hb dX6_exposureOf_2 (by decide) ?_
  refine k_l (va_runV (As := [.int c9, .int 10]) (rest := []) ⟨hx, hb, hml, hown, hts⟩ (c_X6_valueAt l G M S T th o ex ad c9 (10 : Int32) hw hi) (cwV 2 hts gX6_exposureOf_X6_valueAt rfl rfl rfl (by decide +kernel) ⟨Nat.le_of_ble_eq_true rfl, Nat.le_of_ble_eq_true rfl⟩) (preV_of hC hS hM m14 rfl) rfl rfl hl.1 rfl (lv_room (Nat.le_of_ble_eq_true rfl)) dX6_exposureOf_4 ⟨Nat.le_of_ble_eq_true rfl, Nat.le_of_ble_eq_true rfl⟩) hS (fun r4 u4 H locs hp4 hM hS => ?_)
  have hM : Hm G M H := hM
  have hp4 : r4 = vaM T c9 10 (ndl T) := hp4
  subst hp4
  refine lv_lneg hx hb dX6_exposureOf_7 ?_
  refine lv_lstore_n (lv' := [(2, .long (-(vaM T c9 10 (ndl T)))), (0, .ref (ad 14 0)), (1, .int c9)]) hx hb dX6_exposureOf_8 rfl hl (by decide) rfl (fun ls hl => ?_)
  refine lv_aload_n hx hb dX6_exposureOf_9 rfl (lv_at hl 1 rfl) ?_
  refine lv_iload_n hx hb dX6_exposureOf_10 rfl (lv_at hl 2 rfl) ?_
  refine lv_bipush (v := (-10)) hx hb dX6_exposureOf_11 (by decide) ?_
  refine k_l (va_runV (As := [.int c9, .int (-10)]) (rest := []) ⟨hx, hb, hml, hown, hts⟩ (c_X6_valueAt l G M S T th o ex ad c9 (-10) hw hi) (cwV 2 hts gX6_exposureOf_X6_valueAt rfl rfl rfl (by decide +kernel) ⟨Nat.le_of_ble_eq_true rfl, Nat.le_of_ble_eq_true rfl⟩) (preV_of hC hS hM m14 rfl) rfl rfl hl.1 rfl (lv_room (Nat.le_of_ble_eq_true rfl)) dX6_exposureOf_13 ⟨Nat.le_of_ble_eq_true rfl, Nat.le_of_ble_eq_true rfl⟩) hS (fun r13 u13 H locs hp13 hM hS => ?_)
  have hM : Hm G M H := hM
  have hp13 : r13 = vaM T c9 (-10) (ndl T) := hp13
  subst hp13
  refine lv_lneg hx hb dX6_exposureOf_16 ?_
  refine lv_lstore (lv' := [(4, .long (-(vaM T c9 (-10) (ndl T)))), (2, .long (-(vaM T c9 10 (ndl T)))), (0, .ref (ad 14 0)), (1, .int c9)]) hx hb dX6_exposureOf_17 hl (by decide) rfl (fun ls hl => ?_)
  refine lv_lload_n hx hb dX6_exposureOf_19 rfl (lv_at hl 1 rfl) ?_
  refine lv_lload hx hb dX6_exposureOf_20 (lv_at hl 0 rfl) ?_
  refine W.lcmp hx hb dX6_exposureOf_22 ?_
  refine lv_if_le (tgt := 30) hx hb dX6_exposureOf_23 (by decide) (fun c_23 => ?_) (fun c_23 => ?_)
  · refine lv_lload hx hb dX6_exposureOf_30 (lv_at hl 0 rfl) ?_
    refine lv_lstore (lv' := [(6, .long (-(vaM T c9 (-10) (ndl T)))), (4, .long (-(vaM T c9 (-10) (ndl T)))), (2, .long (-(vaM T c9 10 (ndl T)))), (0, .ref (ad 14 0)), (1, .int c9)]) hx hb dX6_exposureOf_32 hl (by decide) rfl (fun ls hl => ?_)
    refine lv_lload hx hb dX6_exposureOf_34 (lv_at hl 0 rfl) ?_
    refine lv_lconst (v := 0) hx hb dX6_exposureOf_36 (by decide) ?_
    refine W.lcmp hx hb dX6_exposureOf_37 ?_
    refine lv_if_ge (tgt := 45) hx hb dX6_exposureOf_38 (by decide) (fun c_38 => ?_) (fun c_38 => ?_)
    · refine lv_lload hx hb dX6_exposureOf_45 (lv_at hl 0 rfl) ?_
      have e9 : (-(vaM T c9 (-10) (ndl T))) = exs T c9.toNatClampNeg := by
        unfold exs
        rw [← vaM_la hi hc (ndl T) (Nat.le_refl _), ← vaM_la hi hc (ndl T) (Nat.le_refl _), wl_eq2 (ge_of_cmp c_23), if_neg (cmp_ge c_38)]
      exact (r_l hx hb hr hlocks hS (v := (-(vaM T c9 (-10) (ndl T)))) () e9 hM (Nat.le_of_ble_eq_true rfl) (Nat.le_of_ble_eq_true rfl) dX6_exposureOf_47)
    · refine lv_lconst (v := 0) hx hb dX6_exposureOf_41 (by decide) ?_
      refine lv_goto (tgt := 47) hx hb dX6_exposureOf_42 (by decide) ?_
      have e9 : 0 = exs T c9.toNatClampNeg := by
        unfold exs
        rw [← vaM_la hi hc (ndl T) (Nat.le_refl _), ← vaM_la hi hc (ndl T) (Nat.le_refl _), wl_eq2 (ge_of_cmp c_23), if_pos (cmp_lt c_38)]
      exact (r_l hx hb hr hlocks hS (v := 0) () e9 hM (Nat.le_of_ble_eq_true rfl) (Nat.le_of_ble_eq_true rfl) dX6_exposureOf_47)
  · refine lv_lload_n hx hb dX6_exposureOf_26 rfl (lv_at hl 1 rfl) ?_
    refine lv_goto (tgt := 32) hx hb dX6_exposureOf_27 (by decide) ?_
    refine lv_lstore (lv' := [(6, .long (-(vaM T c9 10 (ndl T)))), (4, .long (-(vaM T c9 (-10) (ndl T)))), (2, .long (-(vaM T c9 10 (ndl T)))), (0, .ref (ad 14 0)), (1, .int c9)]) hx hb dX6_exposureOf_32 hl (by decide) rfl (fun ls hl => ?_)
    refine lv_lload hx hb dX6_exposureOf_34 (lv_at hl 0 rfl) ?_
    refine lv_lconst (v := 0) hx hb dX6_exposureOf_36 (by decide) ?_
    refine W.lcmp hx hb dX6_exposureOf_37 ?_
    refine lv_if_ge (tgt := 45) hx hb dX6_exposureOf_38 (by decide) (fun c_38 => ?_) (fun c_38 => ?_)
    · refine lv_lload hx hb dX6_exposureOf_45 (lv_at hl 0 rfl) ?_
      have e9 : (-(vaM T c9 10 (ndl T))) = exs T c9.toNatClampNeg := by
        unfold exs
        rw [← vaM_la hi hc (ndl T) (Nat.le_refl _), ← vaM_la hi hc (ndl T) (Nat.le_refl _), wl_eq (lt_of_cmp c_23), if_neg (cmp_ge c_38)]
      exact (r_l hx hb hr hlocks hS (v := (-(vaM T c9 10 (ndl T)))) () e9 hM (Nat.le_of_ble_eq_true rfl) (Nat.le_of_ble_eq_true rfl) dX6_exposureOf_47)
    · refine lv_lconst (v := 0) hx hb dX6_exposureOf_41 (by decide) ?_
      refine lv_goto (tgt := 47) hx hb dX6_exposureOf_42 (by decide) ?_
      have e9 : 0 = exs T c9.toNatClampNeg := by
        unfold exs
        rw [← vaM_la hi hc (ndl T) (Nat.le_refl _), ← vaM_la hi hc (ndl T) (Nat.le_refl _), wl_eq (lt_of_cmp c_23), if_pos (cmp_lt c_38)]
      exact (r_l hx hb hr hlocks hS (v := 0) () e9 hM (Nat.le_of_ble_eq_true rfl) (Nat.le_of_ble_eq_true rfl) dX6_exposureOf_47)
set_option maxHeartbeats 4000000 in
set_option maxRecDepth 100000 in
theorem c_X6_exposure (l : Launch) (G : Gx) (M : Mp) (S T : Sd) (th : Int32) (o : Int64) (ex : Nat → Option (Nat × Nat)) (ad : Nat → Nat → Nat) (n : Int32) (hw : WA G S T th o ex ad M) (hi : Iv T) : Met l yX6_exposure wsX6_exposure ({ frames := 4, cells := 0, slots := 0, locals := 99 }) (Cv G M [.ref (ad 14 0), .int n]) (va_Ql (S := Mp) (fun r M2 => (¬ (0 ≤ n ∧ n < 5) ∧ WA G S T 1 o ex ad M2) ∨ ((0 ≤ n ∧ n < 5) ∧ r = exs T n.toNatClampNeg ∧ WA G S T 0 o ex ad M2)) (Bm G (fun M2 => M2)) (AG G)) (0) (0) (AG G) := by
  refine m_met [.ref (ad 14 0), .int n] [(0, .ref (ad 14 0)), (1, .int n)] (by decide) rfl rfl (Nat.le_of_ble_eq_true rfl) ?_
  intro p e s m below meth c ls hx hb hr hml hown hts hlocks hin hC hM hl hS
  have m14 : M (ad 14 0) = some (.inr (6, [.int th, .int (T.1 0 0), .ref (ad 15 0), .ref (ad 16 0), .ref (ad 17 0), .ref (ad 18 0), .int (T.1 5 0), .ref (ad 19 0), .ref (ad 20 0), .ref (ad 21 0), .ref (ad 22 0), .ref (ad 23 0), .ref (ad 24 0), .ref (ad 25 0), .ref (ad 26 0), .ref (ad 27 0)])) := hw.1 14 0 _ rfl
  refine lv_aload_n hx hb dX6_exposure_0 rfl (lv_at hl 0 rfl) ?_
  refine lv_iload_n hx hb dX6_exposure_1 rfl (lv_at hl 1 rfl) ?_
  refine k_i (va_runS (As := [.int n]) (rest := [.ref (ad 14 0)]) ⟨hx, hb, hml, hown, hts⟩ (c_X6_isCustomer l G M n) (va_cwS 1 hts gX6_exposure_X6_isCustomer rfl rfl rfl (by decide +kernel) ⟨Nat.le_of_ble_eq_true rfl, Nat.le_of_ble_eq_true rfl⟩) (preS_of hC hS hM) rfl rfl hl.1 rfl (lv_room (Nat.le_of_ble_eq_true rfl)) dX6_exposure_2 ⟨Nat.le_of_ble_eq_true rfl, Nat.le_of_ble_eq_true rfl⟩) hS (fun r2 u2 H locs hp2 hM hS => ?_)
  have hM : Hm G M H := hM
  have hp2 : r2 = inb n 0 4 := hp2
  subst hp2
  refine lv_if_eq (tgt := 12) hx hb dX6_exposure_5 (by decide) (fun c_5 => ?_) (fun c_5 => ?_)
  · refine lv_iconst (v := 1) hx hb dX6_exposure_12 (by decide) ?_
    refine m_put (host := "") (ci := 6) (v := .int 1) (ty := .int) (C := RX6) (T := TX6) (N := 16) (a := (ad 14 0)) hx hb hts (by decide +kernel) tyX6 tyX6_ok nmX6 hown hC hM hS m14 rfl 0 (by decide) (hts (.fieldLink RX6 53 "ForwardrollModel" "thrown" "I") (by decide +kernel)) (fun _ h9 => h9) rfl (by decide +kernel) rfl rfl (Nat.le_of_ble_eq_true rfl) dX6_exposure_13 (fun H locs hM hS => ?_)
    have hM : Hm G (va_up M (ad 14 0) (some (.inr (6, [.int 1, .int (T.1 0 0), .ref (ad 15 0), .ref (ad 16 0), .ref (ad 17 0), .ref (ad 18 0), .int (T.1 5 0), .ref (ad 19 0), .ref (ad 20 0), .ref (ad 21 0), .ref (ad 22 0), .ref (ad 23 0), .ref (ad 24 0), .ref (ad 25 0), .ref (ad 26 0), .ref (ad 27 0)])))) H := hM
    have f13_3 : (va_up M (ad 14 0) (some (.inr (6, [.int 1, .int (T.1 0 0), .ref (ad 15 0), .ref (ad 16 0), .ref (ad 17 0), .ref (ad 18 0), .int (T.1 5 0), .ref (ad 19 0), .ref (ad 20 0), .ref (ad 21 0), .ref (ad 22 0), .ref (ad 23 0), .ref (ad 24 0), .ref (ad 25 0), .ref (ad 26 0), .ref (ad 27 0)])))) (ad 14 0) = some (.inr (6, [.int 1, .int (T.1 0 0), .ref (ad 15 0), .ref (ad 16 0), .ref (ad 17 0), .ref (ad 18 0), .int (T.1 5 0), .ref (ad 19 0), .ref (ad 20 0), .ref (ad 21 0), .ref (ad 22 0), .ref (ad 23 0), .ref (ad 24 0), .ref (ad 25 0), .ref (ad 26 0), .ref (ad 27 0)])) := up_eq
    refine lv_aload_n hx hb dX6_exposure_16 rfl (lv_at hl 0 rfl) ?_
    refine m_get (ci := 6) (v := .int 1) (C := RX6) (T := TX6) (N := 16) (a := (ad 14 0)) hx hb hts (by decide +kernel) hown hC hM f13_3 rfl 0 (by decide) (hts (.fieldLink RX6 53 "ForwardrollModel" "thrown" "I") (by decide +kernel)) (fun _ h9 => h9) rfl dX6_exposure_17 ?_
    refine lv_if_le (tgt := 27) hx hb dX6_exposure_20 (by decide) (fun c_20 => False.elim (by revert c_20; decide)) (fun c_20 => ?_)
    refine lv_lconst (v := 0) hx hb dX6_exposure_23 (by decide) ?_
    refine lv_goto (tgt := 32) hx hb dX6_exposure_24 (by decide) ?_
    exact (r_l hx hb hr hlocks hS (v := 0) _ (Or.inl ⟨fun z => inb_f c_5 (c54 z), w_mth hw 1⟩) hM (Nat.le_of_ble_eq_true rfl) (Nat.le_of_ble_eq_true rfl) dX6_exposure_32)
  · refine lv_iconst (v := 0) hx hb dX6_exposure_8 (by decide) ?_
    refine lv_goto (tgt := 13) hx hb dX6_exposure_9 (by decide) ?_
    refine m_put (host := "") (ci := 6) (v := .int 0) (ty := .int) (C := RX6) (T := TX6) (N := 16) (a := (ad 14 0)) hx hb hts (by decide +kernel) tyX6 tyX6_ok nmX6 hown hC hM hS m14 rfl 0 (by decide) (hts (.fieldLink RX6 53 "ForwardrollModel" "thrown" "I") (by decide +kernel)) (fun _ h9 => h9) rfl (by decide +kernel) rfl rfl (Nat.le_of_ble_eq_true rfl) dX6_exposure_13 (fun H locs hM hS => ?_)
    have hM : Hm G (va_up M (ad 14 0) (some (.inr (6, [.int 0, .int (T.1 0 0), .ref (ad 15 0), .ref (ad 16 0), .ref (ad 17 0), .ref (ad 18 0), .int (T.1 5 0), .ref (ad 19 0), .ref (ad 20 0), .ref (ad 21 0), .ref (ad 22 0), .ref (ad 23 0), .ref (ad 24 0), .ref (ad 25 0), .ref (ad 26 0), .ref (ad 27 0)])))) H := hM
    have f13_6 : (va_up M (ad 14 0) (some (.inr (6, [.int 0, .int (T.1 0 0), .ref (ad 15 0), .ref (ad 16 0), .ref (ad 17 0), .ref (ad 18 0), .int (T.1 5 0), .ref (ad 19 0), .ref (ad 20 0), .ref (ad 21 0), .ref (ad 22 0), .ref (ad 23 0), .ref (ad 24 0), .ref (ad 25 0), .ref (ad 26 0), .ref (ad 27 0)])))) (ad 14 0) = some (.inr (6, [.int 0, .int (T.1 0 0), .ref (ad 15 0), .ref (ad 16 0), .ref (ad 17 0), .ref (ad 18 0), .int (T.1 5 0), .ref (ad 19 0), .ref (ad 20 0), .ref (ad 21 0), .ref (ad 22 0), .ref (ad 23 0), .ref (ad 24 0), .ref (ad 25 0), .ref (ad 26 0), .ref (ad 27 0)])) := up_eq
    refine lv_aload_n hx hb dX6_exposure_16 rfl (lv_at hl 0 rfl) ?_
    refine m_get (ci := 6) (v := .int 0) (C := RX6) (T := TX6) (N := 16) (a := (ad 14 0)) hx hb hts (by decide +kernel) hown hC hM f13_6 rfl 0 (by decide) (hts (.fieldLink RX6 53 "ForwardrollModel" "thrown" "I") (by decide +kernel)) (fun _ h9 => h9) rfl dX6_exposure_17 ?_
    refine lv_if_le (tgt := 27) hx hb dX6_exposure_20 (by decide) (fun c_20 => ?_) (fun c_20 => False.elim (by revert c_20; decide))
    refine lv_aload_n hx hb dX6_exposure_27 rfl (lv_at hl 0 rfl) ?_
    refine lv_iload_n hx hb dX6_exposure_28 rfl (lv_at hl 1 rfl) ?_
    refine k_l (va_runV (As := [.int n]) (rest := []) ⟨hx, hb, hml, hown, hts⟩ (c_X6_exposureOf l G (va_up M (ad 14 0) (some (.inr (6, [.int 0, .int (T.1 0 0), .ref (ad 15 0), .ref (ad 16 0), .ref (ad 17 0), .ref (ad 18 0), .int (T.1 5 0), .ref (ad 19 0), .ref (ad 20 0), .ref (ad 21 0), .ref (ad 22 0), .ref (ad 23 0), .ref (ad 24 0), .ref (ad 25 0), .ref (ad 26 0), .ref (ad 27 0)])))) S T 0 o ex ad n (w_mth hw 0) hi (inb_t c_5).1) (cwV 1 hts gX6_exposure_X6_exposureOf rfl rfl rfl (by decide +kernel) ⟨Nat.le_of_ble_eq_true rfl, Nat.le_of_ble_eq_true rfl⟩) (preV_of hC hS hM f13_6 rfl) rfl rfl hl.1 rfl (lv_room (Nat.le_of_ble_eq_true rfl)) dX6_exposure_29 ⟨Nat.le_of_ble_eq_true rfl, Nat.le_of_ble_eq_true rfl⟩) hS (fun r29 u29 H locs hp29 hM hS => ?_)
    have hM : Hm G (va_up M (ad 14 0) (some (.inr (6, [.int 0, .int (T.1 0 0), .ref (ad 15 0), .ref (ad 16 0), .ref (ad 17 0), .ref (ad 18 0), .int (T.1 5 0), .ref (ad 19 0), .ref (ad 20 0), .ref (ad 21 0), .ref (ad 22 0), .ref (ad 23 0), .ref (ad 24 0), .ref (ad 25 0), .ref (ad 26 0), .ref (ad 27 0)])))) H := hM
    have hp29 : r29 = exs T n.toNatClampNeg := hp29
    subst hp29
    exact (r_l hx hb hr hlocks hS (v := exs T n.toNatClampNeg) _ (Or.inr ⟨c55 (inb_t c_5), rfl, w_mth hw 0⟩) hM (Nat.le_of_ble_eq_true rfl) (Nat.le_of_ble_eq_true rfl) dX6_exposure_32)
set_option maxHeartbeats 4000000 in
set_option maxRecDepth 100000 in
theorem c_X6_due (l : Launch) (G : Gx) (M : Mp) (S T : Sd) (th : Int32) (o : Int64) (ex : Nat → Option (Nat × Nat)) (ad : Nat → Nat → Nat) (n x y : Int32) (hw : WA G S T th o ex ad M) (hi : Iv T) : Met l yX6_due wsX6_due ({ frames := 2, cells := 0, slots := 0, locals := 42 }) (Cv G M [.ref (ad 14 0), .int n, .int x, .int y]) (va_Ql (S := Mp) (fun r M2 => (¬ (0 ≤ n ∧ n < 5) ∧ WA G S T 1 o ex ad M2) ∨ ((0 ≤ n ∧ n < 5) ∧ ¬ ((0 ≤ x ∧ x ≤ 4) ∧ (1 ≤ y ∧ y ≤ 20)) ∧ WA G S T 2 o ex ad M2) ∨ ((0 ≤ n ∧ n < 5) ∧ ((0 ≤ x ∧ x ≤ 4) ∧ (1 ≤ y ∧ y ≤ 20)) ∧ r = T.2 0 (5 * (5 * (T.1 0 0 + y).toNatClampNeg + n.toNatClampNeg) + x.toNatClampNeg) ∧ WA G S T 0 o ex ad M2)) (Bm G (fun M2 => M2)) (AG G)) (0) (0) (AG G) := by
  refine m_met [.ref (ad 14 0), .int n, .int x, .int y] [(0, .ref (ad 14 0)), (1, .int n), (2, .int x), (3, .int y)] (by decide) rfl rfl (Nat.le_of_ble_eq_true rfl) ?_
  intro p e s m below meth c ls hx hb hr hml hown hts hlocks hin hC hM hl hS
  have m14 : M (ad 14 0) = some (.inr (6, [.int th, .int (T.1 0 0), .ref (ad 15 0), .ref (ad 16 0), .ref (ad 17 0), .ref (ad 18 0), .int (T.1 5 0), .ref (ad 19 0), .ref (ad 20 0), .ref (ad 21 0), .ref (ad 22 0), .ref (ad 23 0), .ref (ad 24 0), .ref (ad 25 0), .ref (ad 26 0), .ref (ad 27 0)])) := hw.1 14 0 _ rfl
  have m26 : M (ad 26 0) = some (.inl (G.2.1 1, 25750, .inr (.inl (T.2 0)))) := hw.1 26 0 _ rfl
  refine lv_aload_n hx hb dX6_due_0 rfl (lv_at hl 0 rfl) ?_
  refine lv_iload_n hx hb dX6_due_1 rfl (lv_at hl 1 rfl) ?_
  refine k_i (va_runS (As := [.int n]) (rest := [.ref (ad 14 0)]) ⟨hx, hb, hml, hown, hts⟩ (c_X6_isCustomer l G M n) (va_cwS 1 hts gX6_due_X6_isCustomer rfl rfl rfl (by decide +kernel) ⟨Nat.le_of_ble_eq_true rfl, Nat.le_of_ble_eq_true rfl⟩) (preS_of hC hS hM) rfl rfl hl.1 rfl (lv_room (Nat.le_of_ble_eq_true rfl)) dX6_due_2 ⟨Nat.le_of_ble_eq_true rfl, Nat.le_of_ble_eq_true rfl⟩) hS (fun r2 u2 H locs hp2 hM hS => ?_)
  have hM : Hm G M H := hM
  have hp2 : r2 = inb n 0 4 := hp2
  subst hp2
  refine lv_if_ne (tgt := 12) hx hb dX6_due_5 (by decide) (fun c_5 => ?_) (fun c_5 => ?_)
  · refine lv_iload_n hx hb dX6_due_12 rfl (lv_at hl 2 rfl) ?_
    refine lv_iconst (v := 0) hx hb dX6_due_13 (by decide) ?_
    refine lv_iconst (v := 4) hx hb dX6_due_14 (by decide) ?_
    refine k_i (va_runS (As := [.int x, .int 0, .int 4]) (rest := [.ref (ad 14 0)]) ⟨hx, hb, hml, hown, hts⟩ (c_X6_in l G M x (0 : Int32) (4 : Int32)) (va_cwS 3 hts gX6_due_X6_in rfl rfl rfl (by decide +kernel) ⟨Nat.le_of_ble_eq_true rfl, Nat.le_of_ble_eq_true rfl⟩) (preS_of hC hS hM) rfl rfl hl.1 rfl (lv_room (Nat.le_of_ble_eq_true rfl)) dX6_due_15 ⟨Nat.le_of_ble_eq_true rfl, Nat.le_of_ble_eq_true rfl⟩) hS (fun r15 u15 H locs hp15 hM hS => ?_)
    have hM : Hm G M H := hM
    have hp15 : r15 = inb x (0 : Int32) (4 : Int32) := hp15
    subst hp15
    refine lv_if_eq (tgt := 35) hx hb dX6_due_18 (by decide) (fun c_18 => ?_) (fun c_18 => ?_)
    · refine lv_iconst (v := 2) hx hb dX6_due_35 (by decide) ?_
      refine m_put (host := "") (ci := 6) (v := .int 2) (ty := .int) (C := RX6) (T := TX6) (N := 16) (a := (ad 14 0)) hx hb hts (by decide +kernel) tyX6 tyX6_ok nmX6 hown hC hM hS m14 rfl 0 (by decide) (hts (.fieldLink RX6 53 "ForwardrollModel" "thrown" "I") (by decide +kernel)) (fun _ h9 => h9) rfl (by decide +kernel) rfl rfl (Nat.le_of_ble_eq_true rfl) dX6_due_36 (fun H locs hM hS => ?_)
      have hM : Hm G (va_up M (ad 14 0) (some (.inr (6, [.int 2, .int (T.1 0 0), .ref (ad 15 0), .ref (ad 16 0), .ref (ad 17 0), .ref (ad 18 0), .int (T.1 5 0), .ref (ad 19 0), .ref (ad 20 0), .ref (ad 21 0), .ref (ad 22 0), .ref (ad 23 0), .ref (ad 24 0), .ref (ad 25 0), .ref (ad 26 0), .ref (ad 27 0)])))) H := hM
      have f36_4 : (va_up M (ad 14 0) (some (.inr (6, [.int 2, .int (T.1 0 0), .ref (ad 15 0), .ref (ad 16 0), .ref (ad 17 0), .ref (ad 18 0), .int (T.1 5 0), .ref (ad 19 0), .ref (ad 20 0), .ref (ad 21 0), .ref (ad 22 0), .ref (ad 23 0), .ref (ad 24 0), .ref (ad 25 0), .ref (ad 26 0), .ref (ad 27 0)])))) (ad 14 0) = some (.inr (6, [.int 2, .int (T.1 0 0), .ref (ad 15 0), .ref (ad 16 0), .ref (ad 17 0), .ref (ad 18 0), .int (T.1 5 0), .ref (ad 19 0), .ref (ad 20 0), .ref (ad 21 0), .ref (ad 22 0), .ref (ad 23 0), .ref (ad 24 0), .ref (ad 25 0), .ref (ad 26 0), .ref (ad 27 0)])) := up_eq
      have f36_5 : (va_up M (ad 14 0) (some (.inr (6, [.int 2, .int (T.1 0 0), .ref (ad 15 0), .ref (ad 16 0), .ref (ad 17 0), .ref (ad 18 0), .int (T.1 5 0), .ref (ad 19 0), .ref (ad 20 0), .ref (ad 21 0), .ref (ad 22 0), .ref (ad 23 0), .ref (ad 24 0), .ref (ad 25 0), .ref (ad 26 0), .ref (ad 27 0)])))) (ad 26 0) = some (.inl (G.2.1 1, 25750, .inr (.inl (T.2 0)))) := (up_ne (hw.ne (k := 26) (i := 0) (k' := 14) (i' := 0) rfl rfl (by decide))).trans m26
      refine lv_aload_n hx hb dX6_due_39 rfl (lv_at hl 0 rfl) ?_
      refine m_get (ci := 6) (v := .int 2) (C := RX6) (T := TX6) (N := 16) (a := (ad 14 0)) hx hb hts (by decide +kernel) hown hC hM f36_4 rfl 0 (by decide) (hts (.fieldLink RX6 53 "ForwardrollModel" "thrown" "I") (by decide +kernel)) (fun _ h9 => h9) rfl dX6_due_40 ?_
      refine lv_if_le (tgt := 50) hx hb dX6_due_43 (by decide) (fun c_43 => False.elim (by revert c_43; decide)) (fun c_43 => ?_)
      refine lv_lconst (v := 0) hx hb dX6_due_46 (by decide) ?_
      refine lv_goto (tgt := 70) hx hb dX6_due_47 (by decide) ?_
      exact (r_l hx hb hr hlocks hS (v := 0) _ (Or.inr (Or.inl ⟨c55 (inb_t c_5), fun z => inb_f c_18 z.1, w_mth hw 2⟩)) hM (Nat.le_of_ble_eq_true rfl) (Nat.le_of_ble_eq_true rfl) dX6_due_70)
    · refine lv_iload_n hx hb dX6_due_21 rfl (lv_at hl 3 rfl) ?_
      refine lv_iconst (v := 1) hx hb dX6_due_22 (by decide) ?_
      refine lv_bipush (v := 20) hx hb dX6_due_23 (by decide) ?_
      refine k_i (va_runS (As := [.int y, .int 1, .int 20]) (rest := [.ref (ad 14 0)]) ⟨hx, hb, hml, hown, hts⟩ (c_X6_in l G M y (1 : Int32) (20 : Int32)) (va_cwS 3 hts gX6_due_X6_in rfl rfl rfl (by decide +kernel) ⟨Nat.le_of_ble_eq_true rfl, Nat.le_of_ble_eq_true rfl⟩) (preS_of hC hS hM) rfl rfl hl.1 rfl (lv_room (Nat.le_of_ble_eq_true rfl)) dX6_due_25 ⟨Nat.le_of_ble_eq_true rfl, Nat.le_of_ble_eq_true rfl⟩) hS (fun r25 u25 H locs hp25 hM hS => ?_)
      have hM : Hm G M H := hM
      have hp25 : r25 = inb y (1 : Int32) (20 : Int32) := hp25
      subst hp25
      refine lv_if_eq (tgt := 35) hx hb dX6_due_28 (by decide) (fun c_28 => ?_) (fun c_28 => ?_)
      · refine lv_iconst (v := 2) hx hb dX6_due_35 (by decide) ?_
        refine m_put (host := "") (ci := 6) (v := .int 2) (ty := .int) (C := RX6) (T := TX6) (N := 16) (a := (ad 14 0)) hx hb hts (by decide +kernel) tyX6 tyX6_ok nmX6 hown hC hM hS m14 rfl 0 (by decide) (hts (.fieldLink RX6 53 "ForwardrollModel" "thrown" "I") (by decide +kernel)) (fun _ h9 => h9) rfl (by decide +kernel) rfl rfl (Nat.le_of_ble_eq_true rfl) dX6_due_36 (fun H locs hM hS => ?_)
        have hM : Hm G (va_up M (ad 14 0) (some (.inr (6, [.int 2, .int (T.1 0 0), .ref (ad 15 0), .ref (ad 16 0), .ref (ad 17 0), .ref (ad 18 0), .int (T.1 5 0), .ref (ad 19 0), .ref (ad 20 0), .ref (ad 21 0), .ref (ad 22 0), .ref (ad 23 0), .ref (ad 24 0), .ref (ad 25 0), .ref (ad 26 0), .ref (ad 27 0)])))) H := hM
        have f36_9 : (va_up M (ad 14 0) (some (.inr (6, [.int 2, .int (T.1 0 0), .ref (ad 15 0), .ref (ad 16 0), .ref (ad 17 0), .ref (ad 18 0), .int (T.1 5 0), .ref (ad 19 0), .ref (ad 20 0), .ref (ad 21 0), .ref (ad 22 0), .ref (ad 23 0), .ref (ad 24 0), .ref (ad 25 0), .ref (ad 26 0), .ref (ad 27 0)])))) (ad 14 0) = some (.inr (6, [.int 2, .int (T.1 0 0), .ref (ad 15 0), .ref (ad 16 0), .ref (ad 17 0), .ref (ad 18 0), .int (T.1 5 0), .ref (ad 19 0), .ref (ad 20 0), .ref (ad 21 0), .ref (ad 22 0), .ref (ad 23 0), .ref (ad 24 0), .ref (ad 25 0), .ref (ad 26 0), .ref (ad 27 0)])) := up_eq
        have f36_10 : (va_up M (ad 14 0) (some (.inr (6, [.int 2, .int (T.1 0 0), .ref (ad 15 0), .ref (ad 16 0), .ref (ad 17 0), .ref (ad 18 0), .int (T.1 5 0), .ref (ad 19 0), .ref (ad 20 0), .ref (ad 21 0), .ref (ad 22 0), .ref (ad 23 0), .ref (ad 24 0), .ref (ad 25 0), .ref (ad 26 0), .ref (ad 27 0)])))) (ad 26 0) = some (.inl (G.2.1 1, 25750, .inr (.inl (T.2 0)))) := (up_ne (hw.ne (k := 26) (i := 0) (k' := 14) (i' := 0) rfl rfl (by decide))).trans m26
        refine lv_aload_n hx hb dX6_due_39 rfl (lv_at hl 0 rfl) ?_
        refine m_get (ci := 6) (v := .int 2) (C := RX6) (T := TX6) (N := 16) (a := (ad 14 0)) hx hb hts (by decide +kernel) hown hC hM f36_9 rfl 0 (by decide) (hts (.fieldLink RX6 53 "ForwardrollModel" "thrown" "I") (by decide +kernel)) (fun _ h9 => h9) rfl dX6_due_40 ?_
        refine lv_if_le (tgt := 50) hx hb dX6_due_43 (by decide) (fun c_43 => False.elim (by revert c_43; decide)) (fun c_43 => ?_)
        refine lv_lconst (v := 0) hx hb dX6_due_46 (by decide) ?_
        refine lv_goto (tgt := 70) hx hb dX6_due_47 (by decide) ?_
        exact (r_l hx hb hr hlocks hS (v := 0) _ (Or.inr (Or.inl ⟨c55 (inb_t c_5), fun z => inb_f c_28 z.2, w_mth hw 2⟩)) hM (Nat.le_of_ble_eq_true rfl) (Nat.le_of_ble_eq_true rfl) dX6_due_70)
      · refine lv_iconst (v := 0) hx hb dX6_due_31 (by decide) ?_
        refine lv_goto (tgt := 36) hx hb dX6_due_32 (by decide) ?_
        refine m_put (host := "") (ci := 6) (v := .int 0) (ty := .int) (C := RX6) (T := TX6) (N := 16) (a := (ad 14 0)) hx hb hts (by decide +kernel) tyX6 tyX6_ok nmX6 hown hC hM hS m14 rfl 0 (by decide) (hts (.fieldLink RX6 53 "ForwardrollModel" "thrown" "I") (by decide +kernel)) (fun _ h9 => h9) rfl (by decide +kernel) rfl rfl (Nat.le_of_ble_eq_true rfl) dX6_due_36 (fun H locs hM hS => ?_)
        have hM : Hm G (va_up M (ad 14 0) (some (.inr (6, [.int 0, .int (T.1 0 0), .ref (ad 15 0), .ref (ad 16 0), .ref (ad 17 0), .ref (ad 18 0), .int (T.1 5 0), .ref (ad 19 0), .ref (ad 20 0), .ref (ad 21 0), .ref (ad 22 0), .ref (ad 23 0), .ref (ad 24 0), .ref (ad 25 0), .ref (ad 26 0), .ref (ad 27 0)])))) H := hM
        have f36_13 : (va_up M (ad 14 0) (some (.inr (6, [.int 0, .int (T.1 0 0), .ref (ad 15 0), .ref (ad 16 0), .ref (ad 17 0), .ref (ad 18 0), .int (T.1 5 0), .ref (ad 19 0), .ref (ad 20 0), .ref (ad 21 0), .ref (ad 22 0), .ref (ad 23 0), .ref (ad 24 0), .ref (ad 25 0), .ref (ad 26 0), .ref (ad 27 0)])))) (ad 14 0) = some (.inr (6, [.int 0, .int (T.1 0 0), .ref (ad 15 0), .ref (ad 16 0), .ref (ad 17 0), .ref (ad 18 0), .int (T.1 5 0), .ref (ad 19 0), .ref (ad 20 0), .ref (ad 21 0), .ref (ad 22 0), .ref (ad 23 0), .ref (ad 24 0), .ref (ad 25 0), .ref (ad 26 0), .ref (ad 27 0)])) := up_eq
        have f36_14 : (va_up M (ad 14 0) (some (.inr (6, [.int 0, .int (T.1 0 0), .ref (ad 15 0), .ref (ad 16 0), .ref (ad 17 0), .ref (ad 18 0), .int (T.1 5 0), .ref (ad 19 0), .ref (ad 20 0), .ref (ad 21 0), .ref (ad 22 0), .ref (ad 23 0), .ref (ad 24 0), .ref (ad 25 0), .ref (ad 26 0), .ref (ad 27 0)])))) (ad 26 0) = some (.inl (G.2.1 1, 25750, .inr (.inl (T.2 0)))) := (up_ne (hw.ne (k := 26) (i := 0) (k' := 14) (i' := 0) rfl rfl (by decide))).trans m26
        refine lv_aload_n hx hb dX6_due_39 rfl (lv_at hl 0 rfl) ?_
        refine m_get (ci := 6) (v := .int 0) (C := RX6) (T := TX6) (N := 16) (a := (ad 14 0)) hx hb hts (by decide +kernel) hown hC hM f36_13 rfl 0 (by decide) (hts (.fieldLink RX6 53 "ForwardrollModel" "thrown" "I") (by decide +kernel)) (fun _ h9 => h9) rfl dX6_due_40 ?_
        refine lv_if_le (tgt := 50) hx hb dX6_due_43 (by decide) (fun c_43 => ?_) (fun c_43 => False.elim (by revert c_43; decide))
        refine lv_aload_n hx hb dX6_due_50 rfl (lv_at hl 0 rfl) ?_
        refine m_get (ci := 6) (v := .ref (ad 26 0)) (C := RX6) (T := TX6) (N := 16) (a := (ad 14 0)) hx hb hts (by decide +kernel) hown hC hM f36_13 rfl 14 (by decide) (hts (.fieldLink RX6 47 "ForwardrollModel" "due" "[J") (by decide +kernel)) (fun _ h9 => h9) rfl dX6_due_51 ?_
        refine lv_bipush (v := 25) hx hb dX6_due_54 (by decide) ?_
        refine lv_aload_n hx hb dX6_due_56 rfl (lv_at hl 0 rfl) ?_
        refine m_get (ci := 6) (v := .int (T.1 0 0)) (C := RX6) (T := TX6) (N := 16) (a := (ad 14 0)) hx hb hts (by decide +kernel) hown hC hM f36_13 rfl 1 (by decide) (hts (.fieldLink RX6 64 "ForwardrollModel" "today" "I") (by decide +kernel)) (fun _ h9 => h9) rfl dX6_due_57 ?_
        refine lv_iload_n hx hb dX6_due_60 rfl (lv_at hl 3 rfl) ?_
        refine lv_iadd hx hb dX6_due_61 ?_
        refine lv_imul hx hb dX6_due_62 ?_
        refine lv_iconst (v := 5) hx hb dX6_due_63 (by decide) ?_
        refine lv_iload_n hx hb dX6_due_64 rfl (lv_at hl 1 rfl) ?_
        refine lv_imul hx hb dX6_due_65 ?_
        refine lv_iadd hx hb dX6_due_66 ?_
        refine lv_iload_n hx hb dX6_due_67 rfl (lv_at hl 2 rfl) ?_
        refine lv_iadd hx hb dX6_due_68 ?_
        refine m_lald (a := (ad 26 0)) hx hb hC hM f36_14 (ix26d hi (c55 (inb_t c_5)) (inb_t c_18) (inb_t c_28)).1 dX6_due_69 ?_
        exact (r_l hx hb hr hlocks hS (v := ((T.2 0) (((25 * ((T.1 0 0) + y)) + (5 * n)) + x).toNatClampNeg)) _ (Or.inr (Or.inr ⟨c55 (inb_t c_5), ⟨inb_t c_18, inb_t c_28⟩, (by rw [(ix26d hi (c55 (inb_t c_5)) (inb_t c_18) (inb_t c_28)).2]), w_mth hw 0⟩)) hM (Nat.le_of_ble_eq_true rfl) (Nat.le_of_ble_eq_true rfl) dX6_due_70)
  · refine lv_iconst (v := 1) hx hb dX6_due_8 (by decide) ?_
    refine lv_goto (tgt := 36) hx hb dX6_due_9 (by decide) ?_
    refine m_put (host := "") (ci := 6) (v := .int 1) (ty := .int) (C := RX6) (T := TX6) (N := 16) (a := (ad 14 0)) hx hb hts (by decide +kernel) tyX6 tyX6_ok nmX6 hown hC hM hS m14 rfl 0 (by decide) (hts (.fieldLink RX6 53 "ForwardrollModel" "thrown" "I") (by decide +kernel)) (fun _ h9 => h9) rfl (by decide +kernel) rfl rfl (Nat.le_of_ble_eq_true rfl) dX6_due_36 (fun H locs hM hS => ?_)
    have hM : Hm G (va_up M (ad 14 0) (some (.inr (6, [.int 1, .int (T.1 0 0), .ref (ad 15 0), .ref (ad 16 0), .ref (ad 17 0), .ref (ad 18 0), .int (T.1 5 0), .ref (ad 19 0), .ref (ad 20 0), .ref (ad 21 0), .ref (ad 22 0), .ref (ad 23 0), .ref (ad 24 0), .ref (ad 25 0), .ref (ad 26 0), .ref (ad 27 0)])))) H := hM
    have f36_17 : (va_up M (ad 14 0) (some (.inr (6, [.int 1, .int (T.1 0 0), .ref (ad 15 0), .ref (ad 16 0), .ref (ad 17 0), .ref (ad 18 0), .int (T.1 5 0), .ref (ad 19 0), .ref (ad 20 0), .ref (ad 21 0), .ref (ad 22 0), .ref (ad 23 0), .ref (ad 24 0), .ref (ad 25 0), .ref (ad 26 0), .ref (ad 27 0)])))) (ad 14 0) = some (.inr (6, [.int 1, .int (T.1 0 0), .ref (ad 15 0), .ref (ad 16 0), .ref (ad 17 0), .ref (ad 18 0), .int (T.1 5 0), .ref (ad 19 0), .ref (ad 20 0), .ref (ad 21 0), .ref (ad 22 0), .ref (ad 23 0), .ref (ad 24 0), .ref (ad 25 0), .ref (ad 26 0), .ref (ad 27 0)])) := up_eq
    have f36_18 : (va_up M (ad 14 0) (some (.inr (6, [.int 1, .int (T.1 0 0), .ref (ad 15 0), .ref (ad 16 0), .ref (ad 17 0), .ref (ad 18 0), .int (T.1 5 0), .ref (ad 19 0), .ref (ad 20 0), .ref (ad 21 0), .ref (ad 22 0), .ref (ad 23 0), .ref (ad 24 0), .ref (ad 25 0), .ref (ad 26 0), .ref (ad 27 0)])))) (ad 26 0) = some (.inl (G.2.1 1, 25750, .inr (.inl (T.2 0)))) := (up_ne (hw.ne (k := 26) (i := 0) (k' := 14) (i' := 0) rfl rfl (by decide))).trans m26
    refine lv_aload_n hx hb dX6_due_39 rfl (lv_at hl 0 rfl) ?_
    refine m_get (ci := 6) (v := .int 1) (C := RX6) (T := TX6) (N := 16) (a := (ad 14 0)) hx hb hts (by decide +kernel) hown hC hM f36_17 rfl 0 (by decide) (hts (.fieldLink RX6 53 "ForwardrollModel" "thrown" "I") (by decide +kernel)) (fun _ h9 => h9) rfl dX6_due_40 ?_
    refine lv_if_le (tgt := 50) hx hb dX6_due_43 (by decide) (fun c_43 => False.elim (by revert c_43; decide)) (fun c_43 => ?_)
    refine lv_lconst (v := 0) hx hb dX6_due_46 (by decide) ?_
    refine lv_goto (tgt := 70) hx hb dX6_due_47 (by decide) ?_
    exact (r_l hx hb hr hlocks hS (v := 0) _ (Or.inl ⟨fun z => inb_f c_5 (c54 z), w_mth hw 1⟩) hM (Nat.le_of_ble_eq_true rfl) (Nat.le_of_ble_eq_true rfl) dX6_due_70)
set_option maxHeartbeats 4000000 in
set_option maxRecDepth 100000 in
theorem c_X6_balance (l : Launch) (G : Gx) (M : Mp) (S T : Sd) (th : Int32) (o : Int64) (ex : Nat → Option (Nat × Nat)) (ad : Nat → Nat → Nat) (n x : Int32) (hw : WA G S T th o ex ad M) : Met l yX6_balance wsX6_balance ({ frames := 2, cells := 0, slots := 0, locals := 42 }) (Cv G M [.ref (ad 14 0), .int n, .int x]) (va_Ql (S := Mp) (fun r M2 => (¬ (0 ≤ n ∧ n < 5) ∧ WA G S T 1 o ex ad M2) ∨ ((0 ≤ n ∧ n < 5) ∧ ¬ (0 ≤ x ∧ x ≤ 4) ∧ WA G S T 2 o ex ad M2) ∨ ((0 ≤ n ∧ n < 5) ∧ (0 ≤ x ∧ x ≤ 4) ∧ r = T.2 1 (5 * n.toNatClampNeg + x.toNatClampNeg) ∧ WA G S T 0 o ex ad M2)) (Bm G (fun M2 => M2)) (AG G)) (0) (0) (AG G) := by
  refine m_met [.ref (ad 14 0), .int n, .int x] [(0, .ref (ad 14 0)), (1, .int n), (2, .int x)] (by decide) rfl rfl (Nat.le_of_ble_eq_true rfl) ?_
  intro p e s m below meth c ls hx hb hr hml hown hts hlocks hin hC hM hl hS
  have m14 : M (ad 14 0) = some (.inr (6, [.int th, .int (T.1 0 0), .ref (ad 15 0), .ref (ad 16 0), .ref (ad 17 0), .ref (ad 18 0), .int (T.1 5 0), .ref (ad 19 0), .ref (ad 20 0), .ref (ad 21 0), .ref (ad 22 0), .ref (ad 23 0), .ref (ad 24 0), .ref (ad 25 0), .ref (ad 26 0), .ref (ad 27 0)])) := hw.1 14 0 _ rfl
  have m27 : M (ad 27 0) = some (.inl (G.2.1 1, 25, .inr (.inl (T.2 1)))) := hw.1 27 0 _ rfl
  refine lv_aload_n hx hb dX6_balance_0 rfl (lv_at hl 0 rfl) ?_
  refine lv_iload_n hx hb dX6_balance_1 rfl (lv_at hl 1 rfl) ?_
  refine k_i (va_runS (As := [.int n]) (rest := [.ref (ad 14 0)]) ⟨hx, hb, hml, hown, hts⟩ (c_X6_isCustomer l G M n) (va_cwS 1 hts gX6_balance_X6_isCustomer rfl rfl rfl (by decide +kernel) ⟨Nat.le_of_ble_eq_true rfl, Nat.le_of_ble_eq_true rfl⟩) (preS_of hC hS hM) rfl rfl hl.1 rfl (lv_room (Nat.le_of_ble_eq_true rfl)) dX6_balance_2 ⟨Nat.le_of_ble_eq_true rfl, Nat.le_of_ble_eq_true rfl⟩) hS (fun r2 u2 H locs hp2 hM hS => ?_)
  have hM : Hm G M H := hM
  have hp2 : r2 = inb n 0 4 := hp2
  subst hp2
  refine lv_if_ne (tgt := 12) hx hb dX6_balance_5 (by decide) (fun c_5 => ?_) (fun c_5 => ?_)
  · refine lv_iload_n hx hb dX6_balance_12 rfl (lv_at hl 2 rfl) ?_
    refine lv_iconst (v := 0) hx hb dX6_balance_13 (by decide) ?_
    refine lv_iconst (v := 4) hx hb dX6_balance_14 (by decide) ?_
    refine k_i (va_runS (As := [.int x, .int 0, .int 4]) (rest := [.ref (ad 14 0)]) ⟨hx, hb, hml, hown, hts⟩ (c_X6_in l G M x (0 : Int32) (4 : Int32)) (va_cwS 3 hts gX6_balance_X6_in rfl rfl rfl (by decide +kernel) ⟨Nat.le_of_ble_eq_true rfl, Nat.le_of_ble_eq_true rfl⟩) (preS_of hC hS hM) rfl rfl hl.1 rfl (lv_room (Nat.le_of_ble_eq_true rfl)) dX6_balance_15 ⟨Nat.le_of_ble_eq_true rfl, Nat.le_of_ble_eq_true rfl⟩) hS (fun r15 u15 H locs hp15 hM hS => ?_)
    have hM : Hm G M H := hM
    have hp15 : r15 = inb x (0 : Int32) (4 : Int32) := hp15
    subst hp15
    refine lv_if_eq (tgt := 25) hx hb dX6_balance_18 (by decide) (fun c_18 => ?_) (fun c_18 => ?_)
    · refine lv_iconst (v := 2) hx hb dX6_balance_25 (by decide) ?_
      refine m_put (host := "") (ci := 6) (v := .int 2) (ty := .int) (C := RX6) (T := TX6) (N := 16) (a := (ad 14 0)) hx hb hts (by decide +kernel) tyX6 tyX6_ok nmX6 hown hC hM hS m14 rfl 0 (by decide) (hts (.fieldLink RX6 53 "ForwardrollModel" "thrown" "I") (by decide +kernel)) (fun _ h9 => h9) rfl (by decide +kernel) rfl rfl (Nat.le_of_ble_eq_true rfl) dX6_balance_26 (fun H locs hM hS => ?_)
      have hM : Hm G (va_up M (ad 14 0) (some (.inr (6, [.int 2, .int (T.1 0 0), .ref (ad 15 0), .ref (ad 16 0), .ref (ad 17 0), .ref (ad 18 0), .int (T.1 5 0), .ref (ad 19 0), .ref (ad 20 0), .ref (ad 21 0), .ref (ad 22 0), .ref (ad 23 0), .ref (ad 24 0), .ref (ad 25 0), .ref (ad 26 0), .ref (ad 27 0)])))) H := hM
      have f26_4 : (va_up M (ad 14 0) (some (.inr (6, [.int 2, .int (T.1 0 0), .ref (ad 15 0), .ref (ad 16 0), .ref (ad 17 0), .ref (ad 18 0), .int (T.1 5 0), .ref (ad 19 0), .ref (ad 20 0), .ref (ad 21 0), .ref (ad 22 0), .ref (ad 23 0), .ref (ad 24 0), .ref (ad 25 0), .ref (ad 26 0), .ref (ad 27 0)])))) (ad 14 0) = some (.inr (6, [.int 2, .int (T.1 0 0), .ref (ad 15 0), .ref (ad 16 0), .ref (ad 17 0), .ref (ad 18 0), .int (T.1 5 0), .ref (ad 19 0), .ref (ad 20 0), .ref (ad 21 0), .ref (ad 22 0), .ref (ad 23 0), .ref (ad 24 0), .ref (ad 25 0), .ref (ad 26 0), .ref (ad 27 0)])) := up_eq
      have f26_5 : (va_up M (ad 14 0) (some (.inr (6, [.int 2, .int (T.1 0 0), .ref (ad 15 0), .ref (ad 16 0), .ref (ad 17 0), .ref (ad 18 0), .int (T.1 5 0), .ref (ad 19 0), .ref (ad 20 0), .ref (ad 21 0), .ref (ad 22 0), .ref (ad 23 0), .ref (ad 24 0), .ref (ad 25 0), .ref (ad 26 0), .ref (ad 27 0)])))) (ad 27 0) = some (.inl (G.2.1 1, 25, .inr (.inl (T.2 1)))) := (up_ne (hw.ne (k := 27) (i := 0) (k' := 14) (i' := 0) rfl rfl (by decide))).trans m27
      refine lv_aload_n hx hb dX6_balance_29 rfl (lv_at hl 0 rfl) ?_
      refine m_get (ci := 6) (v := .int 2) (C := RX6) (T := TX6) (N := 16) (a := (ad 14 0)) hx hb hts (by decide +kernel) hown hC hM f26_4 rfl 0 (by decide) (hts (.fieldLink RX6 53 "ForwardrollModel" "thrown" "I") (by decide +kernel)) (fun _ h9 => h9) rfl dX6_balance_30 ?_
      refine lv_if_le (tgt := 40) hx hb dX6_balance_33 (by decide) (fun c_33 => False.elim (by revert c_33; decide)) (fun c_33 => ?_)
      refine lv_lconst (v := 0) hx hb dX6_balance_36 (by decide) ?_
      refine lv_goto (tgt := 50) hx hb dX6_balance_37 (by decide) ?_
      exact (r_l hx hb hr hlocks hS (v := 0) _ (Or.inr (Or.inl ⟨c55 (inb_t c_5), inb_f c_18, w_mth hw 2⟩)) hM (Nat.le_of_ble_eq_true rfl) (Nat.le_of_ble_eq_true rfl) dX6_balance_50)
    · refine lv_iconst (v := 0) hx hb dX6_balance_21 (by decide) ?_
      refine lv_goto (tgt := 26) hx hb dX6_balance_22 (by decide) ?_
      refine m_put (host := "") (ci := 6) (v := .int 0) (ty := .int) (C := RX6) (T := TX6) (N := 16) (a := (ad 14 0)) hx hb hts (by decide +kernel) tyX6 tyX6_ok nmX6 hown hC hM hS m14 rfl 0 (by decide) (hts (.fieldLink RX6 53 "ForwardrollModel" "thrown" "I") (by decide +kernel)) (fun _ h9 => h9) rfl (by decide +kernel) rfl rfl (Nat.le_of_ble_eq_true rfl) dX6_balance_26 (fun H locs hM hS => ?_)
      have hM : Hm G (va_up M (ad 14 0) (some (.inr (6, [.int 0, .int (T.1 0 0), .ref (ad 15 0), .ref (ad 16 0), .ref (ad 17 0), .ref (ad 18 0), .int (T.1 5 0), .ref (ad 19 0), .ref (ad 20 0), .ref (ad 21 0), .ref (ad 22 0), .ref (ad 23 0), .ref (ad 24 0), .ref (ad 25 0), .ref (ad 26 0), .ref (ad 27 0)])))) H := hM
      have f26_8 : (va_up M (ad 14 0) (some (.inr (6, [.int 0, .int (T.1 0 0), .ref (ad 15 0), .ref (ad 16 0), .ref (ad 17 0), .ref (ad 18 0), .int (T.1 5 0), .ref (ad 19 0), .ref (ad 20 0), .ref (ad 21 0), .ref (ad 22 0), .ref (ad 23 0), .ref (ad 24 0), .ref (ad 25 0), .ref (ad 26 0), .ref (ad 27 0)])))) (ad 14 0) = some (.inr (6, [.int 0, .int (T.1 0 0), .ref (ad 15 0), .ref (ad 16 0), .ref (ad 17 0), .ref (ad 18 0), .int (T.1 5 0), .ref (ad 19 0), .ref (ad 20 0), .ref (ad 21 0), .ref (ad 22 0), .ref (ad 23 0), .ref (ad 24 0), .ref (ad 25 0), .ref (ad 26 0), .ref (ad 27 0)])) := up_eq
      have f26_9 : (va_up M (ad 14 0) (some (.inr (6, [.int 0, .int (T.1 0 0), .ref (ad 15 0), .ref (ad 16 0), .ref (ad 17 0), .ref (ad 18 0), .int (T.1 5 0), .ref (ad 19 0), .ref (ad 20 0), .ref (ad 21 0), .ref (ad 22 0), .ref (ad 23 0), .ref (ad 24 0), .ref (ad 25 0), .ref (ad 26 0), .ref (ad 27 0)])))) (ad 27 0) = some (.inl (G.2.1 1, 25, .inr (.inl (T.2 1)))) := (up_ne (hw.ne (k := 27) (i := 0) (k' := 14) (i' := 0) rfl rfl (by decide))).trans m27
      refine lv_aload_n hx hb dX6_balance_29 rfl (lv_at hl 0 rfl) ?_
      refine m_get (ci := 6) (v := .int 0) (C := RX6) (T := TX6) (N := 16) (a := (ad 14 0)) hx hb hts (by decide +kernel) hown hC hM f26_8 rfl 0 (by decide) (hts (.fieldLink RX6 53 "ForwardrollModel" "thrown" "I") (by decide +kernel)) (fun _ h9 => h9) rfl dX6_balance_30 ?_
      refine lv_if_le (tgt := 40) hx hb dX6_balance_33 (by decide) (fun c_33 => ?_) (fun c_33 => False.elim (by revert c_33; decide))
      refine lv_aload_n hx hb dX6_balance_40 rfl (lv_at hl 0 rfl) ?_
      refine m_get (ci := 6) (v := .ref (ad 27 0)) (C := RX6) (T := TX6) (N := 16) (a := (ad 14 0)) hx hb hts (by decide +kernel) hown hC hM f26_8 rfl 15 (by decide) (hts (.fieldLink RX6 50 "ForwardrollModel" "balance" "[J") (by decide +kernel)) (fun _ h9 => h9) rfl dX6_balance_41 ?_
      refine lv_iconst (v := 5) hx hb dX6_balance_44 (by decide) ?_
      refine lv_iload_n hx hb dX6_balance_45 rfl (lv_at hl 1 rfl) ?_
      refine lv_imul hx hb dX6_balance_46 ?_
      refine lv_iload_n hx hb dX6_balance_47 rfl (lv_at hl 2 rfl) ?_
      refine lv_iadd hx hb dX6_balance_48 ?_
      refine m_lald (a := (ad 27 0)) hx hb hC hM f26_9 (ix27 (c55 (inb_t c_5)) (inb_t c_18)).1 dX6_balance_49 ?_
      exact (r_l hx hb hr hlocks hS (v := ((T.2 1) ((5 * n) + x).toNatClampNeg)) _ (Or.inr (Or.inr ⟨c55 (inb_t c_5), inb_t c_18, (by rw [(ix27 (c55 (inb_t c_5)) (inb_t c_18)).2]), w_mth hw 0⟩)) hM (Nat.le_of_ble_eq_true rfl) (Nat.le_of_ble_eq_true rfl) dX6_balance_50)
  · refine lv_iconst (v := 1) hx hb dX6_balance_8 (by decide) ?_
    refine lv_goto (tgt := 26) hx hb dX6_balance_9 (by decide) ?_
    refine m_put (host := "") (ci := 6) (v := .int 1) (ty := .int) (C := RX6) (T := TX6) (N := 16) (a := (ad 14 0)) hx hb hts (by decide +kernel) tyX6 tyX6_ok nmX6 hown hC hM hS m14 rfl 0 (by decide) (hts (.fieldLink RX6 53 "ForwardrollModel" "thrown" "I") (by decide +kernel)) (fun _ h9 => h9) rfl (by decide +kernel) rfl rfl (Nat.le_of_ble_eq_true rfl) dX6_balance_26 (fun H locs hM hS => ?_)
    have hM : Hm G (va_up M (ad 14 0) (some (.inr (6, [.int 1, .int (T.1 0 0), .ref (ad 15 0), .ref (ad 16 0), .ref (ad 17 0), .ref (ad 18 0), .int (T.1 5 0), .ref (ad 19 0), .ref (ad 20 0), .ref (ad 21 0), .ref (ad 22 0), .ref (ad 23 0), .ref (ad 24 0), .ref (ad 25 0), .ref (ad 26 0), .ref (ad 27 0)])))) H := hM
    have f26_12 : (va_up M (ad 14 0) (some (.inr (6, [.int 1, .int (T.1 0 0), .ref (ad 15 0), .ref (ad 16 0), .ref (ad 17 0), .ref (ad 18 0), .int (T.1 5 0), .ref (ad 19 0), .ref (ad 20 0), .ref (ad 21 0), .ref (ad 22 0), .ref (ad 23 0), .ref (ad 24 0), .ref (ad 25 0), .ref (ad 26 0), .ref (ad 27 0)])))) (ad 14 0) = some (.inr (6, [.int 1, .int (T.1 0 0), .ref (ad 15 0), .ref (ad 16 0), .ref (ad 17 0), .ref (ad 18 0), .int (T.1 5 0), .ref (ad 19 0), .ref (ad 20 0), .ref (ad 21 0), .ref (ad 22 0), .ref (ad 23 0), .ref (ad 24 0), .ref (ad 25 0), .ref (ad 26 0), .ref (ad 27 0)])) := up_eq
    have f26_13 : (va_up M (ad 14 0) (some (.inr (6, [.int 1, .int (T.1 0 0), .ref (ad 15 0), .ref (ad 16 0), .ref (ad 17 0), .ref (ad 18 0), .int (T.1 5 0), .ref (ad 19 0), .ref (ad 20 0), .ref (ad 21 0), .ref (ad 22 0), .ref (ad 23 0), .ref (ad 24 0), .ref (ad 25 0), .ref (ad 26 0), .ref (ad 27 0)])))) (ad 27 0) = some (.inl (G.2.1 1, 25, .inr (.inl (T.2 1)))) := (up_ne (hw.ne (k := 27) (i := 0) (k' := 14) (i' := 0) rfl rfl (by decide))).trans m27
    refine lv_aload_n hx hb dX6_balance_29 rfl (lv_at hl 0 rfl) ?_
    refine m_get (ci := 6) (v := .int 1) (C := RX6) (T := TX6) (N := 16) (a := (ad 14 0)) hx hb hts (by decide +kernel) hown hC hM f26_12 rfl 0 (by decide) (hts (.fieldLink RX6 53 "ForwardrollModel" "thrown" "I") (by decide +kernel)) (fun _ h9 => h9) rfl dX6_balance_30 ?_
    refine lv_if_le (tgt := 40) hx hb dX6_balance_33 (by decide) (fun c_33 => False.elim (by revert c_33; decide)) (fun c_33 => ?_)
    refine lv_lconst (v := 0) hx hb dX6_balance_36 (by decide) ?_
    refine lv_goto (tgt := 50) hx hb dX6_balance_37 (by decide) ?_
    exact (r_l hx hb hr hlocks hS (v := 0) _ (Or.inl ⟨fun z => inb_f c_5 (c54 z), w_mth hw 1⟩) hM (Nat.le_of_ble_eq_true rfl) (Nat.le_of_ble_eq_true rfl) dX6_balance_50)
