def inb (v lo hi : Int32) : Int32 := if lo ≤ v ∧ v ≤ hi then 1 else 0
theorem inb01 (v lo hi : Int32) : inb v lo hi = 0 ∨ inb v lo hi = 1 := by
  unfold inb
  by_cases h : lo ≤ v ∧ v ≤ hi
  · rw [if_pos h]; exact Or.inr rfl
  · rw [if_neg h]; exact Or.inl rfl
theorem inb_t {v lo hi : Int32} (h : ¬ inb v lo hi = 0) : lo ≤ v ∧ v ≤ hi := by
  unfold inb at h
  by_cases c : lo ≤ v ∧ v ≤ hi
  · exact c
  · rw [if_neg c] at h; exact absurd rfl h
theorem inb_f {v lo hi : Int32} (h : inb v lo hi = 0) : ¬ (lo ≤ v ∧ v ≤ hi) := by
  intro c
  unfold inb at h
  rw [if_pos c] at h
  exact absurd h (by decide)
theorem c45 {v : Int32} (h : 0 ≤ v ∧ v ≤ 3) : 0 ≤ v ∧ v < 4 := ⟨h.1, Int32.lt_iff_toInt_lt.mpr (by have := Int32.le_iff_toInt_le.mp h.2; show v.toInt < 4; have e : (3 : Int32).toInt = 3 := rfl; omega)⟩
theorem c44 {v : Int32} (h : 0 ≤ v ∧ v < 4) : 0 ≤ v ∧ v ≤ 3 := ⟨h.1, Int32.le_iff_toInt_le.mpr (by have := Int32.lt_iff_toInt_lt.mp h.2; show v.toInt ≤ 3; have e : (4 : Int32).toInt = 4 := rfl; omega)⟩
theorem c55 {v : Int32} (h : 0 ≤ v ∧ v ≤ 4) : 0 ≤ v ∧ v < 5 := ⟨h.1, le4 h.2⟩
theorem c54 {v : Int32} (h : 0 ≤ v ∧ v < 5) : 0 ≤ v ∧ v ≤ 4 := ⟨h.1, Int32.le_iff_toInt_le.mpr (by have := Int32.lt_iff_toInt_lt.mp h.2; show v.toInt ≤ 4; have e : (5 : Int32).toInt = 5 := rfl; omega)⟩
theorem add_sub9 (a b : Int32) : a + b - a = b := by
  rw [Int32.add_comm, Int32.add_sub_cancel]
set_option maxHeartbeats 4000000 in
set_option maxRecDepth 100000 in
theorem c_X6_in (l : Launch) (G : Gx) (M : Mp) (v lo hi : Int32)  : Met l yX6_in wsX6_in ({ frames := 0, cells := 0, slots := 0, locals := 0 }) (Cv G M [.int v, .int lo, .int hi]) (va_Qi (S := Unit) (fun r _ => r = inb v lo hi) (Bm G (fun _ => M)) (AG G)) (0) (0) (AG G) := by
  refine m_met [.int v, .int lo, .int hi] [(0, .int v), (1, .int lo), (2, .int hi)] (by decide) rfl rfl (Nat.le_of_ble_eq_true rfl) ?_
  intro p e s m below meth c ls hx hb hr hml hown hts hlocks hin hC hM hl hS
  refine lv_iload_n hx hb dX6_in_0 rfl (lv_at hl 0 rfl) ?_
  refine lv_iload_n hx hb dX6_in_1 rfl (lv_at hl 1 rfl) ?_
  refine lv_icmp_lt (tgt := 14) hx hb dX6_in_2 (by decide) (fun c_2 => ?_) (fun c_2 => ?_)
  · refine lv_iconst (v := 0) hx hb dX6_in_14 (by decide) ?_
    exact (r_z hx hb hr hlocks hS (v := 0) (by simp) () (by unfold inb; rw [if_neg (fun z => absurd z.1 (Int32.not_le.mpr c_2))]) hM (Nat.le_of_ble_eq_true rfl) (Nat.le_of_ble_eq_true rfl) dX6_in_15)
  · refine lv_iload_n hx hb dX6_in_5 rfl (lv_at hl 0 rfl) ?_
    refine lv_iload_n hx hb dX6_in_6 rfl (lv_at hl 2 rfl) ?_
    refine lv_icmp_gt (tgt := 14) hx hb dX6_in_7 (by decide) (fun c_7 => ?_) (fun c_7 => ?_)
    · refine lv_iconst (v := 0) hx hb dX6_in_14 (by decide) ?_
      exact (r_z hx hb hr hlocks hS (v := 0) (by simp) () (by unfold inb; rw [if_neg (fun z => absurd z.2 (Int32.not_le.mpr c_7))]) hM (Nat.le_of_ble_eq_true rfl) (Nat.le_of_ble_eq_true rfl) dX6_in_15)
    · refine lv_iconst (v := 1) hx hb dX6_in_10 (by decide) ?_
      refine lv_goto (tgt := 15) hx hb dX6_in_11 (by decide) ?_
      exact (r_z hx hb hr hlocks hS (v := 1) (by simp) () (by unfold inb; rw [if_pos ⟨Int32.not_lt.mp c_2, Int32.not_lt.mp c_7⟩]) hM (Nat.le_of_ble_eq_true rfl) (Nat.le_of_ble_eq_true rfl) dX6_in_15)
set_option maxHeartbeats 4000000 in
set_option maxRecDepth 100000 in
theorem c_X6_atLeastOne (l : Launch) (G : Gx) (M : Mp) (v : Int32)  : Met l yX6_atLeastOne wsX6_atLeastOne ({ frames := 0, cells := 0, slots := 0, locals := 0 }) (Cv G M [.int v]) (va_Qi (S := Unit) (fun r _ => r = al1 v) (Bm G (fun _ => M)) (AG G)) (0) (0) (AG G) := by
  refine m_met [.int v] [(0, .int v)] (by decide) rfl rfl (Nat.le_of_ble_eq_true rfl) ?_
  intro p e s m below meth c ls hx hb hr hml hown hts hlocks hin hC hM hl hS
  refine lv_iload_n hx hb dX6_atLeastOne_0 rfl (lv_at hl 0 rfl) ?_
  refine lv_iconst (v := 1) hx hb dX6_atLeastOne_1 (by decide) ?_
  refine lv_icmp_ge (tgt := 9) hx hb dX6_atLeastOne_2 (by decide) (fun c_2 => ?_) (fun c_2 => ?_)
  · refine lv_iload_n hx hb dX6_atLeastOne_9 rfl (lv_at hl 0 rfl) ?_
    exact (r_i hx hb hr hlocks hS (v := v) () (by unfold al1; rw [if_neg (Int32.not_lt.mpr c_2)]) hM (Nat.le_of_ble_eq_true rfl) (Nat.le_of_ble_eq_true rfl) dX6_atLeastOne_10)
  · refine lv_iconst (v := 1) hx hb dX6_atLeastOne_5 (by decide) ?_
    refine lv_goto (tgt := 10) hx hb dX6_atLeastOne_6 (by decide) ?_
    exact (r_i hx hb hr hlocks hS (v := 1) () (by unfold al1; rw [if_pos (Int32.not_le.mp c_2)]) hM (Nat.le_of_ble_eq_true rfl) (Nat.le_of_ble_eq_true rfl) dX6_atLeastOne_10)
set_option maxHeartbeats 4000000 in
set_option maxRecDepth 100000 in
theorem c_X6_home (l : Launch) (G : Gx) (M : Mp) (am ra : Int32)  : Met l yX6_home wsX6_home ({ frames := 0, cells := 0, slots := 0, locals := 0 }) (Cv G M [.int am, .int ra]) (va_Ql (S := Unit) (fun r _ => r = hom am ra) (Bm G (fun _ => M)) (AG G)) (0) (0) (AG G) := by
  refine m_met [.int am, .int ra] [(0, .int am), (1, .int ra)] (by decide) rfl rfl (Nat.le_of_ble_eq_true rfl) ?_
  intro p e s m below meth c ls hx hb hr hml hown hts hlocks hin hC hM hl hS
  refine lv_iload_n hx hb dX6_home_0 rfl (lv_at hl 0 rfl) ?_
  refine lv_i2l hx hb dX6_home_1 rfl ?_
  refine lv_iload_n hx hb dX6_home_2 rfl (lv_at hl 1 rfl) ?_
  refine lv_i2l hx hb dX6_home_3 rfl ?_
  refine lv_lmul hx hb dX6_home_4 ?_
  refine lv_ldc2 (own := RX6) (v := 10000) hx hb hown (hts (.constantLong RX6 71 10000) (by decide +kernel)) dX6_home_5 ?_
  refine lv_ldiv hx hb dX6_home_8 (by decide) ?_
  exact (r_l hx hb hr hlocks hS (v := ((am.toInt64 * ra.toInt64) / 10000)) () rfl hM (Nat.le_of_ble_eq_true rfl) (Nat.le_of_ble_eq_true rfl) dX6_home_9)
set_option maxHeartbeats 4000000 in
set_option maxRecDepth 100000 in
theorem c_X6_isCustomer (l : Launch) (G : Gx) (M : Mp) (v : Int32)  : Met l yX6_isCustomer wsX6_isCustomer ({ frames := 1, cells := 0, slots := 0, locals := 22 }) (Cv G M [.int v]) (va_Qi (S := Unit) (fun r _ => r = inb v 0 4) (Bm G (fun _ => M)) (AG G)) (0) (0) (AG G) := by
  refine m_met [.int v] [(0, .int v)] (by decide) rfl rfl (Nat.le_of_ble_eq_true rfl) ?_
  intro p e s m below meth c ls hx hb hr hml hown hts hlocks hin hC hM hl hS
  refine lv_iload_n hx hb dX6_isCustomer_0 rfl (lv_at hl 0 rfl) ?_
  refine lv_iconst (v := 0) hx hb dX6_isCustomer_1 (by decide) ?_
  refine lv_iconst (v := 4) hx hb dX6_isCustomer_2 (by decide) ?_
  refine k_i (va_runS (As := [.int v, .int 0, .int 4]) (rest := []) ⟨hx, hb, hml, hown, hts⟩ (c_X6_in l G M v (0 : Int32) (4 : Int32)) (va_cwS 3 hts gX6_isCustomer_X6_in rfl rfl rfl (by decide +kernel) ⟨Nat.le_of_ble_eq_true rfl, Nat.le_of_ble_eq_true rfl⟩) (preS_of hC hS hM) rfl rfl hl.1 rfl (lv_room (Nat.le_of_ble_eq_true rfl)) dX6_isCustomer_3 ⟨Nat.le_of_ble_eq_true rfl, Nat.le_of_ble_eq_true rfl⟩) hS (fun r3 u3 H locs hp3 hM hS => ?_)
  have hM : Hm G M H := hM
  have hp3 : r3 = inb v (0 : Int32) (4 : Int32) := hp3
  subst hp3
  exact (r_z hx hb hr hlocks hS (v := inb v (0 : Int32) (4 : Int32)) (inb01 _ _ _) () rfl hM (Nat.le_of_ble_eq_true rfl) (Nat.le_of_ble_eq_true rfl) dX6_isCustomer_6)
set_option maxHeartbeats 4000000 in
set_option maxRecDepth 100000 in
theorem c_X6_isCurrency (l : Launch) (G : Gx) (M : Mp) (v : Int32)  : Met l yX6_isCurrency wsX6_isCurrency ({ frames := 1, cells := 0, slots := 0, locals := 22 }) (Cv G M [.int v]) (va_Qi (S := Unit) (fun r _ => r = inb v 0 3) (Bm G (fun _ => M)) (AG G)) (0) (0) (AG G) := by
  refine m_met [.int v] [(0, .int v)] (by decide) rfl rfl (Nat.le_of_ble_eq_true rfl) ?_
  intro p e s m below meth c ls hx hb hr hml hown hts hlocks hin hC hM hl hS
  refine lv_iload_n hx hb dX6_isCurrency_0 rfl (lv_at hl 0 rfl) ?_
  refine lv_iconst (v := 0) hx hb dX6_isCurrency_1 (by decide) ?_
  refine lv_iconst (v := 3) hx hb dX6_isCurrency_2 (by decide) ?_
  refine k_i (va_runS (As := [.int v, .int 0, .int 3]) (rest := []) ⟨hx, hb, hml, hown, hts⟩ (c_X6_in l G M v (0 : Int32) (3 : Int32)) (va_cwS 3 hts gX6_isCurrency_X6_in rfl rfl rfl (by decide +kernel) ⟨Nat.le_of_ble_eq_true rfl, Nat.le_of_ble_eq_true rfl⟩) (preS_of hC hS hM) rfl rfl hl.1 rfl (lv_room (Nat.le_of_ble_eq_true rfl)) dX6_isCurrency_3 ⟨Nat.le_of_ble_eq_true rfl, Nat.le_of_ble_eq_true rfl⟩) hS (fun r3 u3 H locs hp3 hM hS => ?_)
  have hM : Hm G M H := hM
  have hp3 : r3 = inb v (0 : Int32) (3 : Int32) := hp3
  subst hp3
  exact (r_z hx hb hr hlocks hS (v := inb v (0 : Int32) (3 : Int32)) (inb01 _ _ _) () rfl hM (Nat.le_of_ble_eq_true rfl) (Nat.le_of_ble_eq_true rfl) dX6_isCurrency_6)
set_option maxHeartbeats 4000000 in
set_option maxRecDepth 100000 in
theorem c_X6_isDeal (l : Launch) (G : Gx) (M : Mp) (S T : Sd) (th : Int32) (o : Int64) (ex : Nat → Option (Nat × Nat)) (ad : Nat → Nat → Nat) (v : Int32) (hw : WA G S T th o ex ad M) : Met l yX6_isDeal wsX6_isDeal ({ frames := 1, cells := 0, slots := 0, locals := 22 }) (Cv G M [.ref (ad 14 0), .int v]) (va_Qi (S := Unit) (fun r _ => r = inb v 0 (T.1 5 0 - 1)) (Bm G (fun _ => M)) (AG G)) (0) (0) (AG G) := by
  refine m_met [.ref (ad 14 0), .int v] [(0, .ref (ad 14 0)), (1, .int v)] (by decide) rfl rfl (Nat.le_of_ble_eq_true rfl) ?_
  intro p e s m below meth c ls hx hb hr hml hown hts hlocks hin hC hM hl hS
  have m14 : M (ad 14 0) = some (.inr (6, [.int th, .int (T.1 0 0), .ref (ad 15 0), .ref (ad 16 0), .ref (ad 17 0), .ref (ad 18 0), .int (T.1 5 0), .ref (ad 19 0), .ref (ad 20 0), .ref (ad 21 0), .ref (ad 22 0), .ref (ad 23 0), .ref (ad 24 0), .ref (ad 25 0), .ref (ad 26 0), .ref (ad 27 0)])) := hw.1 14 0 _ rfl
  refine lv_iload_n hx hb dX6_isDeal_0 rfl (lv_at hl 1 rfl) ?_
  refine lv_iconst (v := 0) hx hb dX6_isDeal_1 (by decide) ?_
  refine lv_aload_n hx hb dX6_isDeal_2 rfl (lv_at hl 0 rfl) ?_
  refine m_get (ci := 6) (v := .int (T.1 5 0)) (C := RX6) (T := TX6) (N := 16) (a := (ad 14 0)) hx hb hts (by decide +kernel) hown hC hM m14 rfl 6 (by decide) (hts (.fieldLink RX6 61 "ForwardrollModel" "deals" "I") (by decide +kernel)) (fun _ h9 => h9) rfl dX6_isDeal_3 ?_
  refine lv_iconst (v := 1) hx hb dX6_isDeal_6 (by decide) ?_
  refine lv_isub hx hb dX6_isDeal_7 ?_
  refine k_i (va_runS (As := [.int v, .int 0, .int ((T.1 5 0) - 1)]) (rest := []) ⟨hx, hb, hml, hown, hts⟩ (c_X6_in l G M v (0 : Int32) ((T.1 5 0) - 1)) (va_cwS 3 hts gX6_isDeal_X6_in rfl rfl rfl (by decide +kernel) ⟨Nat.le_of_ble_eq_true rfl, Nat.le_of_ble_eq_true rfl⟩) (preS_of hC hS hM) rfl rfl hl.1 rfl (lv_room (Nat.le_of_ble_eq_true rfl)) dX6_isDeal_8 ⟨Nat.le_of_ble_eq_true rfl, Nat.le_of_ble_eq_true rfl⟩) hS (fun r8 u8 H locs hp8 hM hS => ?_)
  have hM : Hm G M H := hM
  have hp8 : r8 = inb v (0 : Int32) ((T.1 5 0) - 1) := hp8
  subst hp8
  exact (r_z hx hb hr hlocks hS (v := inb v (0 : Int32) ((T.1 5 0) - 1)) (inb01 _ _ _) () rfl hM (Nat.le_of_ble_eq_true rfl) (Nat.le_of_ble_eq_true rfl) dX6_isDeal_11)
set_option maxHeartbeats 4000000 in
set_option maxRecDepth 100000 in
theorem c_X6_thrown (l : Launch) (G : Gx) (M : Mp) (S T : Sd) (th : Int32) (o : Int64) (ex : Nat → Option (Nat × Nat)) (ad : Nat → Nat → Nat)  (hw : WA G S T th o ex ad M) : Met l yX6_thrown wsX6_thrown ({ frames := 0, cells := 0, slots := 0, locals := 0 }) (Cv G M [.ref (ad 14 0)]) (va_Qi (S := Unit) (fun r _ => r = th) (Bm G (fun _ => M)) (AG G)) (0) (0) (AG G) := by
  refine m_met [.ref (ad 14 0)] [(0, .ref (ad 14 0))] (by decide) rfl rfl (Nat.le_of_ble_eq_true rfl) ?_
  intro p e s m below meth c ls hx hb hr hml hown hts hlocks hin hC hM hl hS
  have m14 : M (ad 14 0) = some (.inr (6, [.int th, .int (T.1 0 0), .ref (ad 15 0), .ref (ad 16 0), .ref (ad 17 0), .ref (ad 18 0), .int (T.1 5 0), .ref (ad 19 0), .ref (ad 20 0), .ref (ad 21 0), .ref (ad 22 0), .ref (ad 23 0), .ref (ad 24 0), .ref (ad 25 0), .ref (ad 26 0), .ref (ad 27 0)])) := hw.1 14 0 _ rfl
  refine lv_aload_n hx hb dX6_thrown_0 rfl (lv_at hl 0 rfl) ?_
  refine m_get (ci := 6) (v := .int th) (C := RX6) (T := TX6) (N := 16) (a := (ad 14 0)) hx hb hts (by decide +kernel) hown hC hM m14 rfl 0 (by decide) (hts (.fieldLink RX6 53 "ForwardrollModel" "thrown" "I") (by decide +kernel)) (fun _ h9 => h9) rfl dX6_thrown_1 ?_
  exact (r_i hx hb hr hlocks hS (v := th) () rfl hM (Nat.le_of_ble_eq_true rfl) (Nat.le_of_ble_eq_true rfl) dX6_thrown_4)
set_option maxHeartbeats 4000000 in
set_option maxRecDepth 100000 in
theorem c_X6_forwardFor (l : Launch) (G : Gx) (M : Mp) (S T : Sd) (th : Int32) (o : Int64) (ex : Nat → Option (Nat × Nat)) (ad : Nat → Nat → Nat) (v d : Int32) (hw : WA G S T th o ex ad M) (hv : vp_in v 4) : Met l yX6_forwardFor wsX6_forwardFor ({ frames := 1, cells := 0, slots := 0, locals := 20 }) (Cv G M [.ref (ad 14 0), .int v, .int d]) (va_Qi (S := Unit) (fun r _ => r = al1 (T.1 1 v.toNatClampNeg + T.1 2 v.toNatClampNeg * (d - T.1 0 0))) (Bm G (fun _ => M)) (AG G)) (0) (0) (AG G) := by
  refine m_met [.ref (ad 14 0), .int v, .int d] [(0, .ref (ad 14 0)), (1, .int v), (2, .int d)] (by decide) rfl rfl (Nat.le_of_ble_eq_true rfl) ?_
  intro p e s m below meth c ls hx hb hr hml hown hts hlocks hin hC hM hl hS
  have m14 : M (ad 14 0) = some (.inr (6, [.int th, .int (T.1 0 0), .ref (ad 15 0), .ref (ad 16 0), .ref (ad 17 0), .ref (ad 18 0), .int (T.1 5 0), .ref (ad 19 0), .ref (ad 20 0), .ref (ad 21 0), .ref (ad 22 0), .ref (ad 23 0), .ref (ad 24 0), .ref (ad 25 0), .ref (ad 26 0), .ref (ad 27 0)])) := hw.1 14 0 _ rfl
  have m15 : M (ad 15 0) = some (.inl (G.2.1 0, 4, .inl (T.1 1))) := hw.1 15 0 _ rfl
  have m16 : M (ad 16 0) = some (.inl (G.2.1 0, 4, .inl (T.1 2))) := hw.1 16 0 _ rfl
  refine lv_aload_n hx hb dX6_forwardFor_0 rfl (lv_at hl 0 rfl) ?_
  refine m_get (ci := 6) (v := .ref (ad 15 0)) (C := RX6) (T := TX6) (N := 16) (a := (ad 14 0)) hx hb hts (by decide +kernel) hown hC hM m14 rfl 2 (by decide) (hts (.fieldLink RX6 7 "ForwardrollModel" "spot" "[I") (by decide +kernel)) (fun _ h9 => h9) rfl dX6_forwardFor_1 ?_
  refine lv_iload_n hx hb dX6_forwardFor_4 rfl (lv_at hl 1 rfl) ?_
  refine m_iald (a := (ad 15 0)) hx hb hC hM m15 hv dX6_forwardFor_5 ?_
  refine lv_aload_n hx hb dX6_forwardFor_6 rfl (lv_at hl 0 rfl) ?_
  refine m_get (ci := 6) (v := .ref (ad 16 0)) (C := RX6) (T := TX6) (N := 16) (a := (ad 14 0)) hx hb hts (by decide +kernel) hown hC hM m14 rfl 3 (by decide) (hts (.fieldLink RX6 13 "ForwardrollModel" "points" "[I") (by decide +kernel)) (fun _ h9 => h9) rfl dX6_forwardFor_7 ?_
  refine lv_iload_n hx hb dX6_forwardFor_10 rfl (lv_at hl 1 rfl) ?_
  refine m_iald (a := (ad 16 0)) hx hb hC hM m16 hv dX6_forwardFor_11 ?_
  refine lv_iload_n hx hb dX6_forwardFor_12 rfl (lv_at hl 2 rfl) ?_
  refine lv_aload_n hx hb dX6_forwardFor_13 rfl (lv_at hl 0 rfl) ?_
  refine m_get (ci := 6) (v := .int (T.1 0 0)) (C := RX6) (T := TX6) (N := 16) (a := (ad 14 0)) hx hb hts (by decide +kernel) hown hC hM m14 rfl 1 (by decide) (hts (.fieldLink RX6 64 "ForwardrollModel" "today" "I") (by decide +kernel)) (fun _ h9 => h9) rfl dX6_forwardFor_14 ?_
  refine lv_isub hx hb dX6_forwardFor_17 ?_
  refine lv_imul hx hb dX6_forwardFor_18 ?_
  refine lv_iadd hx hb dX6_forwardFor_19 ?_
  refine k_i (va_runS (As := [.int (((T.1 1) v.toNatClampNeg) + (((T.1 2) v.toNatClampNeg) * (d - (T.1 0 0))))]) (rest := []) ⟨hx, hb, hml, hown, hts⟩ (c_X6_atLeastOne l G M (((T.1 1) v.toNatClampNeg) + (((T.1 2) v.toNatClampNeg) * (d - (T.1 0 0))))) (va_cwS 1 hts gX6_forwardFor_X6_atLeastOne rfl rfl rfl (by decide +kernel) ⟨Nat.le_of_ble_eq_true rfl, Nat.le_of_ble_eq_true rfl⟩) (preS_of hC hS hM) rfl rfl hl.1 rfl (lv_room (Nat.le_of_ble_eq_true rfl)) dX6_forwardFor_20 ⟨Nat.le_of_ble_eq_true rfl, Nat.le_of_ble_eq_true rfl⟩) hS (fun r20 u20 H locs hp20 hM hS => ?_)
  have hM : Hm G M H := hM
  have hp20 : r20 = al1 (((T.1 1) v.toNatClampNeg) + (((T.1 2) v.toNatClampNeg) * (d - (T.1 0 0)))) := hp20
  subst hp20
  exact (r_i hx hb hr hlocks hS (v := al1 (((T.1 1) v.toNatClampNeg) + (((T.1 2) v.toNatClampNeg) * (d - (T.1 0 0))))) () rfl hM (Nat.le_of_ble_eq_true rfl) (Nat.le_of_ble_eq_true rfl) dX6_forwardFor_23)
set_option maxHeartbeats 4000000 in
set_option maxRecDepth 100000 in
theorem c_X6_setRate (l : Launch) (G : Gx) (M : Mp) (S T : Sd) (th : Int32) (o : Int64) (ex : Nat → Option (Nat × Nat)) (ad : Nat → Nat → Nat) (n x : Int32) (hw : WA G S T th o ex ad M) : Met l yX6_setRate wsX6_setRate ({ frames := 2, cells := 0, slots := 0, locals := 42 }) (Cv G M [.ref (ad 14 0), .int n, .int x]) (va_Qi (S := Mp) (fun r M2 => (¬ (0 ≤ n ∧ n < 4) ∧ WA G S T 1 o ex ad M2) ∨ ((0 ≤ n ∧ n < 4) ∧ ¬ (1 ≤ x ∧ x ≤ 100000) ∧ WA G S T 2 o ex ad M2) ∨ ((0 ≤ n ∧ n < 4) ∧ (1 ≤ x ∧ x ≤ 100000) ∧ r = T.1 1 n.toNatClampNeg ∧ WA G S (u2 T.1 1 n.toNatClampNeg x, T.2) 0 o ex ad M2)) (Bm G (fun M2 => M2)) (AG G)) (0) (0) (AG G) := by
  refine m_met [.ref (ad 14 0), .int n, .int x] [(0, .ref (ad 14 0)), (1, .int n), (2, .int x)] (by decide) rfl rfl (Nat.le_of_ble_eq_true rfl) ?_
  intro p e s m below meth c ls hx hb hr hml hown hts hlocks hin hC hM hl hS
  have m14 : M (ad 14 0) = some (.inr (6, [.int th, .int (T.1 0 0), .ref (ad 15 0), .ref (ad 16 0), .ref (ad 17 0), .ref (ad 18 0), .int (T.1 5 0), .ref (ad 19 0), .ref (ad 20 0), .ref (ad 21 0), .ref (ad 22 0), .ref (ad 23 0), .ref (ad 24 0), .ref (ad 25 0), .ref (ad 26 0), .ref (ad 27 0)])) := hw.1 14 0 _ rfl
  have m15 : M (ad 15 0) = some (.inl (G.2.1 0, 4, .inl (T.1 1))) := hw.1 15 0 _ rfl
  refine lv_aload_n hx hb dX6_setRate_0 rfl (lv_at hl 0 rfl) ?_
  refine lv_iload_n hx hb dX6_setRate_1 rfl (lv_at hl 1 rfl) ?_
  refine k_i (va_runS (As := [.int n]) (rest := [.ref (ad 14 0)]) ⟨hx, hb, hml, hown, hts⟩ (c_X6_isCurrency l G M n) (va_cwS 1 hts gX6_setRate_X6_isCurrency rfl rfl rfl (by decide +kernel) ⟨Nat.le_of_ble_eq_true rfl, Nat.le_of_ble_eq_true rfl⟩) (preS_of hC hS hM) rfl rfl hl.1 rfl (lv_room (Nat.le_of_ble_eq_true rfl)) dX6_setRate_2 ⟨Nat.le_of_ble_eq_true rfl, Nat.le_of_ble_eq_true rfl⟩) hS (fun r2 u2 H locs hp2 hM hS => ?_)
  have hM : Hm G M H := hM
  have hp2 : r2 = inb n 0 3 := hp2
  subst hp2
  refine lv_if_ne (tgt := 12) hx hb dX6_setRate_5 (by decide) (fun c_5 => ?_) (fun c_5 => ?_)
  · refine lv_iload_n hx hb dX6_setRate_12 rfl (lv_at hl 2 rfl) ?_
    refine lv_iconst (v := 1) hx hb dX6_setRate_13 (by decide) ?_
    refine lv_ldc (own := RX6) (v := 100000) hx hb hown (hts (.constant RX6 77 100000) (by decide +kernel)) dX6_setRate_14 ?_
    refine k_i (va_runS (As := [.int x, .int 1, .int 100000]) (rest := [.ref (ad 14 0)]) ⟨hx, hb, hml, hown, hts⟩ (c_X6_in l G M x (1 : Int32) (100000 : Int32)) (va_cwS 3 hts gX6_setRate_X6_in rfl rfl rfl (by decide +kernel) ⟨Nat.le_of_ble_eq_true rfl, Nat.le_of_ble_eq_true rfl⟩) (preS_of hC hS hM) rfl rfl hl.1 rfl (lv_room (Nat.le_of_ble_eq_true rfl)) dX6_setRate_16 ⟨Nat.le_of_ble_eq_true rfl, Nat.le_of_ble_eq_true rfl⟩) hS (fun r16 u16 H locs hp16 hM hS => ?_)
    have hM : Hm G M H := hM
    have hp16 : r16 = inb x (1 : Int32) (100000 : Int32) := hp16
    subst hp16
    refine lv_if_eq (tgt := 26) hx hb dX6_setRate_19 (by decide) (fun c_19 => ?_) (fun c_19 => ?_)
    · refine lv_iconst (v := 2) hx hb dX6_setRate_26 (by decide) ?_
      refine m_put (host := "") (ci := 6) (v := .int 2) (ty := .int) (C := RX6) (T := TX6) (N := 16) (a := (ad 14 0)) hx hb hts (by decide +kernel) tyX6 tyX6_ok nmX6 hown hC hM hS m14 rfl 0 (by decide) (hts (.fieldLink RX6 53 "ForwardrollModel" "thrown" "I") (by decide +kernel)) (fun _ h9 => h9) rfl (by decide +kernel) rfl rfl (Nat.le_of_ble_eq_true rfl) dX6_setRate_27 (fun H locs hM hS => ?_)
      have hM : Hm G (va_up M (ad 14 0) (some (.inr (6, [.int 2, .int (T.1 0 0), .ref (ad 15 0), .ref (ad 16 0), .ref (ad 17 0), .ref (ad 18 0), .int (T.1 5 0), .ref (ad 19 0), .ref (ad 20 0), .ref (ad 21 0), .ref (ad 22 0), .ref (ad 23 0), .ref (ad 24 0), .ref (ad 25 0), .ref (ad 26 0), .ref (ad 27 0)])))) H := hM
      have f27_4 : (va_up M (ad 14 0) (some (.inr (6, [.int 2, .int (T.1 0 0), .ref (ad 15 0), .ref (ad 16 0), .ref (ad 17 0), .ref (ad 18 0), .int (T.1 5 0), .ref (ad 19 0), .ref (ad 20 0), .ref (ad 21 0), .ref (ad 22 0), .ref (ad 23 0), .ref (ad 24 0), .ref (ad 25 0), .ref (ad 26 0), .ref (ad 27 0)])))) (ad 14 0) = some (.inr (6, [.int 2, .int (T.1 0 0), .ref (ad 15 0), .ref (ad 16 0), .ref (ad 17 0), .ref (ad 18 0), .int (T.1 5 0), .ref (ad 19 0), .ref (ad 20 0), .ref (ad 21 0), .ref (ad 22 0), .ref (ad 23 0), .ref (ad 24 0), .ref (ad 25 0), .ref (ad 26 0), .ref (ad 27 0)])) := up_eq
      have f27_5 : (va_up M (ad 14 0) (some (.inr (6, [.int 2, .int (T.1 0 0), .ref (ad 15 0), .ref (ad 16 0), .ref (ad 17 0), .ref (ad 18 0), .int (T.1 5 0), .ref (ad 19 0), .ref (ad 20 0), .ref (ad 21 0), .ref (ad 22 0), .ref (ad 23 0), .ref (ad 24 0), .ref (ad 25 0), .ref (ad 26 0), .ref (ad 27 0)])))) (ad 15 0) = some (.inl (G.2.1 0, 4, .inl (T.1 1))) := (up_ne (hw.ne (k := 15) (i := 0) (k' := 14) (i' := 0) rfl rfl (by decide))).trans m15
      refine lv_aload_n hx hb dX6_setRate_30 rfl (lv_at hl 0 rfl) ?_
      refine m_get (ci := 6) (v := .int 2) (C := RX6) (T := TX6) (N := 16) (a := (ad 14 0)) hx hb hts (by decide +kernel) hown hC hM f27_4 rfl 0 (by decide) (hts (.fieldLink RX6 53 "ForwardrollModel" "thrown" "I") (by decide +kernel)) (fun _ h9 => h9) rfl dX6_setRate_31 ?_
      refine lv_if_le (tgt := 39) hx hb dX6_setRate_34 (by decide) (fun c_34 => False.elim (by revert c_34; decide)) (fun c_34 => ?_)
      refine lv_iconst (v := 0) hx hb dX6_setRate_37 (by decide) ?_
      exact (r_i hx hb hr hlocks hS (v := 0) _ (Or.inr (Or.inl ⟨c45 (inb_t c_5), inb_f c_19, w_mth hw 2⟩)) hM (Nat.le_of_ble_eq_true rfl) (Nat.le_of_ble_eq_true rfl) dX6_setRate_38)
    · refine lv_iconst (v := 0) hx hb dX6_setRate_22 (by decide) ?_
      refine lv_goto (tgt := 27) hx hb dX6_setRate_23 (by decide) ?_
      refine m_put (host := "") (ci := 6) (v := .int 0) (ty := .int) (C := RX6) (T := TX6) (N := 16) (a := (ad 14 0)) hx hb hts (by decide +kernel) tyX6 tyX6_ok nmX6 hown hC hM hS m14 rfl 0 (by decide) (hts (.fieldLink RX6 53 "ForwardrollModel" "thrown" "I") (by decide +kernel)) (fun _ h9 => h9) rfl (by decide +kernel) rfl rfl (Nat.le_of_ble_eq_true rfl) dX6_setRate_27 (fun H locs hM hS => ?_)
      have hM : Hm G (va_up M (ad 14 0) (some (.inr (6, [.int 0, .int (T.1 0 0), .ref (ad 15 0), .ref (ad 16 0), .ref (ad 17 0), .ref (ad 18 0), .int (T.1 5 0), .ref (ad 19 0), .ref (ad 20 0), .ref (ad 21 0), .ref (ad 22 0), .ref (ad 23 0), .ref (ad 24 0), .ref (ad 25 0), .ref (ad 26 0), .ref (ad 27 0)])))) H := hM
      have f27_8 : (va_up M (ad 14 0) (some (.inr (6, [.int 0, .int (T.1 0 0), .ref (ad 15 0), .ref (ad 16 0), .ref (ad 17 0), .ref (ad 18 0), .int (T.1 5 0), .ref (ad 19 0), .ref (ad 20 0), .ref (ad 21 0), .ref (ad 22 0), .ref (ad 23 0), .ref (ad 24 0), .ref (ad 25 0), .ref (ad 26 0), .ref (ad 27 0)])))) (ad 14 0) = some (.inr (6, [.int 0, .int (T.1 0 0), .ref (ad 15 0), .ref (ad 16 0), .ref (ad 17 0), .ref (ad 18 0), .int (T.1 5 0), .ref (ad 19 0), .ref (ad 20 0), .ref (ad 21 0), .ref (ad 22 0), .ref (ad 23 0), .ref (ad 24 0), .ref (ad 25 0), .ref (ad 26 0), .ref (ad 27 0)])) := up_eq
      have f27_9 : (va_up M (ad 14 0) (some (.inr (6, [.int 0, .int (T.1 0 0), .ref (ad 15 0), .ref (ad 16 0), .ref (ad 17 0), .ref (ad 18 0), .int (T.1 5 0), .ref (ad 19 0), .ref (ad 20 0), .ref (ad 21 0), .ref (ad 22 0), .ref (ad 23 0), .ref (ad 24 0), .ref (ad 25 0), .ref (ad 26 0), .ref (ad 27 0)])))) (ad 15 0) = some (.inl (G.2.1 0, 4, .inl (T.1 1))) := (up_ne (hw.ne (k := 15) (i := 0) (k' := 14) (i' := 0) rfl rfl (by decide))).trans m15
      refine lv_aload_n hx hb dX6_setRate_30 rfl (lv_at hl 0 rfl) ?_
      refine m_get (ci := 6) (v := .int 0) (C := RX6) (T := TX6) (N := 16) (a := (ad 14 0)) hx hb hts (by decide +kernel) hown hC hM f27_8 rfl 0 (by decide) (hts (.fieldLink RX6 53 "ForwardrollModel" "thrown" "I") (by decide +kernel)) (fun _ h9 => h9) rfl dX6_setRate_31 ?_
      refine lv_if_le (tgt := 39) hx hb dX6_setRate_34 (by decide) (fun c_34 => ?_) (fun c_34 => False.elim (by revert c_34; decide))
      refine lv_aload_n hx hb dX6_setRate_39 rfl (lv_at hl 0 rfl) ?_
      refine m_get (ci := 6) (v := .ref (ad 15 0)) (C := RX6) (T := TX6) (N := 16) (a := (ad 14 0)) hx hb hts (by decide +kernel) hown hC hM f27_8 rfl 2 (by decide) (hts (.fieldLink RX6 7 "ForwardrollModel" "spot" "[I") (by decide +kernel)) (fun _ h9 => h9) rfl dX6_setRate_40 ?_
      refine lv_iload_n hx hb dX6_setRate_43 rfl (lv_at hl 1 rfl) ?_
      refine m_iald (a := (ad 15 0)) hx hb hC hM f27_9 (vin_of 4 (c45 (inb_t c_5)) (by decide)) dX6_setRate_44 ?_
      refine lv_istore_n (lv' := [(3, .int ((T.1 1) n.toNatClampNeg)), (0, .ref (ad 14 0)), (1, .int n), (2, .int x)]) hx hb dX6_setRate_45 rfl hl (by decide) rfl (fun ls hl => ?_)
      refine lv_aload_n hx hb dX6_setRate_46 rfl (lv_at hl 1 rfl) ?_
      refine m_get (ci := 6) (v := .ref (ad 15 0)) (C := RX6) (T := TX6) (N := 16) (a := (ad 14 0)) hx hb hts (by decide +kernel) hown hC hM f27_8 rfl 2 (by decide) (hts (.fieldLink RX6 7 "ForwardrollModel" "spot" "[I") (by decide +kernel)) (fun _ h9 => h9) rfl dX6_setRate_47 ?_
      refine lv_iload_n hx hb dX6_setRate_50 rfl (lv_at hl 2 rfl) ?_
      refine lv_iload_n hx hb dX6_setRate_51 rfl (lv_at hl 3 rfl) ?_
      refine m_iast (a := (ad 15 0)) hx hb hC hM hS f27_9 (vin_of 4 (c45 (inb_t c_5)) (by decide)) dX6_setRate_52 (fun H locs hM hS => ?_)
      have hM : Hm G (va_up (va_up M (ad 14 0) (some (.inr (6, [.int 0, .int (T.1 0 0), .ref (ad 15 0), .ref (ad 16 0), .ref (ad 17 0), .ref (ad 18 0), .int (T.1 5 0), .ref (ad 19 0), .ref (ad 20 0), .ref (ad 21 0), .ref (ad 22 0), .ref (ad 23 0), .ref (ad 24 0), .ref (ad 25 0), .ref (ad 26 0), .ref (ad 27 0)])))) (ad 15 0) (some (.inl (G.2.1 0, 4, .inl (upd (T.1 1) n.toNatClampNeg x))))) H := hM
      have f52_12 : (va_up (va_up M (ad 14 0) (some (.inr (6, [.int 0, .int (T.1 0 0), .ref (ad 15 0), .ref (ad 16 0), .ref (ad 17 0), .ref (ad 18 0), .int (T.1 5 0), .ref (ad 19 0), .ref (ad 20 0), .ref (ad 21 0), .ref (ad 22 0), .ref (ad 23 0), .ref (ad 24 0), .ref (ad 25 0), .ref (ad 26 0), .ref (ad 27 0)])))) (ad 15 0) (some (.inl (G.2.1 0, 4, .inl (upd (T.1 1) n.toNatClampNeg x))))) (ad 14 0) = some (.inr (6, [.int 0, .int (T.1 0 0), .ref (ad 15 0), .ref (ad 16 0), .ref (ad 17 0), .ref (ad 18 0), .int (T.1 5 0), .ref (ad 19 0), .ref (ad 20 0), .ref (ad 21 0), .ref (ad 22 0), .ref (ad 23 0), .ref (ad 24 0), .ref (ad 25 0), .ref (ad 26 0), .ref (ad 27 0)])) := (up_ne (hw.ne (k := 14) (i := 0) (k' := 15) (i' := 0) rfl rfl (by decide))).trans f27_8
      have f52_13 : (va_up (va_up M (ad 14 0) (some (.inr (6, [.int 0, .int (T.1 0 0), .ref (ad 15 0), .ref (ad 16 0), .ref (ad 17 0), .ref (ad 18 0), .int (T.1 5 0), .ref (ad 19 0), .ref (ad 20 0), .ref (ad 21 0), .ref (ad 22 0), .ref (ad 23 0), .ref (ad 24 0), .ref (ad 25 0), .ref (ad 26 0), .ref (ad 27 0)])))) (ad 15 0) (some (.inl (G.2.1 0, 4, .inl (upd (T.1 1) n.toNatClampNeg x))))) (ad 15 0) = some (.inl (G.2.1 0, 4, .inl (upd (T.1 1) n.toNatClampNeg x))) := up_eq
      refine lv_iload_n hx hb dX6_setRate_53 rfl (lv_at hl 0 rfl) ?_
      exact (r_i hx hb hr hlocks hS (v := ((T.1 1) n.toNatClampNeg)) _ (Or.inr (Or.inr ⟨c45 (inb_t c_5), inb_t c_19, rfl, w_mspot (w_mth hw 0) _ x⟩)) hM (Nat.le_of_ble_eq_true rfl) (Nat.le_of_ble_eq_true rfl) dX6_setRate_54)
  · refine lv_iconst (v := 1) hx hb dX6_setRate_8 (by decide) ?_
    refine lv_goto (tgt := 27) hx hb dX6_setRate_9 (by decide) ?_
    refine m_put (host := "") (ci := 6) (v := .int 1) (ty := .int) (C := RX6) (T := TX6) (N := 16) (a := (ad 14 0)) hx hb hts (by decide +kernel) tyX6 tyX6_ok nmX6 hown hC hM hS m14 rfl 0 (by decide) (hts (.fieldLink RX6 53 "ForwardrollModel" "thrown" "I") (by decide +kernel)) (fun _ h9 => h9) rfl (by decide +kernel) rfl rfl (Nat.le_of_ble_eq_true rfl) dX6_setRate_27 (fun H locs hM hS => ?_)
    have hM : Hm G (va_up M (ad 14 0) (some (.inr (6, [.int 1, .int (T.1 0 0), .ref (ad 15 0), .ref (ad 16 0), .ref (ad 17 0), .ref (ad 18 0), .int (T.1 5 0), .ref (ad 19 0), .ref (ad 20 0), .ref (ad 21 0), .ref (ad 22 0), .ref (ad 23 0), .ref (ad 24 0), .ref (ad 25 0), .ref (ad 26 0), .ref (ad 27 0)])))) H := hM
    have f27_15 : (va_up M (ad 14 0) (some (.inr (6, [.int 1, .int (T.1 0 0), .ref (ad 15 0), .ref (ad 16 0), .ref (ad 17 0), .ref (ad 18 0), .int (T.1 5 0), .ref (ad 19 0), .ref (ad 20 0), .ref (ad 21 0), .ref (ad 22 0), .ref (ad 23 0), .ref (ad 24 0), .ref (ad 25 0), .ref (ad 26 0), .ref (ad 27 0)])))) (ad 14 0) = some (.inr (6, [.int 1, .int (T.1 0 0), .ref (ad 15 0), .ref (ad 16 0), .ref (ad 17 0), .ref (ad 18 0), .int (T.1 5 0), .ref (ad 19 0), .ref (ad 20 0), .ref (ad 21 0), .ref (ad 22 0), .ref (ad 23 0), .ref (ad 24 0), .ref (ad 25 0), .ref (ad 26 0), .ref (ad 27 0)])) := up_eq
    have f27_16 : (va_up M (ad 14 0) (some (.inr (6, [.int 1, .int (T.1 0 0), .ref (ad 15 0), .ref (ad 16 0), .ref (ad 17 0), .ref (ad 18 0), .int (T.1 5 0), .ref (ad 19 0), .ref (ad 20 0), .ref (ad 21 0), .ref (ad 22 0), .ref (ad 23 0), .ref (ad 24 0), .ref (ad 25 0), .ref (ad 26 0), .ref (ad 27 0)])))) (ad 15 0) = some (.inl (G.2.1 0, 4, .inl (T.1 1))) := (up_ne (hw.ne (k := 15) (i := 0) (k' := 14) (i' := 0) rfl rfl (by decide))).trans m15
    refine lv_aload_n hx hb dX6_setRate_30 rfl (lv_at hl 0 rfl) ?_
    refine m_get (ci := 6) (v := .int 1) (C := RX6) (T := TX6) (N := 16) (a := (ad 14 0)) hx hb hts (by decide +kernel) hown hC hM f27_15 rfl 0 (by decide) (hts (.fieldLink RX6 53 "ForwardrollModel" "thrown" "I") (by decide +kernel)) (fun _ h9 => h9) rfl dX6_setRate_31 ?_
    refine lv_if_le (tgt := 39) hx hb dX6_setRate_34 (by decide) (fun c_34 => False.elim (by revert c_34; decide)) (fun c_34 => ?_)
    refine lv_iconst (v := 0) hx hb dX6_setRate_37 (by decide) ?_
    exact (r_i hx hb hr hlocks hS (v := 0) _ (Or.inl ⟨fun z => inb_f c_5 (c44 z), w_mth hw 1⟩) hM (Nat.le_of_ble_eq_true rfl) (Nat.le_of_ble_eq_true rfl) dX6_setRate_38)
set_option maxHeartbeats 4000000 in
set_option maxRecDepth 100000 in
theorem c_X6_setPoints (l : Launch) (G : Gx) (M : Mp) (S T : Sd) (th : Int32) (o : Int64) (ex : Nat → Option (Nat × Nat)) (ad : Nat → Nat → Nat) (n x : Int32) (hw : WA G S T th o ex ad M) : Met l yX6_setPoints wsX6_setPoints ({ frames := 2, cells := 0, slots := 0, locals := 42 }) (Cv G M [.ref (ad 14 0), .int n, .int x]) (va_Qi (S := Mp) (fun r M2 => (¬ (0 ≤ n ∧ n < 4) ∧ WA G S T 1 o ex ad M2) ∨ ((0 ≤ n ∧ n < 4) ∧ ¬ ((-50) ≤ x ∧ x ≤ 50) ∧ WA G S T 2 o ex ad M2) ∨ ((0 ≤ n ∧ n < 4) ∧ ((-50) ≤ x ∧ x ≤ 50) ∧ r = T.1 2 n.toNatClampNeg ∧ WA G S (u2 T.1 2 n.toNatClampNeg x, T.2) 0 o ex ad M2)) (Bm G (fun M2 => M2)) (AG G)) (0) (0) (AG G) := by
  refine m_met [.ref (ad 14 0), .int n, .int x] [(0, .ref (ad 14 0)), (1, .int n), (2, .int x)] (by decide) rfl rfl (Nat.le_of_ble_eq_true rfl) ?_
  intro p e s m below meth c ls hx hb hr hml hown hts hlocks hin hC hM hl hS
  have m14 : M (ad 14 0) = some (.inr (6, [.int th, .int (T.1 0 0), .ref (ad 15 0), .ref (ad 16 0), .ref (ad 17 0), .ref (ad 18 0), .int (T.1 5 0), .ref (ad 19 0), .ref (ad 20 0), .ref (ad 21 0), .ref (ad 22 0), .ref (ad 23 0), .ref (ad 24 0), .ref (ad 25 0), .ref (ad 26 0), .ref (ad 27 0)])) := hw.1 14 0 _ rfl
  have m16 : M (ad 16 0) = some (.inl (G.2.1 0, 4, .inl (T.1 2))) := hw.1 16 0 _ rfl
  refine lv_aload_n hx hb dX6_setPoints_0 rfl (lv_at hl 0 rfl) ?_
  refine lv_iload_n hx hb dX6_setPoints_1 rfl (lv_at hl 1 rfl) ?_
  refine k_i (va_runS (As := [.int n]) (rest := [.ref (ad 14 0)]) ⟨hx, hb, hml, hown, hts⟩ (c_X6_isCurrency l G M n) (va_cwS 1 hts gX6_setPoints_X6_isCurrency rfl rfl rfl (by decide +kernel) ⟨Nat.le_of_ble_eq_true rfl, Nat.le_of_ble_eq_true rfl⟩) (preS_of hC hS hM) rfl rfl hl.1 rfl (lv_room (Nat.le_of_ble_eq_true rfl)) dX6_setPoints_2 ⟨Nat.le_of_ble_eq_true rfl, Nat.le_of_ble_eq_true rfl⟩) hS (fun r2 u2 H locs hp2 hM hS => ?_)
  have hM : Hm G M H := hM
  have hp2 : r2 = inb n 0 3 := hp2
  subst hp2
  refine lv_if_ne (tgt := 12) hx hb dX6_setPoints_5 (by decide) (fun c_5 => ?_) (fun c_5 => ?_)
  · refine lv_iload_n hx hb dX6_setPoints_12 rfl (lv_at hl 2 rfl) ?_
    refine lv_bipush (v := (-50)) hx hb dX6_setPoints_13 (by decide) ?_
    refine lv_bipush (v := 50) hx hb dX6_setPoints_15 (by decide) ?_
    refine k_i (va_runS (As := [.int x, .int (-50), .int 50]) (rest := [.ref (ad 14 0)]) ⟨hx, hb, hml, hown, hts⟩ (c_X6_in l G M x (-50) (50 : Int32)) (va_cwS 3 hts gX6_setPoints_X6_in rfl rfl rfl (by decide +kernel) ⟨Nat.le_of_ble_eq_true rfl, Nat.le_of_ble_eq_true rfl⟩) (preS_of hC hS hM) rfl rfl hl.1 rfl (lv_room (Nat.le_of_ble_eq_true rfl)) dX6_setPoints_17 ⟨Nat.le_of_ble_eq_true rfl, Nat.le_of_ble_eq_true rfl⟩) hS (fun r17 u17 H locs hp17 hM hS => ?_)
    have hM : Hm G M H := hM
    have hp17 : r17 = inb x (-50) (50 : Int32) := hp17
    subst hp17
    refine lv_if_eq (tgt := 27) hx hb dX6_setPoints_20 (by decide) (fun c_20 => ?_) (fun c_20 => ?_)
    · refine lv_iconst (v := 2) hx hb dX6_setPoints_27 (by decide) ?_
      refine m_put (host := "") (ci := 6) (v := .int 2) (ty := .int) (C := RX6) (T := TX6) (N := 16) (a := (ad 14 0)) hx hb hts (by decide +kernel) tyX6 tyX6_ok nmX6 hown hC hM hS m14 rfl 0 (by decide) (hts (.fieldLink RX6 53 "ForwardrollModel" "thrown" "I") (by decide +kernel)) (fun _ h9 => h9) rfl (by decide +kernel) rfl rfl (Nat.le_of_ble_eq_true rfl) dX6_setPoints_28 (fun H locs hM hS => ?_)
      have hM : Hm G (va_up M (ad 14 0) (some (.inr (6, [.int 2, .int (T.1 0 0), .ref (ad 15 0), .ref (ad 16 0), .ref (ad 17 0), .ref (ad 18 0), .int (T.1 5 0), .ref (ad 19 0), .ref (ad 20 0), .ref (ad 21 0), .ref (ad 22 0), .ref (ad 23 0), .ref (ad 24 0), .ref (ad 25 0), .ref (ad 26 0), .ref (ad 27 0)])))) H := hM
      have f28_4 : (va_up M (ad 14 0) (some (.inr (6, [.int 2, .int (T.1 0 0), .ref (ad 15 0), .ref (ad 16 0), .ref (ad 17 0), .ref (ad 18 0), .int (T.1 5 0), .ref (ad 19 0), .ref (ad 20 0), .ref (ad 21 0), .ref (ad 22 0), .ref (ad 23 0), .ref (ad 24 0), .ref (ad 25 0), .ref (ad 26 0), .ref (ad 27 0)])))) (ad 14 0) = some (.inr (6, [.int 2, .int (T.1 0 0), .ref (ad 15 0), .ref (ad 16 0), .ref (ad 17 0), .ref (ad 18 0), .int (T.1 5 0), .ref (ad 19 0), .ref (ad 20 0), .ref (ad 21 0), .ref (ad 22 0), .ref (ad 23 0), .ref (ad 24 0), .ref (ad 25 0), .ref (ad 26 0), .ref (ad 27 0)])) := up_eq
      have f28_5 : (va_up M (ad 14 0) (some (.inr (6, [.int 2, .int (T.1 0 0), .ref (ad 15 0), .ref (ad 16 0), .ref (ad 17 0), .ref (ad 18 0), .int (T.1 5 0), .ref (ad 19 0), .ref (ad 20 0), .ref (ad 21 0), .ref (ad 22 0), .ref (ad 23 0), .ref (ad 24 0), .ref (ad 25 0), .ref (ad 26 0), .ref (ad 27 0)])))) (ad 16 0) = some (.inl (G.2.1 0, 4, .inl (T.1 2))) := (up_ne (hw.ne (k := 16) (i := 0) (k' := 14) (i' := 0) rfl rfl (by decide))).trans m16
      refine lv_aload_n hx hb dX6_setPoints_31 rfl (lv_at hl 0 rfl) ?_
      refine m_get (ci := 6) (v := .int 2) (C := RX6) (T := TX6) (N := 16) (a := (ad 14 0)) hx hb hts (by decide +kernel) hown hC hM f28_4 rfl 0 (by decide) (hts (.fieldLink RX6 53 "ForwardrollModel" "thrown" "I") (by decide +kernel)) (fun _ h9 => h9) rfl dX6_setPoints_32 ?_
      refine lv_if_le (tgt := 40) hx hb dX6_setPoints_35 (by decide) (fun c_35 => False.elim (by revert c_35; decide)) (fun c_35 => ?_)
      refine lv_iconst (v := 0) hx hb dX6_setPoints_38 (by decide) ?_
      exact (r_i hx hb hr hlocks hS (v := 0) _ (Or.inr (Or.inl ⟨c45 (inb_t c_5), inb_f c_20, w_mth hw 2⟩)) hM (Nat.le_of_ble_eq_true rfl) (Nat.le_of_ble_eq_true rfl) dX6_setPoints_39)
    · refine lv_iconst (v := 0) hx hb dX6_setPoints_23 (by decide) ?_
      refine lv_goto (tgt := 28) hx hb dX6_setPoints_24 (by decide) ?_
      refine m_put (host := "") (ci := 6) (v := .int 0) (ty := .int) (C := RX6) (T := TX6) (N := 16) (a := (ad 14 0)) hx hb hts (by decide +kernel) tyX6 tyX6_ok nmX6 hown hC hM hS m14 rfl 0 (by decide) (hts (.fieldLink RX6 53 "ForwardrollModel" "thrown" "I") (by decide +kernel)) (fun _ h9 => h9) rfl (by decide +kernel) rfl rfl (Nat.le_of_ble_eq_true rfl) dX6_setPoints_28 (fun H locs hM hS => ?_)
      have hM : Hm G (va_up M (ad 14 0) (some (.inr (6, [.int 0, .int (T.1 0 0), .ref (ad 15 0), .ref (ad 16 0), .ref (ad 17 0), .ref (ad 18 0), .int (T.1 5 0), .ref (ad 19 0), .ref (ad 20 0), .ref (ad 21 0), .ref (ad 22 0), .ref (ad 23 0), .ref (ad 24 0), .ref (ad 25 0), .ref (ad 26 0), .ref (ad 27 0)])))) H := hM
      have f28_8 : (va_up M (ad 14 0) (some (.inr (6, [.int 0, .int (T.1 0 0), .ref (ad 15 0), .ref (ad 16 0), .ref (ad 17 0), .ref (ad 18 0), .int (T.1 5 0), .ref (ad 19 0), .ref (ad 20 0), .ref (ad 21 0), .ref (ad 22 0), .ref (ad 23 0), .ref (ad 24 0), .ref (ad 25 0), .ref (ad 26 0), .ref (ad 27 0)])))) (ad 14 0) = some (.inr (6, [.int 0, .int (T.1 0 0), .ref (ad 15 0), .ref (ad 16 0), .ref (ad 17 0), .ref (ad 18 0), .int (T.1 5 0), .ref (ad 19 0), .ref (ad 20 0), .ref (ad 21 0), .ref (ad 22 0), .ref (ad 23 0), .ref (ad 24 0), .ref (ad 25 0), .ref (ad 26 0), .ref (ad 27 0)])) := up_eq
      have f28_9 : (va_up M (ad 14 0) (some (.inr (6, [.int 0, .int (T.1 0 0), .ref (ad 15 0), .ref (ad 16 0), .ref (ad 17 0), .ref (ad 18 0), .int (T.1 5 0), .ref (ad 19 0), .ref (ad 20 0), .ref (ad 21 0), .ref (ad 22 0), .ref (ad 23 0), .ref (ad 24 0), .ref (ad 25 0), .ref (ad 26 0), .ref (ad 27 0)])))) (ad 16 0) = some (.inl (G.2.1 0, 4, .inl (T.1 2))) := (up_ne (hw.ne (k := 16) (i := 0) (k' := 14) (i' := 0) rfl rfl (by decide))).trans m16
      refine lv_aload_n hx hb dX6_setPoints_31 rfl (lv_at hl 0 rfl) ?_
      refine m_get (ci := 6) (v := .int 0) (C := RX6) (T := TX6) (N := 16) (a := (ad 14 0)) hx hb hts (by decide +kernel) hown hC hM f28_8 rfl 0 (by decide) (hts (.fieldLink RX6 53 "ForwardrollModel" "thrown" "I") (by decide +kernel)) (fun _ h9 => h9) rfl dX6_setPoints_32 ?_
      refine lv_if_le (tgt := 40) hx hb dX6_setPoints_35 (by decide) (fun c_35 => ?_) (fun c_35 => False.elim (by revert c_35; decide))
      refine lv_aload_n hx hb dX6_setPoints_40 rfl (lv_at hl 0 rfl) ?_
      refine m_get (ci := 6) (v := .ref (ad 16 0)) (C := RX6) (T := TX6) (N := 16) (a := (ad 14 0)) hx hb hts (by decide +kernel) hown hC hM f28_8 rfl 3 (by decide) (hts (.fieldLink RX6 13 "ForwardrollModel" "points" "[I") (by decide +kernel)) (fun _ h9 => h9) rfl dX6_setPoints_41 ?_
      refine lv_iload_n hx hb dX6_setPoints_44 rfl (lv_at hl 1 rfl) ?_
      refine m_iald (a := (ad 16 0)) hx hb hC hM f28_9 (vin_of 4 (c45 (inb_t c_5)) (by decide)) dX6_setPoints_45 ?_
      refine lv_istore_n (lv' := [(3, .int ((T.1 2) n.toNatClampNeg)), (0, .ref (ad 14 0)), (1, .int n), (2, .int x)]) hx hb dX6_setPoints_46 rfl hl (by decide) rfl (fun ls hl => ?_)
      refine lv_aload_n hx hb dX6_setPoints_47 rfl (lv_at hl 1 rfl) ?_
      refine m_get (ci := 6) (v := .ref (ad 16 0)) (C := RX6) (T := TX6) (N := 16) (a := (ad 14 0)) hx hb hts (by decide +kernel) hown hC hM f28_8 rfl 3 (by decide) (hts (.fieldLink RX6 13 "ForwardrollModel" "points" "[I") (by decide +kernel)) (fun _ h9 => h9) rfl dX6_setPoints_48 ?_
      refine lv_iload_n hx hb dX6_setPoints_51 rfl (lv_at hl 2 rfl) ?_
      refine lv_iload_n hx hb dX6_setPoints_52 rfl (lv_at hl 3 rfl) ?_
      refine m_iast (a := (ad 16 0)) hx hb hC hM hS f28_9 (vin_of 4 (c45 (inb_t c_5)) (by decide)) dX6_setPoints_53 (fun H locs hM hS => ?_)
      have hM : Hm G (va_up (va_up M (ad 14 0) (some (.inr (6, [.int 0, .int (T.1 0 0), .ref (ad 15 0), .ref (ad 16 0), .ref (ad 17 0), .ref (ad 18 0), .int (T.1 5 0), .ref (ad 19 0), .ref (ad 20 0), .ref (ad 21 0), .ref (ad 22 0), .ref (ad 23 0), .ref (ad 24 0), .ref (ad 25 0), .ref (ad 26 0), .ref (ad 27 0)])))) (ad 16 0) (some (.inl (G.2.1 0, 4, .inl (upd (T.1 2) n.toNatClampNeg x))))) H := hM
      have f53_12 : (va_up (va_up M (ad 14 0) (some (.inr (6, [.int 0, .int (T.1 0 0), .ref (ad 15 0), .ref (ad 16 0), .ref (ad 17 0), .ref (ad 18 0), .int (T.1 5 0), .ref (ad 19 0), .ref (ad 20 0), .ref (ad 21 0), .ref (ad 22 0), .ref (ad 23 0), .ref (ad 24 0), .ref (ad 25 0), .ref (ad 26 0), .ref (ad 27 0)])))) (ad 16 0) (some (.inl (G.2.1 0, 4, .inl (upd (T.1 2) n.toNatClampNeg x))))) (ad 14 0) = some (.inr (6, [.int 0, .int (T.1 0 0), .ref (ad 15 0), .ref (ad 16 0), .ref (ad 17 0), .ref (ad 18 0), .int (T.1 5 0), .ref (ad 19 0), .ref (ad 20 0), .ref (ad 21 0), .ref (ad 22 0), .ref (ad 23 0), .ref (ad 24 0), .ref (ad 25 0), .ref (ad 26 0), .ref (ad 27 0)])) := (up_ne (hw.ne (k := 14) (i := 0) (k' := 16) (i' := 0) rfl rfl (by decide))).trans f28_8
      have f53_13 : (va_up (va_up M (ad 14 0) (some (.inr (6, [.int 0, .int (T.1 0 0), .ref (ad 15 0), .ref (ad 16 0), .ref (ad 17 0), .ref (ad 18 0), .int (T.1 5 0), .ref (ad 19 0), .ref (ad 20 0), .ref (ad 21 0), .ref (ad 22 0), .ref (ad 23 0), .ref (ad 24 0), .ref (ad 25 0), .ref (ad 26 0), .ref (ad 27 0)])))) (ad 16 0) (some (.inl (G.2.1 0, 4, .inl (upd (T.1 2) n.toNatClampNeg x))))) (ad 16 0) = some (.inl (G.2.1 0, 4, .inl (upd (T.1 2) n.toNatClampNeg x))) := up_eq
      refine lv_iload_n hx hb dX6_setPoints_54 rfl (lv_at hl 0 rfl) ?_
      exact (r_i hx hb hr hlocks hS (v := ((T.1 2) n.toNatClampNeg)) _ (Or.inr (Or.inr ⟨c45 (inb_t c_5), inb_t c_20, rfl, w_mpts (w_mth hw 0) _ x⟩)) hM (Nat.le_of_ble_eq_true rfl) (Nat.le_of_ble_eq_true rfl) dX6_setPoints_55)
  · refine lv_iconst (v := 1) hx hb dX6_setPoints_8 (by decide) ?_
    refine lv_goto (tgt := 28) hx hb dX6_setPoints_9 (by decide) ?_
    refine m_put (host := "") (ci := 6) (v := .int 1) (ty := .int) (C := RX6) (T := TX6) (N := 16) (a := (ad 14 0)) hx hb hts (by decide +kernel) tyX6 tyX6_ok nmX6 hown hC hM hS m14 rfl 0 (by decide) (hts (.fieldLink RX6 53 "ForwardrollModel" "thrown" "I") (by decide +kernel)) (fun _ h9 => h9) rfl (by decide +kernel) rfl rfl (Nat.le_of_ble_eq_true rfl) dX6_setPoints_28 (fun H locs hM hS => ?_)
    have hM : Hm G (va_up M (ad 14 0) (some (.inr (6, [.int 1, .int (T.1 0 0), .ref (ad 15 0), .ref (ad 16 0), .ref (ad 17 0), .ref (ad 18 0), .int (T.1 5 0), .ref (ad 19 0), .ref (ad 20 0), .ref (ad 21 0), .ref (ad 22 0), .ref (ad 23 0), .ref (ad 24 0), .ref (ad 25 0), .ref (ad 26 0), .ref (ad 27 0)])))) H := hM
    have f28_15 : (va_up M (ad 14 0) (some (.inr (6, [.int 1, .int (T.1 0 0), .ref (ad 15 0), .ref (ad 16 0), .ref (ad 17 0), .ref (ad 18 0), .int (T.1 5 0), .ref (ad 19 0), .ref (ad 20 0), .ref (ad 21 0), .ref (ad 22 0), .ref (ad 23 0), .ref (ad 24 0), .ref (ad 25 0), .ref (ad 26 0), .ref (ad 27 0)])))) (ad 14 0) = some (.inr (6, [.int 1, .int (T.1 0 0), .ref (ad 15 0), .ref (ad 16 0), .ref (ad 17 0), .ref (ad 18 0), .int (T.1 5 0), .ref (ad 19 0), .ref (ad 20 0), .ref (ad 21 0), .ref (ad 22 0), .ref (ad 23 0), .ref (ad 24 0), .ref (ad 25 0), .ref (ad 26 0), .ref (ad 27 0)])) := up_eq
    have f28_16 : (va_up M (ad 14 0) (some (.inr (6, [.int 1, .int (T.1 0 0), .ref (ad 15 0), .ref (ad 16 0), .ref (ad 17 0), .ref (ad 18 0), .int (T.1 5 0), .ref (ad 19 0), .ref (ad 20 0), .ref (ad 21 0), .ref (ad 22 0), .ref (ad 23 0), .ref (ad 24 0), .ref (ad 25 0), .ref (ad 26 0), .ref (ad 27 0)])))) (ad 16 0) = some (.inl (G.2.1 0, 4, .inl (T.1 2))) := (up_ne (hw.ne (k := 16) (i := 0) (k' := 14) (i' := 0) rfl rfl (by decide))).trans m16
    refine lv_aload_n hx hb dX6_setPoints_31 rfl (lv_at hl 0 rfl) ?_
    refine m_get (ci := 6) (v := .int 1) (C := RX6) (T := TX6) (N := 16) (a := (ad 14 0)) hx hb hts (by decide +kernel) hown hC hM f28_15 rfl 0 (by decide) (hts (.fieldLink RX6 53 "ForwardrollModel" "thrown" "I") (by decide +kernel)) (fun _ h9 => h9) rfl dX6_setPoints_32 ?_
    refine lv_if_le (tgt := 40) hx hb dX6_setPoints_35 (by decide) (fun c_35 => False.elim (by revert c_35; decide)) (fun c_35 => ?_)
    refine lv_iconst (v := 0) hx hb dX6_setPoints_38 (by decide) ?_
    exact (r_i hx hb hr hlocks hS (v := 0) _ (Or.inl ⟨fun z => inb_f c_5 (c44 z), w_mth hw 1⟩) hM (Nat.le_of_ble_eq_true rfl) (Nat.le_of_ble_eq_true rfl) dX6_setPoints_39)
set_option maxHeartbeats 4000000 in
set_option maxRecDepth 100000 in
theorem c_X6_setLimit (l : Launch) (G : Gx) (M : Mp) (S T : Sd) (th : Int32) (o : Int64) (ex : Nat → Option (Nat × Nat)) (ad : Nat → Nat → Nat) (n x : Int32) (hw : WA G S T th o ex ad M) : Met l yX6_setLimit wsX6_setLimit ({ frames := 2, cells := 0, slots := 0, locals := 42 }) (Cv G M [.ref (ad 14 0), .int n, .int x]) (va_Qi (S := Mp) (fun r M2 => (¬ (0 ≤ n ∧ n < 5) ∧ WA G S T 1 o ex ad M2) ∨ ((0 ≤ n ∧ n < 5) ∧ ¬ (0 ≤ x ∧ x ≤ 100000000) ∧ WA G S T 2 o ex ad M2) ∨ ((0 ≤ n ∧ n < 5) ∧ (0 ≤ x ∧ x ≤ 100000000) ∧ r = (T.2 2 n.toNatClampNeg).toInt32 ∧ WA G S (T.1, u2 T.2 2 n.toNatClampNeg x.toInt64) 0 o ex ad M2)) (Bm G (fun M2 => M2)) (AG G)) (0) (0) (AG G) := by
  refine m_met [.ref (ad 14 0), .int n, .int x] [(0, .ref (ad 14 0)), (1, .int n), (2, .int x)] (by decide) rfl rfl (Nat.le_of_ble_eq_true rfl) ?_
  intro p e s m below meth c ls hx hb hr hml hown hts hlocks hin hC hM hl hS
  have m14 : M (ad 14 0) = some (.inr (6, [.int th, .int (T.1 0 0), .ref (ad 15 0), .ref (ad 16 0), .ref (ad 17 0), .ref (ad 18 0), .int (T.1 5 0), .ref (ad 19 0), .ref (ad 20 0), .ref (ad 21 0), .ref (ad 22 0), .ref (ad 23 0), .ref (ad 24 0), .ref (ad 25 0), .ref (ad 26 0), .ref (ad 27 0)])) := hw.1 14 0 _ rfl
  have m17 : M (ad 17 0) = some (.inl (G.2.1 1, 5, .inr (.inl (T.2 2)))) := hw.1 17 0 _ rfl
  refine lv_aload_n hx hb dX6_setLimit_0 rfl (lv_at hl 0 rfl) ?_
  refine lv_iload_n hx hb dX6_setLimit_1 rfl (lv_at hl 1 rfl) ?_
  refine k_i (va_runS (As := [.int n]) (rest := [.ref (ad 14 0)]) ⟨hx, hb, hml, hown, hts⟩ (c_X6_isCustomer l G M n) (va_cwS 1 hts gX6_setLimit_X6_isCustomer rfl rfl rfl (by decide +kernel) ⟨Nat.le_of_ble_eq_true rfl, Nat.le_of_ble_eq_true rfl⟩) (preS_of hC hS hM) rfl rfl hl.1 rfl (lv_room (Nat.le_of_ble_eq_true rfl)) dX6_setLimit_2 ⟨Nat.le_of_ble_eq_true rfl, Nat.le_of_ble_eq_true rfl⟩) hS (fun r2 u2 H locs hp2 hM hS => ?_)
  have hM : Hm G M H := hM
  have hp2 : r2 = inb n 0 4 := hp2
  subst hp2
  refine lv_if_ne (tgt := 12) hx hb dX6_setLimit_5 (by decide) (fun c_5 => ?_) (fun c_5 => ?_)
  · refine lv_iload_n hx hb dX6_setLimit_12 rfl (lv_at hl 2 rfl) ?_
    refine lv_iconst (v := 0) hx hb dX6_setLimit_13 (by decide) ?_
    refine lv_ldc (own := RX6) (v := 100000000) hx hb hown (hts (.constant RX6 81 100000000) (by decide +kernel)) dX6_setLimit_14 ?_
    refine k_i (va_runS (As := [.int x, .int 0, .int 100000000]) (rest := [.ref (ad 14 0)]) ⟨hx, hb, hml, hown, hts⟩ (c_X6_in l G M x (0 : Int32) (100000000 : Int32)) (va_cwS 3 hts gX6_setLimit_X6_in rfl rfl rfl (by decide +kernel) ⟨Nat.le_of_ble_eq_true rfl, Nat.le_of_ble_eq_true rfl⟩) (preS_of hC hS hM) rfl rfl hl.1 rfl (lv_room (Nat.le_of_ble_eq_true rfl)) dX6_setLimit_16 ⟨Nat.le_of_ble_eq_true rfl, Nat.le_of_ble_eq_true rfl⟩) hS (fun r16 u16 H locs hp16 hM hS => ?_)
    have hM : Hm G M H := hM
    have hp16 : r16 = inb x (0 : Int32) (100000000 : Int32) := hp16
    subst hp16
    refine lv_if_eq (tgt := 26) hx hb dX6_setLimit_19 (by decide) (fun c_19 => ?_) (fun c_19 => ?_)
    · refine lv_iconst (v := 2) hx hb dX6_setLimit_26 (by decide) ?_
      refine m_put (host := "") (ci := 6) (v := .int 2) (ty := .int) (C := RX6) (T := TX6) (N := 16) (a := (ad 14 0)) hx hb hts (by decide +kernel) tyX6 tyX6_ok nmX6 hown hC hM hS m14 rfl 0 (by decide) (hts (.fieldLink RX6 53 "ForwardrollModel" "thrown" "I") (by decide +kernel)) (fun _ h9 => h9) rfl (by decide +kernel) rfl rfl (Nat.le_of_ble_eq_true rfl) dX6_setLimit_27 (fun H locs hM hS => ?_)
      have hM : Hm G (va_up M (ad 14 0) (some (.inr (6, [.int 2, .int (T.1 0 0), .ref (ad 15 0), .ref (ad 16 0), .ref (ad 17 0), .ref (ad 18 0), .int (T.1 5 0), .ref (ad 19 0), .ref (ad 20 0), .ref (ad 21 0), .ref (ad 22 0), .ref (ad 23 0), .ref (ad 24 0), .ref (ad 25 0), .ref (ad 26 0), .ref (ad 27 0)])))) H := hM
      have f27_4 : (va_up M (ad 14 0) (some (.inr (6, [.int 2, .int (T.1 0 0), .ref (ad 15 0), .ref (ad 16 0), .ref (ad 17 0), .ref (ad 18 0), .int (T.1 5 0), .ref (ad 19 0), .ref (ad 20 0), .ref (ad 21 0), .ref (ad 22 0), .ref (ad 23 0), .ref (ad 24 0), .ref (ad 25 0), .ref (ad 26 0), .ref (ad 27 0)])))) (ad 14 0) = some (.inr (6, [.int 2, .int (T.1 0 0), .ref (ad 15 0), .ref (ad 16 0), .ref (ad 17 0), .ref (ad 18 0), .int (T.1 5 0), .ref (ad 19 0), .ref (ad 20 0), .ref (ad 21 0), .ref (ad 22 0), .ref (ad 23 0), .ref (ad 24 0), .ref (ad 25 0), .ref (ad 26 0), .ref (ad 27 0)])) := up_eq
      have f27_5 : (va_up M (ad 14 0) (some (.inr (6, [.int 2, .int (T.1 0 0), .ref (ad 15 0), .ref (ad 16 0), .ref (ad 17 0), .ref (ad 18 0), .int (T.1 5 0), .ref (ad 19 0), .ref (ad 20 0), .ref (ad 21 0), .ref (ad 22 0), .ref (ad 23 0), .ref (ad 24 0), .ref (ad 25 0), .ref (ad 26 0), .ref (ad 27 0)])))) (ad 17 0) = some (.inl (G.2.1 1, 5, .inr (.inl (T.2 2)))) := (up_ne (hw.ne (k := 17) (i := 0) (k' := 14) (i' := 0) rfl rfl (by decide))).trans m17
      refine lv_aload_n hx hb dX6_setLimit_30 rfl (lv_at hl 0 rfl) ?_
      refine m_get (ci := 6) (v := .int 2) (C := RX6) (T := TX6) (N := 16) (a := (ad 14 0)) hx hb hts (by decide +kernel) hown hC hM f27_4 rfl 0 (by decide) (hts (.fieldLink RX6 53 "ForwardrollModel" "thrown" "I") (by decide +kernel)) (fun _ h9 => h9) rfl dX6_setLimit_31 ?_
      refine lv_if_le (tgt := 39) hx hb dX6_setLimit_34 (by decide) (fun c_34 => False.elim (by revert c_34; decide)) (fun c_34 => ?_)
      refine lv_iconst (v := 0) hx hb dX6_setLimit_37 (by decide) ?_
      exact (r_i hx hb hr hlocks hS (v := 0) _ (Or.inr (Or.inl ⟨c55 (inb_t c_5), inb_f c_19, w_mth hw 2⟩)) hM (Nat.le_of_ble_eq_true rfl) (Nat.le_of_ble_eq_true rfl) dX6_setLimit_38)
    · refine lv_iconst (v := 0) hx hb dX6_setLimit_22 (by decide) ?_
      refine lv_goto (tgt := 27) hx hb dX6_setLimit_23 (by decide) ?_
      refine m_put (host := "") (ci := 6) (v := .int 0) (ty := .int) (C := RX6) (T := TX6) (N := 16) (a := (ad 14 0)) hx hb hts (by decide +kernel) tyX6 tyX6_ok nmX6 hown hC hM hS m14 rfl 0 (by decide) (hts (.fieldLink RX6 53 "ForwardrollModel" "thrown" "I") (by decide +kernel)) (fun _ h9 => h9) rfl (by decide +kernel) rfl rfl (Nat.le_of_ble_eq_true rfl) dX6_setLimit_27 (fun H locs hM hS => ?_)
      have hM : Hm G (va_up M (ad 14 0) (some (.inr (6, [.int 0, .int (T.1 0 0), .ref (ad 15 0), .ref (ad 16 0), .ref (ad 17 0), .ref (ad 18 0), .int (T.1 5 0), .ref (ad 19 0), .ref (ad 20 0), .ref (ad 21 0), .ref (ad 22 0), .ref (ad 23 0), .ref (ad 24 0), .ref (ad 25 0), .ref (ad 26 0), .ref (ad 27 0)])))) H := hM
      have f27_8 : (va_up M (ad 14 0) (some (.inr (6, [.int 0, .int (T.1 0 0), .ref (ad 15 0), .ref (ad 16 0), .ref (ad 17 0), .ref (ad 18 0), .int (T.1 5 0), .ref (ad 19 0), .ref (ad 20 0), .ref (ad 21 0), .ref (ad 22 0), .ref (ad 23 0), .ref (ad 24 0), .ref (ad 25 0), .ref (ad 26 0), .ref (ad 27 0)])))) (ad 14 0) = some (.inr (6, [.int 0, .int (T.1 0 0), .ref (ad 15 0), .ref (ad 16 0), .ref (ad 17 0), .ref (ad 18 0), .int (T.1 5 0), .ref (ad 19 0), .ref (ad 20 0), .ref (ad 21 0), .ref (ad 22 0), .ref (ad 23 0), .ref (ad 24 0), .ref (ad 25 0), .ref (ad 26 0), .ref (ad 27 0)])) := up_eq
      have f27_9 : (va_up M (ad 14 0) (some (.inr (6, [.int 0, .int (T.1 0 0), .ref (ad 15 0), .ref (ad 16 0), .ref (ad 17 0), .ref (ad 18 0), .int (T.1 5 0), .ref (ad 19 0), .ref (ad 20 0), .ref (ad 21 0), .ref (ad 22 0), .ref (ad 23 0), .ref (ad 24 0), .ref (ad 25 0), .ref (ad 26 0), .ref (ad 27 0)])))) (ad 17 0) = some (.inl (G.2.1 1, 5, .inr (.inl (T.2 2)))) := (up_ne (hw.ne (k := 17) (i := 0) (k' := 14) (i' := 0) rfl rfl (by decide))).trans m17
      refine lv_aload_n hx hb dX6_setLimit_30 rfl (lv_at hl 0 rfl) ?_
      refine m_get (ci := 6) (v := .int 0) (C := RX6) (T := TX6) (N := 16) (a := (ad 14 0)) hx hb hts (by decide +kernel) hown hC hM f27_8 rfl 0 (by decide) (hts (.fieldLink RX6 53 "ForwardrollModel" "thrown" "I") (by decide +kernel)) (fun _ h9 => h9) rfl dX6_setLimit_31 ?_
      refine lv_if_le (tgt := 39) hx hb dX6_setLimit_34 (by decide) (fun c_34 => ?_) (fun c_34 => False.elim (by revert c_34; decide))
      refine lv_aload_n hx hb dX6_setLimit_39 rfl (lv_at hl 0 rfl) ?_
      refine m_get (ci := 6) (v := .ref (ad 17 0)) (C := RX6) (T := TX6) (N := 16) (a := (ad 14 0)) hx hb hts (by decide +kernel) hown hC hM f27_8 rfl 4 (by decide) (hts (.fieldLink RX6 18 "ForwardrollModel" "limit" "[J") (by decide +kernel)) (fun _ h9 => h9) rfl dX6_setLimit_40 ?_
      refine lv_iload_n hx hb dX6_setLimit_43 rfl (lv_at hl 1 rfl) ?_
      refine m_lald (a := (ad 17 0)) hx hb hC hM f27_9 (vin_of 5 (c55 (inb_t c_5)) (by decide)) dX6_setLimit_44 ?_
      refine lv_lstore_n (lv' := [(3, .long ((T.2 2) n.toNatClampNeg)), (0, .ref (ad 14 0)), (1, .int n), (2, .int x)]) hx hb dX6_setLimit_45 rfl hl (by decide) rfl (fun ls hl => ?_)
      refine lv_aload_n hx hb dX6_setLimit_46 rfl (lv_at hl 1 rfl) ?_
      refine m_get (ci := 6) (v := .ref (ad 17 0)) (C := RX6) (T := TX6) (N := 16) (a := (ad 14 0)) hx hb hts (by decide +kernel) hown hC hM f27_8 rfl 4 (by decide) (hts (.fieldLink RX6 18 "ForwardrollModel" "limit" "[J") (by decide +kernel)) (fun _ h9 => h9) rfl dX6_setLimit_47 ?_
      refine lv_iload_n hx hb dX6_setLimit_50 rfl (lv_at hl 2 rfl) ?_
      refine lv_iload_n hx hb dX6_setLimit_51 rfl (lv_at hl 3 rfl) ?_
      refine lv_i2l hx hb dX6_setLimit_52 rfl ?_
      refine m_last (a := (ad 17 0)) hx hb hC hM hS f27_9 (vin_of 5 (c55 (inb_t c_5)) (by decide)) dX6_setLimit_53 (fun H locs hM hS => ?_)
      have hM : Hm G (va_up (va_up M (ad 14 0) (some (.inr (6, [.int 0, .int (T.1 0 0), .ref (ad 15 0), .ref (ad 16 0), .ref (ad 17 0), .ref (ad 18 0), .int (T.1 5 0), .ref (ad 19 0), .ref (ad 20 0), .ref (ad 21 0), .ref (ad 22 0), .ref (ad 23 0), .ref (ad 24 0), .ref (ad 25 0), .ref (ad 26 0), .ref (ad 27 0)])))) (ad 17 0) (some (.inl (G.2.1 1, 5, .inr (.inl (vp_updL (T.2 2) n.toNatClampNeg x.toInt64)))))) H := hM
      have f53_12 : (va_up (va_up M (ad 14 0) (some (.inr (6, [.int 0, .int (T.1 0 0), .ref (ad 15 0), .ref (ad 16 0), .ref (ad 17 0), .ref (ad 18 0), .int (T.1 5 0), .ref (ad 19 0), .ref (ad 20 0), .ref (ad 21 0), .ref (ad 22 0), .ref (ad 23 0), .ref (ad 24 0), .ref (ad 25 0), .ref (ad 26 0), .ref (ad 27 0)])))) (ad 17 0) (some (.inl (G.2.1 1, 5, .inr (.inl (vp_updL (T.2 2) n.toNatClampNeg x.toInt64)))))) (ad 14 0) = some (.inr (6, [.int 0, .int (T.1 0 0), .ref (ad 15 0), .ref (ad 16 0), .ref (ad 17 0), .ref (ad 18 0), .int (T.1 5 0), .ref (ad 19 0), .ref (ad 20 0), .ref (ad 21 0), .ref (ad 22 0), .ref (ad 23 0), .ref (ad 24 0), .ref (ad 25 0), .ref (ad 26 0), .ref (ad 27 0)])) := (up_ne (hw.ne (k := 14) (i := 0) (k' := 17) (i' := 0) rfl rfl (by decide))).trans f27_8
      have f53_13 : (va_up (va_up M (ad 14 0) (some (.inr (6, [.int 0, .int (T.1 0 0), .ref (ad 15 0), .ref (ad 16 0), .ref (ad 17 0), .ref (ad 18 0), .int (T.1 5 0), .ref (ad 19 0), .ref (ad 20 0), .ref (ad 21 0), .ref (ad 22 0), .ref (ad 23 0), .ref (ad 24 0), .ref (ad 25 0), .ref (ad 26 0), .ref (ad 27 0)])))) (ad 17 0) (some (.inl (G.2.1 1, 5, .inr (.inl (vp_updL (T.2 2) n.toNatClampNeg x.toInt64)))))) (ad 17 0) = some (.inl (G.2.1 1, 5, .inr (.inl (vp_updL (T.2 2) n.toNatClampNeg x.toInt64)))) := up_eq
      refine lv_lload_n hx hb dX6_setLimit_54 rfl (lv_at hl 0 rfl) ?_
      refine lv_l2i hx hb dX6_setLimit_55 rfl ?_
      exact (r_i hx hb hr hlocks hS (v := ((T.2 2) n.toNatClampNeg).toInt32) _ (Or.inr (Or.inr ⟨c55 (inb_t c_5), inb_t c_19, rfl, w_mlim (w_mth hw 0) _ _⟩)) hM (Nat.le_of_ble_eq_true rfl) (Nat.le_of_ble_eq_true rfl) dX6_setLimit_56)
  · refine lv_iconst (v := 1) hx hb dX6_setLimit_8 (by decide) ?_
    refine lv_goto (tgt := 27) hx hb dX6_setLimit_9 (by decide) ?_
    refine m_put (host := "") (ci := 6) (v := .int 1) (ty := .int) (C := RX6) (T := TX6) (N := 16) (a := (ad 14 0)) hx hb hts (by decide +kernel) tyX6 tyX6_ok nmX6 hown hC hM hS m14 rfl 0 (by decide) (hts (.fieldLink RX6 53 "ForwardrollModel" "thrown" "I") (by decide +kernel)) (fun _ h9 => h9) rfl (by decide +kernel) rfl rfl (Nat.le_of_ble_eq_true rfl) dX6_setLimit_27 (fun H locs hM hS => ?_)
    have hM : Hm G (va_up M (ad 14 0) (some (.inr (6, [.int 1, .int (T.1 0 0), .ref (ad 15 0), .ref (ad 16 0), .ref (ad 17 0), .ref (ad 18 0), .int (T.1 5 0), .ref (ad 19 0), .ref (ad 20 0), .ref (ad 21 0), .ref (ad 22 0), .ref (ad 23 0), .ref (ad 24 0), .ref (ad 25 0), .ref (ad 26 0), .ref (ad 27 0)])))) H := hM
    have f27_15 : (va_up M (ad 14 0) (some (.inr (6, [.int 1, .int (T.1 0 0), .ref (ad 15 0), .ref (ad 16 0), .ref (ad 17 0), .ref (ad 18 0), .int (T.1 5 0), .ref (ad 19 0), .ref (ad 20 0), .ref (ad 21 0), .ref (ad 22 0), .ref (ad 23 0), .ref (ad 24 0), .ref (ad 25 0), .ref (ad 26 0), .ref (ad 27 0)])))) (ad 14 0) = some (.inr (6, [.int 1, .int (T.1 0 0), .ref (ad 15 0), .ref (ad 16 0), .ref (ad 17 0), .ref (ad 18 0), .int (T.1 5 0), .ref (ad 19 0), .ref (ad 20 0), .ref (ad 21 0), .ref (ad 22 0), .ref (ad 23 0), .ref (ad 24 0), .ref (ad 25 0), .ref (ad 26 0), .ref (ad 27 0)])) := up_eq
    have f27_16 : (va_up M (ad 14 0) (some (.inr (6, [.int 1, .int (T.1 0 0), .ref (ad 15 0), .ref (ad 16 0), .ref (ad 17 0), .ref (ad 18 0), .int (T.1 5 0), .ref (ad 19 0), .ref (ad 20 0), .ref (ad 21 0), .ref (ad 22 0), .ref (ad 23 0), .ref (ad 24 0), .ref (ad 25 0), .ref (ad 26 0), .ref (ad 27 0)])))) (ad 17 0) = some (.inl (G.2.1 1, 5, .inr (.inl (T.2 2)))) := (up_ne (hw.ne (k := 17) (i := 0) (k' := 14) (i' := 0) rfl rfl (by decide))).trans m17
    refine lv_aload_n hx hb dX6_setLimit_30 rfl (lv_at hl 0 rfl) ?_
    refine m_get (ci := 6) (v := .int 1) (C := RX6) (T := TX6) (N := 16) (a := (ad 14 0)) hx hb hts (by decide +kernel) hown hC hM f27_15 rfl 0 (by decide) (hts (.fieldLink RX6 53 "ForwardrollModel" "thrown" "I") (by decide +kernel)) (fun _ h9 => h9) rfl dX6_setLimit_31 ?_
    refine lv_if_le (tgt := 39) hx hb dX6_setLimit_34 (by decide) (fun c_34 => False.elim (by revert c_34; decide)) (fun c_34 => ?_)
    refine lv_iconst (v := 0) hx hb dX6_setLimit_37 (by decide) ?_
    exact (r_i hx hb hr hlocks hS (v := 0) _ (Or.inl ⟨fun z => inb_f c_5 (c54 z), w_mth hw 1⟩) hM (Nat.le_of_ble_eq_true rfl) (Nat.le_of_ble_eq_true rfl) dX6_setLimit_38)
set_option maxHeartbeats 4000000 in
set_option maxRecDepth 100000 in
theorem c_X6_toggleHoliday (l : Launch) (G : Gx) (M : Mp) (S T : Sd) (th : Int32) (o : Int64) (ex : Nat → Option (Nat × Nat)) (ad : Nat → Nat → Nat) (x : Int32) (hw : WA G S T th o ex ad M) : Met l yX6_toggleHoliday wsX6_toggleHoliday ({ frames := 1, cells := 0, slots := 0, locals := 22 }) (Cv G M [.ref (ad 14 0), .int x]) (va_Qi (S := Mp) (fun r M2 => (¬ (1 ≤ x ∧ x ≤ 1000) ∧ WA G S T 1 o ex ad M2) ∨ ((1 ≤ x ∧ x ≤ 1000) ∧ ¬ T.1 0 0 < x ∧ WA G S T 2 o ex ad M2) ∨ ((1 ≤ x ∧ x ≤ 1000) ∧ T.1 0 0 < x ∧ r = tg (T.1 4 x.toNatClampNeg) ∧ WA G S (u2 T.1 4 x.toNatClampNeg (tg (T.1 4 x.toNatClampNeg)), T.2) 0 o ex ad M2)) (Bm G (fun M2 => M2)) (AG G)) (0) (0) (AG G) := by
  refine m_met [.ref (ad 14 0), .int x] [(0, .ref (ad 14 0)), (1, .int x)] (by decide) rfl rfl (Nat.le_of_ble_eq_true rfl) ?_
  intro p e s m below meth c ls hx hb hr hml hown hts hlocks hin hC hM hl hS
  have m14 : M (ad 14 0) = some (.inr (6, [.int th, .int (T.1 0 0), .ref (ad 15 0), .ref (ad 16 0), .ref (ad 17 0), .ref (ad 18 0), .int (T.1 5 0), .ref (ad 19 0), .ref (ad 20 0), .ref (ad 21 0), .ref (ad 22 0), .ref (ad 23 0), .ref (ad 24 0), .ref (ad 25 0), .ref (ad 26 0), .ref (ad 27 0)])) := hw.1 14 0 _ rfl
  have m18 : M (ad 18 0) = some (.inl (G.2.1 2, 1001, .inl (T.1 4))) := hw.1 18 0 _ rfl
  refine lv_aload_n hx hb dX6_toggleHoliday_0 rfl (lv_at hl 0 rfl) ?_
  refine lv_iload_n hx hb dX6_toggleHoliday_1 rfl (lv_at hl 1 rfl) ?_
  refine lv_iconst (v := 1) hx hb dX6_toggleHoliday_2 (by decide) ?_
  refine lv_sipush (v := 1000) hx hb dX6_toggleHoliday_3 (by decide) ?_
  refine k_i (va_runS (As := [.int x, .int 1, .int 1000]) (rest := [.ref (ad 14 0)]) ⟨hx, hb, hml, hown, hts⟩ (c_X6_in l G M x (1 : Int32) (1000 : Int32)) (va_cwS 3 hts gX6_toggleHoliday_X6_in rfl rfl rfl (by decide +kernel) ⟨Nat.le_of_ble_eq_true rfl, Nat.le_of_ble_eq_true rfl⟩) (preS_of hC hS hM) rfl rfl hl.1 rfl (lv_room (Nat.le_of_ble_eq_true rfl)) dX6_toggleHoliday_6 ⟨Nat.le_of_ble_eq_true rfl, Nat.le_of_ble_eq_true rfl⟩) hS (fun r6 u6 H locs hp6 hM hS => ?_)
  have hM : Hm G M H := hM
  have hp6 : r6 = inb x (1 : Int32) (1000 : Int32) := hp6
  subst hp6
  refine lv_if_ne (tgt := 16) hx hb dX6_toggleHoliday_9 (by decide) (fun c_9 => ?_) (fun c_9 => ?_)
  · refine lv_iload_n hx hb dX6_toggleHoliday_16 rfl (lv_at hl 1 rfl) ?_
    refine lv_aload_n hx hb dX6_toggleHoliday_17 rfl (lv_at hl 0 rfl) ?_
    refine m_get (ci := 6) (v := .int (T.1 0 0)) (C := RX6) (T := TX6) (N := 16) (a := (ad 14 0)) hx hb hts (by decide +kernel) hown hC hM m14 rfl 1 (by decide) (hts (.fieldLink RX6 64 "ForwardrollModel" "today" "I") (by decide +kernel)) (fun _ h9 => h9) rfl dX6_toggleHoliday_18 ?_
    refine lv_icmp_le (tgt := 28) hx hb dX6_toggleHoliday_21 (by decide) (fun c_21 => ?_) (fun c_21 => ?_)
    · refine lv_iconst (v := 2) hx hb dX6_toggleHoliday_28 (by decide) ?_
      refine m_put (host := "") (ci := 6) (v := .int 2) (ty := .int) (C := RX6) (T := TX6) (N := 16) (a := (ad 14 0)) hx hb hts (by decide +kernel) tyX6 tyX6_ok nmX6 hown hC hM hS m14 rfl 0 (by decide) (hts (.fieldLink RX6 53 "ForwardrollModel" "thrown" "I") (by decide +kernel)) (fun _ h9 => h9) rfl (by decide +kernel) rfl rfl (Nat.le_of_ble_eq_true rfl) dX6_toggleHoliday_29 (fun H locs hM hS => ?_)
      have hM : Hm G (va_up M (ad 14 0) (some (.inr (6, [.int 2, .int (T.1 0 0), .ref (ad 15 0), .ref (ad 16 0), .ref (ad 17 0), .ref (ad 18 0), .int (T.1 5 0), .ref (ad 19 0), .ref (ad 20 0), .ref (ad 21 0), .ref (ad 22 0), .ref (ad 23 0), .ref (ad 24 0), .ref (ad 25 0), .ref (ad 26 0), .ref (ad 27 0)])))) H := hM
      have f29_4 : (va_up M (ad 14 0) (some (.inr (6, [.int 2, .int (T.1 0 0), .ref (ad 15 0), .ref (ad 16 0), .ref (ad 17 0), .ref (ad 18 0), .int (T.1 5 0), .ref (ad 19 0), .ref (ad 20 0), .ref (ad 21 0), .ref (ad 22 0), .ref (ad 23 0), .ref (ad 24 0), .ref (ad 25 0), .ref (ad 26 0), .ref (ad 27 0)])))) (ad 14 0) = some (.inr (6, [.int 2, .int (T.1 0 0), .ref (ad 15 0), .ref (ad 16 0), .ref (ad 17 0), .ref (ad 18 0), .int (T.1 5 0), .ref (ad 19 0), .ref (ad 20 0), .ref (ad 21 0), .ref (ad 22 0), .ref (ad 23 0), .ref (ad 24 0), .ref (ad 25 0), .ref (ad 26 0), .ref (ad 27 0)])) := up_eq
      have f29_5 : (va_up M (ad 14 0) (some (.inr (6, [.int 2, .int (T.1 0 0), .ref (ad 15 0), .ref (ad 16 0), .ref (ad 17 0), .ref (ad 18 0), .int (T.1 5 0), .ref (ad 19 0), .ref (ad 20 0), .ref (ad 21 0), .ref (ad 22 0), .ref (ad 23 0), .ref (ad 24 0), .ref (ad 25 0), .ref (ad 26 0), .ref (ad 27 0)])))) (ad 18 0) = some (.inl (G.2.1 2, 1001, .inl (T.1 4))) := (up_ne (hw.ne (k := 18) (i := 0) (k' := 14) (i' := 0) rfl rfl (by decide))).trans m18
      refine lv_aload_n hx hb dX6_toggleHoliday_32 rfl (lv_at hl 0 rfl) ?_
      refine m_get (ci := 6) (v := .int 2) (C := RX6) (T := TX6) (N := 16) (a := (ad 14 0)) hx hb hts (by decide +kernel) hown hC hM f29_4 rfl 0 (by decide) (hts (.fieldLink RX6 53 "ForwardrollModel" "thrown" "I") (by decide +kernel)) (fun _ h9 => h9) rfl dX6_toggleHoliday_33 ?_
      refine lv_if_le (tgt := 41) hx hb dX6_toggleHoliday_36 (by decide) (fun c_36 => False.elim (by revert c_36; decide)) (fun c_36 => ?_)
      refine lv_iconst (v := 0) hx hb dX6_toggleHoliday_39 (by decide) ?_
      exact (r_z hx hb hr hlocks hS (v := 0) (by simp) _ (Or.inr (Or.inl ⟨inb_t c_9, Int32.not_lt.mpr c_21, w_mth hw 2⟩)) hM (Nat.le_of_ble_eq_true rfl) (Nat.le_of_ble_eq_true rfl) dX6_toggleHoliday_40)
    · refine lv_iconst (v := 0) hx hb dX6_toggleHoliday_24 (by decide) ?_
      refine lv_goto (tgt := 29) hx hb dX6_toggleHoliday_25 (by decide) ?_
      refine m_put (host := "") (ci := 6) (v := .int 0) (ty := .int) (C := RX6) (T := TX6) (N := 16) (a := (ad 14 0)) hx hb hts (by decide +kernel) tyX6 tyX6_ok nmX6 hown hC hM hS m14 rfl 0 (by decide) (hts (.fieldLink RX6 53 "ForwardrollModel" "thrown" "I") (by decide +kernel)) (fun _ h9 => h9) rfl (by decide +kernel) rfl rfl (Nat.le_of_ble_eq_true rfl) dX6_toggleHoliday_29 (fun H locs hM hS => ?_)
      have hM : Hm G (va_up M (ad 14 0) (some (.inr (6, [.int 0, .int (T.1 0 0), .ref (ad 15 0), .ref (ad 16 0), .ref (ad 17 0), .ref (ad 18 0), .int (T.1 5 0), .ref (ad 19 0), .ref (ad 20 0), .ref (ad 21 0), .ref (ad 22 0), .ref (ad 23 0), .ref (ad 24 0), .ref (ad 25 0), .ref (ad 26 0), .ref (ad 27 0)])))) H := hM
      have f29_8 : (va_up M (ad 14 0) (some (.inr (6, [.int 0, .int (T.1 0 0), .ref (ad 15 0), .ref (ad 16 0), .ref (ad 17 0), .ref (ad 18 0), .int (T.1 5 0), .ref (ad 19 0), .ref (ad 20 0), .ref (ad 21 0), .ref (ad 22 0), .ref (ad 23 0), .ref (ad 24 0), .ref (ad 25 0), .ref (ad 26 0), .ref (ad 27 0)])))) (ad 14 0) = some (.inr (6, [.int 0, .int (T.1 0 0), .ref (ad 15 0), .ref (ad 16 0), .ref (ad 17 0), .ref (ad 18 0), .int (T.1 5 0), .ref (ad 19 0), .ref (ad 20 0), .ref (ad 21 0), .ref (ad 22 0), .ref (ad 23 0), .ref (ad 24 0), .ref (ad 25 0), .ref (ad 26 0), .ref (ad 27 0)])) := up_eq
      have f29_9 : (va_up M (ad 14 0) (some (.inr (6, [.int 0, .int (T.1 0 0), .ref (ad 15 0), .ref (ad 16 0), .ref (ad 17 0), .ref (ad 18 0), .int (T.1 5 0), .ref (ad 19 0), .ref (ad 20 0), .ref (ad 21 0), .ref (ad 22 0), .ref (ad 23 0), .ref (ad 24 0), .ref (ad 25 0), .ref (ad 26 0), .ref (ad 27 0)])))) (ad 18 0) = some (.inl (G.2.1 2, 1001, .inl (T.1 4))) := (up_ne (hw.ne (k := 18) (i := 0) (k' := 14) (i' := 0) rfl rfl (by decide))).trans m18
      refine lv_aload_n hx hb dX6_toggleHoliday_32 rfl (lv_at hl 0 rfl) ?_
      refine m_get (ci := 6) (v := .int 0) (C := RX6) (T := TX6) (N := 16) (a := (ad 14 0)) hx hb hts (by decide +kernel) hown hC hM f29_8 rfl 0 (by decide) (hts (.fieldLink RX6 53 "ForwardrollModel" "thrown" "I") (by decide +kernel)) (fun _ h9 => h9) rfl dX6_toggleHoliday_33 ?_
      refine lv_if_le (tgt := 41) hx hb dX6_toggleHoliday_36 (by decide) (fun c_36 => ?_) (fun c_36 => False.elim (by revert c_36; decide))
      refine lv_aload_n hx hb dX6_toggleHoliday_41 rfl (lv_at hl 0 rfl) ?_
      refine m_get (ci := 6) (v := .ref (ad 18 0)) (C := RX6) (T := TX6) (N := 16) (a := (ad 14 0)) hx hb hts (by decide +kernel) hown hC hM f29_8 rfl 5 (by decide) (hts (.fieldLink RX6 22 "ForwardrollModel" "isHoliday" "[Z") (by decide +kernel)) (fun _ h9 => h9) rfl dX6_toggleHoliday_42 ?_
      refine lv_iload_n hx hb dX6_toggleHoliday_45 rfl (lv_at hl 1 rfl) ?_
      refine lv_aload_n hx hb dX6_toggleHoliday_46 rfl (lv_at hl 0 rfl) ?_
      refine m_get (ci := 6) (v := .ref (ad 18 0)) (C := RX6) (T := TX6) (N := 16) (a := (ad 14 0)) hx hb hts (by decide +kernel) hown hC hM f29_8 rfl 5 (by decide) (hts (.fieldLink RX6 22 "ForwardrollModel" "isHoliday" "[Z") (by decide +kernel)) (fun _ h9 => h9) rfl dX6_toggleHoliday_47 ?_
      refine lv_iload_n hx hb dX6_toggleHoliday_50 rfl (lv_at hl 1 rfl) ?_
      refine m_zald (a := (ad 18 0)) hx hb hC hM f29_9 (vin_of 1001 (tog_in (inb_t c_9)) (by decide)) dX6_toggleHoliday_51 ?_
      refine lv_if_ne (tgt := 59) hx hb dX6_toggleHoliday_52 (by decide) (fun c_52 => ?_) (fun c_52 => ?_)
      · refine lv_iconst (v := 0) hx hb dX6_toggleHoliday_59 (by decide) ?_
        refine m_zast (a := (ad 18 0)) hx hb hC hM hS f29_9 (vin_of 1001 (tog_in (inb_t c_9)) (by decide)) dX6_toggleHoliday_60 (fun H locs hM hS => ?_)
        have hM : Hm G (va_up (va_up M (ad 14 0) (some (.inr (6, [.int 0, .int (T.1 0 0), .ref (ad 15 0), .ref (ad 16 0), .ref (ad 17 0), .ref (ad 18 0), .int (T.1 5 0), .ref (ad 19 0), .ref (ad 20 0), .ref (ad 21 0), .ref (ad 22 0), .ref (ad 23 0), .ref (ad 24 0), .ref (ad 25 0), .ref (ad 26 0), .ref (ad 27 0)])))) (ad 18 0) (some (.inl (G.2.1 2, 1001, .inl (upd (T.1 4) x.toNatClampNeg (vp_nar .boolean 0)))))) H := hM
        have f60_13 : (va_up (va_up M (ad 14 0) (some (.inr (6, [.int 0, .int (T.1 0 0), .ref (ad 15 0), .ref (ad 16 0), .ref (ad 17 0), .ref (ad 18 0), .int (T.1 5 0), .ref (ad 19 0), .ref (ad 20 0), .ref (ad 21 0), .ref (ad 22 0), .ref (ad 23 0), .ref (ad 24 0), .ref (ad 25 0), .ref (ad 26 0), .ref (ad 27 0)])))) (ad 18 0) (some (.inl (G.2.1 2, 1001, .inl (upd (T.1 4) x.toNatClampNeg (vp_nar .boolean 0)))))) (ad 14 0) = some (.inr (6, [.int 0, .int (T.1 0 0), .ref (ad 15 0), .ref (ad 16 0), .ref (ad 17 0), .ref (ad 18 0), .int (T.1 5 0), .ref (ad 19 0), .ref (ad 20 0), .ref (ad 21 0), .ref (ad 22 0), .ref (ad 23 0), .ref (ad 24 0), .ref (ad 25 0), .ref (ad 26 0), .ref (ad 27 0)])) := (up_ne (hw.ne (k := 14) (i := 0) (k' := 18) (i' := 0) rfl rfl (by decide))).trans f29_8
        have f60_14 : (va_up (va_up M (ad 14 0) (some (.inr (6, [.int 0, .int (T.1 0 0), .ref (ad 15 0), .ref (ad 16 0), .ref (ad 17 0), .ref (ad 18 0), .int (T.1 5 0), .ref (ad 19 0), .ref (ad 20 0), .ref (ad 21 0), .ref (ad 22 0), .ref (ad 23 0), .ref (ad 24 0), .ref (ad 25 0), .ref (ad 26 0), .ref (ad 27 0)])))) (ad 18 0) (some (.inl (G.2.1 2, 1001, .inl (upd (T.1 4) x.toNatClampNeg (vp_nar .boolean 0)))))) (ad 18 0) = some (.inl (G.2.1 2, 1001, .inl (upd (T.1 4) x.toNatClampNeg (vp_nar .boolean 0)))) := up_eq
        refine lv_aload_n hx hb dX6_toggleHoliday_61 rfl (lv_at hl 0 rfl) ?_
        refine m_get (ci := 6) (v := .ref (ad 18 0)) (C := RX6) (T := TX6) (N := 16) (a := (ad 14 0)) hx hb hts (by decide +kernel) hown hC hM f60_13 rfl 5 (by decide) (hts (.fieldLink RX6 22 "ForwardrollModel" "isHoliday" "[Z") (by decide +kernel)) (fun _ h9 => h9) rfl dX6_toggleHoliday_62 ?_
        refine lv_iload_n hx hb dX6_toggleHoliday_65 rfl (lv_at hl 1 rfl) ?_
        refine m_zald (a := (ad 18 0)) hx hb hC hM f60_14 (vin_of 1001 (tog_in (inb_t c_9)) (by decide)) dX6_toggleHoliday_66 ?_
        have ht9 : tg (T.1 4 x.toNatClampNeg) = 0 := by unfold tg; rw [if_neg c_52]
        have hw9 := w_mhol (w_mth hw 0) x.toNatClampNeg (vp_nar .boolean 0)
        exact (r_z hx hb hr hlocks hS (v := ((upd (T.1 4) x.toNatClampNeg (vp_nar .boolean 0)) x.toNatClampNeg)) (by rw [pk_us]; decide) _ (Or.inr (Or.inr ⟨inb_t c_9, Int32.not_le.mp c_21, (by rw [ht9, pk_us]; decide), (by rw [ht9]; exact hw9)⟩)) hM (Nat.le_of_ble_eq_true rfl) (Nat.le_of_ble_eq_true rfl) dX6_toggleHoliday_67)
      · refine lv_iconst (v := 1) hx hb dX6_toggleHoliday_55 (by decide) ?_
        refine lv_goto (tgt := 60) hx hb dX6_toggleHoliday_56 (by decide) ?_
        refine m_zast (a := (ad 18 0)) hx hb hC hM hS f29_9 (vin_of 1001 (tog_in (inb_t c_9)) (by decide)) dX6_toggleHoliday_60 (fun H locs hM hS => ?_)
        have hM : Hm G (va_up (va_up M (ad 14 0) (some (.inr (6, [.int 0, .int (T.1 0 0), .ref (ad 15 0), .ref (ad 16 0), .ref (ad 17 0), .ref (ad 18 0), .int (T.1 5 0), .ref (ad 19 0), .ref (ad 20 0), .ref (ad 21 0), .ref (ad 22 0), .ref (ad 23 0), .ref (ad 24 0), .ref (ad 25 0), .ref (ad 26 0), .ref (ad 27 0)])))) (ad 18 0) (some (.inl (G.2.1 2, 1001, .inl (upd (T.1 4) x.toNatClampNeg (vp_nar .boolean 1)))))) H := hM
        have f60_16 : (va_up (va_up M (ad 14 0) (some (.inr (6, [.int 0, .int (T.1 0 0), .ref (ad 15 0), .ref (ad 16 0), .ref (ad 17 0), .ref (ad 18 0), .int (T.1 5 0), .ref (ad 19 0), .ref (ad 20 0), .ref (ad 21 0), .ref (ad 22 0), .ref (ad 23 0), .ref (ad 24 0), .ref (ad 25 0), .ref (ad 26 0), .ref (ad 27 0)])))) (ad 18 0) (some (.inl (G.2.1 2, 1001, .inl (upd (T.1 4) x.toNatClampNeg (vp_nar .boolean 1)))))) (ad 14 0) = some (.inr (6, [.int 0, .int (T.1 0 0), .ref (ad 15 0), .ref (ad 16 0), .ref (ad 17 0), .ref (ad 18 0), .int (T.1 5 0), .ref (ad 19 0), .ref (ad 20 0), .ref (ad 21 0), .ref (ad 22 0), .ref (ad 23 0), .ref (ad 24 0), .ref (ad 25 0), .ref (ad 26 0), .ref (ad 27 0)])) := (up_ne (hw.ne (k := 14) (i := 0) (k' := 18) (i' := 0) rfl rfl (by decide))).trans f29_8
        have f60_17 : (va_up (va_up M (ad 14 0) (some (.inr (6, [.int 0, .int (T.1 0 0), .ref (ad 15 0), .ref (ad 16 0), .ref (ad 17 0), .ref (ad 18 0), .int (T.1 5 0), .ref (ad 19 0), .ref (ad 20 0), .ref (ad 21 0), .ref (ad 22 0), .ref (ad 23 0), .ref (ad 24 0), .ref (ad 25 0), .ref (ad 26 0), .ref (ad 27 0)])))) (ad 18 0) (some (.inl (G.2.1 2, 1001, .inl (upd (T.1 4) x.toNatClampNeg (vp_nar .boolean 1)))))) (ad 18 0) = some (.inl (G.2.1 2, 1001, .inl (upd (T.1 4) x.toNatClampNeg (vp_nar .boolean 1)))) := up_eq
        refine lv_aload_n hx hb dX6_toggleHoliday_61 rfl (lv_at hl 0 rfl) ?_
        refine m_get (ci := 6) (v := .ref (ad 18 0)) (C := RX6) (T := TX6) (N := 16) (a := (ad 14 0)) hx hb hts (by decide +kernel) hown hC hM f60_16 rfl 5 (by decide) (hts (.fieldLink RX6 22 "ForwardrollModel" "isHoliday" "[Z") (by decide +kernel)) (fun _ h9 => h9) rfl dX6_toggleHoliday_62 ?_
        refine lv_iload_n hx hb dX6_toggleHoliday_65 rfl (lv_at hl 1 rfl) ?_
        refine m_zald (a := (ad 18 0)) hx hb hC hM f60_17 (vin_of 1001 (tog_in (inb_t c_9)) (by decide)) dX6_toggleHoliday_66 ?_
        have ht9 : tg (T.1 4 x.toNatClampNeg) = 1 := by unfold tg; rw [if_pos c_52]
        have hw9 := w_mhol (w_mth hw 0) x.toNatClampNeg (vp_nar .boolean 1)
        exact (r_z hx hb hr hlocks hS (v := ((upd (T.1 4) x.toNatClampNeg (vp_nar .boolean 1)) x.toNatClampNeg)) (by rw [pk_us]; decide) _ (Or.inr (Or.inr ⟨inb_t c_9, Int32.not_le.mp c_21, (by rw [ht9, pk_us]; decide), (by rw [ht9]; exact hw9)⟩)) hM (Nat.le_of_ble_eq_true rfl) (Nat.le_of_ble_eq_true rfl) dX6_toggleHoliday_67)
  · refine lv_iconst (v := 1) hx hb dX6_toggleHoliday_12 (by decide) ?_
    refine lv_goto (tgt := 29) hx hb dX6_toggleHoliday_13 (by decide) ?_
    refine m_put (host := "") (ci := 6) (v := .int 1) (ty := .int) (C := RX6) (T := TX6) (N := 16) (a := (ad 14 0)) hx hb hts (by decide +kernel) tyX6 tyX6_ok nmX6 hown hC hM hS m14 rfl 0 (by decide) (hts (.fieldLink RX6 53 "ForwardrollModel" "thrown" "I") (by decide +kernel)) (fun _ h9 => h9) rfl (by decide +kernel) rfl rfl (Nat.le_of_ble_eq_true rfl) dX6_toggleHoliday_29 (fun H locs hM hS => ?_)
    have hM : Hm G (va_up M (ad 14 0) (some (.inr (6, [.int 1, .int (T.1 0 0), .ref (ad 15 0), .ref (ad 16 0), .ref (ad 17 0), .ref (ad 18 0), .int (T.1 5 0), .ref (ad 19 0), .ref (ad 20 0), .ref (ad 21 0), .ref (ad 22 0), .ref (ad 23 0), .ref (ad 24 0), .ref (ad 25 0), .ref (ad 26 0), .ref (ad 27 0)])))) H := hM
    have f29_19 : (va_up M (ad 14 0) (some (.inr (6, [.int 1, .int (T.1 0 0), .ref (ad 15 0), .ref (ad 16 0), .ref (ad 17 0), .ref (ad 18 0), .int (T.1 5 0), .ref (ad 19 0), .ref (ad 20 0), .ref (ad 21 0), .ref (ad 22 0), .ref (ad 23 0), .ref (ad 24 0), .ref (ad 25 0), .ref (ad 26 0), .ref (ad 27 0)])))) (ad 14 0) = some (.inr (6, [.int 1, .int (T.1 0 0), .ref (ad 15 0), .ref (ad 16 0), .ref (ad 17 0), .ref (ad 18 0), .int (T.1 5 0), .ref (ad 19 0), .ref (ad 20 0), .ref (ad 21 0), .ref (ad 22 0), .ref (ad 23 0), .ref (ad 24 0), .ref (ad 25 0), .ref (ad 26 0), .ref (ad 27 0)])) := up_eq
    have f29_20 : (va_up M (ad 14 0) (some (.inr (6, [.int 1, .int (T.1 0 0), .ref (ad 15 0), .ref (ad 16 0), .ref (ad 17 0), .ref (ad 18 0), .int (T.1 5 0), .ref (ad 19 0), .ref (ad 20 0), .ref (ad 21 0), .ref (ad 22 0), .ref (ad 23 0), .ref (ad 24 0), .ref (ad 25 0), .ref (ad 26 0), .ref (ad 27 0)])))) (ad 18 0) = some (.inl (G.2.1 2, 1001, .inl (T.1 4))) := (up_ne (hw.ne (k := 18) (i := 0) (k' := 14) (i' := 0) rfl rfl (by decide))).trans m18
    refine lv_aload_n hx hb dX6_toggleHoliday_32 rfl (lv_at hl 0 rfl) ?_
    refine m_get (ci := 6) (v := .int 1) (C := RX6) (T := TX6) (N := 16) (a := (ad 14 0)) hx hb hts (by decide +kernel) hown hC hM f29_19 rfl 0 (by decide) (hts (.fieldLink RX6 53 "ForwardrollModel" "thrown" "I") (by decide +kernel)) (fun _ h9 => h9) rfl dX6_toggleHoliday_33 ?_
    refine lv_if_le (tgt := 41) hx hb dX6_toggleHoliday_36 (by decide) (fun c_36 => False.elim (by revert c_36; decide)) (fun c_36 => ?_)
    refine lv_iconst (v := 0) hx hb dX6_toggleHoliday_39 (by decide) ?_
    exact (r_z hx hb hr hlocks hS (v := 0) (by simp) _ (Or.inl ⟨fun z => inb_f c_9 z, w_mth hw 1⟩) hM (Nat.le_of_ble_eq_true rfl) (Nat.le_of_ble_eq_true rfl) dX6_toggleHoliday_40)
set_option maxHeartbeats 4000000 in
set_option maxRecDepth 100000 in
theorem c_X6_forward (l : Launch) (G : Gx) (M : Mp) (S T : Sd) (th : Int32) (o : Int64) (ex : Nat → Option (Nat × Nat)) (ad : Nat → Nat → Nat) (n x : Int32) (hw : WA G S T th o ex ad M) : Met l yX6_forward wsX6_forward ({ frames := 2, cells := 0, slots := 0, locals := 42 }) (Cv G M [.ref (ad 14 0), .int n, .int x]) (va_Qi (S := Mp) (fun r M2 => (¬ (0 ≤ n ∧ n < 4) ∧ WA G S T 1 o ex ad M2) ∨ ((0 ≤ n ∧ n < 4) ∧ ¬ (0 ≤ x ∧ x ≤ 400) ∧ WA G S T 2 o ex ad M2) ∨ ((0 ≤ n ∧ n < 4) ∧ (0 ≤ x ∧ x ≤ 400) ∧ r = al1 (T.1 1 n.toNatClampNeg + T.1 2 n.toNatClampNeg * x) ∧ WA G S T 0 o ex ad M2)) (Bm G (fun M2 => M2)) (AG G)) (0) (0) (AG G) := by
  refine m_met [.ref (ad 14 0), .int n, .int x] [(0, .ref (ad 14 0)), (1, .int n), (2, .int x)] (by decide) rfl rfl (Nat.le_of_ble_eq_true rfl) ?_
  intro p e s m below meth c ls hx hb hr hml hown hts hlocks hin hC hM hl hS
  have m14 : M (ad 14 0) = some (.inr (6, [.int th, .int (T.1 0 0), .ref (ad 15 0), .ref (ad 16 0), .ref (ad 17 0), .ref (ad 18 0), .int (T.1 5 0), .ref (ad 19 0), .ref (ad 20 0), .ref (ad 21 0), .ref (ad 22 0), .ref (ad 23 0), .ref (ad 24 0), .ref (ad 25 0), .ref (ad 26 0), .ref (ad 27 0)])) := hw.1 14 0 _ rfl
  refine lv_aload_n hx hb dX6_forward_0 rfl (lv_at hl 0 rfl) ?_
  refine lv_iload_n hx hb dX6_forward_1 rfl (lv_at hl 1 rfl) ?_
  refine k_i (va_runS (As := [.int n]) (rest := [.ref (ad 14 0)]) ⟨hx, hb, hml, hown, hts⟩ (c_X6_isCurrency l G M n) (va_cwS 1 hts gX6_forward_X6_isCurrency rfl rfl rfl (by decide +kernel) ⟨Nat.le_of_ble_eq_true rfl, Nat.le_of_ble_eq_true rfl⟩) (preS_of hC hS hM) rfl rfl hl.1 rfl (lv_room (Nat.le_of_ble_eq_true rfl)) dX6_forward_2 ⟨Nat.le_of_ble_eq_true rfl, Nat.le_of_ble_eq_true rfl⟩) hS (fun r2 u2 H locs hp2 hM hS => ?_)
  have hM : Hm G M H := hM
  have hp2 : r2 = inb n 0 3 := hp2
  subst hp2
  refine lv_if_ne (tgt := 12) hx hb dX6_forward_5 (by decide) (fun c_5 => ?_) (fun c_5 => ?_)
  · refine lv_iload_n hx hb dX6_forward_12 rfl (lv_at hl 2 rfl) ?_
    refine lv_iconst (v := 0) hx hb dX6_forward_13 (by decide) ?_
    refine lv_sipush (v := 400) hx hb dX6_forward_14 (by decide) ?_
    refine k_i (va_runS (As := [.int x, .int 0, .int 400]) (rest := [.ref (ad 14 0)]) ⟨hx, hb, hml, hown, hts⟩ (c_X6_in l G M x (0 : Int32) (400 : Int32)) (va_cwS 3 hts gX6_forward_X6_in rfl rfl rfl (by decide +kernel) ⟨Nat.le_of_ble_eq_true rfl, Nat.le_of_ble_eq_true rfl⟩) (preS_of hC hS hM) rfl rfl hl.1 rfl (lv_room (Nat.le_of_ble_eq_true rfl)) dX6_forward_17 ⟨Nat.le_of_ble_eq_true rfl, Nat.le_of_ble_eq_true rfl⟩) hS (fun r17 u17 H locs hp17 hM hS => ?_)
    have hM : Hm G M H := hM
    have hp17 : r17 = inb x (0 : Int32) (400 : Int32) := hp17
    subst hp17
    refine lv_if_eq (tgt := 27) hx hb dX6_forward_20 (by decide) (fun c_20 => ?_) (fun c_20 => ?_)
    · refine lv_iconst (v := 2) hx hb dX6_forward_27 (by decide) ?_
      refine m_put (host := "") (ci := 6) (v := .int 2) (ty := .int) (C := RX6) (T := TX6) (N := 16) (a := (ad 14 0)) hx hb hts (by decide +kernel) tyX6 tyX6_ok nmX6 hown hC hM hS m14 rfl 0 (by decide) (hts (.fieldLink RX6 53 "ForwardrollModel" "thrown" "I") (by decide +kernel)) (fun _ h9 => h9) rfl (by decide +kernel) rfl rfl (Nat.le_of_ble_eq_true rfl) dX6_forward_28 (fun H locs hM hS => ?_)
      have hM : Hm G (va_up M (ad 14 0) (some (.inr (6, [.int 2, .int (T.1 0 0), .ref (ad 15 0), .ref (ad 16 0), .ref (ad 17 0), .ref (ad 18 0), .int (T.1 5 0), .ref (ad 19 0), .ref (ad 20 0), .ref (ad 21 0), .ref (ad 22 0), .ref (ad 23 0), .ref (ad 24 0), .ref (ad 25 0), .ref (ad 26 0), .ref (ad 27 0)])))) H := hM
      have f28_4 : (va_up M (ad 14 0) (some (.inr (6, [.int 2, .int (T.1 0 0), .ref (ad 15 0), .ref (ad 16 0), .ref (ad 17 0), .ref (ad 18 0), .int (T.1 5 0), .ref (ad 19 0), .ref (ad 20 0), .ref (ad 21 0), .ref (ad 22 0), .ref (ad 23 0), .ref (ad 24 0), .ref (ad 25 0), .ref (ad 26 0), .ref (ad 27 0)])))) (ad 14 0) = some (.inr (6, [.int 2, .int (T.1 0 0), .ref (ad 15 0), .ref (ad 16 0), .ref (ad 17 0), .ref (ad 18 0), .int (T.1 5 0), .ref (ad 19 0), .ref (ad 20 0), .ref (ad 21 0), .ref (ad 22 0), .ref (ad 23 0), .ref (ad 24 0), .ref (ad 25 0), .ref (ad 26 0), .ref (ad 27 0)])) := up_eq
      refine lv_aload_n hx hb dX6_forward_31 rfl (lv_at hl 0 rfl) ?_
      refine m_get (ci := 6) (v := .int 2) (C := RX6) (T := TX6) (N := 16) (a := (ad 14 0)) hx hb hts (by decide +kernel) hown hC hM f28_4 rfl 0 (by decide) (hts (.fieldLink RX6 53 "ForwardrollModel" "thrown" "I") (by decide +kernel)) (fun _ h9 => h9) rfl dX6_forward_32 ?_
      refine lv_if_le (tgt := 42) hx hb dX6_forward_35 (by decide) (fun c_35 => False.elim (by revert c_35; decide)) (fun c_35 => ?_)
      refine lv_iconst (v := 0) hx hb dX6_forward_38 (by decide) ?_
      refine lv_goto (tgt := 53) hx hb dX6_forward_39 (by decide) ?_
      exact (r_i hx hb hr hlocks hS (v := 0) _ (Or.inr (Or.inl ⟨c45 (inb_t c_5), inb_f c_20, w_mth hw 2⟩)) hM (Nat.le_of_ble_eq_true rfl) (Nat.le_of_ble_eq_true rfl) dX6_forward_53)
    · refine lv_iconst (v := 0) hx hb dX6_forward_23 (by decide) ?_
      refine lv_goto (tgt := 28) hx hb dX6_forward_24 (by decide) ?_
      refine m_put (host := "") (ci := 6) (v := .int 0) (ty := .int) (C := RX6) (T := TX6) (N := 16) (a := (ad 14 0)) hx hb hts (by decide +kernel) tyX6 tyX6_ok nmX6 hown hC hM hS m14 rfl 0 (by decide) (hts (.fieldLink RX6 53 "ForwardrollModel" "thrown" "I") (by decide +kernel)) (fun _ h9 => h9) rfl (by decide +kernel) rfl rfl (Nat.le_of_ble_eq_true rfl) dX6_forward_28 (fun H locs hM hS => ?_)
      have hM : Hm G (va_up M (ad 14 0) (some (.inr (6, [.int 0, .int (T.1 0 0), .ref (ad 15 0), .ref (ad 16 0), .ref (ad 17 0), .ref (ad 18 0), .int (T.1 5 0), .ref (ad 19 0), .ref (ad 20 0), .ref (ad 21 0), .ref (ad 22 0), .ref (ad 23 0), .ref (ad 24 0), .ref (ad 25 0), .ref (ad 26 0), .ref (ad 27 0)])))) H := hM
      have f28_7 : (va_up M (ad 14 0) (some (.inr (6, [.int 0, .int (T.1 0 0), .ref (ad 15 0), .ref (ad 16 0), .ref (ad 17 0), .ref (ad 18 0), .int (T.1 5 0), .ref (ad 19 0), .ref (ad 20 0), .ref (ad 21 0), .ref (ad 22 0), .ref (ad 23 0), .ref (ad 24 0), .ref (ad 25 0), .ref (ad 26 0), .ref (ad 27 0)])))) (ad 14 0) = some (.inr (6, [.int 0, .int (T.1 0 0), .ref (ad 15 0), .ref (ad 16 0), .ref (ad 17 0), .ref (ad 18 0), .int (T.1 5 0), .ref (ad 19 0), .ref (ad 20 0), .ref (ad 21 0), .ref (ad 22 0), .ref (ad 23 0), .ref (ad 24 0), .ref (ad 25 0), .ref (ad 26 0), .ref (ad 27 0)])) := up_eq
      refine lv_aload_n hx hb dX6_forward_31 rfl (lv_at hl 0 rfl) ?_
      refine m_get (ci := 6) (v := .int 0) (C := RX6) (T := TX6) (N := 16) (a := (ad 14 0)) hx hb hts (by decide +kernel) hown hC hM f28_7 rfl 0 (by decide) (hts (.fieldLink RX6 53 "ForwardrollModel" "thrown" "I") (by decide +kernel)) (fun _ h9 => h9) rfl dX6_forward_32 ?_
      refine lv_if_le (tgt := 42) hx hb dX6_forward_35 (by decide) (fun c_35 => ?_) (fun c_35 => False.elim (by revert c_35; decide))
      refine lv_aload_n hx hb dX6_forward_42 rfl (lv_at hl 0 rfl) ?_
      refine lv_iload_n hx hb dX6_forward_43 rfl (lv_at hl 1 rfl) ?_
      refine lv_aload_n hx hb dX6_forward_44 rfl (lv_at hl 0 rfl) ?_
      refine m_get (ci := 6) (v := .int (T.1 0 0)) (C := RX6) (T := TX6) (N := 16) (a := (ad 14 0)) hx hb hts (by decide +kernel) hown hC hM f28_7 rfl 1 (by decide) (hts (.fieldLink RX6 64 "ForwardrollModel" "today" "I") (by decide +kernel)) (fun _ h9 => h9) rfl dX6_forward_45 ?_
      refine lv_iload_n hx hb dX6_forward_48 rfl (lv_at hl 2 rfl) ?_
      refine lv_iadd hx hb dX6_forward_49 ?_
      refine k_i (va_runV (As := [.int n, .int ((T.1 0 0) + x)]) (rest := []) ⟨hx, hb, hml, hown, hts⟩ (c_X6_forwardFor l G (va_up M (ad 14 0) (some (.inr (6, [.int 0, .int (T.1 0 0), .ref (ad 15 0), .ref (ad 16 0), .ref (ad 17 0), .ref (ad 18 0), .int (T.1 5 0), .ref (ad 19 0), .ref (ad 20 0), .ref (ad 21 0), .ref (ad 22 0), .ref (ad 23 0), .ref (ad 24 0), .ref (ad 25 0), .ref (ad 26 0), .ref (ad 27 0)])))) S T 0 o ex ad n ((T.1 0 0) + x) (w_mth hw 0) (vin_of 4 (c45 (inb_t c_5)) (by decide))) (cwV 2 hts gX6_forward_X6_forwardFor rfl rfl rfl (by decide +kernel) ⟨Nat.le_of_ble_eq_true rfl, Nat.le_of_ble_eq_true rfl⟩) (preV_of hC hS hM f28_7 rfl) rfl rfl hl.1 rfl (lv_room (Nat.le_of_ble_eq_true rfl)) dX6_forward_50 ⟨Nat.le_of_ble_eq_true rfl, Nat.le_of_ble_eq_true rfl⟩) hS (fun r50 u50 H locs hp50 hM hS => ?_)
      have hM : Hm G (va_up M (ad 14 0) (some (.inr (6, [.int 0, .int (T.1 0 0), .ref (ad 15 0), .ref (ad 16 0), .ref (ad 17 0), .ref (ad 18 0), .int (T.1 5 0), .ref (ad 19 0), .ref (ad 20 0), .ref (ad 21 0), .ref (ad 22 0), .ref (ad 23 0), .ref (ad 24 0), .ref (ad 25 0), .ref (ad 26 0), .ref (ad 27 0)])))) H := hM
      have hp50 : r50 = al1 (T.1 1 n.toNatClampNeg + T.1 2 n.toNatClampNeg * (((T.1 0 0) + x) - T.1 0 0)) := hp50
      subst hp50
      exact (r_i hx hb hr hlocks hS (v := al1 (T.1 1 n.toNatClampNeg + T.1 2 n.toNatClampNeg * (((T.1 0 0) + x) - T.1 0 0))) _ (Or.inr (Or.inr ⟨c45 (inb_t c_5), inb_t c_20, (by rw [add_sub9]), w_mth hw 0⟩)) hM (Nat.le_of_ble_eq_true rfl) (Nat.le_of_ble_eq_true rfl) dX6_forward_53)
  · refine lv_iconst (v := 1) hx hb dX6_forward_8 (by decide) ?_
    refine lv_goto (tgt := 28) hx hb dX6_forward_9 (by decide) ?_
    refine m_put (host := "") (ci := 6) (v := .int 1) (ty := .int) (C := RX6) (T := TX6) (N := 16) (a := (ad 14 0)) hx hb hts (by decide +kernel) tyX6 tyX6_ok nmX6 hown hC hM hS m14 rfl 0 (by decide) (hts (.fieldLink RX6 53 "ForwardrollModel" "thrown" "I") (by decide +kernel)) (fun _ h9 => h9) rfl (by decide +kernel) rfl rfl (Nat.le_of_ble_eq_true rfl) dX6_forward_28 (fun H locs hM hS => ?_)
    have hM : Hm G (va_up M (ad 14 0) (some (.inr (6, [.int 1, .int (T.1 0 0), .ref (ad 15 0), .ref (ad 16 0), .ref (ad 17 0), .ref (ad 18 0), .int (T.1 5 0), .ref (ad 19 0), .ref (ad 20 0), .ref (ad 21 0), .ref (ad 22 0), .ref (ad 23 0), .ref (ad 24 0), .ref (ad 25 0), .ref (ad 26 0), .ref (ad 27 0)])))) H := hM
    have f28_10 : (va_up M (ad 14 0) (some (.inr (6, [.int 1, .int (T.1 0 0), .ref (ad 15 0), .ref (ad 16 0), .ref (ad 17 0), .ref (ad 18 0), .int (T.1 5 0), .ref (ad 19 0), .ref (ad 20 0), .ref (ad 21 0), .ref (ad 22 0), .ref (ad 23 0), .ref (ad 24 0), .ref (ad 25 0), .ref (ad 26 0), .ref (ad 27 0)])))) (ad 14 0) = some (.inr (6, [.int 1, .int (T.1 0 0), .ref (ad 15 0), .ref (ad 16 0), .ref (ad 17 0), .ref (ad 18 0), .int (T.1 5 0), .ref (ad 19 0), .ref (ad 20 0), .ref (ad 21 0), .ref (ad 22 0), .ref (ad 23 0), .ref (ad 24 0), .ref (ad 25 0), .ref (ad 26 0), .ref (ad 27 0)])) := up_eq
    refine lv_aload_n hx hb dX6_forward_31 rfl (lv_at hl 0 rfl) ?_
    refine m_get (ci := 6) (v := .int 1) (C := RX6) (T := TX6) (N := 16) (a := (ad 14 0)) hx hb hts (by decide +kernel) hown hC hM f28_10 rfl 0 (by decide) (hts (.fieldLink RX6 53 "ForwardrollModel" "thrown" "I") (by decide +kernel)) (fun _ h9 => h9) rfl dX6_forward_32 ?_
    refine lv_if_le (tgt := 42) hx hb dX6_forward_35 (by decide) (fun c_35 => False.elim (by revert c_35; decide)) (fun c_35 => ?_)
    refine lv_iconst (v := 0) hx hb dX6_forward_38 (by decide) ?_
    refine lv_goto (tgt := 53) hx hb dX6_forward_39 (by decide) ?_
    exact (r_i hx hb hr hlocks hS (v := 0) _ (Or.inl ⟨fun z => inb_f c_5 (c44 z), w_mth hw 1⟩) hM (Nat.le_of_ble_eq_true rfl) (Nat.le_of_ble_eq_true rfl) dX6_forward_53)
