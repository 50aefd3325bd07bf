set_option maxHeartbeats 4000000 in
set_option maxRecDepth 100000 in
theorem c_X0_amountOf (l : Launch) (G : Gx) (M : Mp) (a b : Nat) (f : Nat → Int64) (k : Int32) (fa : M a = some (.inr (0, [.ref b]))) (fb : M b = some (.inl (G.2.1 1, 5, .inr (.inl f)))) : Met l yX0_amountOf wsX0_amountOf ({ frames := 1, cells := 0, slots := 0, locals := 21 }) (Cv G M [.ref a, .int k]) (va_Ql (S := Unit) (fun r _ => r = rd f k 5) (Bm G (fun _ => M)) (AG G)) (0) (0) (AG G) := by
  refine m_met [.ref a, .int k] [(0, .ref a), (1, .int k)] (by decide) rfl rfl (Nat.le_of_ble_eq_true rfl) ?_
  intro p e s m below meth c ls hx hb hr hml hown hts hlocks hin hC hM hl hS
  refine lv_iload_n hx hb dX0_amountOf_0 rfl (lv_at hl 1 rfl) ?_
  refine lv_aload_n hx hb dX0_amountOf_1 rfl (lv_at hl 0 rfl) ?_
  refine m_get (ci := 0) (v := .ref b) (C := RX0) (T := TX0) (N := 1) (a := a) hx hb hts (by decide +kernel) hown hC hM fa rfl 0 (by decide) (hts (.fieldLink RX0 9 "Forwardroll$Amounts" "byMoney" "[J") (by decide +kernel)) (fun _ h9 => h9) rfl dX0_amountOf_2 ?_
  refine m_alen (a := b) hx hb hC hM 1 rfl fb (v := 5) rfl dX0_amountOf_5 ?_
  refine k_i (va_runSN (As := [.int k, .int 5]) (rest := []) ⟨hx, hb, hml, hown, hts⟩ (c_X5_isIndex l G M k 5) ⟨va_cnB 2 hts gX0_amountOf_X5_isIndex_n15 rfl rfl rfl (hC.w 19 rfl) (hts (.initialized RX5) (by decide +kernel)) (by decide +kernel) ⟨Nat.le_of_ble_eq_true rfl, Nat.le_of_ble_eq_true rfl⟩, hts (.static yX5_isIndex) (by decide +kernel), trivial⟩ (preS_of hC hS hM) rfl rfl hl.1 rfl (lv_room (Nat.le_of_ble_eq_true rfl)) dX0_amountOf_6 ⟨Nat.le_of_ble_eq_true rfl, Nat.le_of_ble_eq_true rfl⟩) hS (fun r6 u6 H locs hp6 hM hS => ?_)
  have hM : Hm G M H := hM
  have hp6 : r6 = ixb k 5 := hp6
  subst hp6
  refine lv_if_eq (tgt := 21) hx hb dX0_amountOf_9 (by decide) (fun c_9 => ?_) (fun c_9 => ?_)
  · refine lv_lconst (v := 0) hx hb dX0_amountOf_21 (by decide) ?_
    exact (r_l hx hb hr hlocks hS (v := 0) () (by unfold rd; rw [if_neg (ixb_f c_9)]) hM (Nat.le_of_ble_eq_true rfl) (Nat.le_of_ble_eq_true rfl) dX0_amountOf_22)
  · refine lv_aload_n hx hb dX0_amountOf_12 rfl (lv_at hl 0 rfl) ?_
    refine m_get (ci := 0) (v := .ref b) (C := RX0) (T := TX0) (N := 1) (a := a) hx hb hts (by decide +kernel) hown hC hM fa rfl 0 (by decide) (hts (.fieldLink RX0 9 "Forwardroll$Amounts" "byMoney" "[J") (by decide +kernel)) (fun _ h9 => h9) rfl dX0_amountOf_13 ?_
    refine lv_iload_n hx hb dX0_amountOf_16 rfl (lv_at hl 1 rfl) ?_
    refine m_lald (a := b) hx hb hC hM fb (vin_of 5 (ixb_t c_9) (by decide)) dX0_amountOf_17 ?_
    refine lv_goto (tgt := 22) hx hb dX0_amountOf_18 (by decide) ?_
    exact (r_l hx hb hr hlocks hS (v := (f k.toNatClampNeg)) () (by unfold rd; rw [if_pos (ixb_t c_9)]) hM (Nat.le_of_ble_eq_true rfl) (Nat.le_of_ble_eq_true rfl) dX0_amountOf_22)
set_option maxHeartbeats 4000000 in
set_option maxRecDepth 100000 in
theorem c_X0_add (l : Launch) (G : Gx) (M : Mp) (a b : Nat) (f : Nat → Int64) (k : Int32) (x : Int64) (fa : M a = some (.inr (0, [.ref b]))) (fb : M b = some (.inl (G.2.1 1, 5, .inr (.inl f)))) (hk : vp_in k 5) : Met l yX0_add wsX0_add ({ frames := 1, cells := 0, slots := 0, locals := 21 }) (Cv G M [.ref a, .int k, .long x]) (va_Qv (S := Unit) (fun _ => True) (Bm G (fun _ => va_up M b (some (.inl (G.2.1 1, 5, .inr (.inl (vp_updL f k.toNatClampNeg (f k.toNatClampNeg + x)))))))) (AG G)) (0) (0) (AG G) := by
  refine m_met [.ref a, .int k, .long x] [(0, .ref a), (1, .int k), (2, .long x)] (by decide) rfl rfl (Nat.le_of_ble_eq_true rfl) ?_
  intro p e s m below meth c ls hx hb hr hml hown hts hlocks hin hC hM hl hS
  refine lv_iload_n hx hb dX0_add_0 rfl (lv_at hl 1 rfl) ?_
  refine lv_aload_n hx hb dX0_add_1 rfl (lv_at hl 0 rfl) ?_
  refine m_get (ci := 0) (v := .ref b) (C := RX0) (T := TX0) (N := 1) (a := a) hx hb hts (by decide +kernel) hown hC hM fa rfl 0 (by decide) (hts (.fieldLink RX0 9 "Forwardroll$Amounts" "byMoney" "[J") (by decide +kernel)) (fun _ h9 => h9) rfl dX0_add_2 ?_
  refine m_alen (a := b) hx hb hC hM 1 rfl fb (v := 5) rfl dX0_add_5 ?_
  refine k_i (va_runSN (As := [.int k, .int 5]) (rest := []) ⟨hx, hb, hml, hown, hts⟩ (c_X5_isIndex l G M k 5) ⟨va_cnB 2 hts gX0_add_X5_isIndex_n15 rfl rfl rfl (hC.w 19 rfl) (hts (.initialized RX5) (by decide +kernel)) (by decide +kernel) ⟨Nat.le_of_ble_eq_true rfl, Nat.le_of_ble_eq_true rfl⟩, hts (.static yX5_isIndex) (by decide +kernel), trivial⟩ (preS_of hC hS hM) rfl rfl hl.1 rfl (lv_room (Nat.le_of_ble_eq_true rfl)) dX0_add_6 ⟨Nat.le_of_ble_eq_true rfl, Nat.le_of_ble_eq_true rfl⟩) hS (fun r6 u6 H locs hp6 hM hS => ?_)
  have hM : Hm G M H := hM
  have hp6 : r6 = ixb k 5 := hp6
  subst hp6
  refine lv_if_eq (tgt := 22) hx hb dX0_add_9 (by decide) (fun c_9 => ?_) (fun c_9 => ?_)
  · exact absurd (of_vin 5 hk (by decide)) (ixb_f c_9)
  · refine lv_aload_n hx hb dX0_add_12 rfl (lv_at hl 0 rfl) ?_
    refine m_get (ci := 0) (v := .ref b) (C := RX0) (T := TX0) (N := 1) (a := a) hx hb hts (by decide +kernel) hown hC hM fa rfl 0 (by decide) (hts (.fieldLink RX0 9 "Forwardroll$Amounts" "byMoney" "[J") (by decide +kernel)) (fun _ h9 => h9) rfl dX0_add_13 ?_
    refine lv_iload_n hx hb dX0_add_16 rfl (lv_at hl 1 rfl) ?_
    refine lv_dup2_11 hx hb dX0_add_17 rfl rfl ?_
    refine m_lald (a := b) hx hb hC hM fb (vin_of 5 (ixb_t c_9) (by decide)) dX0_add_18 ?_
    refine lv_lload_n hx hb dX0_add_19 rfl (lv_at hl 2 rfl) ?_
    refine lv_ladd hx hb dX0_add_20 ?_
    refine m_last (a := b) hx hb hC hM hS fb (vin_of 5 (ixb_t c_9) (by decide)) dX0_add_21 (fun H locs hM hS => ?_)
    have hM : Hm G (va_up M b (some (.inl (G.2.1 1, 5, .inr (.inl (vp_updL f k.toNatClampNeg ((f k.toNatClampNeg) + x))))))) H := hM
    have f21_3 : (va_up M b (some (.inl (G.2.1 1, 5, .inr (.inl (vp_updL f k.toNatClampNeg ((f k.toNatClampNeg) + x))))))) a = some (.inr (0, [.ref b])) := (up_ne (fun h9 => absurd (Eq.trans (Eq.trans (Eq.symm fa) (congrArg M h9)) fb) (by simp))).trans fa
    have f21_4 : (va_up M b (some (.inl (G.2.1 1, 5, .inr (.inl (vp_updL f k.toNatClampNeg ((f k.toNatClampNeg) + x))))))) b = some (.inl (G.2.1 1, 5, .inr (.inl (vp_updL f k.toNatClampNeg ((f k.toNatClampNeg) + x))))) := up_eq
    exact (r_v hx hb hr hlocks hS () trivial hM (Nat.le_of_ble_eq_true rfl) (Nat.le_of_ble_eq_true rfl) dX0_add_22)
set_option maxHeartbeats 4000000 in
set_option maxRecDepth 100000 in
theorem c_X0_init (l : Launch) (G : Gx) (M : Mp) (a : Nat) (fa : M a = some (.inr (0, [.null]))) : Met l yX0_init wsX0_init ({ frames := 1, cells := 1, slots := 5, locals := 20 }) (Cv G M [.ref a]) (va_Qv (S := Nat) (fun q => M q = none) (Bm G (fun q => va_up (va_up M q (some (.inl (G.2.1 1, 5, .inr (.inl (fun _ => 0)))))) a (some (.inr (0, [.ref q]))))) (AG G)) (1) (5) (AG G) := by
  refine m_met [.ref a] [(0, .ref a)] (by decide) rfl rfl (Nat.le_of_ble_eq_true rfl) ?_
  intro p e s m below meth c ls hx hb hr hml hown hts hlocks hin hC hM hl hS
  refine lv_aload_n hx hb dX0_init_0 rfl (lv_at hl 0 rfl) ?_
  refine W.objInit hx hb hown (hts (.methodLink RX0 3 objectInit) (by decide +kernel)) (hts (.instanceMethod objectInit) (by decide +kernel)) (hts (.code objectInit ⟨#[0xb1]⟩ 1 none) (by decide +kernel)) rfl (by rw [hml]; exact hl.1) rfl dX0_init_1 (Nat.le_of_ble_eq_true rfl) (Nat.le_of_ble_eq_true rfl) ?_
  refine W.eq (g2 := F0 m 4 ls []) rfl ?_
  refine lv_aload_n hx hb dX0_init_4 rfl (lv_at hl 0 rfl) ?_
  refine lv_iconst (v := 5) hx hb dX0_init_5 (by decide) ?_
  refine m_newa (atype := .long) (ty := .long) (a0 := (5, .inr (.inl (fun _ => 0)))) (N' := 5) hx hb (hts (.arrayClass .long) (by decide +kernel)) rfl 1 hC rfl hM hS hC.1 (fun _ => rfl) (by decide) (by decide) (Nat.le_of_ble_eq_true rfl) (Nat.le_of_ble_eq_true rfl) (Nat.le_of_ble_eq_true rfl) dX0_init_6 (fun q6 H hn6 hM hS => ?_)
  have hM : Hm G (va_up M q6 (some (.inl (G.2.1 1, 5, .inr (.inl (fun _ => 0)))))) H := hM
  have hne6_1 : a ≠ q6 := fun h9 => absurd (Eq.trans (Eq.trans (Eq.symm fa) (congrArg M h9)) hn6) (by simp)
  have f6_1 : (va_up M q6 (some (.inl (G.2.1 1, 5, .inr (.inl (fun _ => 0)))))) a = some (.inr (0, [.null])) := (up_ne hne6_1).trans fa
  have f6_q2 : (va_up M q6 (some (.inl (G.2.1 1, 5, .inr (.inl (fun _ => 0)))))) q6 = some (.inl (G.2.1 1, 5, .inr (.inl (fun _ => 0)))) := up_eq
  refine m_putF (host := "") (ci := 0) (v := .ref q6) (ty := .array .long) (C := RX0) (T := TX0) (N := 1) (a := a) hx hb hts (by decide +kernel) tyX0 tyX0_ok nmX0 hown hC hM hS f6_1 rfl 0 (by decide) (hts (.fieldLink RX0 9 "Forwardroll$Amounts" "byMoney" "[J") (by decide +kernel)) (fun _ h9 => h9) rfl hin rfl (by decide +kernel) rfl rfl (Nat.le_of_ble_eq_true rfl) dX0_init_8 (fun H locs hM hS => ?_)
  have hM : Hm G (va_up (va_up M q6 (some (.inl (G.2.1 1, 5, .inr (.inl (fun _ => 0)))))) a (some (.inr (0, [.ref q6])))) H := hM
  have f8_4 : (va_up (va_up M q6 (some (.inl (G.2.1 1, 5, .inr (.inl (fun _ => 0)))))) a (some (.inr (0, [.ref q6])))) a = some (.inr (0, [.ref q6])) := up_eq
  have f8_5 : (va_up (va_up M q6 (some (.inl (G.2.1 1, 5, .inr (.inl (fun _ => 0)))))) a (some (.inr (0, [.ref q6])))) q6 = some (.inl (G.2.1 1, 5, .inr (.inl (fun _ => 0)))) := (up_ne (fun h9 => absurd (Eq.trans (Eq.trans (Eq.symm f6_q2) (congrArg (va_up M q6 (some (.inl (G.2.1 1, 5, .inr (.inl (fun _ => 0)))))) h9)) f6_1) (by simp))).trans f6_q2
  exact (r_v hx hb hr hlocks hS q6 hn6 hM (Nat.le_of_ble_eq_true rfl) (Nat.le_of_ble_eq_true rfl) dX0_init_11)
set_option maxHeartbeats 4000000 in
set_option maxRecDepth 100000 in
theorem c_X1_init (l : Launch) (G : Gx) (M : Mp) (a : Nat) (fa : M a = some (.inr (1, [.null, .int 0]))) : Met l yX1_init wsX1_init ({ frames := 1, cells := 1, slots := 1001, locals := 20 }) (Cv G M [.ref a]) (va_Qv (S := Nat) (fun q => M q = none) (Bm G (fun q => va_up (va_up M q (some (.inl (G.2.1 2, 1001, .inl (fun _ => 0))))) a (some (.inr (1, [.ref q, .int 0]))))) (AG G)) (1) (1001) (AG G) := by
  refine m_met [.ref a] [(0, .ref a)] (by decide) rfl rfl (Nat.le_of_ble_eq_true rfl) ?_
  intro p e s m below meth c ls hx hb hr hml hown hts hlocks hin hC hM hl hS
  refine lv_aload_n hx hb dX1_init_0 rfl (lv_at hl 0 rfl) ?_
  refine W.objInit hx hb hown (hts (.methodLink RX1 3 objectInit) (by decide +kernel)) (hts (.instanceMethod objectInit) (by decide +kernel)) (hts (.code objectInit ⟨#[0xb1]⟩ 1 none) (by decide +kernel)) rfl (by rw [hml]; exact hl.1) rfl dX1_init_1 (Nat.le_of_ble_eq_true rfl) (Nat.le_of_ble_eq_true rfl) ?_
  refine W.eq (g2 := F0 m 4 ls []) rfl ?_
  refine lv_aload_n hx hb dX1_init_4 rfl (lv_at hl 0 rfl) ?_
  refine lv_sipush (v := 1001) hx hb dX1_init_5 (by decide) ?_
  refine m_newa (atype := .boolean) (ty := .boolean) (a0 := (1001, .inl (fun _ => 0))) (N' := 1001) hx hb (hts (.arrayClass .boolean) (by decide +kernel)) rfl 2 hC rfl hM hS hC.1 (fun _ => rfl) (by decide) (by decide) (Nat.le_of_ble_eq_true rfl) (Nat.le_of_ble_eq_true rfl) (Nat.le_of_ble_eq_true rfl) dX1_init_8 (fun q8 H hn8 hM hS => ?_)
  have hM : Hm G (va_up M q8 (some (.inl (G.2.1 2, 1001, .inl (fun _ => 0))))) H := hM
  have hne8_1 : a ≠ q8 := fun h9 => absurd (Eq.trans (Eq.trans (Eq.symm fa) (congrArg M h9)) hn8) (by simp)
  have f8_1 : (va_up M q8 (some (.inl (G.2.1 2, 1001, .inl (fun _ => 0))))) a = some (.inr (1, [.null, .int 0])) := (up_ne hne8_1).trans fa
  have f8_q2 : (va_up M q8 (some (.inl (G.2.1 2, 1001, .inl (fun _ => 0))))) q8 = some (.inl (G.2.1 2, 1001, .inl (fun _ => 0))) := up_eq
  refine m_putF (host := "") (ci := 1) (v := .ref q8) (ty := .array .boolean) (C := RX1) (T := TX1) (N := 2) (a := a) hx hb hts (by decide +kernel) tyX1 tyX1_ok nmX1 hown hC hM hS f8_1 rfl 0 (by decide) (hts (.fieldLink RX1 9 "Forwardroll$Calendar" "holidays" "[Z") (by decide +kernel)) (fun _ h9 => h9) rfl hin rfl (by decide +kernel) rfl rfl (Nat.le_of_ble_eq_true rfl) dX1_init_10 (fun H locs hM hS => ?_)
  have hM : Hm G (va_up (va_up M q8 (some (.inl (G.2.1 2, 1001, .inl (fun _ => 0))))) a (some (.inr (1, [.ref q8, .int 0])))) H := hM
  have f10_4 : (va_up (va_up M q8 (some (.inl (G.2.1 2, 1001, .inl (fun _ => 0))))) a (some (.inr (1, [.ref q8, .int 0])))) a = some (.inr (1, [.ref q8, .int 0])) := up_eq
  have f10_5 : (va_up (va_up M q8 (some (.inl (G.2.1 2, 1001, .inl (fun _ => 0))))) a (some (.inr (1, [.ref q8, .int 0])))) q8 = some (.inl (G.2.1 2, 1001, .inl (fun _ => 0))) := (up_ne (fun h9 => absurd (Eq.trans (Eq.trans (Eq.symm f8_q2) (congrArg (va_up M q8 (some (.inl (G.2.1 2, 1001, .inl (fun _ => 0))))) h9)) f8_1) (by simp))).trans f8_q2
  exact (r_v hx hb hr hlocks hS q8 hn8 hM (Nat.le_of_ble_eq_true rfl) (Nat.le_of_ble_eq_true rfl) dX1_init_13)
set_option maxHeartbeats 4000000 in
set_option maxRecDepth 100000 in
theorem c_X2_init (l : Launch) (G : Gx) (M : Mp) (a : Nat) (n : Int32) (fa : M a = some (.inr (2, [.int 0, .int 0, .int 0]))) : Met l yX2_init wsX2_init ({ frames := 1, cells := 0, slots := 0, locals := 20 }) (Cv G M [.ref a, .int n]) (va_Qv (S := Unit) (fun _ => True) (Bm G (fun _ => va_up M a (some (.inr (2, [.int n, .int 10000, .int 0]))))) (AG G)) (0) (0) (AG G) := by
  refine m_met [.ref a, .int n] [(0, .ref a), (1, .int n)] (by decide) rfl rfl (Nat.le_of_ble_eq_true rfl) ?_
  intro p e s m below meth c ls hx hb hr hml hown hts hlocks hin hC hM hl hS
  refine lv_aload_n hx hb dX2_init_0 rfl (lv_at hl 0 rfl) ?_
  refine W.objInit hx hb hown (hts (.methodLink RX2 3 objectInit) (by decide +kernel)) (hts (.instanceMethod objectInit) (by decide +kernel)) (hts (.code objectInit ⟨#[0xb1]⟩ 1 none) (by decide +kernel)) rfl (by rw [hml]; exact hl.1) rfl dX2_init_1 (Nat.le_of_ble_eq_true rfl) (Nat.le_of_ble_eq_true rfl) ?_
  refine W.eq (g2 := F0 m 4 ls []) rfl ?_
  refine lv_aload_n hx hb dX2_init_4 rfl (lv_at hl 0 rfl) ?_
  refine lv_sipush (v := 10000) hx hb dX2_init_5 (by decide) ?_
  refine m_put (host := "") (ci := 2) (v := .int 10000) (ty := .int) (C := RX2) (T := TX2) (N := 3) (a := a) hx hb hts (by decide +kernel) tyX2 tyX2_ok nmX2 hown hC hM hS fa rfl 1 (by decide) (hts (.fieldLink RX2 9 "Forwardroll$Currency" "spotRate" "I") (by decide +kernel)) (fun _ h9 => h9) rfl (by decide +kernel) rfl rfl (Nat.le_of_ble_eq_true rfl) dX2_init_8 (fun H locs hM hS => ?_)
  have hM : Hm G (va_up M a (some (.inr (2, [.int 0, .int 10000, .int 0])))) H := hM
  have f8_2 : (va_up M a (some (.inr (2, [.int 0, .int 10000, .int 0])))) a = some (.inr (2, [.int 0, .int 10000, .int 0])) := up_eq
  refine lv_aload_n hx hb dX2_init_11 rfl (lv_at hl 0 rfl) ?_
  refine lv_iload_n hx hb dX2_init_12 rfl (lv_at hl 1 rfl) ?_
  refine m_putF (host := "") (ci := 2) (v := .int n) (ty := .int) (C := RX2) (T := TX2) (N := 3) (a := a) hx hb hts (by decide +kernel) tyX2 tyX2_ok nmX2 hown hC hM hS f8_2 rfl 0 (by decide) (hts (.fieldLink RX2 15 "Forwardroll$Currency" "number" "I") (by decide +kernel)) (fun _ h9 => h9) rfl hin rfl (by decide +kernel) rfl rfl (Nat.le_of_ble_eq_true rfl) dX2_init_13 (fun H locs hM hS => ?_)
  have hM : Hm G (va_up M a (some (.inr (2, [.int n, .int 10000, .int 0])))) H := up2 ▸ hM
  have f13_4 : (va_up M a (some (.inr (2, [.int n, .int 10000, .int 0])))) a = some (.inr (2, [.int n, .int 10000, .int 0])) := up_eq
  exact (r_v hx hb hr hlocks hS () trivial hM (Nat.le_of_ble_eq_true rfl) (Nat.le_of_ble_eq_true rfl) dX2_init_16)
set_option maxHeartbeats 4000000 in
set_option maxRecDepth 100000 in
theorem c_X1_flipHoliday (l : Launch) (G : Gx) (M : Mp) (a b : Nat) (f : Nat → Int32) (to d : Int32) (fa : M a = some (.inr (1, [.ref b, .int to]))) (fb : M b = some (.inl (G.2.1 2, 1001, .inl f))) (hk : vp_in d 1001) : Met l yX1_flipHoliday wsX1_flipHoliday ({ frames := 1, cells := 0, slots := 0, locals := 21 }) (Cv G M [.ref a, .int d]) (va_Qi (S := Unit) (fun r _ => r = tg (f d.toNatClampNeg)) (Bm G (fun _ => va_up M b (some (.inl (G.2.1 2, 1001, .inl (upd f d.toNatClampNeg (tg (f d.toNatClampNeg)))))))) (AG G)) (0) (0) (AG G) := by
  refine m_met [.ref a, .int d] [(0, .ref a), (1, .int d)] (by decide) rfl rfl (Nat.le_of_ble_eq_true rfl) ?_
  intro p e s m below meth c ls hx hb hr hml hown hts hlocks hin hC hM hl hS
  refine lv_iload_n hx hb dX1_flipHoliday_0 rfl (lv_at hl 1 rfl) ?_
  refine lv_aload_n hx hb dX1_flipHoliday_1 rfl (lv_at hl 0 rfl) ?_
  refine m_get (ci := 1) (v := .ref b) (C := RX1) (T := TX1) (N := 2) (a := a) hx hb hts (by decide +kernel) hown hC hM fa rfl 0 (by decide) (hts (.fieldLink RX1 9 "Forwardroll$Calendar" "holidays" "[Z") (by decide +kernel)) (fun _ h9 => h9) rfl dX1_flipHoliday_2 ?_
  refine m_alen (a := b) hx hb hC hM 2 rfl fb (v := 1001) rfl dX1_flipHoliday_5 ?_
  refine k_i (va_runSN (As := [.int d, .int 1001]) (rest := []) ⟨hx, hb, hml, hown, hts⟩ (c_X5_isIndex l G M d 1001) ⟨va_cnB 2 hts gX1_flipHoliday_X5_isIndex_n15 rfl rfl rfl (hC.w 16 rfl) (hts (.initialized RX5) (by decide +kernel)) (by decide +kernel) ⟨Nat.le_of_ble_eq_true rfl, Nat.le_of_ble_eq_true rfl⟩, hts (.static yX5_isIndex) (by decide +kernel), trivial⟩ (preS_of hC hS hM) rfl rfl hl.1 rfl (lv_room (Nat.le_of_ble_eq_true rfl)) dX1_flipHoliday_6 ⟨Nat.le_of_ble_eq_true rfl, Nat.le_of_ble_eq_true rfl⟩) hS (fun r6 u6 H locs hp6 hM hS => ?_)
  have hM : Hm G M H := hM
  have hp6 : r6 = ixb d 1001 := hp6
  subst hp6
  refine lv_if_ne (tgt := 14) hx hb dX1_flipHoliday_9 (by decide) (fun c_9 => ?_) (fun c_9 => ?_)
  · refine lv_aload_n hx hb dX1_flipHoliday_14 rfl (lv_at hl 0 rfl) ?_
    refine m_get (ci := 1) (v := .ref b) (C := RX1) (T := TX1) (N := 2) (a := a) hx hb hts (by decide +kernel) hown hC hM fa rfl 0 (by decide) (hts (.fieldLink RX1 9 "Forwardroll$Calendar" "holidays" "[Z") (by decide +kernel)) (fun _ h9 => h9) rfl dX1_flipHoliday_15 ?_
    refine lv_iload_n hx hb dX1_flipHoliday_18 rfl (lv_at hl 1 rfl) ?_
    refine lv_aload_n hx hb dX1_flipHoliday_19 rfl (lv_at hl 0 rfl) ?_
    refine m_get (ci := 1) (v := .ref b) (C := RX1) (T := TX1) (N := 2) (a := a) hx hb hts (by decide +kernel) hown hC hM fa rfl 0 (by decide) (hts (.fieldLink RX1 9 "Forwardroll$Calendar" "holidays" "[Z") (by decide +kernel)) (fun _ h9 => h9) rfl dX1_flipHoliday_20 ?_
    refine lv_iload_n hx hb dX1_flipHoliday_23 rfl (lv_at hl 1 rfl) ?_
    refine m_zald (a := b) hx hb hC hM fb hk dX1_flipHoliday_24 ?_
    refine lv_if_ne (tgt := 32) hx hb dX1_flipHoliday_25 (by decide) (fun c_25 => ?_) (fun c_25 => ?_)
    · refine lv_iconst (v := 0) hx hb dX1_flipHoliday_32 (by decide) ?_
      refine m_zast (a := b) hx hb hC hM hS fb hk dX1_flipHoliday_33 (fun H locs hM hS => ?_)
      have hM : Hm G (va_up M b (some (.inl (G.2.1 2, 1001, .inl (upd f d.toNatClampNeg (vp_nar .boolean 0)))))) H := hM
      have f33_4 : (va_up M b (some (.inl (G.2.1 2, 1001, .inl (upd f d.toNatClampNeg (vp_nar .boolean 0)))))) a = some (.inr (1, [.ref b, .int to])) := (up_ne (fun h9 => absurd (Eq.trans (Eq.trans (Eq.symm fa) (congrArg M h9)) fb) (by simp))).trans fa
      have f33_5 : (va_up M b (some (.inl (G.2.1 2, 1001, .inl (upd f d.toNatClampNeg (vp_nar .boolean 0)))))) b = some (.inl (G.2.1 2, 1001, .inl (upd f d.toNatClampNeg (vp_nar .boolean 0)))) := up_eq
      refine lv_aload_n hx hb dX1_flipHoliday_34 rfl (lv_at hl 0 rfl) ?_
      refine m_get (ci := 1) (v := .ref b) (C := RX1) (T := TX1) (N := 2) (a := a) hx hb hts (by decide +kernel) hown hC hM f33_4 rfl 0 (by decide) (hts (.fieldLink RX1 9 "Forwardroll$Calendar" "holidays" "[Z") (by decide +kernel)) (fun _ h9 => h9) rfl dX1_flipHoliday_35 ?_
      refine lv_iload_n hx hb dX1_flipHoliday_38 rfl (lv_at hl 1 rfl) ?_
      refine m_zald (a := b) hx hb hC hM f33_5 hk dX1_flipHoliday_39 ?_
      have ht9 : tg (f d.toNatClampNeg) = 0 := by unfold tg; rw [if_neg c_25]
      have hM : Hm G (va_up M b (some (.inl (G.2.1 2, 1001, .inl (upd f d.toNatClampNeg (tg (f d.toNatClampNeg))))))) H := by rw [ht9]; exact hM
      exact (r_z hx hb hr hlocks hS (v := ((upd f d.toNatClampNeg (vp_nar .boolean 0)) d.toNatClampNeg)) (by rw [pk_us]; decide) () (by rw [ht9, pk_us]; decide) hM (Nat.le_of_ble_eq_true rfl) (Nat.le_of_ble_eq_true rfl) dX1_flipHoliday_40)
    · refine lv_iconst (v := 1) hx hb dX1_flipHoliday_28 (by decide) ?_
      refine lv_goto (tgt := 33) hx hb dX1_flipHoliday_29 (by decide) ?_
      refine m_zast (a := b) hx hb hC hM hS fb hk dX1_flipHoliday_33 (fun H locs hM hS => ?_)
      have hM : Hm G (va_up M b (some (.inl (G.2.1 2, 1001, .inl (upd f d.toNatClampNeg (vp_nar .boolean 1)))))) H := hM
      have f33_7 : (va_up M b (some (.inl (G.2.1 2, 1001, .inl (upd f d.toNatClampNeg (vp_nar .boolean 1)))))) a = some (.inr (1, [.ref b, .int to])) := (up_ne (fun h9 => absurd (Eq.trans (Eq.trans (Eq.symm fa) (congrArg M h9)) fb) (by simp))).trans fa
      have f33_8 : (va_up M b (some (.inl (G.2.1 2, 1001, .inl (upd f d.toNatClampNeg (vp_nar .boolean 1)))))) b = some (.inl (G.2.1 2, 1001, .inl (upd f d.toNatClampNeg (vp_nar .boolean 1)))) := up_eq
      refine lv_aload_n hx hb dX1_flipHoliday_34 rfl (lv_at hl 0 rfl) ?_
      refine m_get (ci := 1) (v := .ref b) (C := RX1) (T := TX1) (N := 2) (a := a) hx hb hts (by decide +kernel) hown hC hM f33_7 rfl 0 (by decide) (hts (.fieldLink RX1 9 "Forwardroll$Calendar" "holidays" "[Z") (by decide +kernel)) (fun _ h9 => h9) rfl dX1_flipHoliday_35 ?_
      refine lv_iload_n hx hb dX1_flipHoliday_38 rfl (lv_at hl 1 rfl) ?_
      refine m_zald (a := b) hx hb hC hM f33_8 hk dX1_flipHoliday_39 ?_
      have ht9 : tg (f d.toNatClampNeg) = 1 := by unfold tg; rw [if_pos c_25]
      have hM : Hm G (va_up M b (some (.inl (G.2.1 2, 1001, .inl (upd f d.toNatClampNeg (tg (f d.toNatClampNeg))))))) H := by rw [ht9]; exact hM
      exact (r_z hx hb hr hlocks hS (v := ((upd f d.toNatClampNeg (vp_nar .boolean 1)) d.toNatClampNeg)) (by rw [pk_us]; decide) () (by rw [ht9, pk_us]; decide) hM (Nat.le_of_ble_eq_true rfl) (Nat.le_of_ble_eq_true rfl) dX1_flipHoliday_40)
  · refine lv_iconst (v := 0) hx hb dX1_flipHoliday_12 (by decide) ?_
    exact absurd (of_vin 1001 hk (by decide)) (ixb_f c_9)
set_option maxHeartbeats 4000000 in
set_option maxRecDepth 100000 in
theorem c_X1_isBusinessDay (l : Launch) (G : Gx) (M : Mp) (a b : Nat) (f : Nat → Int32) (to d : Int32) (fa : M a = some (.inr (1, [.ref b, .int to]))) (fb : M b = some (.inl (G.2.1 2, 1001, .inl f))) : Met l yX1_isBusinessDay wsX1_isBusinessDay ({ frames := 1, cells := 0, slots := 0, locals := 21 }) (Cv G M [.ref a, .int d]) (va_Qi (S := Unit) (fun r _ => r = bus f d) (Bm G (fun _ => M)) (AG G)) (0) (0) (AG G) := by
  refine m_met [.ref a, .int d] [(0, .ref a), (1, .int d)] (by decide) rfl rfl (Nat.le_of_ble_eq_true rfl) ?_
  intro p e s m below meth c ls hx hb hr hml hown hts hlocks hin hC hM hl hS
  refine lv_iload_n hx hb dX1_isBusinessDay_0 rfl (lv_at hl 1 rfl) ?_
  refine lv_aload_n hx hb dX1_isBusinessDay_1 rfl (lv_at hl 0 rfl) ?_
  refine m_get (ci := 1) (v := .ref b) (C := RX1) (T := TX1) (N := 2) (a := a) hx hb hts (by decide +kernel) hown hC hM fa rfl 0 (by decide) (hts (.fieldLink RX1 9 "Forwardroll$Calendar" "holidays" "[Z") (by decide +kernel)) (fun _ h9 => h9) rfl dX1_isBusinessDay_2 ?_
  refine m_alen (a := b) hx hb hC hM 2 rfl fb (v := 1001) rfl dX1_isBusinessDay_5 ?_
  refine k_i (va_runSN (As := [.int d, .int 1001]) (rest := []) ⟨hx, hb, hml, hown, hts⟩ (c_X5_isIndex l G M d 1001) ⟨va_cnB 2 hts gX1_isBusinessDay_X5_isIndex_n15 rfl rfl rfl (hC.w 16 rfl) (hts (.initialized RX5) (by decide +kernel)) (by decide +kernel) ⟨Nat.le_of_ble_eq_true rfl, Nat.le_of_ble_eq_true rfl⟩, hts (.static yX5_isIndex) (by decide +kernel), trivial⟩ (preS_of hC hS hM) rfl rfl hl.1 rfl (lv_room (Nat.le_of_ble_eq_true rfl)) dX1_isBusinessDay_6 ⟨Nat.le_of_ble_eq_true rfl, Nat.le_of_ble_eq_true rfl⟩) hS (fun r6 u6 H locs hp6 hM hS => ?_)
  have hM : Hm G M H := hM
  have hp6 : r6 = ixb d 1001 := hp6
  subst hp6
  refine lv_if_eq (tgt := 25) hx hb dX1_isBusinessDay_9 (by decide) (fun c_9 => ?_) (fun c_9 => ?_)
  · refine lv_iconst (v := 0) hx hb dX1_isBusinessDay_25 (by decide) ?_
    refine lv_istore_n (lv' := [(2, .int 0), (0, .ref a), (1, .int d)]) hx hb dX1_isBusinessDay_26 rfl hl (by decide) rfl (fun ls hl => ?_)
    refine lv_iload_n hx hb dX1_isBusinessDay_27 rfl (lv_at hl 2 rfl) ?_
    refine lv_bipush (v := 7) hx hb dX1_isBusinessDay_28 (by decide) ?_
    refine lv_irem hx hb dX1_isBusinessDay_30 (by decide) ?_
    refine lv_iconst (v := 5) hx hb dX1_isBusinessDay_31 (by decide) ?_
    refine lv_icmp_ge (tgt := 43) hx hb dX1_isBusinessDay_32 (by decide) (fun c_32 => ?_) (fun c_32 => ?_)
    · refine lv_iconst (v := 0) hx hb dX1_isBusinessDay_43 (by decide) ?_
      have h9 : bus f d = 0 := by unfold bus; rw [if_neg]; exact fun z => absurd z.1 (by simpa using c_32)
      exact (r_z hx hb hr hlocks hS (v := 0) (by simp) () h9.symm hM (Nat.le_of_ble_eq_true rfl) (Nat.le_of_ble_eq_true rfl) dX1_isBusinessDay_44)
    · refine lv_iload_n hx hb dX1_isBusinessDay_35 rfl (lv_at hl 0 rfl) ?_
      refine lv_if_ne (tgt := 43) hx hb dX1_isBusinessDay_36 (by decide) (fun c_36 => False.elim (by exact absurd rfl c_36)) (fun c_36 => ?_)
      refine lv_iconst (v := 1) hx hb dX1_isBusinessDay_39 (by decide) ?_
      refine lv_goto (tgt := 44) hx hb dX1_isBusinessDay_40 (by decide) ?_
      have h9 : bus f d = 1 := by unfold bus; rw [if_pos]; exact ⟨by simpa using c_32, fun z => ixb_f c_9 z.1⟩
      exact (r_z hx hb hr hlocks hS (v := 1) (by simp) () h9.symm hM (Nat.le_of_ble_eq_true rfl) (Nat.le_of_ble_eq_true rfl) dX1_isBusinessDay_44)
  · refine lv_aload_n hx hb dX1_isBusinessDay_12 rfl (lv_at hl 0 rfl) ?_
    refine m_get (ci := 1) (v := .ref b) (C := RX1) (T := TX1) (N := 2) (a := a) hx hb hts (by decide +kernel) hown hC hM fa rfl 0 (by decide) (hts (.fieldLink RX1 9 "Forwardroll$Calendar" "holidays" "[Z") (by decide +kernel)) (fun _ h9 => h9) rfl dX1_isBusinessDay_13 ?_
    refine lv_iload_n hx hb dX1_isBusinessDay_16 rfl (lv_at hl 1 rfl) ?_
    refine m_zald (a := b) hx hb hC hM fb (vin_of 1001 (ixb_t c_9) (by decide)) dX1_isBusinessDay_17 ?_
    refine lv_if_eq (tgt := 25) hx hb dX1_isBusinessDay_18 (by decide) (fun c_18 => ?_) (fun c_18 => ?_)
    · refine lv_iconst (v := 0) hx hb dX1_isBusinessDay_25 (by decide) ?_
      refine lv_istore_n (lv' := [(2, .int 0), (0, .ref a), (1, .int d)]) hx hb dX1_isBusinessDay_26 rfl hl (by decide) rfl (fun ls hl => ?_)
      refine lv_iload_n hx hb dX1_isBusinessDay_27 rfl (lv_at hl 2 rfl) ?_
      refine lv_bipush (v := 7) hx hb dX1_isBusinessDay_28 (by decide) ?_
      refine lv_irem hx hb dX1_isBusinessDay_30 (by decide) ?_
      refine lv_iconst (v := 5) hx hb dX1_isBusinessDay_31 (by decide) ?_
      refine lv_icmp_ge (tgt := 43) hx hb dX1_isBusinessDay_32 (by decide) (fun c_32 => ?_) (fun c_32 => ?_)
      · refine lv_iconst (v := 0) hx hb dX1_isBusinessDay_43 (by decide) ?_
        have h9 : bus f d = 0 := by unfold bus; rw [if_neg]; exact fun z => absurd z.1 (by simpa using c_32)
        exact (r_z hx hb hr hlocks hS (v := 0) (by simp) () h9.symm hM (Nat.le_of_ble_eq_true rfl) (Nat.le_of_ble_eq_true rfl) dX1_isBusinessDay_44)
      · refine lv_iload_n hx hb dX1_isBusinessDay_35 rfl (lv_at hl 0 rfl) ?_
        refine lv_if_ne (tgt := 43) hx hb dX1_isBusinessDay_36 (by decide) (fun c_36 => False.elim (by exact absurd rfl c_36)) (fun c_36 => ?_)
        refine lv_iconst (v := 1) hx hb dX1_isBusinessDay_39 (by decide) ?_
        refine lv_goto (tgt := 44) hx hb dX1_isBusinessDay_40 (by decide) ?_
        have h9 : bus f d = 1 := by unfold bus; rw [if_pos]; exact ⟨by simpa using c_32, fun z => z.2 c_18⟩
        exact (r_z hx hb hr hlocks hS (v := 1) (by simp) () h9.symm hM (Nat.le_of_ble_eq_true rfl) (Nat.le_of_ble_eq_true rfl) dX1_isBusinessDay_44)
    · refine lv_iconst (v := 1) hx hb dX1_isBusinessDay_21 (by decide) ?_
      refine lv_goto (tgt := 26) hx hb dX1_isBusinessDay_22 (by decide) ?_
      refine lv_istore_n (lv' := [(2, .int 1), (0, .ref a), (1, .int d)]) hx hb dX1_isBusinessDay_26 rfl hl (by decide) rfl (fun ls hl => ?_)
      refine lv_iload_n hx hb dX1_isBusinessDay_27 rfl (lv_at hl 2 rfl) ?_
      refine lv_bipush (v := 7) hx hb dX1_isBusinessDay_28 (by decide) ?_
      refine lv_irem hx hb dX1_isBusinessDay_30 (by decide) ?_
      refine lv_iconst (v := 5) hx hb dX1_isBusinessDay_31 (by decide) ?_
      refine lv_icmp_ge (tgt := 43) hx hb dX1_isBusinessDay_32 (by decide) (fun c_32 => ?_) (fun c_32 => ?_)
      · refine lv_iconst (v := 0) hx hb dX1_isBusinessDay_43 (by decide) ?_
        have h9 : bus f d = 0 := by unfold bus; rw [if_neg]; exact fun z => absurd z.1 (by simpa using c_32)
        exact (r_z hx hb hr hlocks hS (v := 0) (by simp) () h9.symm hM (Nat.le_of_ble_eq_true rfl) (Nat.le_of_ble_eq_true rfl) dX1_isBusinessDay_44)
      · refine lv_iload_n hx hb dX1_isBusinessDay_35 rfl (lv_at hl 0 rfl) ?_
        refine lv_if_ne (tgt := 43) hx hb dX1_isBusinessDay_36 (by decide) (fun c_36 => ?_) (fun c_36 => False.elim (by exact absurd c_36 (by decide)))
        refine lv_iconst (v := 0) hx hb dX1_isBusinessDay_43 (by decide) ?_
        have h9 : bus f d = 0 := by unfold bus; rw [if_neg]; exact fun z => z.2 ⟨ixb_t c_9, c_18⟩
        exact (r_z hx hb hr hlocks hS (v := 0) (by simp) () h9.symm hM (Nat.le_of_ble_eq_true rfl) (Nat.le_of_ble_eq_true rfl) dX1_isBusinessDay_44)
set_option maxHeartbeats 4000000 in
set_option maxRecDepth 100000 in
theorem c_X1_nextBusinessDay (l : Launch) (G : Gx) (M : Mp) (a b : Nat) (f : Nat → Int32) (to : Int32) (fa : M a = some (.inr (1, [.ref b, .int to]))) (fb : M b = some (.inl (G.2.1 2, 1001, .inl f))) (hto : 1001 - (to + 1).toInt ≤ (1002 : Nat)) : Met l yX1_nextBusinessDay wsX1_nextBusinessDay ({ frames := 2, cells := 0, slots := 0, locals := 43 }) (Cv G M [.ref a]) (va_Qi (S := Unit) (fun r _ => r = nbd f 1002 (to + 1)) (Bm G (fun _ => M)) (AG G)) (0) (0) (AG G) := by
  refine m_met [.ref a] [(0, .ref a)] (by decide) rfl rfl (Nat.le_of_ble_eq_true rfl) ?_
  intro p e s m below meth c ls hx hb hr hml hown hts hlocks hin hC hM hl hS
  obtain ⟨z9, hz0⟩ : ∃ z, z = nbd f 1002 (to + 1) := ⟨_, rfl⟩
  rw [← hz0]
  refine lv_aload_n hx hb dX1_nextBusinessDay_0 rfl (lv_at hl 0 rfl) ?_
  refine m_get (ci := 1) (v := .int to) (C := RX1) (T := TX1) (N := 2) (a := a) hx hb hts (by decide +kernel) hown hC hM fa rfl 1 (by decide) (hts (.fieldLink RX1 19 "Forwardroll$Calendar" "today" "I") (by decide +kernel)) (fun _ h9 => h9) rfl dX1_nextBusinessDay_1 ?_
  refine lv_iconst (v := 1) hx hb dX1_nextBusinessDay_4 (by decide) ?_
  refine lv_iadd hx hb dX1_nextBusinessDay_5 ?_
  refine lv_istore_n (lv' := [(1, .int (to + 1)), (0, .ref a)]) hx hb dX1_nextBusinessDay_6 rfl hl (by decide) rfl (fun ls hl => ?_)
  have loop : ∀ (n9 : Nat) (d9 : Int32), 1001 - d9.toInt ≤ (n9 : Int) → nbd f n9 d9 = z9 → ∀ ls : Array Slot, lv_has ls 2 [(0, .ref a), (1, .int d9)] → ∀ (H : Heap) (locs : List Loc), Hm G M H → va_S (AG G) s.heap H locs → W p l e { frames := 2, cells := 0, slots := 0, locals := 43 } s m ([.ref a] : List Value).toArray below meth c H locs 0 0 (MQ below (va_Qi (S := Unit) (fun r _ => r = z9) (Bm G (fun _ => M)) (AG G)) ([.ref a] : List Value).toArray s 0 0 (AG G)) (F0 m 7 ls []) := by
    intro n9
    induction n9 with
    | zero =>
      intro d9 hd9 hz9 ls hl H locs hM hS
      refine lv_iload_n hx hb dX1_nextBusinessDay_7 rfl (lv_at hl 1 rfl) ?_
      refine lv_sipush (v := 1001) hx hb dX1_nextBusinessDay_8 (by decide) ?_
      refine lv_icmp_ge (tgt := 28) hx hb dX1_nextBusinessDay_11 (by decide) (fun c_11 => ?_) (fun c_11 => False.elim (by have h7 : (1001 : Int32).toInt = 1001 := rfl; have := Int32.lt_iff_toInt_lt.mp (Int32.not_le.mp c_11); omega))
      refine lv_iload_n hx hb dX1_nextBusinessDay_28 rfl (lv_at hl 1 rfl) ?_
      exact (r_i hx hb hr hlocks hS (v := d9) () (by rw [← hz9]; rfl) hM (Nat.le_of_ble_eq_true rfl) (Nat.le_of_ble_eq_true rfl) dX1_nextBusinessDay_29)
    | succ n9 ih =>
      intro d9 hd9 hz9 ls hl H locs hM hS
      refine lv_iload_n hx hb dX1_nextBusinessDay_7 rfl (lv_at hl 1 rfl) ?_
      refine lv_sipush (v := 1001) hx hb dX1_nextBusinessDay_8 (by decide) ?_
      refine lv_icmp_ge (tgt := 28) hx hb dX1_nextBusinessDay_11 (by decide) (fun c_11 => ?_) (fun c_11 => ?_)
      · refine lv_iload_n hx hb dX1_nextBusinessDay_28 rfl (lv_at hl 1 rfl) ?_
        exact (r_i hx hb hr hlocks hS (v := d9) () (by rw [← hz9]; show _ = (if d9 < 1001 ∧ bus f d9 = 0 then nbd f n9 (d9 + 1) else d9); rw [if_neg (fun z => Int32.not_le.mpr z.1 c_11)]) hM (Nat.le_of_ble_eq_true rfl) (Nat.le_of_ble_eq_true rfl) dX1_nextBusinessDay_29)
      · refine lv_aload_n hx hb dX1_nextBusinessDay_14 rfl (lv_at hl 0 rfl) ?_
        refine lv_iload_n hx hb dX1_nextBusinessDay_15 rfl (lv_at hl 1 rfl) ?_
        refine k_i (va_runV (As := [.int d9]) (rest := []) ⟨hx, hb, hml, hown, hts⟩ (c_X1_isBusinessDay l G M a b f to d9 fa fb) (cwV 1 hts gX1_nextBusinessDay_X1_isBusinessDay rfl rfl rfl (by decide +kernel) ⟨Nat.le_of_ble_eq_true rfl, Nat.le_of_ble_eq_true rfl⟩) (preV_of hC hS hM fa rfl) rfl rfl hl.1 rfl (lv_room (Nat.le_of_ble_eq_true rfl)) dX1_nextBusinessDay_16 ⟨Nat.le_of_ble_eq_true rfl, Nat.le_of_ble_eq_true rfl⟩) hS (fun r16 u16 H locs hp16 hM hS => ?_)
        have hM : Hm G M H := hM
        have hp16 : r16 = bus f d9 := hp16
        subst hp16
        refine lv_if_ne (tgt := 28) hx hb dX1_nextBusinessDay_19 (by decide) (fun c_19 => ?_) (fun c_19 => ?_)
        · refine lv_iload_n hx hb dX1_nextBusinessDay_28 rfl (lv_at hl 1 rfl) ?_
          exact (r_i hx hb hr hlocks hS (v := d9) () (by rw [← hz9]; show _ = (if d9 < 1001 ∧ bus f d9 = 0 then nbd f n9 (d9 + 1) else d9); rw [if_neg (fun z => c_19 z.2)]) hM (Nat.le_of_ble_eq_true rfl) (Nat.le_of_ble_eq_true rfl) dX1_nextBusinessDay_29)
        · refine lv_iinc (v := (d9 + 1)) (lv' := [(1, .int (d9 + 1)), (0, .ref a)]) hx hb dX1_nextBusinessDay_22 hl (k := 1) rfl rfl (by decide) rfl (fun ls hl => ?_)
          refine lv_goto (tgt := 7) hx hb dX1_nextBusinessDay_25 (by decide) ?_
          exact ih (d9 + 1) (by have := Int32.lt_iff_toInt_lt.mp (Int32.not_le.mp c_11); rw [Int32.toInt_add, show (1 : Int32).toInt = 1 from rfl]; have h8 := Int32.toInt_lt d9; have h7 : (1001 : Int32).toInt = 1001 := rfl; have h5 := Int32.le_toInt d9; rw [show (d9.toInt + 1).bmod (2 ^ 32) = d9.toInt + 1 from Int.bmod_eq_of_le (by omega) (by omega)]; omega) (by rw [← hz9]; show _ = (if d9 < 1001 ∧ bus f d9 = 0 then nbd f n9 (d9 + 1) else d9); rw [if_pos ⟨Int32.not_le.mp c_11, c_19⟩]) ls (lv_sub hl [1, 0] rfl) _ _ hM hS
  exact loop 1002 (to + 1) hto hz0.symm ls (lv_sub hl [1, 0] rfl) _ _ hM hS
