set_option maxHeartbeats 4000000 in
set_option maxRecDepth 100000 in
/-- isIndex -/
theorem c_X5_isIndex (l : Launch) (G : Gx) (M : Mp) (i n : Int32)  : Met l yX5_isIndex wsX5_isIndex ({ frames := 0, cells := 0, slots := 0, locals := 0 }) (Cv G M [.int i, .int n]) (va_Qi (S := Unit) (fun r _ => r = ixb i n) (Bm G (fun _ => M)) (AG G)) (0) (0) (AG G) := by
  refine m_met [.int i, .int n] [(0, .int i), (1, .int n)] (by decide) rfl rfl (Nat.le_of_ble_eq_true rfl) ?_
  intro p e s m below meth c ls hx hb hr hml hown hts hlocks hin hC hM hl hS
  refine lv_iload_n hx hb dX5_isIndex_0 rfl (lv_at hl 0 rfl) ?_
  refine lv_if_lt (tgt := 13) hx hb dX5_isIndex_1 (by decide) (fun c_1 => ?_) (fun c_1 => ?_)
  · refine lv_iconst (v := 0) hx hb dX5_isIndex_13 (by decide) ?_
    exact (r_z hx hb hr hlocks hS (v := 0) (by simp) () (by unfold ixb; rw [if_neg]; intro z; exact absurd z.1 (by simpa using c_1)) hM (Nat.le_of_ble_eq_true rfl) (Nat.le_of_ble_eq_true rfl) dX5_isIndex_14)
  · refine lv_iload_n hx hb dX5_isIndex_4 rfl (lv_at hl 0 rfl) ?_
    refine lv_iload_n hx hb dX5_isIndex_5 rfl (lv_at hl 1 rfl) ?_
    refine lv_icmp_ge (tgt := 13) hx hb dX5_isIndex_6 (by decide) (fun c_6 => ?_) (fun c_6 => ?_)
    · refine lv_iconst (v := 0) hx hb dX5_isIndex_13 (by decide) ?_
      exact (r_z hx hb hr hlocks hS (v := 0) (by simp) () (by unfold ixb; rw [if_neg]; intro z; exact absurd z.2 (by simpa using c_6)) hM (Nat.le_of_ble_eq_true rfl) (Nat.le_of_ble_eq_true rfl) dX5_isIndex_14)
    · refine lv_iconst (v := 1) hx hb dX5_isIndex_9 (by decide) ?_
      refine lv_goto (tgt := 14) hx hb dX5_isIndex_10 (by decide) ?_
      exact (r_z hx hb hr hlocks hS (v := 1) (by simp) () (by unfold ixb; rw [if_pos ⟨by simpa using c_1, by simpa using c_6⟩]) hM (Nat.le_of_ble_eq_true rfl) (Nat.le_of_ble_eq_true rfl) dX5_isIndex_14)
set_option maxHeartbeats 4000000 in
set_option maxRecDepth 100000 in
theorem c_X5_homeAmount (l : Launch) (G : Gx) (M : Mp) (am ra : Int32)  : Met l yX5_homeAmount wsX5_homeAmount ({ frames := 0, cells := 0, slots := 0, locals := 0 }) (Cv G M [.int am, .int ra]) (va_Ql (S := Unit) (fun r _ => r = hom am ra) (Bm G (fun _ => M)) (AG G)) (0) (0) (AG G) := by
  refine m_met [.int am, .int ra] [(0, .int am), (1, .int ra)] (by decide) rfl rfl (Nat.le_of_ble_eq_true rfl) ?_
  intro p e s m below meth c ls hx hb hr hml hown hts hlocks hin hC hM hl hS
  refine lv_iload_n hx hb dX5_homeAmount_0 rfl (lv_at hl 0 rfl) ?_
  refine lv_i2l hx hb dX5_homeAmount_1 rfl ?_
  refine lv_iload_n hx hb dX5_homeAmount_2 rfl (lv_at hl 1 rfl) ?_
  refine lv_i2l hx hb dX5_homeAmount_3 rfl ?_
  refine lv_lmul hx hb dX5_homeAmount_4 ?_
  refine lv_ldc2 (own := RX5) (v := 10000) hx hb hown (hts (.constantLong RX5 224 10000) (by decide +kernel)) dX5_homeAmount_5 ?_
  refine lv_ldiv hx hb dX5_homeAmount_8 (by decide) ?_
  exact (r_l hx hb hr hlocks hS (v := ((am.toInt64 * ra.toInt64) / 10000)) () rfl hM (Nat.le_of_ble_eq_true rfl) (Nat.le_of_ble_eq_true rfl) dX5_homeAmount_9)
set_option maxHeartbeats 4000000 in
set_option maxRecDepth 100000 in
theorem c_X2_laterRate (l : Launch) (G : Gx) (M : Mp) (a : Nat) (nu sp pt : Int32) (ra da : Int32) (fa : M a = some (.inr (2, [.int nu, .int sp, .int pt]))) : Met l yX2_laterRate wsX2_laterRate ({ frames := 1, cells := 0, slots := 0, locals := 23 }) (Cv G M [.ref a, .int ra, .int da]) (va_Qi (S := Unit) (fun r _ => r = al1 (ra + pt * da)) (Bm G (fun _ => M)) (AG G)) (0) (0) (AG G) := by
  refine m_met [.ref a, .int ra, .int da] [(0, .ref a), (1, .int ra), (2, .int da)] (by decide) rfl rfl (Nat.le_of_ble_eq_true rfl) ?_
  intro p e s m below meth c ls hx hb hr hml hown hts hlocks hin hC hM hl hS
  refine lv_iconst (v := 1) hx hb dX2_laterRate_0 (by decide) ?_
  refine lv_iload_n hx hb dX2_laterRate_1 rfl (lv_at hl 1 rfl) ?_
  refine lv_aload_n hx hb dX2_laterRate_2 rfl (lv_at hl 0 rfl) ?_
  refine m_get (ci := 2) (v := .int pt) (C := RX2) (T := TX2) (N := 3) (a := a) hx hb hts (by decide +kernel) hown hC hM fa rfl 2 (by decide) (hts (.fieldLink RX2 22 "Forwardroll$Currency" "points" "I") (by decide +kernel)) (fun _ h9 => h9) rfl dX2_laterRate_3 ?_
  refine lv_iload_n hx hb dX2_laterRate_6 rfl (lv_at hl 2 rfl) ?_
  refine lv_imul hx hb dX2_laterRate_7 ?_
  refine lv_iadd hx hb dX2_laterRate_8 ?_
  refine va_mmax (own := RX2) hx hb (hml.trans hl.1.symm) hown (hts (.methodLink RX2 25 Lib.Math.max.name) (by decide +kernel)) (hts (.static Lib.Math.max.name) (by decide +kernel)) (hts (.initialized "java/lang/Math") (by decide +kernel)) (hts (.code Lib.Math.max.name Lib.Math.max.code 2 (some .int)) (by decide +kernel)) (Nat.le_of_ble_eq_true rfl) (Nat.le_of_ble_eq_true rfl) (Nat.le_of_ble_eq_true rfl) (Nat.le_of_ble_eq_true rfl) dX2_laterRate_9 ?_
  exact (r_i hx hb hr hlocks hS (v := (if 1 < (ra + (pt * da)) then (ra + (pt * da)) else 1)) () (mx1 _) hM (Nat.le_of_ble_eq_true rfl) (Nat.le_of_ble_eq_true rfl) dX2_laterRate_12)
set_option maxHeartbeats 4000000 in
set_option maxRecDepth 100000 in
theorem c_X2_forwardRate (l : Launch) (G : Gx) (M : Mp) (a : Nat) (nu sp pt : Int32) (da : Int32) (fa : M a = some (.inr (2, [.int nu, .int sp, .int pt]))) : Met l yX2_forwardRate wsX2_forwardRate ({ frames := 2, cells := 0, slots := 0, locals := 45 }) (Cv G M [.ref a, .int da]) (va_Qi (S := Unit) (fun r _ => r = al1 (sp + pt * da)) (Bm G (fun _ => M)) (AG G)) (0) (0) (AG G) := by
  refine m_met [.ref a, .int da] [(0, .ref a), (1, .int da)] (by decide) rfl rfl (Nat.le_of_ble_eq_true rfl) ?_
  intro p e s m below meth c ls hx hb hr hml hown hts hlocks hin hC hM hl hS
  refine lv_aload_n hx hb dX2_forwardRate_0 rfl (lv_at hl 0 rfl) ?_
  refine lv_aload_n hx hb dX2_forwardRate_1 rfl (lv_at hl 0 rfl) ?_
  refine m_get (ci := 2) (v := .int sp) (C := RX2) (T := TX2) (N := 3) (a := a) hx hb hts (by decide +kernel) hown hC hM fa rfl 1 (by decide) (hts (.fieldLink RX2 9 "Forwardroll$Currency" "spotRate" "I") (by decide +kernel)) (fun _ h9 => h9) rfl dX2_forwardRate_2 ?_
  refine lv_iload_n hx hb dX2_forwardRate_5 rfl (lv_at hl 1 rfl) ?_
  refine k_i (va_runV (As := [.int sp, .int da]) (rest := []) ⟨hx, hb, hml, hown, hts⟩ (c_X2_laterRate l G M a nu sp pt sp da fa) (cwV 2 hts gX2_forwardRate_X2_laterRate rfl rfl rfl (by decide +kernel) ⟨Nat.le_of_ble_eq_true rfl, Nat.le_of_ble_eq_true rfl⟩) (preV_of hC hS hM fa rfl) rfl rfl hl.1 rfl (lv_room (Nat.le_of_ble_eq_true rfl)) dX2_forwardRate_6 ⟨Nat.le_of_ble_eq_true rfl, Nat.le_of_ble_eq_true rfl⟩) hS (fun r6 u6 H locs hp6 hM hS => ?_)
  have hM : Hm G M H := hM
  have hp6 : r6 = al1 (sp + pt * da) := hp6
  subst hp6
  exact (r_i hx hb hr hlocks hS (v := al1 (sp + pt * da)) () rfl hM (Nat.le_of_ble_eq_true rfl) (Nat.le_of_ble_eq_true rfl) dX2_forwardRate_9)
set_option maxHeartbeats 4000000 in
set_option maxRecDepth 100000 in
theorem c_X4_marketRate (l : Launch) (G : Gx) (M : Mp) (a cu cy : Nat) (bu lf ag fi la : Int32) (nu sp pt : Int32) (to : Int32) (fa : M a = some (.inr (4, [.ref cu, .ref cy, .int bu, .int lf, .int ag, .int fi, .int la]))) (fc : M cy = some (.inr (2, [.int nu, .int sp, .int pt]))) : Met l yX4_marketRate wsX4_marketRate ({ frames := 3, cells := 0, slots := 0, locals := 66 }) (Cv G M [.ref a, .int to]) (va_Qi (S := Unit) (fun r _ => r = al1 (sp + pt * (la - to))) (Bm G (fun _ => M)) (AG G)) (0) (0) (AG G) := by
  refine m_met [.ref a, .int to] [(0, .ref a), (1, .int to)] (by decide) rfl rfl (Nat.le_of_ble_eq_true rfl) ?_
  intro p e s m below meth c ls hx hb hr hml hown hts hlocks hin hC hM hl hS
  refine lv_aload_n hx hb dX4_marketRate_0 rfl (lv_at hl 0 rfl) ?_
  refine m_get (ci := 4) (v := .ref cy) (C := RX4) (T := TX4) (N := 7) (a := a) hx hb hts (by decide +kernel) hown hC hM fa rfl 1 (by decide) (hts (.fieldLink RX4 15 "Forwardroll$Deal" "currency" "LForwardroll$Currency;") (by decide +kernel)) (fun _ h9 => h9) rfl dX4_marketRate_1 ?_
  refine lv_aload_n hx hb dX4_marketRate_4 rfl (lv_at hl 0 rfl) ?_
  refine m_get (ci := 4) (v := .int la) (C := RX4) (T := TX4) (N := 7) (a := a) hx hb hts (by decide +kernel) hown hC hM fa rfl 6 (by decide) (hts (.fieldLink RX4 33 "Forwardroll$Deal" "lastDay" "I") (by decide +kernel)) (fun _ h9 => h9) rfl dX4_marketRate_5 ?_
  refine lv_iload_n hx hb dX4_marketRate_8 rfl (lv_at hl 1 rfl) ?_
  refine lv_isub hx hb dX4_marketRate_9 ?_
  refine k_i (va_runV (As := [.int (la - to)]) (rest := []) ⟨hx, hb, hml, hown, hts⟩ (c_X2_forwardRate l G M cy nu sp pt (la - to) fc) (cwV 1 hts gX4_marketRate_X2_forwardRate rfl rfl rfl (by decide +kernel) ⟨Nat.le_of_ble_eq_true rfl, Nat.le_of_ble_eq_true rfl⟩) (preV_of hC hS hM fc rfl) rfl rfl hl.1 rfl (lv_room (Nat.le_of_ble_eq_true rfl)) dX4_marketRate_10 ⟨Nat.le_of_ble_eq_true rfl, Nat.le_of_ble_eq_true rfl⟩) hS (fun r10 u10 H locs hp10 hM hS => ?_)
  have hM : Hm G M H := hM
  have hp10 : r10 = al1 (sp + pt * (la - to)) := hp10
  subst hp10
  exact (r_i hx hb hr hlocks hS (v := al1 (sp + pt * (la - to))) () rfl hM (Nat.le_of_ble_eq_true rfl) (Nat.le_of_ble_eq_true rfl) dX4_marketRate_13)
set_option maxHeartbeats 4000000 in
set_option maxRecDepth 100000 in
theorem c_X4_gainAt (l : Launch) (G : Gx) (M : Mp) (a cu cy : Nat) (bu lf ag fi la : Int32) (nu sp pt : Int32) (mr : Int32) (fa : M a = some (.inr (4, [.ref cu, .ref cy, .int bu, .int lf, .int ag, .int fi, .int la]))) (fc : M cy = some (.inr (2, [.int nu, .int sp, .int pt]))) : Met l yX4_gainAt wsX4_gainAt ({ frames := 1, cells := 0, slots := 0, locals := 21 }) (Cv G M [.ref a, .int mr]) (va_Ql (S := Unit) (fun r _ => r = gn bu lf ag mr) (Bm G (fun _ => M)) (AG G)) (0) (0) (AG G) := by
  refine m_met [.ref a, .int mr] [(0, .ref a), (1, .int mr)] (by decide) rfl rfl (Nat.le_of_ble_eq_true rfl) ?_
  intro p e s m below meth c ls hx hb hr hml hown hts hlocks hin hC hM hl hS
  refine lv_aload_n hx hb dX4_gainAt_0 rfl (lv_at hl 0 rfl) ?_
  refine m_get (ci := 4) (v := .int lf) (C := RX4) (T := TX4) (N := 7) (a := a) hx hb hts (by decide +kernel) hown hC hM fa rfl 3 (by decide) (hts (.fieldLink RX4 23 "Forwardroll$Deal" "amountLeft" "I") (by decide +kernel)) (fun _ h9 => h9) rfl dX4_gainAt_1 ?_
  refine lv_iload_n hx hb dX4_gainAt_4 rfl (lv_at hl 1 rfl) ?_
  refine k_l (va_runSN (As := [.int lf, .int mr]) (rest := []) ⟨hx, hb, hml, hown, hts⟩ (c_X5_homeAmount l G M lf mr) ⟨va_cnB 2 hts gX4_gainAt_X5_homeAmount_n58 rfl rfl rfl (hC.w 17 rfl) (hts (.initialized RX5) (by decide +kernel)) (by decide +kernel) ⟨Nat.le_of_ble_eq_true rfl, Nat.le_of_ble_eq_true rfl⟩, hts (.static yX5_homeAmount) (by decide +kernel), trivial⟩ (preS_of hC hS hM) rfl rfl hl.1 rfl (lv_room (Nat.le_of_ble_eq_true rfl)) dX4_gainAt_5 ⟨Nat.le_of_ble_eq_true rfl, Nat.le_of_ble_eq_true rfl⟩) hS (fun r5 u5 H locs hp5 hM hS => ?_)
  have hM : Hm G M H := hM
  have hp5 : r5 = hom lf mr := hp5
  subst hp5
  refine lv_aload_n hx hb dX4_gainAt_8 rfl (lv_at hl 0 rfl) ?_
  refine m_get (ci := 4) (v := .int lf) (C := RX4) (T := TX4) (N := 7) (a := a) hx hb hts (by decide +kernel) hown hC hM fa rfl 3 (by decide) (hts (.fieldLink RX4 23 "Forwardroll$Deal" "amountLeft" "I") (by decide +kernel)) (fun _ h9 => h9) rfl dX4_gainAt_9 ?_
  refine lv_aload_n hx hb dX4_gainAt_12 rfl (lv_at hl 0 rfl) ?_
  refine m_get (ci := 4) (v := .int ag) (C := RX4) (T := TX4) (N := 7) (a := a) hx hb hts (by decide +kernel) hown hC hM fa rfl 4 (by decide) (hts (.fieldLink RX4 27 "Forwardroll$Deal" "agreedRate" "I") (by decide +kernel)) (fun _ h9 => h9) rfl dX4_gainAt_13 ?_
  refine k_l (va_runSN (As := [.int lf, .int ag]) (rest := [.long (hom lf mr)]) ⟨hx, hb, hml, hown, hts⟩ (c_X5_homeAmount l G M lf ag) ⟨va_cnB 2 hts gX4_gainAt_X5_homeAmount_n58 rfl rfl rfl (hC.w 17 rfl) (hts (.initialized RX5) (by decide +kernel)) (by decide +kernel) ⟨Nat.le_of_ble_eq_true rfl, Nat.le_of_ble_eq_true rfl⟩, hts (.static yX5_homeAmount) (by decide +kernel), trivial⟩ (preS_of hC hS hM) rfl rfl hl.1 rfl (lv_room (Nat.le_of_ble_eq_true rfl)) dX4_gainAt_16 ⟨Nat.le_of_ble_eq_true rfl, Nat.le_of_ble_eq_true rfl⟩) hS (fun r16 u16 H locs hp16 hM hS => ?_)
  have hM : Hm G M H := hM
  have hp16 : r16 = hom lf ag := hp16
  subst hp16
  refine lv_lsub hx hb dX4_gainAt_19 ?_
  refine lv_lstore_n (lv' := [(2, .long ((hom lf mr) - (hom lf ag))), (0, .ref a), (1, .int mr)]) hx hb dX4_gainAt_20 rfl hl (by decide) rfl (fun ls hl => ?_)
  refine lv_aload_n hx hb dX4_gainAt_21 rfl (lv_at hl 1 rfl) ?_
  refine m_get (ci := 4) (v := .int bu) (C := RX4) (T := TX4) (N := 7) (a := a) hx hb hts (by decide +kernel) hown hC hM fa rfl 2 (by decide) (hts (.fieldLink RX4 19 "Forwardroll$Deal" "buys" "Z") (by decide +kernel)) (fun _ h9 => h9) rfl dX4_gainAt_22 ?_
  refine lv_if_eq (tgt := 32) hx hb dX4_gainAt_25 (by decide) (fun c_25 => ?_) (fun c_25 => ?_)
  · refine lv_lload_n hx hb dX4_gainAt_32 rfl (lv_at hl 0 rfl) ?_
    refine lv_lneg hx hb dX4_gainAt_33 ?_
    exact (r_l hx hb hr hlocks hS (v := (-((hom lf mr) - (hom lf ag)))) () (by unfold gn; rw [if_pos c_25]) hM (Nat.le_of_ble_eq_true rfl) (Nat.le_of_ble_eq_true rfl) dX4_gainAt_34)
  · refine lv_lload_n hx hb dX4_gainAt_28 rfl (lv_at hl 0 rfl) ?_
    refine lv_goto (tgt := 34) hx hb dX4_gainAt_29 (by decide) ?_
    exact (r_l hx hb hr hlocks hS (v := ((hom lf mr) - (hom lf ag))) () (by unfold gn; rw [if_neg c_25]) hM (Nat.le_of_ble_eq_true rfl) (Nat.le_of_ble_eq_true rfl) dX4_gainAt_34)
set_option maxHeartbeats 4000000 in
set_option maxRecDepth 100000 in
theorem c_X4_marketGain (l : Launch) (G : Gx) (M : Mp) (a cu cy : Nat) (bu lf ag fi la : Int32) (nu sp pt : Int32) (to : Int32) (fa : M a = some (.inr (4, [.ref cu, .ref cy, .int bu, .int lf, .int ag, .int fi, .int la]))) (fc : M cy = some (.inr (2, [.int nu, .int sp, .int pt]))) : Met l yX4_marketGain wsX4_marketGain ({ frames := 4, cells := 0, slots := 0, locals := 87 }) (Cv G M [.ref a, .int to]) (va_Ql (S := Unit) (fun r _ => r = gn bu lf ag (al1 (sp + pt * (la - to)))) (Bm G (fun _ => M)) (AG G)) (0) (0) (AG G) := by
  refine m_met [.ref a, .int to] [(0, .ref a), (1, .int to)] (by decide) rfl rfl (Nat.le_of_ble_eq_true rfl) ?_
  intro p e s m below meth c ls hx hb hr hml hown hts hlocks hin hC hM hl hS
  refine lv_aload_n hx hb dX4_marketGain_0 rfl (lv_at hl 0 rfl) ?_
  refine lv_aload_n hx hb dX4_marketGain_1 rfl (lv_at hl 0 rfl) ?_
  refine lv_iload_n hx hb dX4_marketGain_2 rfl (lv_at hl 1 rfl) ?_
  refine k_i (va_runV (As := [.int to]) (rest := [.ref a]) ⟨hx, hb, hml, hown, hts⟩ (c_X4_marketRate l G M a cu cy bu lf ag fi la nu sp pt to fa fc) (cwV 1 hts gX4_marketGain_X4_marketRate rfl rfl rfl (by decide +kernel) ⟨Nat.le_of_ble_eq_true rfl, Nat.le_of_ble_eq_true rfl⟩) (preV_of hC hS hM fa rfl) rfl rfl hl.1 rfl (lv_room (Nat.le_of_ble_eq_true rfl)) dX4_marketGain_3 ⟨Nat.le_of_ble_eq_true rfl, Nat.le_of_ble_eq_true rfl⟩) hS (fun r3 u3 H locs hp3 hM hS => ?_)
  have hM : Hm G M H := hM
  have hp3 : r3 = al1 (sp + pt * (la - to)) := hp3
  subst hp3
  refine k_l (va_runV (As := [.int (al1 (sp + pt * (la - to)))]) (rest := []) ⟨hx, hb, hml, hown, hts⟩ (c_X4_gainAt l G M a cu cy bu lf ag fi la nu sp pt (al1 (sp + pt * (la - to))) fa fc) (cwV 1 hts gX4_marketGain_X4_gainAt rfl rfl rfl (by decide +kernel) ⟨Nat.le_of_ble_eq_true rfl, Nat.le_of_ble_eq_true rfl⟩) (preV_of hC hS hM fa rfl) rfl rfl hl.1 rfl (lv_room (Nat.le_of_ble_eq_true rfl)) dX4_marketGain_6 ⟨Nat.le_of_ble_eq_true rfl, Nat.le_of_ble_eq_true rfl⟩) hS (fun r6 u6 H locs hp6 hM hS => ?_)
  have hM : Hm G M H := hM
  have hp6 : r6 = gn bu lf ag (al1 (sp + pt * (la - to))) := hp6
  subst hp6
  exact (r_l hx hb hr hlocks hS (v := gn bu lf ag (al1 (sp + pt * (la - to)))) () rfl hM (Nat.le_of_ble_eq_true rfl) (Nat.le_of_ble_eq_true rfl) dX4_marketGain_9)
set_option maxHeartbeats 4000000 in
set_option maxRecDepth 100000 in
theorem c_X4_shiftedLoss (l : Launch) (G : Gx) (M : Mp) (a cu cy : Nat) (bu lf ag fi la : Int32) (nu sp pt : Int32) (to sh : Int32) (fa : M a = some (.inr (4, [.ref cu, .ref cy, .int bu, .int lf, .int ag, .int fi, .int la]))) (fc : M cy = some (.inr (2, [.int nu, .int sp, .int pt]))) : Met l yX4_shiftedLoss wsX4_shiftedLoss ({ frames := 4, cells := 0, slots := 0, locals := 87 }) (Cv G M [.ref a, .int to, .int sh]) (va_Ql (S := Unit) (fun r _ => r = -gn bu lf ag (al1 (al1 (sp + pt * (la - to)) * (100 + sh) / 100))) (Bm G (fun _ => M)) (AG G)) (0) (0) (AG G) := by
  refine m_met [.ref a, .int to, .int sh] [(0, .ref a), (1, .int to), (2, .int sh)] (by decide) rfl rfl (Nat.le_of_ble_eq_true rfl) ?_
  intro p e s m below meth c ls hx hb hr hml hown hts hlocks hin hC hM hl hS
  refine lv_aload_n hx hb dX4_shiftedLoss_0 rfl (lv_at hl 0 rfl) ?_
  refine lv_iload_n hx hb dX4_shiftedLoss_1 rfl (lv_at hl 1 rfl) ?_
  refine k_i (va_runV (As := [.int to]) (rest := []) ⟨hx, hb, hml, hown, hts⟩ (c_X4_marketRate l G M a cu cy bu lf ag fi la nu sp pt to fa fc) (cwV 1 hts gX4_shiftedLoss_X4_marketRate rfl rfl rfl (by decide +kernel) ⟨Nat.le_of_ble_eq_true rfl, Nat.le_of_ble_eq_true rfl⟩) (preV_of hC hS hM fa rfl) rfl rfl hl.1 rfl (lv_room (Nat.le_of_ble_eq_true rfl)) dX4_shiftedLoss_2 ⟨Nat.le_of_ble_eq_true rfl, Nat.le_of_ble_eq_true rfl⟩) hS (fun r2 u2 H locs hp2 hM hS => ?_)
  have hM : Hm G M H := hM
  have hp2 : r2 = al1 (sp + pt * (la - to)) := hp2
  subst hp2
  refine lv_bipush (v := 100) hx hb dX4_shiftedLoss_5 (by decide) ?_
  refine lv_iload_n hx hb dX4_shiftedLoss_7 rfl (lv_at hl 2 rfl) ?_
  refine lv_iadd hx hb dX4_shiftedLoss_8 ?_
  refine lv_imul hx hb dX4_shiftedLoss_9 ?_
  refine lv_bipush (v := 100) hx hb dX4_shiftedLoss_10 (by decide) ?_
  refine lv_idiv hx hb dX4_shiftedLoss_12 (by decide) ?_
  refine lv_istore_n (lv' := [(3, .int (((al1 (sp + pt * (la - to))) * (100 + sh)) / 100)), (0, .ref a), (1, .int to), (2, .int sh)]) hx hb dX4_shiftedLoss_13 rfl hl (by decide) rfl (fun ls hl => ?_)
  refine lv_aload_n hx hb dX4_shiftedLoss_14 rfl (lv_at hl 1 rfl) ?_
  refine lv_iconst (v := 1) hx hb dX4_shiftedLoss_15 (by decide) ?_
  refine lv_iload_n hx hb dX4_shiftedLoss_16 rfl (lv_at hl 0 rfl) ?_
  refine va_mmax (own := RX4) hx hb (hml.trans hl.1.symm) hown (hts (.methodLink RX4 49 Lib.Math.max.name) (by decide +kernel)) (hts (.static Lib.Math.max.name) (by decide +kernel)) (hts (.initialized "java/lang/Math") (by decide +kernel)) (hts (.code Lib.Math.max.name Lib.Math.max.code 2 (some .int)) (by decide +kernel)) (Nat.le_of_ble_eq_true rfl) (Nat.le_of_ble_eq_true rfl) (Nat.le_of_ble_eq_true rfl) (Nat.le_of_ble_eq_true rfl) dX4_shiftedLoss_17 ?_
  refine k_l (va_runV (As := [.int (if 1 < (((al1 (sp + pt * (la - to))) * (100 + sh)) / 100) then (((al1 (sp + pt * (la - to))) * (100 + sh)) / 100) else 1)]) (rest := []) ⟨hx, hb, hml, hown, hts⟩ (c_X4_gainAt l G M a cu cy bu lf ag fi la nu sp pt (if 1 < (((al1 (sp + pt * (la - to))) * (100 + sh)) / 100) then (((al1 (sp + pt * (la - to))) * (100 + sh)) / 100) else 1) fa fc) (cwV 1 hts gX4_shiftedLoss_X4_gainAt rfl rfl rfl (by decide +kernel) ⟨Nat.le_of_ble_eq_true rfl, Nat.le_of_ble_eq_true rfl⟩) (preV_of hC hS hM fa rfl) rfl rfl hl.1 rfl (lv_room (Nat.le_of_ble_eq_true rfl)) dX4_shiftedLoss_20 ⟨Nat.le_of_ble_eq_true rfl, Nat.le_of_ble_eq_true rfl⟩) hS (fun r20 u20 H locs hp20 hM hS => ?_)
  have hM : Hm G M H := hM
  have hp20 : r20 = gn bu lf ag (if 1 < (((al1 (sp + pt * (la - to))) * (100 + sh)) / 100) then (((al1 (sp + pt * (la - to))) * (100 + sh)) / 100) else 1) := hp20
  subst hp20
  refine lv_lneg hx hb dX4_shiftedLoss_23 ?_
  exact (r_l hx hb hr hlocks hS (v := (-(gn bu lf ag (if 1 < (((al1 (sp + pt * (la - to))) * (100 + sh)) / 100) then (((al1 (sp + pt * (la - to))) * (100 + sh)) / 100) else 1)))) () (by rw [mx1]) hM (Nat.le_of_ble_eq_true rfl) (Nat.le_of_ble_eq_true rfl) dX4_shiftedLoss_24)
set_option maxHeartbeats 4000000 in
set_option maxRecDepth 100000 in
theorem c_X4_drawingRate (l : Launch) (G : Gx) (M : Mp) (a cu cy : Nat) (bu lf ag fi la : Int32) (nu sp pt : Int32) (to : Int32) (fa : M a = some (.inr (4, [.ref cu, .ref cy, .int bu, .int lf, .int ag, .int fi, .int la]))) (fc : M cy = some (.inr (2, [.int nu, .int sp, .int pt]))) : Met l yX4_drawingRate wsX4_drawingRate ({ frames := 2, cells := 0, slots := 0, locals := 45 }) (Cv G M [.ref a, .int to]) (va_Qi (S := Unit) (fun r _ => r = if to < fi then al1 (ag + pt * (to - fi)) else ag) (Bm G (fun _ => M)) (AG G)) (0) (0) (AG G) := by
  refine m_met [.ref a, .int to] [(0, .ref a), (1, .int to)] (by decide) rfl rfl (Nat.le_of_ble_eq_true rfl) ?_
  intro p e s m below meth c ls hx hb hr hml hown hts hlocks hin hC hM hl hS
  refine lv_iload_n hx hb dX4_drawingRate_0 rfl (lv_at hl 1 rfl) ?_
  refine lv_aload_n hx hb dX4_drawingRate_1 rfl (lv_at hl 0 rfl) ?_
  refine m_get (ci := 4) (v := .int fi) (C := RX4) (T := TX4) (N := 7) (a := a) hx hb hts (by decide +kernel) hown hC hM fa rfl 5 (by decide) (hts (.fieldLink RX4 30 "Forwardroll$Deal" "firstDay" "I") (by decide +kernel)) (fun _ h9 => h9) rfl dX4_drawingRate_2 ?_
  refine lv_icmp_ge (tgt := 28) hx hb dX4_drawingRate_5 (by decide) (fun c_5 => ?_) (fun c_5 => ?_)
  · refine lv_aload_n hx hb dX4_drawingRate_28 rfl (lv_at hl 0 rfl) ?_
    refine m_get (ci := 4) (v := .int ag) (C := RX4) (T := TX4) (N := 7) (a := a) hx hb hts (by decide +kernel) hown hC hM fa rfl 4 (by decide) (hts (.fieldLink RX4 27 "Forwardroll$Deal" "agreedRate" "I") (by decide +kernel)) (fun _ h9 => h9) rfl dX4_drawingRate_29 ?_
    exact (r_i hx hb hr hlocks hS (v := ag) () (by rw [if_neg (Int32.not_lt.mpr c_5)]) hM (Nat.le_of_ble_eq_true rfl) (Nat.le_of_ble_eq_true rfl) dX4_drawingRate_32)
  · refine lv_aload_n hx hb dX4_drawingRate_8 rfl (lv_at hl 0 rfl) ?_
    refine m_get (ci := 4) (v := .ref cy) (C := RX4) (T := TX4) (N := 7) (a := a) hx hb hts (by decide +kernel) hown hC hM fa rfl 1 (by decide) (hts (.fieldLink RX4 15 "Forwardroll$Deal" "currency" "LForwardroll$Currency;") (by decide +kernel)) (fun _ h9 => h9) rfl dX4_drawingRate_9 ?_
    refine lv_aload_n hx hb dX4_drawingRate_12 rfl (lv_at hl 0 rfl) ?_
    refine m_get (ci := 4) (v := .int ag) (C := RX4) (T := TX4) (N := 7) (a := a) hx hb hts (by decide +kernel) hown hC hM fa rfl 4 (by decide) (hts (.fieldLink RX4 27 "Forwardroll$Deal" "agreedRate" "I") (by decide +kernel)) (fun _ h9 => h9) rfl dX4_drawingRate_13 ?_
    refine lv_iload_n hx hb dX4_drawingRate_16 rfl (lv_at hl 1 rfl) ?_
    refine lv_aload_n hx hb dX4_drawingRate_17 rfl (lv_at hl 0 rfl) ?_
    refine m_get (ci := 4) (v := .int fi) (C := RX4) (T := TX4) (N := 7) (a := a) hx hb hts (by decide +kernel) hown hC hM fa rfl 5 (by decide) (hts (.fieldLink RX4 30 "Forwardroll$Deal" "firstDay" "I") (by decide +kernel)) (fun _ h9 => h9) rfl dX4_drawingRate_18 ?_
    refine lv_isub hx hb dX4_drawingRate_21 ?_
    refine k_i (va_runV (As := [.int ag, .int (to - fi)]) (rest := []) ⟨hx, hb, hml, hown, hts⟩ (c_X2_laterRate l G M cy nu sp pt ag (to - fi) fc) (cwV 2 hts gX4_drawingRate_X2_laterRate rfl rfl rfl (by decide +kernel) ⟨Nat.le_of_ble_eq_true rfl, Nat.le_of_ble_eq_true rfl⟩) (preV_of hC hS hM fc rfl) rfl rfl hl.1 rfl (lv_room (Nat.le_of_ble_eq_true rfl)) dX4_drawingRate_22 ⟨Nat.le_of_ble_eq_true rfl, Nat.le_of_ble_eq_true rfl⟩) hS (fun r22 u22 H locs hp22 hM hS => ?_)
    have hM : Hm G M H := hM
    have hp22 : r22 = al1 (ag + pt * (to - fi)) := hp22
    subst hp22
    refine lv_goto (tgt := 32) hx hb dX4_drawingRate_25 (by decide) ?_
    exact (r_i hx hb hr hlocks hS (v := al1 (ag + pt * (to - fi))) () (by rw [if_pos (Int32.not_le.mp c_5)]) hM (Nat.le_of_ble_eq_true rfl) (Nat.le_of_ble_eq_true rfl) dX4_drawingRate_32)
set_option maxHeartbeats 4000000 in
set_option maxRecDepth 100000 in
theorem c_X4_moveWindow (l : Launch) (G : Gx) (M : Mp) (a cu cy : Nat) (bu lf ag fi la : Int32) (da : Int32) (fa : M a = some (.inr (4, [.ref cu, .ref cy, .int bu, .int lf, .int ag, .int fi, .int la]))) : Met l yX4_moveWindow wsX4_moveWindow ({ frames := 0, cells := 0, slots := 0, locals := 0 }) (Cv G M [.ref a, .int da]) (va_Qv (S := Unit) (fun _ => True) (Bm G (fun _ => va_up M a (some (.inr (4, [.ref cu, .ref cy, .int bu, .int lf, .int ag, .int la, .int (la + da)]))))) (AG G)) (0) (0) (AG G) := by
  refine m_met [.ref a, .int da] [(0, .ref a), (1, .int da)] (by decide) rfl rfl (Nat.le_of_ble_eq_true rfl) ?_
  intro p e s m below meth c ls hx hb hr hml hown hts hlocks hin hC hM hl hS
  refine lv_aload_n hx hb dX4_moveWindow_0 rfl (lv_at hl 0 rfl) ?_
  refine lv_aload_n hx hb dX4_moveWindow_1 rfl (lv_at hl 0 rfl) ?_
  refine m_get (ci := 4) (v := .int la) (C := RX4) (T := TX4) (N := 7) (a := a) hx hb hts (by decide +kernel) hown hC hM fa rfl 6 (by decide) (hts (.fieldLink RX4 33 "Forwardroll$Deal" "lastDay" "I") (by decide +kernel)) (fun _ h9 => h9) rfl dX4_moveWindow_2 ?_
  refine m_put (host := "") (ci := 4) (v := .int la) (ty := .int) (C := RX4) (T := TX4) (N := 7) (a := a) hx hb hts (by decide +kernel) tyX4 tyX4_ok nmX4 hown hC hM hS fa rfl 5 (by decide) (hts (.fieldLink RX4 30 "Forwardroll$Deal" "firstDay" "I") (by decide +kernel)) (fun _ h9 => h9) rfl (by decide +kernel) rfl rfl (Nat.le_of_ble_eq_true rfl) dX4_moveWindow_5 (fun H locs hM hS => ?_)
  have hM : Hm G (va_up M a (some (.inr (4, [.ref cu, .ref cy, .int bu, .int lf, .int ag, .int la, .int la])))) H := hM
  have f5_2 : (va_up M a (some (.inr (4, [.ref cu, .ref cy, .int bu, .int lf, .int ag, .int la, .int la])))) a = some (.inr (4, [.ref cu, .ref cy, .int bu, .int lf, .int ag, .int la, .int la])) := up_eq
  refine lv_aload_n hx hb dX4_moveWindow_8 rfl (lv_at hl 0 rfl) ?_
  refine lv_dup hx hb dX4_moveWindow_9 rfl ?_
  refine m_get (ci := 4) (v := .int la) (C := RX4) (T := TX4) (N := 7) (a := a) hx hb hts (by decide +kernel) hown hC hM f5_2 rfl 6 (by decide) (hts (.fieldLink RX4 33 "Forwardroll$Deal" "lastDay" "I") (by decide +kernel)) (fun _ h9 => h9) rfl dX4_moveWindow_10 ?_
  refine lv_iload_n hx hb dX4_moveWindow_13 rfl (lv_at hl 1 rfl) ?_
  refine lv_iadd hx hb dX4_moveWindow_14 ?_
  refine m_put (host := "") (ci := 4) (v := .int (la + da)) (ty := .int) (C := RX4) (T := TX4) (N := 7) (a := a) hx hb hts (by decide +kernel) tyX4 tyX4_ok nmX4 hown hC hM hS f5_2 rfl 6 (by decide) (hts (.fieldLink RX4 33 "Forwardroll$Deal" "lastDay" "I") (by decide +kernel)) (fun _ h9 => h9) rfl (by decide +kernel) rfl rfl (Nat.le_of_ble_eq_true rfl) dX4_moveWindow_15 (fun H locs hM hS => ?_)
  have hM : Hm G (va_up M a (some (.inr (4, [.ref cu, .ref cy, .int bu, .int lf, .int ag, .int la, .int (la + da)])))) H := up2 ▸ hM
  have f15_4 : (va_up M a (some (.inr (4, [.ref cu, .ref cy, .int bu, .int lf, .int ag, .int la, .int (la + da)])))) a = some (.inr (4, [.ref cu, .ref cy, .int bu, .int lf, .int ag, .int la, .int (la + da)])) := up_eq
  exact (r_v hx hb hr hlocks hS () trivial hM (Nat.le_of_ble_eq_true rfl) (Nat.le_of_ble_eq_true rfl) dX4_moveWindow_18)
