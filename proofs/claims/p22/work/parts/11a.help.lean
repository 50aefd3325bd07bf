set_option maxHeartbeats 4000000 in
set_option maxRecDepth 100000 in
theorem c_L_low (l : Launch) (G : Gx) (M : Mp) (v : Int32) (n9 : Nat) (h0 : 0 < n9) (hn : n9 < 2 ^ 31) : Met l yL_low wsL_low ({ frames := 0, cells := 0, slots := 0, locals := 0 }) (Cv G M [.int v, .int (nI n9)]) (va_Qi (S := Unit) (fun r _ => ∃ j : Nat, j < n9 ∧ r = nI j) (Bm G (fun _ => M)) (AG G)) (0) (0) (AG G) := by
  refine m_met [.int v, .int (nI n9)] [(0, .int v), (1, .int (nI n9))] (by decide) rfl rfl (Nat.le_of_ble_eq_true rfl) ?_
  intro p e s m below meth c ls hx hb hr hml hown hts hlocks hin hC hM hl hS
  refine lv_iload_n hx hb dL_low_0 rfl (lv_at hl 0 rfl) ?_
  refine lv_iconst (v := 1) hx hb dL_low_1 (by decide) ?_
  refine lv_iushr (v := shr1 v) hx hb dL_low_2 rfl ?_
  refine lv_iload_n hx hb dL_low_3 rfl (lv_at hl 1 rfl) ?_
  refine lv_irem hx hb dL_low_4 (nI_ne0 h0 hn) ?_
  exact (r_i hx hb hr hlocks hS (v := ((shr1 v) - (shr1 v) / (nI n9) * (nI n9))) () (low_rng v h0 hn) hM (Nat.le_of_ble_eq_true rfl) (Nat.le_of_ble_eq_true rfl) dL_low_5)
set_option maxHeartbeats 4000000 in
set_option maxRecDepth 100000 in
theorem c_L_forwards (l : Launch) (G : Gx) (M : Mp) (S T : Sd) (th : Int32) (o : Int64) (ex : Nat → Option (Nat × Nat)) (ad : Nat → Nat → Nat) (c9 : Nat) (d9 : Int32) (hw : WA G S T th o ex ad M) (hc : c9 < 2) : Met l yL_forwards wsL_forwards ({ frames := 0, cells := 0, slots := 0, locals := 0 }) (Cv G M [.ref (ad 19 0), .int (nI c9), .int d9]) (va_Qi (S := Unit) (fun r _ => r = fwT T c9 d9) (Bm G (fun _ => M)) (AG G)) (0) (0) (AG G) := by
  refine m_met [.ref (ad 19 0), .int (nI c9), .int d9] [(0, .ref (ad 19 0)), (1, .int (nI c9)), (2, .int d9)] (by decide) rfl rfl (Nat.le_of_ble_eq_true rfl) ?_
  intro p e s m below meth c ls hx hb hr hml hown hts hlocks hin hC hM hl hS
  refine lv_aload_n hx hb dL_forwards_0 rfl (lv_at hl 0 rfl) ?_
  refine lv_iload_n hx hb dL_forwards_1 rfl (lv_at hl 1 rfl) ?_
  refine k_iald (a := (ad 19 0)) hx hb hC hM (qa19 hw) c9 (ix_lit rfl (by omega) (by decide)) dL_forwards_2 ?_
  refine lv_aload_n hx hb dL_forwards_3 rfl (lv_at hl 0 rfl) ?_
  refine lv_iconst (v := 2) hx hb dL_forwards_4 (by decide) ?_
  refine lv_iload_n hx hb dL_forwards_5 rfl (lv_at hl 1 rfl) ?_
  refine lv_iadd hx hb dL_forwards_6 ?_
  refine k_iald (a := (ad 19 0)) hx hb hC hM (qa19 hw) (2 + c9) (ix_lit (nI_add 2 c9) (by omega) (by decide)) dL_forwards_7 ?_
  refine lv_iload_n hx hb dL_forwards_8 rfl (lv_at hl 2 rfl) ?_
  refine lv_imul hx hb dL_forwards_9 ?_
  refine lv_iadd hx hb dL_forwards_10 ?_
  refine lv_istore_n (lv' := [(3, .int ((T.1 19 c9) + ((T.1 19 (2 + c9)) * d9))), (0, .ref (ad 19 0)), (1, .int (nI c9)), (2, .int d9)]) hx hb dL_forwards_11 rfl hl (by decide) rfl (fun ls hl => ?_)
  refine lv_iload_n hx hb dL_forwards_12 rfl (lv_at hl 0 rfl) ?_
  refine lv_iconst (v := 1) hx hb dL_forwards_13 (by decide) ?_
  refine lv_icmp_le (tgt := 21) hx hb dL_forwards_14 (by decide) (fun c_14 => ?_) (fun c_14 => ?_)
  · refine lv_iconst (v := 1) hx hb dL_forwards_21 (by decide) ?_
    exact (r_i hx hb hr hlocks hS (v := 1) () (al1_t c_14) hM (Nat.le_of_ble_eq_true rfl) (Nat.le_of_ble_eq_true rfl) dL_forwards_22)
  · refine lv_iload_n hx hb dL_forwards_17 rfl (lv_at hl 0 rfl) ?_
    refine lv_goto (tgt := 22) hx hb dL_forwards_18 (by decide) ?_
    exact (r_i hx hb hr hlocks hS (v := ((T.1 19 c9) + ((T.1 19 (2 + c9)) * d9))) () (al1_f c_14) hM (Nat.le_of_ble_eq_true rfl) (Nat.le_of_ble_eq_true rfl) dL_forwards_22)
set_option maxHeartbeats 4000000 in
set_option maxRecDepth 100000 in
theorem c_L_worth (l : Launch) (G : Gx) (M : Mp) (x9 : Int64) (rt : Int32)  : Met l yL_worth wsL_worth ({ frames := 0, cells := 0, slots := 0, locals := 0 }) (Cv G M [.long x9, .int rt]) (va_Ql (S := Unit) (fun r _ => r = x9 * rt.toInt64 / 10000) (Bm G (fun _ => M)) (AG G)) (0) (0) (AG G) := by
  refine m_met [.long x9, .int rt] [(0, .long x9), (2, .int rt)] (by decide) rfl rfl (Nat.le_of_ble_eq_true rfl) ?_
  intro p e s m below meth c ls hx hb hr hml hown hts hlocks hin hC hM hl hS
  refine lv_lload_n hx hb dL_worth_0 rfl (lv_at hl 0 rfl) ?_
  refine lv_iload_n hx hb dL_worth_1 rfl (lv_at hl 1 rfl) ?_
  refine lv_i2l hx hb dL_worth_2 rfl ?_
  refine lv_lmul hx hb dL_worth_3 ?_
  refine lv_ldc2 (own := RL) (v := 10000) hx hb hown (hts (.constantLong RL 75 10000) (by decide +kernel)) dL_worth_4 ?_
  refine lv_ldiv hx hb dL_worth_7 (by decide) ?_
  exact (r_l hx hb hr hlocks hS (v := ((x9 * rt.toInt64) / 10000)) () rfl hM (Nat.le_of_ble_eq_true rfl) (Nat.le_of_ble_eq_true rfl) dL_worth_8)
set_option maxHeartbeats 4000000 in
set_option maxRecDepth 100000 in
theorem c_L_gains (l : Launch) (G : Gx) (M : Mp) (S T : Sd) (th : Int32) (o : Int64) (ex : Nat → Option (Nat × Nat)) (ad : Nat → Nat → Nat) (j : Nat) (rt : Int32) (hw : WA G S T th o ex ad M) (hj : j < 20) : Met l yL_gains wsL_gains ({ frames := 1, cells := 0, slots := 0, locals := 22 }) (Cv G M [.ref (ad 14 0), .ref (ad 15 0), .ref (ad 18 0), .int (nI j), .int rt]) (va_Ql (S := Unit) (fun r _ => r = gnT T j rt) (Bm G (fun _ => M)) (AG G)) (0) (0) (AG G) := by
  refine m_met [.ref (ad 14 0), .ref (ad 15 0), .ref (ad 18 0), .int (nI j), .int rt] [(0, .ref (ad 14 0)), (1, .ref (ad 15 0)), (2, .ref (ad 18 0)), (3, .int (nI j)), (4, .int rt)] (by decide) rfl rfl (Nat.le_of_ble_eq_true rfl) ?_
  intro p e s m below meth c ls hx hb hr hml hown hts hlocks hin hC hM hl hS
  refine lv_aload_n hx hb dL_gains_0 rfl (lv_at hl 1 rfl) ?_
  refine lv_iload_n hx hb dL_gains_1 rfl (lv_at hl 3 rfl) ?_
  refine k_iald (a := (ad 15 0)) hx hb hC hM (qa15 hw) j (ix_lit rfl (by omega) (by decide)) dL_gains_2 ?_
  refine lv_i2l hx hb dL_gains_3 rfl ?_
  refine lv_iload hx hb dL_gains_4 (lv_at hl 4 rfl) ?_
  refine k_l (va_runS (As := [.long (((T.1 15 j)).toInt64), .int rt]) (rest := []) ⟨hx, hb, hml, hown, hts⟩ (c_L_worth l G M (((T.1 15 j)).toInt64) rt) (va_cwS 2 hts gL_gains_L_worth rfl rfl rfl (by decide +kernel) ⟨Nat.le_of_ble_eq_true rfl, Nat.le_of_ble_eq_true rfl⟩) (preS_of hC hS hM) rfl rfl hl.1 rfl (lv_room (Nat.le_of_ble_eq_true rfl)) dL_gains_6 ⟨Nat.le_of_ble_eq_true rfl, Nat.le_of_ble_eq_true rfl⟩) hS (fun r6 us6 H locs hp6 hM hS => ?_)
  have hM : Hm G M H := hM
  have hp6 : r6 = hom ((T.1 15 j)) rt := hp6
  subst hp6
  refine lv_aload_n hx hb dL_gains_9 rfl (lv_at hl 1 rfl) ?_
  refine lv_iload_n hx hb dL_gains_10 rfl (lv_at hl 3 rfl) ?_
  refine k_iald (a := (ad 15 0)) hx hb hC hM (qa15 hw) j (ix_lit rfl (by omega) (by decide)) dL_gains_11 ?_
  refine lv_i2l hx hb dL_gains_12 rfl ?_
  refine lv_aload_n hx hb dL_gains_13 rfl (lv_at hl 2 rfl) ?_
  refine lv_iload_n hx hb dL_gains_14 rfl (lv_at hl 3 rfl) ?_
  refine k_iald (a := (ad 18 0)) hx hb hC hM (qa18 hw) j (ix_lit rfl (by omega) (by decide)) dL_gains_15 ?_
  refine k_l (va_runS (As := [.long (((T.1 15 j)).toInt64), .int (T.1 18 j)]) (rest := [.long (hom ((T.1 15 j)) rt)]) ⟨hx, hb, hml, hown, hts⟩ (c_L_worth l G M (((T.1 15 j)).toInt64) (T.1 18 j)) (va_cwS 2 hts gL_gains_L_worth rfl rfl rfl (by decide +kernel) ⟨Nat.le_of_ble_eq_true rfl, Nat.le_of_ble_eq_true rfl⟩) (preS_of hC hS hM) rfl rfl hl.1 rfl (lv_room (Nat.le_of_ble_eq_true rfl)) dL_gains_16 ⟨Nat.le_of_ble_eq_true rfl, Nat.le_of_ble_eq_true rfl⟩) hS (fun r16 us16 H locs hp16 hM hS => ?_)
  have hM : Hm G M H := hM
  have hp16 : r16 = hom ((T.1 15 j)) (T.1 18 j) := hp16
  subst hp16
  refine lv_lsub hx hb dL_gains_19 ?_
  refine lv_lstore (lv' := [(5, .long ((hom ((T.1 15 j)) rt) - (hom ((T.1 15 j)) (T.1 18 j)))), (0, .ref (ad 14 0)), (1, .ref (ad 15 0)), (2, .ref (ad 18 0)), (3, .int (nI j)), (4, .int rt)]) hx hb dL_gains_20 hl (by decide) rfl (fun ls hl => ?_)
  refine lv_aload_n hx hb dL_gains_22 rfl (lv_at hl 1 rfl) ?_
  refine lv_iload_n hx hb dL_gains_23 rfl (lv_at hl 4 rfl) ?_
  refine k_iald (a := (ad 14 0)) hx hb hC hM (qa14 hw) j (ix_lit rfl (by omega) (by decide)) dL_gains_24 ?_
  refine lv_iconst (v := 3) hx hb dL_gains_25 (by decide) ?_
  refine lv_icmp_le (tgt := 35) hx hb dL_gains_26 (by decide) (fun c_26 => ?_) (fun c_26 => ?_)
  · refine lv_lload hx hb dL_gains_35 (lv_at hl 0 rfl) ?_
    exact (r_l hx hb hr hlocks hS (v := ((hom ((T.1 15 j)) rt) - (hom ((T.1 15 j)) (T.1 18 j)))) () (by unfold gnT; rw [if_neg (Int32.not_lt.mpr c_26)]) hM (Nat.le_of_ble_eq_true rfl) (Nat.le_of_ble_eq_true rfl) dL_gains_37)
  · refine lv_lload hx hb dL_gains_29 (lv_at hl 0 rfl) ?_
    refine lv_lneg hx hb dL_gains_31 ?_
    refine lv_goto (tgt := 37) hx hb dL_gains_32 (by decide) ?_
    exact (r_l hx hb hr hlocks hS (v := (-((hom ((T.1 15 j)) rt) - (hom ((T.1 15 j)) (T.1 18 j))))) () (by unfold gnT; rw [if_pos (Int32.not_le.mp c_26)]) hM (Nat.le_of_ble_eq_true rfl) (Nat.le_of_ble_eq_true rfl) dL_gains_37)
set_option maxHeartbeats 4000000 in
set_option maxRecDepth 100000 in
theorem c_L_now (l : Launch) (G : Gx) (M : Mp) (S T : Sd) (th : Int32) (o : Int64) (ex : Nat → Option (Nat × Nat)) (ad : Nat → Nat → Nat) (j : Nat) (hw : WA G S T th o ex ad M) (hj : j < 20) : Met l yL_now wsL_now ({ frames := 1, cells := 0, slots := 0, locals := 23 }) (Cv G M [.ref (ad 14 0), .ref (ad 17 0), .ref (ad 19 0), .ref (ad 22 0), .int (nI j)]) (va_Qi (S := Unit) (fun r _ => r = nwT T j) (Bm G (fun _ => M)) (AG G)) (0) (0) (AG G) := by
  refine m_met [.ref (ad 14 0), .ref (ad 17 0), .ref (ad 19 0), .ref (ad 22 0), .int (nI j)] [(0, .ref (ad 14 0)), (1, .ref (ad 17 0)), (2, .ref (ad 19 0)), (3, .ref (ad 22 0)), (4, .int (nI j))] (by decide) rfl rfl (Nat.le_of_ble_eq_true rfl) ?_
  intro p e s m below meth c ls hx hb hr hml hown hts hlocks hin hC hM hl hS
  refine lv_aload_n hx hb dL_now_0 rfl (lv_at hl 2 rfl) ?_
  refine lv_aload_n hx hb dL_now_1 rfl (lv_at hl 0 rfl) ?_
  refine lv_iload hx hb dL_now_2 (lv_at hl 4 rfl) ?_
  refine k_iald (a := (ad 14 0)) hx hb hC hM (qa14 hw) j (ix_lit rfl (by omega) (by decide)) dL_now_4 ?_
  refine lv_iconst (v := 1) hx hb dL_now_5 (by decide) ?_
  refine lv_ishr hx hb dL_now_6 ?_
  refine lv_iconst (v := 1) hx hb dL_now_7 (by decide) ?_
  refine lv_iand hx hb dL_now_8 ?_
  obtain ⟨y9, hy9, ey9⟩ := and1 (T.1 14 j >>> ((1 : Int32) &&& 31))
  rw [ey9]
  refine lv_aload_n hx hb dL_now_9 rfl (lv_at hl 1 rfl) ?_
  refine lv_iload hx hb dL_now_10 (lv_at hl 4 rfl) ?_
  refine k_iald (a := (ad 17 0)) hx hb hC hM (qa17 hw) j (ix_lit rfl (by omega) (by decide)) dL_now_12 ?_
  refine lv_aload_n hx hb dL_now_13 rfl (lv_at hl 3 rfl) ?_
  refine lv_iconst (v := 0) hx hb dL_now_14 (by decide) ?_
  refine k_iald (a := (ad 22 0)) hx hb hC hM (qa22 hw) 0 (ix_lit (rfl : (0 : Int32) = nI 0) (by decide) (by decide)) dL_now_15 ?_
  refine lv_isub hx hb dL_now_16 ?_
  refine k_i (va_runS (As := [.ref (ad 19 0), .int (nI y9), .int ((T.1 17 j) - (T.1 22 0))]) (rest := []) ⟨hx, hb, hml, hown, hts⟩ (c_L_forwards l G M S T th o ex ad y9 ((T.1 17 j) - (T.1 22 0)) hw (by omega)) (va_cwS 3 hts gL_now_L_forwards rfl rfl rfl (by decide +kernel) ⟨Nat.le_of_ble_eq_true rfl, Nat.le_of_ble_eq_true rfl⟩) (preS_of hC hS hM) rfl rfl hl.1 rfl (lv_room (Nat.le_of_ble_eq_true rfl)) dL_now_17 ⟨Nat.le_of_ble_eq_true rfl, Nat.le_of_ble_eq_true rfl⟩) hS (fun r17 us17 H locs hp17 hM hS => ?_)
  have hM : Hm G M H := hM
  have hp17 : r17 = fwT T y9 ((T.1 17 j) - (T.1 22 0)) := hp17
  subst hp17
  exact (r_i hx hb hr hlocks hS (v := (fwT T y9 ((T.1 17 j) - (T.1 22 0)))) () (by unfold nwT cyT; rw [ey9, nI_clamp (by omega)]) hM (Nat.le_of_ble_eq_true rfl) (Nat.le_of_ble_eq_true rfl) dL_now_20)
set_option maxHeartbeats 4000000 in
set_option maxRecDepth 100000 in
theorem c_L_exposes (l : Launch) (G : Gx) (M : Mp) (S T : Sd) (th : Int32) (o : Int64) (ex : Nat → Option (Nat × Nat)) (ad : Nat → Nat → Nat) (c9 n9 : Nat) (hw : WA G S T th o ex ad M) (hn : T.1 22 1 = nI n9) (h20 : n9 ≤ 20) : Met l yL_exposes wsL_exposes ({ frames := 2, cells := 0, slots := 0, locals := 48 }) (Cv G M [.ref (ad 14 0), .ref (ad 15 0), .ref (ad 17 0), .ref (ad 18 0), .ref (ad 19 0), .ref (ad 22 0), .int (nI c9)]) (va_Ql (S := Unit) (fun r _ => r = exT T c9 n9) (Bm G (fun _ => M)) (AG G)) (0) (0) (AG G) := by
  refine m_met [.ref (ad 14 0), .ref (ad 15 0), .ref (ad 17 0), .ref (ad 18 0), .ref (ad 19 0), .ref (ad 22 0), .int (nI c9)] [(0, .ref (ad 14 0)), (1, .ref (ad 15 0)), (2, .ref (ad 17 0)), (3, .ref (ad 18 0)), (4, .ref (ad 19 0)), (5, .ref (ad 22 0)), (6, .int (nI c9))] (by decide) rfl rfl (Nat.le_of_ble_eq_true rfl) ?_
  intro p e s m below meth c ls hx hb hr hml hown hts hlocks hin hC hM hl hS
  refine lv_lconst (v := 0) hx hb dL_exposes_0 (by decide) ?_
  refine lv_lstore (lv' := [(7, .long 0), (0, .ref (ad 14 0)), (1, .ref (ad 15 0)), (2, .ref (ad 17 0)), (3, .ref (ad 18 0)), (4, .ref (ad 19 0)), (5, .ref (ad 22 0)), (6, .int (nI c9))]) hx hb dL_exposes_1 hl (by decide) rfl (fun ls hl => ?_)
  refine lv_bipush (v := 90) hx hb dL_exposes_3 (by decide) ?_
  refine lv_istore (lv' := [(9, .int 90), (7, .long 0), (0, .ref (ad 14 0)), (1, .ref (ad 15 0)), (2, .ref (ad 17 0)), (3, .ref (ad 18 0)), (4, .ref (ad 19 0)), (5, .ref (ad 22 0)), (6, .int (nI c9))]) hx hb dL_exposes_5 hl (by decide) rfl (fun ls hl => ?_)
  have j107 : ∀ (w9 : Int64), (w9 = mx2 (loT T c9 90 n9) 0) → ∀ (ls : Array Slot), lv_has ls 14 [(0, .ref (ad 14 0)), (1, .ref (ad 15 0)), (2, .ref (ad 17 0)), (3, .ref (ad 18 0)), (4, .ref (ad 19 0)), (5, .ref (ad 22 0)), (6, .int (nI c9)), (9, .int 90)] → ∀ (H : Heap) (locs : List Loc), Hm G M H → va_S (AG G) s.heap H locs → W p l e { frames := 2, cells := 0, slots := 0, locals := 48 } s m ([.ref (ad 14 0), .ref (ad 15 0), .ref (ad 17 0), .ref (ad 18 0), .ref (ad 19 0), .ref (ad 22 0), .int (nI c9)] : List Value).toArray below meth c H locs (0) (0) (MQ below (va_Ql (S := Unit) (fun r _ => r = exT T c9 n9) (Bm G (fun _ => M)) (AG G)) ([.ref (ad 14 0), .ref (ad 15 0), .ref (ad 17 0), .ref (ad 18 0), .ref (ad 19 0), .ref (ad 22 0), .int (nI c9)] : List Value).toArray s (0) (0) (AG G)) (F0 m 107 ls [.long w9]) := by
    intro w9 hw9 ls hl H locs hM hS
    refine lv_lstore (lv' := [(7, .long w9), (0, .ref (ad 14 0)), (1, .ref (ad 15 0)), (2, .ref (ad 17 0)), (3, .ref (ad 18 0)), (4, .ref (ad 19 0)), (5, .ref (ad 22 0)), (6, .int (nI c9)), (9, .int 90)]) hx hb dL_exposes_107 hl (by decide) rfl (fun ls hl => ?_)
    refine lv_iinc (v := 110) (lv' := [(9, .int 110), (7, .long w9), (0, .ref (ad 14 0)), (1, .ref (ad 15 0)), (2, .ref (ad 17 0)), (3, .ref (ad 18 0)), (4, .ref (ad 19 0)), (5, .ref (ad 22 0)), (6, .int (nI c9))]) hx hb dL_exposes_109 hl (k := 8) rfl (by decide) (by decide) rfl (fun ls hl => ?_)
    refine lv_goto (tgt := 7) hx hb dL_exposes_112 (by decide) ?_
    refine lv_iload hx hb dL_exposes_7 (lv_at hl 0 rfl) ?_
    refine lv_bipush (v := 111) hx hb dL_exposes_9 (by decide) ?_
    refine lv_icmp_ge (tgt := 115) hx hb dL_exposes_11 (by decide) (fun c_11 => False.elim (by revert c_11; decide)) (fun c_11 => ?_)
    refine lv_lconst (v := 0) hx hb dL_exposes_14 (by decide) ?_
    refine lv_lstore (lv' := [(10, .long 0), (9, .int 110), (7, .long w9), (0, .ref (ad 14 0)), (1, .ref (ad 15 0)), (2, .ref (ad 17 0)), (3, .ref (ad 18 0)), (4, .ref (ad 19 0)), (5, .ref (ad 22 0)), (6, .int (nI c9))]) hx hb dL_exposes_15 hl (by decide) rfl (fun ls hl => ?_)
    refine lv_iconst (v := 0) hx hb dL_exposes_17 (by decide) ?_
    refine lv_istore (lv' := [(12, .int 0), (10, .long 0), (9, .int 110), (7, .long w9), (0, .ref (ad 14 0)), (1, .ref (ad 15 0)), (2, .ref (ad 17 0)), (3, .ref (ad 18 0)), (4, .ref (ad 19 0)), (5, .ref (ad 22 0)), (6, .int (nI c9))]) hx hb dL_exposes_18 hl (by decide) rfl (fun ls hl => ?_)
    have loopb : ∀ (n_loopb : Nat) (ib : Nat) (zb : Int64), (ib + n_loopb = n9) → (zb = loT T c9 110 ib) → ∀ ls : Array Slot, lv_has ls 14 [(0, .ref (ad 14 0)), (1, .ref (ad 15 0)), (2, .ref (ad 17 0)), (3, .ref (ad 18 0)), (4, .ref (ad 19 0)), (5, .ref (ad 22 0)), (6, .int (nI c9)), (7, .long w9), (9, .int 110), (10, .long zb), (12, .int (nI ib))] → ∀ (H : Heap) (locs : List Loc), Hm G M H → va_S (AG G) s.heap H locs → W p l e { frames := 2, cells := 0, slots := 0, locals := 48 } s m ([.ref (ad 14 0), .ref (ad 15 0), .ref (ad 17 0), .ref (ad 18 0), .ref (ad 19 0), .ref (ad 22 0), .int (nI c9)] : List Value).toArray below meth c H locs (0) (0) (MQ below (va_Ql (S := Unit) (fun r _ => r = exT T c9 n9) (Bm G (fun _ => M)) (AG G)) ([.ref (ad 14 0), .ref (ad 15 0), .ref (ad 17 0), .ref (ad 18 0), .ref (ad 19 0), .ref (ad 22 0), .int (nI c9)] : List Value).toArray s (0) (0) (AG G)) (F0 m 20 ls []) := by
      intro n_loopb
      induction n_loopb with
      | zero =>
        intro ib zb hnb hzb ls hl H locs hM hS
        refine lv_iload hx hb dL_exposes_20 (lv_at hl 10 rfl) ?_
        refine lv_aload hx hb dL_exposes_22 (lv_at hl 5 rfl) ?_
        refine lv_iconst (v := 1) hx hb dL_exposes_24 (by decide) ?_
        refine k_iald (a := (ad 22 0)) hx hb hC hM (qa22 hw) 1 (ix_lit (rfl : (1 : Int32) = nI 1) (by decide) (by decide)) dL_exposes_25 ?_
        rw [hn]
        refine lv_icmp_ge (tgt := 92) hx hb dL_exposes_26 (by decide) (fun c_26 => ?_) (fun c_26 => False.elim (by exact c_26 (nI_le (a := n9) (by omega) (by omega))))
        refine lv_lload hx hb dL_exposes_92 (lv_at hl 9 rfl) ?_
        refine lv_lload hx hb dL_exposes_94 (lv_at hl 7 rfl) ?_
        refine W.lcmp hx hb dL_exposes_96 ?_
        refine lv_if_le (tgt := 105) hx hb dL_exposes_97 (by decide) (fun c_97 => ?_) (fun c_97 => ?_)
        · refine lv_lload hx hb dL_exposes_105 (lv_at hl 7 rfl) ?_
          refine lv_lstore (lv' := [(7, .long w9), (0, .ref (ad 14 0)), (1, .ref (ad 15 0)), (2, .ref (ad 17 0)), (3, .ref (ad 18 0)), (4, .ref (ad 19 0)), (5, .ref (ad 22 0)), (6, .int (nI c9)), (9, .int 110), (10, .long zb), (12, .int (nI ib))]) hx hb dL_exposes_107 hl (by decide) rfl (fun ls hl => ?_)
          refine lv_iinc (v := 130) (lv' := [(9, .int 130), (7, .long w9), (0, .ref (ad 14 0)), (1, .ref (ad 15 0)), (2, .ref (ad 17 0)), (3, .ref (ad 18 0)), (4, .ref (ad 19 0)), (5, .ref (ad 22 0)), (6, .int (nI c9)), (10, .long zb), (12, .int (nI ib))]) hx hb dL_exposes_109 hl (k := 8) rfl (by decide) (by decide) rfl (fun ls hl => ?_)
          refine lv_goto (tgt := 7) hx hb dL_exposes_112 (by decide) ?_
          refine lv_iload hx hb dL_exposes_7 (lv_at hl 0 rfl) ?_
          refine lv_bipush (v := 111) hx hb dL_exposes_9 (by decide) ?_
          refine lv_icmp_ge (tgt := 115) hx hb dL_exposes_11 (by decide) (fun c_11 => ?_) (fun c_11 => False.elim (by revert c_11; decide))
          refine lv_lload hx hb dL_exposes_115 (lv_at hl 1 rfl) ?_
          exact (r_l hx hb hr hlocks hS (v := w9) () (by unfold exT; rw [← hw9, show n9 = ib by omega, ← hzb]; unfold mx2; rw [if_pos ((lg_cmp_le _ _).mp c_97)]) hM (Nat.le_of_ble_eq_true rfl) (Nat.le_of_ble_eq_true rfl) dL_exposes_117)
        · refine lv_lload hx hb dL_exposes_100 (lv_at hl 9 rfl) ?_
          refine lv_goto (tgt := 107) hx hb dL_exposes_102 (by decide) ?_
          refine lv_lstore (lv' := [(7, .long zb), (0, .ref (ad 14 0)), (1, .ref (ad 15 0)), (2, .ref (ad 17 0)), (3, .ref (ad 18 0)), (4, .ref (ad 19 0)), (5, .ref (ad 22 0)), (6, .int (nI c9)), (9, .int 110), (10, .long zb), (12, .int (nI ib))]) hx hb dL_exposes_107 hl (by decide) rfl (fun ls hl => ?_)
          refine lv_iinc (v := 130) (lv' := [(9, .int 130), (7, .long zb), (0, .ref (ad 14 0)), (1, .ref (ad 15 0)), (2, .ref (ad 17 0)), (3, .ref (ad 18 0)), (4, .ref (ad 19 0)), (5, .ref (ad 22 0)), (6, .int (nI c9)), (10, .long zb), (12, .int (nI ib))]) hx hb dL_exposes_109 hl (k := 8) rfl (by decide) (by decide) rfl (fun ls hl => ?_)
          refine lv_goto (tgt := 7) hx hb dL_exposes_112 (by decide) ?_
          refine lv_iload hx hb dL_exposes_7 (lv_at hl 0 rfl) ?_
          refine lv_bipush (v := 111) hx hb dL_exposes_9 (by decide) ?_
          refine lv_icmp_ge (tgt := 115) hx hb dL_exposes_11 (by decide) (fun c_11 => ?_) (fun c_11 => False.elim (by revert c_11; decide))
          refine lv_lload hx hb dL_exposes_115 (lv_at hl 1 rfl) ?_
          exact (r_l hx hb hr hlocks hS (v := zb) () (by unfold exT; rw [← hw9, show n9 = ib by omega, ← hzb]; unfold mx2; rw [if_neg (fun q => c_97 ((lg_cmp_le _ _).mpr q))]) hM (Nat.le_of_ble_eq_true rfl) (Nat.le_of_ble_eq_true rfl) dL_exposes_117)
      | succ n_loopb ih_loopb =>
        intro ib zb hnb hzb ls hl H locs hM hS
        refine lv_iload hx hb dL_exposes_20 (lv_at hl 10 rfl) ?_
        refine lv_aload hx hb dL_exposes_22 (lv_at hl 5 rfl) ?_
        refine lv_iconst (v := 1) hx hb dL_exposes_24 (by decide) ?_
        refine k_iald (a := (ad 22 0)) hx hb hC hM (qa22 hw) 1 (ix_lit (rfl : (1 : Int32) = nI 1) (by decide) (by decide)) dL_exposes_25 ?_
        rw [hn]
        refine lv_icmp_ge (tgt := 92) hx hb dL_exposes_26 (by decide) (fun c_26 => False.elim (by exact nI_ge (a := ib) (b := n9) (by omega) (by omega) c_26)) (fun c_26 => ?_)
        refine lv_aload_n hx hb dL_exposes_29 rfl (lv_at hl 0 rfl) ?_
        refine lv_iload hx hb dL_exposes_30 (lv_at hl 10 rfl) ?_
        refine k_iald (a := (ad 14 0)) hx hb hC hM (qa14 hw) ib (ix_lit rfl (by omega) (by decide)) dL_exposes_32 ?_
        refine lv_iconst (v := 1) hx hb dL_exposes_33 (by decide) ?_
        refine lv_iand hx hb dL_exposes_34 ?_
        refine lv_iload hx hb dL_exposes_35 (lv_at hl 6 rfl) ?_
        refine lv_icmp_eq (tgt := 43) hx hb dL_exposes_37 (by decide) (fun c_37 => ?_) (fun c_37 => ?_)
        · refine lv_aload_n hx hb dL_exposes_43 rfl (lv_at hl 0 rfl) ?_
          refine lv_aload_n hx hb dL_exposes_44 rfl (lv_at hl 2 rfl) ?_
          refine lv_aload hx hb dL_exposes_45 (lv_at hl 4 rfl) ?_
          refine lv_aload hx hb dL_exposes_47 (lv_at hl 5 rfl) ?_
          refine lv_iload hx hb dL_exposes_49 (lv_at hl 10 rfl) ?_
          refine k_i (va_runS (As := [.ref (ad 14 0), .ref (ad 17 0), .ref (ad 19 0), .ref (ad 22 0), .int (nI ib)]) (rest := []) ⟨hx, hb, hml, hown, hts⟩ (c_L_now l G M S T th o ex ad ib hw (by omega)) (va_cwS 5 hts gL_exposes_L_now rfl rfl rfl (by decide +kernel) ⟨Nat.le_of_ble_eq_true rfl, Nat.le_of_ble_eq_true rfl⟩) (preS_of hC hS hM) rfl rfl hl.1 rfl (lv_room (Nat.le_of_ble_eq_true rfl)) dL_exposes_51 ⟨Nat.le_of_ble_eq_true rfl, Nat.le_of_ble_eq_true rfl⟩) hS (fun r51 us51 H locs hp51 hM hS => ?_)
          have hM : Hm G M H := hM
          have hp51 : r51 = nwT T ib := hp51
          subst hp51
          refine lv_iload hx hb dL_exposes_54 (lv_at hl 8 rfl) ?_
          refine lv_imul hx hb dL_exposes_56 ?_
          refine lv_bipush (v := 100) hx hb dL_exposes_57 (by decide) ?_
          refine lv_idiv hx hb dL_exposes_59 (by decide) ?_
          refine lv_istore (lv' := [(13, .int (((nwT T ib) * 110) / 100)), (0, .ref (ad 14 0)), (1, .ref (ad 15 0)), (2, .ref (ad 17 0)), (3, .ref (ad 18 0)), (4, .ref (ad 19 0)), (5, .ref (ad 22 0)), (6, .int (nI c9)), (7, .long w9), (9, .int 110), (10, .long zb), (12, .int (nI ib))]) hx hb dL_exposes_60 hl (by decide) rfl (fun ls hl => ?_)
          refine lv_lload hx hb dL_exposes_62 (lv_at hl 10 rfl) ?_
          refine lv_aload_n hx hb dL_exposes_64 rfl (lv_at hl 1 rfl) ?_
          refine lv_aload_n hx hb dL_exposes_65 rfl (lv_at hl 2 rfl) ?_
          refine lv_aload_n hx hb dL_exposes_66 rfl (lv_at hl 4 rfl) ?_
          refine lv_iload hx hb dL_exposes_67 (lv_at hl 11 rfl) ?_
          refine lv_iload hx hb dL_exposes_69 (lv_at hl 0 rfl) ?_
          refine lv_if_ne (tgt := 78) hx hb dL_exposes_71 (by decide) (fun c_71 => ?_) (fun c_71 => ?_)
          · refine lv_iload hx hb dL_exposes_78 (lv_at hl 0 rfl) ?_
            refine k_l (va_runS (As := [.ref (ad 14 0), .ref (ad 15 0), .ref (ad 18 0), .int (nI ib), .int (((nwT T ib) * 110) / 100)]) (rest := [.long zb]) ⟨hx, hb, hml, hown, hts⟩ (c_L_gains l G M S T th o ex ad ib (((nwT T ib) * 110) / 100) hw (by omega)) (va_cwS 5 hts gL_exposes_L_gains rfl rfl rfl (by decide +kernel) ⟨Nat.le_of_ble_eq_true rfl, Nat.le_of_ble_eq_true rfl⟩) (preS_of hC hS hM) rfl rfl hl.1 rfl (lv_room (Nat.le_of_ble_eq_true rfl)) dL_exposes_80 ⟨Nat.le_of_ble_eq_true rfl, Nat.le_of_ble_eq_true rfl⟩) hS (fun r80 us80 H locs hp80 hM hS => ?_)
            have hM : Hm G M H := hM
            have hp80 : r80 = gnT T ib (((nwT T ib) * 110) / 100) := hp80
            subst hp80
            refine lv_lsub hx hb dL_exposes_83 ?_
            refine lv_lstore (lv' := [(10, .long (zb - (gnT T ib (((nwT T ib) * 110) / 100)))), (13, .int (((nwT T ib) * 110) / 100)), (0, .ref (ad 14 0)), (1, .ref (ad 15 0)), (2, .ref (ad 17 0)), (3, .ref (ad 18 0)), (4, .ref (ad 19 0)), (5, .ref (ad 22 0)), (6, .int (nI c9)), (7, .long w9), (9, .int 110), (12, .int (nI ib))]) hx hb dL_exposes_84 hl (by decide) rfl (fun ls hl => ?_)
            refine lv_iinc (v := ((nI ib) + 1)) (lv' := [(12, .int ((nI ib) + 1)), (10, .long (zb - (gnT T ib (((nwT T ib) * 110) / 100)))), (13, .int (((nwT T ib) * 110) / 100)), (0, .ref (ad 14 0)), (1, .ref (ad 15 0)), (2, .ref (ad 17 0)), (3, .ref (ad 18 0)), (4, .ref (ad 19 0)), (5, .ref (ad 22 0)), (6, .int (nI c9)), (7, .long w9), (9, .int 110)]) hx hb dL_exposes_86 hl (k := 11) rfl rfl (by decide) rfl (fun ls hl => ?_)
            refine lv_goto (tgt := 20) hx hb dL_exposes_89 (by decide) ?_
            have ezb : (zb - (gnT T ib (((nwT T ib) * 110) / 100))) = loT T c9 110 (ib + 1) := by
              rw [hzb]
              show _ = (if cuT T ib = nI c9 then loT T c9 110 ib - gnT T ib (z1 (nwT T ib * 110 / 100)) else loT T c9 110 ib)
              rw [if_pos (show cuT T ib = nI c9 from c_37)]
              unfold z1
              rw [if_neg c_71]
            rw [show nI ib + 1 = nI (ib + 1) from nI_1 ib] at hl
            exact ih_loopb (ib + 1) (zb - (gnT T ib (((nwT T ib) * 110) / 100))) (by omega) ezb ls (lv_sub hl [3, 4, 5, 6, 7, 8, 9, 10, 11, 1, 0] rfl) _ _ hM hS
          · refine lv_iconst (v := 1) hx hb dL_exposes_74 (by decide) ?_
            refine lv_goto (tgt := 80) hx hb dL_exposes_75 (by decide) ?_
            refine k_l (va_runS (As := [.ref (ad 14 0), .ref (ad 15 0), .ref (ad 18 0), .int (nI ib), .int 1]) (rest := [.long zb]) ⟨hx, hb, hml, hown, hts⟩ (c_L_gains l G M S T th o ex ad ib (1 : Int32) hw (by omega)) (va_cwS 5 hts gL_exposes_L_gains rfl rfl rfl (by decide +kernel) ⟨Nat.le_of_ble_eq_true rfl, Nat.le_of_ble_eq_true rfl⟩) (preS_of hC hS hM) rfl rfl hl.1 rfl (lv_room (Nat.le_of_ble_eq_true rfl)) dL_exposes_80 ⟨Nat.le_of_ble_eq_true rfl, Nat.le_of_ble_eq_true rfl⟩) hS (fun r80 us80 H locs hp80 hM hS => ?_)
            have hM : Hm G M H := hM
            have hp80 : r80 = gnT T ib 1 := hp80
            subst hp80
            refine lv_lsub hx hb dL_exposes_83 ?_
            refine lv_lstore (lv' := [(10, .long (zb - (gnT T ib 1))), (13, .int (((nwT T ib) * 110) / 100)), (0, .ref (ad 14 0)), (1, .ref (ad 15 0)), (2, .ref (ad 17 0)), (3, .ref (ad 18 0)), (4, .ref (ad 19 0)), (5, .ref (ad 22 0)), (6, .int (nI c9)), (7, .long w9), (9, .int 110), (12, .int (nI ib))]) hx hb dL_exposes_84 hl (by decide) rfl (fun ls hl => ?_)
            refine lv_iinc (v := ((nI ib) + 1)) (lv' := [(12, .int ((nI ib) + 1)), (10, .long (zb - (gnT T ib 1))), (13, .int (((nwT T ib) * 110) / 100)), (0, .ref (ad 14 0)), (1, .ref (ad 15 0)), (2, .ref (ad 17 0)), (3, .ref (ad 18 0)), (4, .ref (ad 19 0)), (5, .ref (ad 22 0)), (6, .int (nI c9)), (7, .long w9), (9, .int 110)]) hx hb dL_exposes_86 hl (k := 11) rfl rfl (by decide) rfl (fun ls hl => ?_)
            refine lv_goto (tgt := 20) hx hb dL_exposes_89 (by decide) ?_
            have ezb : (zb - (gnT T ib 1)) = loT T c9 110 (ib + 1) := by
              rw [hzb]
              show _ = (if cuT T ib = nI c9 then loT T c9 110 ib - gnT T ib (z1 (nwT T ib * 110 / 100)) else loT T c9 110 ib)
              rw [if_pos (show cuT T ib = nI c9 from c_37)]
              unfold z1
              rw [if_pos c_71]
            rw [show nI ib + 1 = nI (ib + 1) from nI_1 ib] at hl
            exact ih_loopb (ib + 1) (zb - (gnT T ib 1)) (by omega) ezb ls (lv_sub hl [3, 4, 5, 6, 7, 8, 9, 10, 11, 1, 0] rfl) _ _ hM hS
        · refine lv_goto (tgt := 86) hx hb dL_exposes_40 (by decide) ?_
          refine lv_iinc (v := ((nI ib) + 1)) (lv' := [(12, .int ((nI ib) + 1)), (0, .ref (ad 14 0)), (1, .ref (ad 15 0)), (2, .ref (ad 17 0)), (3, .ref (ad 18 0)), (4, .ref (ad 19 0)), (5, .ref (ad 22 0)), (6, .int (nI c9)), (7, .long w9), (9, .int 110), (10, .long zb)]) hx hb dL_exposes_86 hl (k := 10) rfl rfl (by decide) rfl (fun ls hl => ?_)
          refine lv_goto (tgt := 20) hx hb dL_exposes_89 (by decide) ?_
          have ezb : zb = loT T c9 110 (ib + 1) := by
            rw [hzb]
            show _ = (if cuT T ib = nI c9 then loT T c9 110 ib - gnT T ib (z1 (nwT T ib * 110 / 100)) else loT T c9 110 ib)
            rw [if_neg (show ¬ cuT T ib = nI c9 from c_37)]
          rw [show nI ib + 1 = nI (ib + 1) from nI_1 ib] at hl
          exact ih_loopb (ib + 1) zb (by omega) ezb ls (lv_sub hl [1, 2, 3, 4, 5, 6, 7, 8, 9, 10, 0] rfl) _ _ hM hS
    exact loopb n9 0 0 (by omega) rfl ls (lv_sub hl [4, 5, 6, 7, 8, 9, 10, 3, 2, 1, 0] rfl) _ _ hM hS
  refine lv_iload hx hb dL_exposes_7 (lv_at hl 0 rfl) ?_
  refine lv_bipush (v := 111) hx hb dL_exposes_9 (by decide) ?_
  refine lv_icmp_ge (tgt := 115) hx hb dL_exposes_11 (by decide) (fun c_11 => False.elim (by revert c_11; decide)) (fun c_11 => ?_)
  refine lv_lconst (v := 0) hx hb dL_exposes_14 (by decide) ?_
  refine lv_lstore (lv' := [(10, .long 0), (9, .int 90), (7, .long 0), (0, .ref (ad 14 0)), (1, .ref (ad 15 0)), (2, .ref (ad 17 0)), (3, .ref (ad 18 0)), (4, .ref (ad 19 0)), (5, .ref (ad 22 0)), (6, .int (nI c9))]) hx hb dL_exposes_15 hl (by decide) rfl (fun ls hl => ?_)
  refine lv_iconst (v := 0) hx hb dL_exposes_17 (by decide) ?_
  refine lv_istore (lv' := [(12, .int 0), (10, .long 0), (9, .int 90), (7, .long 0), (0, .ref (ad 14 0)), (1, .ref (ad 15 0)), (2, .ref (ad 17 0)), (3, .ref (ad 18 0)), (4, .ref (ad 19 0)), (5, .ref (ad 22 0)), (6, .int (nI c9))]) hx hb dL_exposes_18 hl (by decide) rfl (fun ls hl => ?_)
  have loopa : ∀ (n_loopa : Nat) (ia : Nat) (za : Int64), (ia + n_loopa = n9) → (za = loT T c9 90 ia) → ∀ ls : Array Slot, lv_has ls 14 [(0, .ref (ad 14 0)), (1, .ref (ad 15 0)), (2, .ref (ad 17 0)), (3, .ref (ad 18 0)), (4, .ref (ad 19 0)), (5, .ref (ad 22 0)), (6, .int (nI c9)), (7, .long 0), (9, .int 90), (10, .long za), (12, .int (nI ia))] → ∀ (H : Heap) (locs : List Loc), Hm G M H → va_S (AG G) s.heap H locs → W p l e { frames := 2, cells := 0, slots := 0, locals := 48 } s m ([.ref (ad 14 0), .ref (ad 15 0), .ref (ad 17 0), .ref (ad 18 0), .ref (ad 19 0), .ref (ad 22 0), .int (nI c9)] : List Value).toArray below meth c H locs (0) (0) (MQ below (va_Ql (S := Unit) (fun r _ => r = exT T c9 n9) (Bm G (fun _ => M)) (AG G)) ([.ref (ad 14 0), .ref (ad 15 0), .ref (ad 17 0), .ref (ad 18 0), .ref (ad 19 0), .ref (ad 22 0), .int (nI c9)] : List Value).toArray s (0) (0) (AG G)) (F0 m 20 ls []) := by
    intro n_loopa
    induction n_loopa with
    | zero =>
      intro ia za hna hza ls hl H locs hM hS
      refine lv_iload hx hb dL_exposes_20 (lv_at hl 10 rfl) ?_
      refine lv_aload hx hb dL_exposes_22 (lv_at hl 5 rfl) ?_
      refine lv_iconst (v := 1) hx hb dL_exposes_24 (by decide) ?_
      refine k_iald (a := (ad 22 0)) hx hb hC hM (qa22 hw) 1 (ix_lit (rfl : (1 : Int32) = nI 1) (by decide) (by decide)) dL_exposes_25 ?_
      rw [hn]
      refine lv_icmp_ge (tgt := 92) hx hb dL_exposes_26 (by decide) (fun c_26 => ?_) (fun c_26 => False.elim (by exact c_26 (nI_le (a := n9) (by omega) (by omega))))
      refine lv_lload hx hb dL_exposes_92 (lv_at hl 9 rfl) ?_
      refine lv_lload hx hb dL_exposes_94 (lv_at hl 7 rfl) ?_
      refine W.lcmp hx hb dL_exposes_96 ?_
      refine lv_if_le (tgt := 105) hx hb dL_exposes_97 (by decide) (fun c_97 => ?_) (fun c_97 => ?_)
      · refine lv_lload hx hb dL_exposes_105 (lv_at hl 7 rfl) ?_
        exact j107 0 (by rw [show n9 = ia by omega, ← hza]; unfold mx2; rw [if_pos ((lg_cmp_le _ _).mp c_97)]) ls (lv_sub hl [0, 1, 2, 3, 4, 5, 6, 8] rfl) _ _ hM hS
      · refine lv_lload hx hb dL_exposes_100 (lv_at hl 9 rfl) ?_
        refine lv_goto (tgt := 107) hx hb dL_exposes_102 (by decide) ?_
        exact j107 za (by rw [show n9 = ia by omega, ← hza]; unfold mx2; rw [if_neg (fun q => c_97 ((lg_cmp_le _ _).mpr q))]) ls (lv_sub hl [0, 1, 2, 3, 4, 5, 6, 8] rfl) _ _ hM hS
    | succ n_loopa ih_loopa =>
      intro ia za hna hza ls hl H locs hM hS
      refine lv_iload hx hb dL_exposes_20 (lv_at hl 10 rfl) ?_
      refine lv_aload hx hb dL_exposes_22 (lv_at hl 5 rfl) ?_
      refine lv_iconst (v := 1) hx hb dL_exposes_24 (by decide) ?_
      refine k_iald (a := (ad 22 0)) hx hb hC hM (qa22 hw) 1 (ix_lit (rfl : (1 : Int32) = nI 1) (by decide) (by decide)) dL_exposes_25 ?_
      rw [hn]
      refine lv_icmp_ge (tgt := 92) hx hb dL_exposes_26 (by decide) (fun c_26 => False.elim (by exact nI_ge (a := ia) (b := n9) (by omega) (by omega) c_26)) (fun c_26 => ?_)
      refine lv_aload_n hx hb dL_exposes_29 rfl (lv_at hl 0 rfl) ?_
      refine lv_iload hx hb dL_exposes_30 (lv_at hl 10 rfl) ?_
      refine k_iald (a := (ad 14 0)) hx hb hC hM (qa14 hw) ia (ix_lit rfl (by omega) (by decide)) dL_exposes_32 ?_
      refine lv_iconst (v := 1) hx hb dL_exposes_33 (by decide) ?_
      refine lv_iand hx hb dL_exposes_34 ?_
      refine lv_iload hx hb dL_exposes_35 (lv_at hl 6 rfl) ?_
      refine lv_icmp_eq (tgt := 43) hx hb dL_exposes_37 (by decide) (fun c_37 => ?_) (fun c_37 => ?_)
      · refine lv_aload_n hx hb dL_exposes_43 rfl (lv_at hl 0 rfl) ?_
        refine lv_aload_n hx hb dL_exposes_44 rfl (lv_at hl 2 rfl) ?_
        refine lv_aload hx hb dL_exposes_45 (lv_at hl 4 rfl) ?_
        refine lv_aload hx hb dL_exposes_47 (lv_at hl 5 rfl) ?_
        refine lv_iload hx hb dL_exposes_49 (lv_at hl 10 rfl) ?_
        refine k_i (va_runS (As := [.ref (ad 14 0), .ref (ad 17 0), .ref (ad 19 0), .ref (ad 22 0), .int (nI ia)]) (rest := []) ⟨hx, hb, hml, hown, hts⟩ (c_L_now l G M S T th o ex ad ia hw (by omega)) (va_cwS 5 hts gL_exposes_L_now rfl rfl rfl (by decide +kernel) ⟨Nat.le_of_ble_eq_true rfl, Nat.le_of_ble_eq_true rfl⟩) (preS_of hC hS hM) rfl rfl hl.1 rfl (lv_room (Nat.le_of_ble_eq_true rfl)) dL_exposes_51 ⟨Nat.le_of_ble_eq_true rfl, Nat.le_of_ble_eq_true rfl⟩) hS (fun r51 us51 H locs hp51 hM hS => ?_)
        have hM : Hm G M H := hM
        have hp51 : r51 = nwT T ia := hp51
        subst hp51
        refine lv_iload hx hb dL_exposes_54 (lv_at hl 8 rfl) ?_
        refine lv_imul hx hb dL_exposes_56 ?_
        refine lv_bipush (v := 100) hx hb dL_exposes_57 (by decide) ?_
        refine lv_idiv hx hb dL_exposes_59 (by decide) ?_
        refine lv_istore (lv' := [(13, .int (((nwT T ia) * 90) / 100)), (0, .ref (ad 14 0)), (1, .ref (ad 15 0)), (2, .ref (ad 17 0)), (3, .ref (ad 18 0)), (4, .ref (ad 19 0)), (5, .ref (ad 22 0)), (6, .int (nI c9)), (7, .long 0), (9, .int 90), (10, .long za), (12, .int (nI ia))]) hx hb dL_exposes_60 hl (by decide) rfl (fun ls hl => ?_)
        refine lv_lload hx hb dL_exposes_62 (lv_at hl 10 rfl) ?_
        refine lv_aload_n hx hb dL_exposes_64 rfl (lv_at hl 1 rfl) ?_
        refine lv_aload_n hx hb dL_exposes_65 rfl (lv_at hl 2 rfl) ?_
        refine lv_aload_n hx hb dL_exposes_66 rfl (lv_at hl 4 rfl) ?_
        refine lv_iload hx hb dL_exposes_67 (lv_at hl 11 rfl) ?_
        refine lv_iload hx hb dL_exposes_69 (lv_at hl 0 rfl) ?_
        refine lv_if_ne (tgt := 78) hx hb dL_exposes_71 (by decide) (fun c_71 => ?_) (fun c_71 => ?_)
        · refine lv_iload hx hb dL_exposes_78 (lv_at hl 0 rfl) ?_
          refine k_l (va_runS (As := [.ref (ad 14 0), .ref (ad 15 0), .ref (ad 18 0), .int (nI ia), .int (((nwT T ia) * 90) / 100)]) (rest := [.long za]) ⟨hx, hb, hml, hown, hts⟩ (c_L_gains l G M S T th o ex ad ia (((nwT T ia) * 90) / 100) hw (by omega)) (va_cwS 5 hts gL_exposes_L_gains rfl rfl rfl (by decide +kernel) ⟨Nat.le_of_ble_eq_true rfl, Nat.le_of_ble_eq_true rfl⟩) (preS_of hC hS hM) rfl rfl hl.1 rfl (lv_room (Nat.le_of_ble_eq_true rfl)) dL_exposes_80 ⟨Nat.le_of_ble_eq_true rfl, Nat.le_of_ble_eq_true rfl⟩) hS (fun r80 us80 H locs hp80 hM hS => ?_)
          have hM : Hm G M H := hM
          have hp80 : r80 = gnT T ia (((nwT T ia) * 90) / 100) := hp80
          subst hp80
          refine lv_lsub hx hb dL_exposes_83 ?_
          refine lv_lstore (lv' := [(10, .long (za - (gnT T ia (((nwT T ia) * 90) / 100)))), (13, .int (((nwT T ia) * 90) / 100)), (0, .ref (ad 14 0)), (1, .ref (ad 15 0)), (2, .ref (ad 17 0)), (3, .ref (ad 18 0)), (4, .ref (ad 19 0)), (5, .ref (ad 22 0)), (6, .int (nI c9)), (7, .long 0), (9, .int 90), (12, .int (nI ia))]) hx hb dL_exposes_84 hl (by decide) rfl (fun ls hl => ?_)
          refine lv_iinc (v := ((nI ia) + 1)) (lv' := [(12, .int ((nI ia) + 1)), (10, .long (za - (gnT T ia (((nwT T ia) * 90) / 100)))), (13, .int (((nwT T ia) * 90) / 100)), (0, .ref (ad 14 0)), (1, .ref (ad 15 0)), (2, .ref (ad 17 0)), (3, .ref (ad 18 0)), (4, .ref (ad 19 0)), (5, .ref (ad 22 0)), (6, .int (nI c9)), (7, .long 0), (9, .int 90)]) hx hb dL_exposes_86 hl (k := 11) rfl rfl (by decide) rfl (fun ls hl => ?_)
          refine lv_goto (tgt := 20) hx hb dL_exposes_89 (by decide) ?_
          have eza : (za - (gnT T ia (((nwT T ia) * 90) / 100))) = loT T c9 90 (ia + 1) := by
            rw [hza]
            show _ = (if cuT T ia = nI c9 then loT T c9 90 ia - gnT T ia (z1 (nwT T ia * 90 / 100)) else loT T c9 90 ia)
            rw [if_pos (show cuT T ia = nI c9 from c_37)]
            unfold z1
            rw [if_neg c_71]
          rw [show nI ia + 1 = nI (ia + 1) from nI_1 ia] at hl
          exact ih_loopa (ia + 1) (za - (gnT T ia (((nwT T ia) * 90) / 100))) (by omega) eza ls (lv_sub hl [3, 4, 5, 6, 7, 8, 9, 10, 11, 1, 0] rfl) _ _ hM hS
        · refine lv_iconst (v := 1) hx hb dL_exposes_74 (by decide) ?_
          refine lv_goto (tgt := 80) hx hb dL_exposes_75 (by decide) ?_
          refine k_l (va_runS (As := [.ref (ad 14 0), .ref (ad 15 0), .ref (ad 18 0), .int (nI ia), .int 1]) (rest := [.long za]) ⟨hx, hb, hml, hown, hts⟩ (c_L_gains l G M S T th o ex ad ia (1 : Int32) hw (by omega)) (va_cwS 5 hts gL_exposes_L_gains rfl rfl rfl (by decide +kernel) ⟨Nat.le_of_ble_eq_true rfl, Nat.le_of_ble_eq_true rfl⟩) (preS_of hC hS hM) rfl rfl hl.1 rfl (lv_room (Nat.le_of_ble_eq_true rfl)) dL_exposes_80 ⟨Nat.le_of_ble_eq_true rfl, Nat.le_of_ble_eq_true rfl⟩) hS (fun r80 us80 H locs hp80 hM hS => ?_)
          have hM : Hm G M H := hM
          have hp80 : r80 = gnT T ia 1 := hp80
          subst hp80
          refine lv_lsub hx hb dL_exposes_83 ?_
          refine lv_lstore (lv' := [(10, .long (za - (gnT T ia 1))), (13, .int (((nwT T ia) * 90) / 100)), (0, .ref (ad 14 0)), (1, .ref (ad 15 0)), (2, .ref (ad 17 0)), (3, .ref (ad 18 0)), (4, .ref (ad 19 0)), (5, .ref (ad 22 0)), (6, .int (nI c9)), (7, .long 0), (9, .int 90), (12, .int (nI ia))]) hx hb dL_exposes_84 hl (by decide) rfl (fun ls hl => ?_)
          refine lv_iinc (v := ((nI ia) + 1)) (lv' := [(12, .int ((nI ia) + 1)), (10, .long (za - (gnT T ia 1))), (13, .int (((nwT T ia) * 90) / 100)), (0, .ref (ad 14 0)), (1, .ref (ad 15 0)), (2, .ref (ad 17 0)), (3, .ref (ad 18 0)), (4, .ref (ad 19 0)), (5, .ref (ad 22 0)), (6, .int (nI c9)), (7, .long 0), (9, .int 90)]) hx hb dL_exposes_86 hl (k := 11) rfl rfl (by decide) rfl (fun ls hl => ?_)
          refine lv_goto (tgt := 20) hx hb dL_exposes_89 (by decide) ?_
          have eza : (za - (gnT T ia 1)) = loT T c9 90 (ia + 1) := by
            rw [hza]
            show _ = (if cuT T ia = nI c9 then loT T c9 90 ia - gnT T ia (z1 (nwT T ia * 90 / 100)) else loT T c9 90 ia)
            rw [if_pos (show cuT T ia = nI c9 from c_37)]
            unfold z1
            rw [if_pos c_71]
          rw [show nI ia + 1 = nI (ia + 1) from nI_1 ia] at hl
          exact ih_loopa (ia + 1) (za - (gnT T ia 1)) (by omega) eza ls (lv_sub hl [3, 4, 5, 6, 7, 8, 9, 10, 11, 1, 0] rfl) _ _ hM hS
      · refine lv_goto (tgt := 86) hx hb dL_exposes_40 (by decide) ?_
        refine lv_iinc (v := ((nI ia) + 1)) (lv' := [(12, .int ((nI ia) + 1)), (0, .ref (ad 14 0)), (1, .ref (ad 15 0)), (2, .ref (ad 17 0)), (3, .ref (ad 18 0)), (4, .ref (ad 19 0)), (5, .ref (ad 22 0)), (6, .int (nI c9)), (7, .long 0), (9, .int 90), (10, .long za)]) hx hb dL_exposes_86 hl (k := 10) rfl rfl (by decide) rfl (fun ls hl => ?_)
        refine lv_goto (tgt := 20) hx hb dL_exposes_89 (by decide) ?_
        have eza : za = loT T c9 90 (ia + 1) := by
          rw [hza]
          show _ = (if cuT T ia = nI c9 then loT T c9 90 ia - gnT T ia (z1 (nwT T ia * 90 / 100)) else loT T c9 90 ia)
          rw [if_neg (show ¬ cuT T ia = nI c9 from c_37)]
        rw [show nI ia + 1 = nI (ia + 1) from nI_1 ia] at hl
        exact ih_loopa (ia + 1) za (by omega) eza ls (lv_sub hl [1, 2, 3, 4, 5, 6, 7, 8, 9, 10, 0] rfl) _ _ hM hS
  exact loopa n9 0 0 (by omega) rfl ls (lv_sub hl [4, 5, 6, 7, 8, 9, 10, 3, 2, 1, 0] rfl) _ _ hM hS
theorem fr_iff {t w i : Nat} : fr t w i = true ↔ (t + i) % 7 ≤ 4 ∧ bt w i = 0 := by
  unfold fr
  simp only [Bool.and_eq_true, decide_eq_true_eq]
theorem fr_no1 {t w i : Nat} (hi : (t + i) % 7 < 2 ^ 31) (h : 4 < nI ((t + i) % 7)) : ¬ fr t w i = true := fun z => by
  have h1 := (fr_iff.mp z).1
  exact nI_nlt (a := 4) (b := (t + i) % 7) h1 (by decide) h
theorem fr_no2 {t w i : Nat} (h : nI (bt w i) = 1) : ¬ fr t w i = true := fun z => by
  rw [(fr_iff.mp z).2] at h
  exact absurd h (by decide)
theorem fr_yes {t w i : Nat} (hi : (t + i) % 7 < 2 ^ 31) (h : ¬ 4 < nI ((t + i) % 7)) (h2 : ¬ nI (bt w i) = 1) : fr t w i = true := by
  refine fr_iff.mpr ⟨?_, ?_⟩
  · rcases Nat.lt_or_ge 4 ((t + i) % 7) with q | q
    · exact absurd (nI_lt (a := 4) q hi) h
    · exact q
  · rcases bt_01 w i with q | q
    · exact q
    · exact absurd (by rw [q]; rfl) h2
theorem stl_t {t w n i : Nat} (h : fr t w i = true) : stl t w (n + 1) i = i := if_pos h
theorem stl_f {t w n i : Nat} (h : ¬ fr t w i = true) : stl t w (n + 1) i = stl t w n (i + 1) := if_neg h
theorem ei_i (a c k : Nat) : (6 : Int32) * nI a + 3 * nI c + nI k = nI (6 * a + 3 * c + k) := by
  show nI 6 * nI a + nI 3 * nI c + nI k = _
  rw [pk_mul, pk_mul, nI_add, nI_add]
theorem ei_lt (T : Sd) {c k : Nat} (hc : c < 2) (hk : k < 3) : ei T c k < 60 := by unfold ei; omega
theorem sn10 (a : Nat) (h : a < 2 ^ 31) : nI a - nI a / 10 * 10 = nI (a % 10) := pk_rem (d := 10) h (by decide) (by decide)
theorem sn7 (a : Nat) (h : a < 2 ^ 31) : nI a - nI a / 7 * 7 = nI (a % 7) := pk_rem (d := 7) h (by decide) (by decide)
set_option maxHeartbeats 4000000 in
set_option maxRecDepth 100000 in
theorem c_L_settles (l : Launch) (G : Gx) (M : Mp) (S T : Sd) (th : Int32) (o : Int64) (ex : Nat → Option (Nat × Nat)) (ad : Nat → Nat → Nat)  (hw : WA G S T th o ex ad M) (hT : Tg T) : Met l yL_settles wsL_settles ({ frames := 0, cells := 0, slots := 0, locals := 0 }) (Cv G M [.ref (ad 22 0)]) (va_Qi (S := Unit) (fun r _ => r = nI (sT T)) (Bm G (fun _ => M)) (AG G)) (0) (0) (AG G) := by
  refine m_met [.ref (ad 22 0)] [(0, .ref (ad 22 0))] (by decide) rfl rfl (Nat.le_of_ble_eq_true rfl) ?_
  intro p e s m below meth c ls hx hb hr hml hown hts hlocks hin hC hM hl hS
  have hs := tg_st hT
  have h1000 := hT.2.1
  refine lv_iconst (v := 1) hx hb dL_settles_0 (by decide) ?_
  refine lv_istore_n (lv' := [(1, .int 1), (0, .ref (ad 22 0))]) hx hb dL_settles_1 rfl hl (by decide) rfl (fun ls hl => ?_)
  have loop : ∀ (n_loop : Nat) (i9 : Nat), (1 ≤ i9) → (i9 + n_loop = 9) → (stl (tT T) (wT T) n_loop i9 = sT T) → ∀ ls : Array Slot, lv_has ls 2 [(0, .ref (ad 22 0)), (1, .int (nI i9))] → ∀ (H : Heap) (locs : List Loc), Hm G M H → va_S (AG G) s.heap H locs → W p l e { frames := 0, cells := 0, slots := 0, locals := 0 } s m ([.ref (ad 22 0)] : List Value).toArray below meth c H locs (0) (0) (MQ below (va_Qi (S := Unit) (fun r _ => r = nI (sT T)) (Bm G (fun _ => M)) (AG G)) ([.ref (ad 22 0)] : List Value).toArray s (0) (0) (AG G)) (F0 m 2 ls []) := by
    intro n_loop
    induction n_loop with
    | zero =>
      intro i9 h1 h9 hq ls hl H locs hM hS
      have hf9 : fr (tT T) (wT T) i9 = true := by rw [show i9 = sT T from hq]; exact hs.2.2
      refine lv_aload_n hx hb dL_settles_2 rfl (lv_at hl 0 rfl) ?_
      refine lv_iconst (v := 0) hx hb dL_settles_3 (by decide) ?_
      refine k_iald (a := (ad 22 0)) hx hb hC hM (qa22 hw) 0 (ix_lit (rfl : (0 : Int32) = nI 0) (by decide) (by decide)) dL_settles_4 ?_
      rw [hT.1]
      refine lv_iload_n hx hb dL_settles_5 rfl (lv_at hl 1 rfl) ?_
      refine lv_iadd hx hb dL_settles_6 ?_
      rw [nI_add]
      refine lv_bipush (v := 7) hx hb dL_settles_7 (by decide) ?_
      refine lv_irem hx hb dL_settles_9 (by decide) ?_
      rw [sn7 (tT T + i9) (by omega)]
      refine lv_iconst (v := 4) hx hb dL_settles_10 (by decide) ?_
      refine lv_icmp_gt (tgt := 25) hx hb dL_settles_11 (by decide) (fun c_11 => False.elim (by exact fr_no1 (by omega) c_11 hf9)) (fun c_11 => ?_)
      refine lv_aload_n hx hb dL_settles_14 rfl (lv_at hl 0 rfl) ?_
      refine lv_iconst (v := 2) hx hb dL_settles_15 (by decide) ?_
      refine k_iald (a := (ad 22 0)) hx hb hC hM (qa22 hw) 2 (ix_lit (rfl : (2 : Int32) = nI 2) (by decide) (by decide)) dL_settles_16 ?_
      rw [hT.2.2.1]
      refine lv_iload_n hx hb dL_settles_17 rfl (lv_at hl 1 rfl) ?_
      refine lv_ishr hx hb dL_settles_18 ?_
      refine lv_iconst (v := 1) hx hb dL_settles_19 (by decide) ?_
      refine lv_iand hx hb dL_settles_20 ?_
      rw [bt_int hT.2.2.2.1 (by omega)]
      refine lv_iconst (v := 1) hx hb dL_settles_21 (by decide) ?_
      refine lv_icmp_ne (tgt := 31) hx hb dL_settles_22 (by decide) (fun c_22 => ?_) (fun c_22 => False.elim (by exact fr_no2 c_22 hf9))
      refine lv_iload_n hx hb dL_settles_31 rfl (lv_at hl 1 rfl) ?_
      exact (r_i hx hb hr hlocks hS (v := (nI i9)) () (by rw [show i9 = sT T from hq]) hM (Nat.le_of_ble_eq_true rfl) (Nat.le_of_ble_eq_true rfl) dL_settles_32)
    | succ n_loop ih_loop =>
      intro i9 h1 h9 hq ls hl H locs hM hS
      refine lv_aload_n hx hb dL_settles_2 rfl (lv_at hl 0 rfl) ?_
      refine lv_iconst (v := 0) hx hb dL_settles_3 (by decide) ?_
      refine k_iald (a := (ad 22 0)) hx hb hC hM (qa22 hw) 0 (ix_lit (rfl : (0 : Int32) = nI 0) (by decide) (by decide)) dL_settles_4 ?_
      rw [hT.1]
      refine lv_iload_n hx hb dL_settles_5 rfl (lv_at hl 1 rfl) ?_
      refine lv_iadd hx hb dL_settles_6 ?_
      rw [nI_add]
      refine lv_bipush (v := 7) hx hb dL_settles_7 (by decide) ?_
      refine lv_irem hx hb dL_settles_9 (by decide) ?_
      rw [sn7 (tT T + i9) (by omega)]
      refine lv_iconst (v := 4) hx hb dL_settles_10 (by decide) ?_
      refine lv_icmp_gt (tgt := 25) hx hb dL_settles_11 (by decide) (fun c_11 => ?_) (fun c_11 => ?_)
      · refine lv_iinc (v := ((nI i9) + 1)) (lv' := [(1, .int ((nI i9) + 1)), (0, .ref (ad 22 0))]) hx hb dL_settles_25 hl (k := 1) rfl rfl (by decide) rfl (fun ls hl => ?_)
        refine lv_goto (tgt := 2) hx hb dL_settles_28 (by decide) ?_
        have eb : stl (tT T) (wT T) n_loop (i9 + 1) = sT T := by rw [← stl_f (fr_no1 (by omega) c_11)]; exact hq
        rw [show nI i9 + 1 = nI (i9 + 1) from nI_1 i9] at hl
        exact ih_loop (i9 + 1) (by omega) (by omega) eb ls (lv_sub hl [1, 0] rfl) _ _ hM hS
      · refine lv_aload_n hx hb dL_settles_14 rfl (lv_at hl 0 rfl) ?_
        refine lv_iconst (v := 2) hx hb dL_settles_15 (by decide) ?_
        refine k_iald (a := (ad 22 0)) hx hb hC hM (qa22 hw) 2 (ix_lit (rfl : (2 : Int32) = nI 2) (by decide) (by decide)) dL_settles_16 ?_
        rw [hT.2.2.1]
        refine lv_iload_n hx hb dL_settles_17 rfl (lv_at hl 1 rfl) ?_
        refine lv_ishr hx hb dL_settles_18 ?_
        refine lv_iconst (v := 1) hx hb dL_settles_19 (by decide) ?_
        refine lv_iand hx hb dL_settles_20 ?_
        rw [bt_int hT.2.2.2.1 (by omega)]
        refine lv_iconst (v := 1) hx hb dL_settles_21 (by decide) ?_
        refine lv_icmp_ne (tgt := 31) hx hb dL_settles_22 (by decide) (fun c_22 => ?_) (fun c_22 => ?_)
        · refine lv_iload_n hx hb dL_settles_31 rfl (lv_at hl 1 rfl) ?_
          exact (r_i hx hb hr hlocks hS (v := (nI i9)) () (by rw [← hq, stl_t (fr_yes (by omega) c_11 c_22)]) hM (Nat.le_of_ble_eq_true rfl) (Nat.le_of_ble_eq_true rfl) dL_settles_32)
        · refine lv_iinc (v := ((nI i9) + 1)) (lv' := [(1, .int ((nI i9) + 1)), (0, .ref (ad 22 0))]) hx hb dL_settles_25 hl (k := 1) rfl rfl (by decide) rfl (fun ls hl => ?_)
          refine lv_goto (tgt := 2) hx hb dL_settles_28 (by decide) ?_
          have eb : stl (tT T) (wT T) n_loop (i9 + 1) = sT T := by rw [← stl_f (fr_no2 c_22)]; exact hq
          rw [show nI i9 + 1 = nI (i9 + 1) from nI_1 i9] at hl
          exact ih_loop (i9 + 1) (by omega) (by omega) eb ls (lv_sub hl [1, 0] rfl) _ _ hM hS
  exact loop 8 1 (by omega) (by omega) rfl ls (lv_sub hl [1, 0] rfl) _ _ hM hS
set_option maxHeartbeats 4000000 in
set_option maxRecDepth 100000 in
theorem c_L_owe (l : Launch) (G : Gx) (M : Mp) (S T : Sd) (th : Int32) (o : Int64) (ex : Nat → Option (Nat × Nat)) (ad : Nat → Nat → Nat) (c9 k8 : Nat) (x9 : Int64) (hw : WA G S T th o ex ad M) (hT : Tg T) (hc : c9 < 2) (hk : k8 < 3) : Met l yL_owe wsL_owe ({ frames := 1, cells := 0, slots := 0, locals := 21 }) (Cv G M [.ref (ad 20 0), .ref (ad 22 0), .int (nI c9), .int (nI k8), .long x9]) (va_Qv (S := Mp) (fun M2 => WA G S (owT T c9 k8 x9) th o ex ad M2) (Bm G (fun M2 => M2)) (AG G)) (0) (0) (AG G) := by
  refine m_met [.ref (ad 20 0), .ref (ad 22 0), .int (nI c9), .int (nI k8), .long x9] [(0, .ref (ad 20 0)), (1, .ref (ad 22 0)), (2, .int (nI c9)), (3, .int (nI k8)), (4, .long x9)] (by decide) rfl rfl (Nat.le_of_ble_eq_true rfl) ?_
  intro p e s m below meth c ls hx hb hr hml hown hts hlocks hin hC hM hl hS
  have hs := tg_st hT
  have h1000 := hT.2.1
  have hei := ei_lt T hc hk
  refine lv_aload_n hx hb dL_owe_0 rfl (lv_at hl 0 rfl) ?_
  refine lv_bipush (v := 6) hx hb dL_owe_1 (by decide) ?_
  refine lv_aload_n hx hb dL_owe_3 rfl (lv_at hl 1 rfl) ?_
  refine lv_iconst (v := 0) hx hb dL_owe_4 (by decide) ?_
  refine k_iald (a := (ad 22 0)) hx hb hC hM (qa22 hw) 0 (ix_lit (rfl : (0 : Int32) = nI 0) (by decide) (by decide)) dL_owe_5 ?_
  rw [hT.1]
  refine lv_aload_n hx hb dL_owe_6 rfl (lv_at hl 1 rfl) ?_
  refine k_i (va_runS (As := [.ref (ad 22 0)]) (rest := [.int (nI (tT T)), .int 6, .ref (ad 20 0)]) ⟨hx, hb, hml, hown, hts⟩ (c_L_settles l G M S T th o ex ad hw hT) (va_cwS 1 hts gL_owe_L_settles rfl rfl rfl (by decide +kernel) ⟨Nat.le_of_ble_eq_true rfl, Nat.le_of_ble_eq_true rfl⟩) (preS_of hC hS hM) rfl rfl hl.1 rfl (lv_room (Nat.le_of_ble_eq_true rfl)) dL_owe_7 ⟨Nat.le_of_ble_eq_true rfl, Nat.le_of_ble_eq_true rfl⟩) hS (fun r7 us7 H locs hp7 hM hS => ?_)
  have hM : Hm G M H := hM
  have hp7 : r7 = nI (sT T) := hp7
  subst hp7
  refine lv_iadd hx hb dL_owe_10 ?_
  rw [nI_add]
  refine lv_bipush (v := 10) hx hb dL_owe_11 (by decide) ?_
  refine lv_irem hx hb dL_owe_13 (by decide) ?_
  rw [sn10 (tT T + sT T) (by omega)]
  refine lv_imul hx hb dL_owe_14 ?_
  refine lv_iconst (v := 3) hx hb dL_owe_15 (by decide) ?_
  refine lv_iload_n hx hb dL_owe_16 rfl (lv_at hl 2 rfl) ?_
  refine lv_imul hx hb dL_owe_17 ?_
  refine lv_iadd hx hb dL_owe_18 ?_
  refine lv_iload_n hx hb dL_owe_19 rfl (lv_at hl 3 rfl) ?_
  refine lv_iadd hx hb dL_owe_20 ?_
  rw [show (6 : Int32) * nI ((tT T + sT T) % 10) + 3 * nI c9 + nI k8 = nI (ei T c9 k8) from ei_i _ _ _]
  refine lv_dup2_11 hx hb dL_owe_21 rfl rfl ?_
  refine k_lald (a := (ad 20 0)) hx hb hC hM (qa20 hw) (ei T c9 k8) (ix_lit rfl (by omega) (by decide)) dL_owe_22 ?_
  refine lv_lload hx hb dL_owe_23 (lv_at hl 4 rfl) ?_
  refine lv_ladd hx hb dL_owe_25 ?_
  refine k_last (a := (ad 20 0)) hx hb hC hM hS (qa20 hw) (ei T c9 k8) (ix_lit rfl (by omega) (by decide)) dL_owe_26 (fun H locs hM hS => ?_)
  obtain ⟨Ta1, Ma1, ea1, ha1, hM⟩ := qs20 hw hM
  exact (r_v hx hb hr hlocks hS _ (by rw [show owT T c9 k8 x9 = Ta1 from ea1.symm]; exact ha1) hM (Nat.le_of_ble_eq_true rfl) (Nat.le_of_ble_eq_true rfl) dL_owe_27)
