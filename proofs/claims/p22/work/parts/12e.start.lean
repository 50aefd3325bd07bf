theorem hnt_of {l : Launch} (hflags : l.flags = flags0) : l.stackTraces = false := by
  unfold Launch.stackTraces
  rw [hflags]
  decide
set_option maxHeartbeats 4000000 in
set_option maxRecDepth 100000 in
theorem law_init {p : Program} {l : Launch} (hnt : l.stackTraces = false) {e : Env} {s : State} {m : MethodId} {below : List Frame} {meth : Method} {c : Code} {b L : Nat} {xs : Nat → Int32} (hL : L ≤ 260) (C0 : lw_At p s m meth c b L xs) {G : Gx} (k9 : Nat) (hk9 : k9 = 20) (hC : Cx G s) (hG : G.2.2 = s.heap.size) {ad : Nat → Nat → Nat} {M : Mp} {c0 s0 : Nat} (hw : WA G S0 T0 0 0 (fun _ => none) ad M) (hc0 : c0 ≤ 70) (hs0 : s0 ≤ 6800) (ls : Array Slot) (hl : lv_has ls 17 [(0, .ref b), (1, .ref (ad 0 0)), (2, .ref (ad 14 0)), (3, .ref (ad 15 0)), (4, .ref (ad 16 0)), (5, .ref (ad 17 0)), (6, .ref (ad 18 0)), (7, .ref (ad 19 0)), (8, .ref (ad 20 0)), (9, .ref (ad 21 0)), (10, .ref (ad 22 0))]) (H : Heap) (locs : List Loc) (hM : Hm G M H) (hS : va_S (AG G) s.heap H locs) : W p l e room_1 s m #[Value.ref b] below meth c H locs c0 s0 (lw_Z below #[Value.ref b] s) (F0 m 59 ls []) := by
  obtain ⟨hx, hb, hr, hml, hown, hts0, hX, hbl, hlocks, hgv⟩ := id C0
  have hts := fun w h => hts0 w (wsL_law_in w h)
  have hbA : ¬ AG G b := by show ¬ G.2.2 ≤ b; rw [hG]; exact Nat.not_le.mpr hbl
  have hbG : b < G.2.2 := Nat.lt_of_not_le hbA
  refine lv_iconst (v := 0) hx hb dL_law_59 (by decide) ?_
  refine lv_istore (lv' := [(11, .int 0), (0, .ref b), (1, .ref (ad 0 0)), (2, .ref (ad 14 0)), (3, .ref (ad 15 0)), (4, .ref (ad 16 0)), (5, .ref (ad 17 0)), (6, .ref (ad 18 0)), (7, .ref (ad 19 0)), (8, .ref (ad 20 0)), (9, .ref (ad 21 0)), (10, .ref (ad 22 0))]) hx hb dL_law_60 hl (by decide) rfl (fun ls hl => ?_)
  refine lv_iload hx hb dL_law_62 (lv_at hl 0 rfl) ?_
  refine lv_iconst (v := 2) hx hb dL_law_64 (by decide) ?_
  refine lv_icmp_ge (tgt := 91) hx hb dL_law_65 (by decide) (fun c_65 => False.elim (by revert c_65; decide)) (fun c_65 => ?_)
  refine lv_aload hx hb dL_law_68 (lv_at hl 8 rfl) ?_
  refine lv_iload hx hb dL_law_70 (lv_at hl 0 rfl) ?_
  refine lv_sipush (v := 10000) hx hb dL_law_72 (by decide) ?_
  refine k_iast (a := (ad 19 0)) hx hb hC hM hS (qa19 hw) 0 (ix_lit (rfl : (0 : Int32) = nI 0) (by decide) (by decide)) dL_law_75 (fun H locs hM hS => ?_)
  obtain ⟨Ta1, Ma1, ea1, ha1, hM⟩ := qs19 hw hM
  refine lv_aload hx hb dL_law_76 (lv_at hl 8 rfl) ?_
  refine lv_iconst (v := 4) hx hb dL_law_78 (by decide) ?_
  refine lv_iload hx hb dL_law_79 (lv_at hl 0 rfl) ?_
  refine lv_iadd hx hb dL_law_81 ?_
  refine lv_ldc (own := RL) (v := 1000000) hx hb hown (hts (.constant RL 120 1000000) (by decide +kernel)) dL_law_82 ?_
  refine k_iast (a := (ad 19 0)) hx hb hC hM hS (qa19 ha1) 4 (ix_lit (by decide) (by decide) (by decide)) dL_law_84 (fun H locs hM hS => ?_)
  obtain ⟨Ta2, Ma2, ea2, ha2, hM⟩ := qs19 ha1 hM
  refine lv_iinc (v := 1) (lv' := [(11, .int 1), (0, .ref b), (1, .ref (ad 0 0)), (2, .ref (ad 14 0)), (3, .ref (ad 15 0)), (4, .ref (ad 16 0)), (5, .ref (ad 17 0)), (6, .ref (ad 18 0)), (7, .ref (ad 19 0)), (8, .ref (ad 20 0)), (9, .ref (ad 21 0)), (10, .ref (ad 22 0))]) hx hb dL_law_85 hl (k := 0) rfl (by decide) (by decide) rfl (fun ls hl => ?_)
  refine lv_goto (tgt := 62) hx hb dL_law_88 (by decide) ?_
  refine lv_iload hx hb dL_law_62 (lv_at hl 0 rfl) ?_
  refine lv_iconst (v := 2) hx hb dL_law_64 (by decide) ?_
  refine lv_icmp_ge (tgt := 91) hx hb dL_law_65 (by decide) (fun c_65_2 => False.elim (by revert c_65_2; decide)) (fun c_65_2 => ?_)
  refine lv_aload hx hb dL_law_68 (lv_at hl 8 rfl) ?_
  refine lv_iload hx hb dL_law_70 (lv_at hl 0 rfl) ?_
  refine lv_sipush (v := 10000) hx hb dL_law_72 (by decide) ?_
  refine k_iast (a := (ad 19 0)) hx hb hC hM hS (qa19 ha2) 1 (ix_lit (rfl : (1 : Int32) = nI 1) (by decide) (by decide)) dL_law_75 (fun H locs hM hS => ?_)
  obtain ⟨Ta3, Ma3, ea3, ha3, hM⟩ := qs19 ha2 hM
  refine lv_aload hx hb dL_law_76 (lv_at hl 8 rfl) ?_
  refine lv_iconst (v := 4) hx hb dL_law_78 (by decide) ?_
  refine lv_iload hx hb dL_law_79 (lv_at hl 0 rfl) ?_
  refine lv_iadd hx hb dL_law_81 ?_
  refine lv_ldc (own := RL) (v := 1000000) hx hb hown (hts (.constant RL 120 1000000) (by decide +kernel)) dL_law_82 ?_
  refine k_iast (a := (ad 19 0)) hx hb hC hM hS (qa19 ha3) 5 (ix_lit (by decide) (by decide) (by decide)) dL_law_84 (fun H locs hM hS => ?_)
  obtain ⟨Ta4, Ma4, ea4, ha4, hM⟩ := qs19 ha3 hM
  refine lv_iinc (v := 2) (lv' := [(11, .int 2), (0, .ref b), (1, .ref (ad 0 0)), (2, .ref (ad 14 0)), (3, .ref (ad 15 0)), (4, .ref (ad 16 0)), (5, .ref (ad 17 0)), (6, .ref (ad 18 0)), (7, .ref (ad 19 0)), (8, .ref (ad 20 0)), (9, .ref (ad 21 0)), (10, .ref (ad 22 0))]) hx hb dL_law_85 hl (k := 0) rfl (by decide) (by decide) rfl (fun ls hl => ?_)
  refine lv_goto (tgt := 62) hx hb dL_law_88 (by decide) ?_
  refine lv_iload hx hb dL_law_62 (lv_at hl 0 rfl) ?_
  refine lv_iconst (v := 2) hx hb dL_law_64 (by decide) ?_
  refine lv_icmp_ge (tgt := 91) hx hb dL_law_65 (by decide) (fun c_65_3 => ?_) (fun c_65_3 => False.elim (by revert c_65_3; decide))
  have hRs : Rel S0 Ta4 := rl_S0 (fun a b => congrFun (congrFun ((e1_2 ea4).trans ((e1_2 ea3).trans ((e1_2 ea2).trans ((e1_2 ea1))))) a) b) (fun i => (congrFun ((e1_r ea4 (by decide)).trans ((e1_r ea3 (by decide)).trans ((e1_r ea2 (by decide)).trans ((e1_r ea1 (by decide)))))) i)) ((e1_n ea4 (by omega)).trans ((e1_n ea3 (by omega)).trans ((e1_n ea2 (by omega)).trans ((e1_s ea1))))) ((e1_n ea4 (by omega)).trans ((e1_s ea3))) ((e1_n ea4 (by omega)).trans ((e1_n ea3 (by omega)).trans ((e1_n ea2 (by omega)).trans ((e1_n ea1 (by omega)))))) ((e1_n ea4 (by omega)).trans ((e1_n ea3 (by omega)).trans ((e1_n ea2 (by omega)).trans ((e1_n ea1 (by omega)))))) ((e1_n ea4 (by omega)).trans ((e1_n ea3 (by omega)).trans ((e1_s ea2)))) ((e1_s ea4))
  refine lv_aload_n hx hb dL_law_91 rfl (lv_at hl 2 rfl) ?_
  refine lv_iconst (v := 0) hx hb dL_law_92 (by decide) ?_
  refine lv_aload_n hx hb dL_law_93 rfl (lv_at hl 3 rfl) ?_
  refine lv_aload_n hx hb dL_law_94 rfl (lv_at hl 4 rfl) ?_
  refine lv_aload hx hb dL_law_95 (lv_at hl 5 rfl) ?_
  refine lv_aload hx hb dL_law_97 (lv_at hl 6 rfl) ?_
  refine lv_aload hx hb dL_law_99 (lv_at hl 7 rfl) ?_
  refine lv_aload hx hb dL_law_101 (lv_at hl 8 rfl) ?_
  refine lv_aload hx hb dL_law_103 (lv_at hl 9 rfl) ?_
  refine lv_aload hx hb dL_law_105 (lv_at hl 10 rfl) ?_
  refine lv_aload hx hb dL_law_107 (lv_at hl 11 rfl) ?_
  refine k_i (va_runS (As := [.ref (ad 0 0), .int 0, .ref (ad 14 0), .ref (ad 15 0), .ref (ad 16 0), .ref (ad 17 0), .ref (ad 18 0), .ref (ad 19 0), .ref (ad 20 0), .ref (ad 21 0), .ref (ad 22 0)]) (rest := []) ⟨hx, hb, hml, hown, hts⟩ (c_L_isTold hnt l G Ma4 S0 Ta4 0 0 (fun _ => none) ad (0 : Int32) ha4 iv_S0 ix_S0 hRs) (va_cwS 11 hts gL_law_L_isTold rfl rfl rfl (by decide +kernel) ⟨Nat.le_of_ble_eq_true rfl, Nat.le_of_ble_eq_true rfl⟩) (preS_of hC hS hM) rfl rfl hl.1 rfl (lv_room (Nat.le_of_ble_eq_true rfl)) dL_law_109 ⟨(by first | omega | (show _ ≤ 600074; omega) | (show _ ≤ 7301550; omega)), (by first | omega | (show _ ≤ 600074; omega) | (show _ ≤ 7301550; omega))⟩) hS (fun r109 us109 H locs hp109 hM hS => ?_)
  have hM : Hm G Ma4 H := hM
  have hp109 : r109 = 1 := hp109
  subst hp109
  refine lv_if_ne (tgt := 117) hx hb dL_law_112 (by decide) (fun c_112 => ?_) (fun c_112 => False.elim (by revert c_112; decide))
  refine lv_iconst (v := 0) hx hb dL_law_117 (by decide) ?_
  refine lv_istore (lv' := [(11, .int 0), (0, .ref b), (1, .ref (ad 0 0)), (2, .ref (ad 14 0)), (3, .ref (ad 15 0)), (4, .ref (ad 16 0)), (5, .ref (ad 17 0)), (6, .ref (ad 18 0)), (7, .ref (ad 19 0)), (8, .ref (ad 20 0)), (9, .ref (ad 21 0)), (10, .ref (ad 22 0))]) hx hb dL_law_118 hl (by decide) rfl (fun ls hl => ?_)
  refine W.widen (k := 600 + 688 * 0) (n := 10000 + 3648 * 0) (by omega) (by omega) ?_
  exact law_loop hnt hL C0 k9 hk9 hC hG 0 0 110 0 rfl S0 Ta4 (fun _ => none) ad Ma4 _ _ ls ha4 iv_S0 ix_S0 hRs hM hS (lv_sub hl [1, 2, 3, 4, 5, 6, 7, 8, 9, 10, 11, 0] rfl)
set_option maxHeartbeats 4000000 in
set_option maxRecDepth 100000 in
/-- from the entry, for every script of at most 260 ints, the law comes to its end with true -/
theorem whole_start {p : Program} {e : Env} {s : State} {m : MethodId} {below : List Frame} {meth : Method} {c : Code} (l : Launch) (hflags : l.flags = flags0) {b L : Nat} {xs : Nat → Int32} (hL : L ≤ 260) (C0 : lw_At p s m meth c b L xs) : W p l e room_1 s m #[Value.ref b] below meth c s.heap [] 0 0 (lw_Z below #[Value.ref b] s) (entryFrame m ([Value.ref b] : List Value).toArray 17) := by
  obtain ⟨hx, hb, hr, hml, hown, hts0, hX, hbl, hlocks, hgv⟩ := id C0
  have hts := fun w h => hts0 w (wsL_law_in w h)
  obtain ⟨G, hG, hC⟩ := cx_start C0
  have hM : Hm G (fun _ => none) s.heap := Hm.nil
  have hS : va_S (AG G) s.heap s.heap [] := va_S.rf
  have hl := lv_entry ([.ref b]) (n := 17) (Nat.le_of_ble_eq_true rfl)
  rw [lg_entry_eq]
  generalize (lg_sl ([.ref b]) ++ List.replicate (17 - (lg_sl ([.ref b])).length) Slot.unset).toArray = ls at hl ⊢
  have hl : lv_has ls 17 [(0, .ref b)] := hl
  refine m_new (ci := 5) (fs := [.null, .null, .null, .null, .int 0]) (C := RX5) (T := TX5) (N := 5) hx hb hts0 inX5 tyX5 tyX5_ok hown (hts (.classLink RL 9 RX5) (by decide +kernel)) (hts (.instantiable RX5 5) (by decide +kernel)) (hts (.initialized RX5) (by decide +kernel)) hC hM hS hC.1 rfl (fun j hj => by rcases (show j = 0 ∨ j = 1 ∨ j = 2 ∨ j = 3 ∨ j = 4 by omega) with rfl | rfl | rfl | rfl | rfl <;> rfl) (Nat.le_of_ble_eq_true rfl) (Nat.le_of_ble_eq_true rfl) dL_law_0 (fun q1 H hn1 hM hS => ?_)
  refine lv_dup hx hb dL_law_3 rfl ?_
  refine k_v (va_runI (As := []) (rest := [.ref q1]) ⟨hx, hb, hml, hown, hts⟩ (c_X5_init l G (va_up (fun _ => none) q1 (some (.inr (5, [.null, .null, .null, .null, .int 0])))) q1 up_eq) (cwI 0 hts gL_law_X5_init rfl rfl rfl (hts (.initialized RX5) (by decide +kernel)) (hts (.methodLink RL 167 yX5_init) (by decide +kernel)) (hts (.instanceMethod yX5_init) (by decide +kernel)) rfl (by decide +kernel) ⟨Nat.le_of_ble_eq_true rfl, Nat.le_of_ble_eq_true rfl⟩) (preS_of hC hS hM) rfl rfl hl.1 rfl (lv_room (Nat.le_of_ble_eq_true rfl)) dL_law_4 ⟨Nat.le_of_ble_eq_true rfl, Nat.le_of_ble_eq_true rfl⟩) hS (fun M2 H locs hp hM hS => ?_)
  obtain ⟨a5, e5, h5⟩ := hp
  have hM : Hm G M2 H := hM
  refine lv_astore_n (lv' := [(1, .ref q1), (0, .ref b)]) hx hb dL_law_7 rfl hl (by decide) rfl (fun ls hl => ?_)
  refine lv_bipush (v := 20) hx hb dL_law_8 (by decide) ?_
  refine m_newa (atype := .int) (ty := .int) (a0 := (20, .inl (fun _ => 0))) (N' := 20) hx hb (hts (.arrayClass .int) (by decide +kernel)) rfl 0 hC rfl hM hS hC.1 (fun _ => rfl) (by decide) (by decide) (Nat.le_of_ble_eq_true rfl) (Nat.le_of_ble_eq_true rfl) (Nat.le_of_ble_eq_true rfl) dL_law_10 (fun q14 H hn14 hM hS => ?_)
  have w14 := WI.add h5 14 0 hn14 (.inl (G.2.1 0, 20, .inl (fun _ => 0)))
  obtain ⟨M14, em14⟩ : ∃ m9 : Mp, m9 = va_up M2 q14 (some (.inl (G.2.1 0, 20, .inl (fun _ => 0)))) := ⟨_, rfl⟩
  have hM : Hm G (va_up M2 q14 (some (.inl (G.2.1 0, 20, .inl (fun _ => 0))))) H := hM
  rw [← em14] at hM w14
  refine lv_astore_n (lv' := [(2, .ref q14), (1, .ref q1), (0, .ref b)]) hx hb dL_law_12 rfl hl (by decide) rfl (fun ls hl => ?_)
  refine lv_bipush (v := 20) hx hb dL_law_13 (by decide) ?_
  refine m_newa (atype := .int) (ty := .int) (a0 := (20, .inl (fun _ => 0))) (N' := 20) hx hb (hts (.arrayClass .int) (by decide +kernel)) rfl 0 hC rfl hM hS hC.1 (fun _ => rfl) (by decide) (by decide) (Nat.le_of_ble_eq_true rfl) (Nat.le_of_ble_eq_true rfl) (Nat.le_of_ble_eq_true rfl) dL_law_15 (fun q15 H hn15 hM hS => ?_)
  have w15 := WI.add w14 15 0 hn15 (.inl (G.2.1 0, 20, .inl (fun _ => 0)))
  obtain ⟨M15, em15⟩ : ∃ m9 : Mp, m9 = va_up M14 q15 (some (.inl (G.2.1 0, 20, .inl (fun _ => 0)))) := ⟨_, rfl⟩
  have hM : Hm G (va_up M14 q15 (some (.inl (G.2.1 0, 20, .inl (fun _ => 0))))) H := hM
  rw [← em15] at hM w15
  refine lv_astore_n (lv' := [(3, .ref q15), (2, .ref q14), (1, .ref q1), (0, .ref b)]) hx hb dL_law_17 rfl hl (by decide) rfl (fun ls hl => ?_)
  refine lv_bipush (v := 20) hx hb dL_law_18 (by decide) ?_
  refine m_newa (atype := .int) (ty := .int) (a0 := (20, .inl (fun _ => 0))) (N' := 20) hx hb (hts (.arrayClass .int) (by decide +kernel)) rfl 0 hC rfl hM hS hC.1 (fun _ => rfl) (by decide) (by decide) (Nat.le_of_ble_eq_true rfl) (Nat.le_of_ble_eq_true rfl) (Nat.le_of_ble_eq_true rfl) dL_law_20 (fun q16 H hn16 hM hS => ?_)
  have w16 := WI.add w15 16 0 hn16 (.inl (G.2.1 0, 20, .inl (fun _ => 0)))
  obtain ⟨M16, em16⟩ : ∃ m9 : Mp, m9 = va_up M15 q16 (some (.inl (G.2.1 0, 20, .inl (fun _ => 0)))) := ⟨_, rfl⟩
  have hM : Hm G (va_up M15 q16 (some (.inl (G.2.1 0, 20, .inl (fun _ => 0))))) H := hM
  rw [← em16] at hM w16
  refine lv_astore (lv' := [(4, .ref q16), (3, .ref q15), (2, .ref q14), (1, .ref q1), (0, .ref b)]) hx hb dL_law_22 hl (by decide) rfl (fun ls hl => ?_)
  refine lv_bipush (v := 20) hx hb dL_law_24 (by decide) ?_
  refine m_newa (atype := .int) (ty := .int) (a0 := (20, .inl (fun _ => 0))) (N' := 20) hx hb (hts (.arrayClass .int) (by decide +kernel)) rfl 0 hC rfl hM hS hC.1 (fun _ => rfl) (by decide) (by decide) (Nat.le_of_ble_eq_true rfl) (Nat.le_of_ble_eq_true rfl) (Nat.le_of_ble_eq_true rfl) dL_law_26 (fun q17 H hn17 hM hS => ?_)
  have w17 := WI.add w16 17 0 hn17 (.inl (G.2.1 0, 20, .inl (fun _ => 0)))
  obtain ⟨M17, em17⟩ : ∃ m9 : Mp, m9 = va_up M16 q17 (some (.inl (G.2.1 0, 20, .inl (fun _ => 0)))) := ⟨_, rfl⟩
  have hM : Hm G (va_up M16 q17 (some (.inl (G.2.1 0, 20, .inl (fun _ => 0))))) H := hM
  rw [← em17] at hM w17
  refine lv_astore (lv' := [(5, .ref q17), (4, .ref q16), (3, .ref q15), (2, .ref q14), (1, .ref q1), (0, .ref b)]) hx hb dL_law_28 hl (by decide) rfl (fun ls hl => ?_)
  refine lv_bipush (v := 20) hx hb dL_law_30 (by decide) ?_
  refine m_newa (atype := .int) (ty := .int) (a0 := (20, .inl (fun _ => 0))) (N' := 20) hx hb (hts (.arrayClass .int) (by decide +kernel)) rfl 0 hC rfl hM hS hC.1 (fun _ => rfl) (by decide) (by decide) (Nat.le_of_ble_eq_true rfl) (Nat.le_of_ble_eq_true rfl) (Nat.le_of_ble_eq_true rfl) dL_law_32 (fun q18 H hn18 hM hS => ?_)
  have w18 := WI.add w17 18 0 hn18 (.inl (G.2.1 0, 20, .inl (fun _ => 0)))
  obtain ⟨M18, em18⟩ : ∃ m9 : Mp, m9 = va_up M17 q18 (some (.inl (G.2.1 0, 20, .inl (fun _ => 0)))) := ⟨_, rfl⟩
  have hM : Hm G (va_up M17 q18 (some (.inl (G.2.1 0, 20, .inl (fun _ => 0))))) H := hM
  rw [← em18] at hM w18
  refine lv_astore (lv' := [(6, .ref q18), (5, .ref q17), (4, .ref q16), (3, .ref q15), (2, .ref q14), (1, .ref q1), (0, .ref b)]) hx hb dL_law_34 hl (by decide) rfl (fun ls hl => ?_)
  refine lv_bipush (v := 6) hx hb dL_law_36 (by decide) ?_
  refine m_newa (atype := .int) (ty := .int) (a0 := (6, .inl (fun _ => 0))) (N' := 6) hx hb (hts (.arrayClass .int) (by decide +kernel)) rfl 0 hC rfl hM hS hC.1 (fun _ => rfl) (by decide) (by decide) (Nat.le_of_ble_eq_true rfl) (Nat.le_of_ble_eq_true rfl) (Nat.le_of_ble_eq_true rfl) dL_law_38 (fun q19 H hn19 hM hS => ?_)
  have w19 := WI.add w18 19 0 hn19 (.inl (G.2.1 0, 6, .inl (fun _ => 0)))
  obtain ⟨M19, em19⟩ : ∃ m9 : Mp, m9 = va_up M18 q19 (some (.inl (G.2.1 0, 6, .inl (fun _ => 0)))) := ⟨_, rfl⟩
  have hM : Hm G (va_up M18 q19 (some (.inl (G.2.1 0, 6, .inl (fun _ => 0))))) H := hM
  rw [← em19] at hM w19
  refine lv_astore (lv' := [(7, .ref q19), (6, .ref q18), (5, .ref q17), (4, .ref q16), (3, .ref q15), (2, .ref q14), (1, .ref q1), (0, .ref b)]) hx hb dL_law_40 hl (by decide) rfl (fun ls hl => ?_)
  refine lv_bipush (v := 60) hx hb dL_law_42 (by decide) ?_
  refine m_newa (atype := .long) (ty := .long) (a0 := (60, .inr (.inl (fun _ => 0)))) (N' := 60) hx hb (hts (.arrayClass .long) (by decide +kernel)) rfl 1 hC rfl hM hS hC.1 (fun _ => rfl) (by decide) (by decide) (Nat.le_of_ble_eq_true rfl) (Nat.le_of_ble_eq_true rfl) (Nat.le_of_ble_eq_true rfl) dL_law_44 (fun q20 H hn20 hM hS => ?_)
  have w20 := WI.add w19 20 0 hn20 (.inl (G.2.1 1, 60, .inr (.inl (fun _ => 0))))
  obtain ⟨M20, em20⟩ : ∃ m9 : Mp, m9 = va_up M19 q20 (some (.inl (G.2.1 1, 60, .inr (.inl (fun _ => 0))))) := ⟨_, rfl⟩
  have hM : Hm G (va_up M19 q20 (some (.inl (G.2.1 1, 60, .inr (.inl (fun _ => 0)))))) H := hM
  rw [← em20] at hM w20
  refine lv_astore (lv' := [(8, .ref q20), (7, .ref q19), (6, .ref q18), (5, .ref q17), (4, .ref q16), (3, .ref q15), (2, .ref q14), (1, .ref q1), (0, .ref b)]) hx hb dL_law_46 hl (by decide) rfl (fun ls hl => ?_)
  refine lv_bipush (v := 6) hx hb dL_law_48 (by decide) ?_
  refine m_newa (atype := .long) (ty := .long) (a0 := (6, .inr (.inl (fun _ => 0)))) (N' := 6) hx hb (hts (.arrayClass .long) (by decide +kernel)) rfl 1 hC rfl hM hS hC.1 (fun _ => rfl) (by decide) (by decide) (Nat.le_of_ble_eq_true rfl) (Nat.le_of_ble_eq_true rfl) (Nat.le_of_ble_eq_true rfl) dL_law_50 (fun q21 H hn21 hM hS => ?_)
  have w21 := WI.add w20 21 0 hn21 (.inl (G.2.1 1, 6, .inr (.inl (fun _ => 0))))
  obtain ⟨M21, em21⟩ : ∃ m9 : Mp, m9 = va_up M20 q21 (some (.inl (G.2.1 1, 6, .inr (.inl (fun _ => 0))))) := ⟨_, rfl⟩
  have hM : Hm G (va_up M20 q21 (some (.inl (G.2.1 1, 6, .inr (.inl (fun _ => 0)))))) H := hM
  rw [← em21] at hM w21
  refine lv_astore (lv' := [(9, .ref q21), (8, .ref q20), (7, .ref q19), (6, .ref q18), (5, .ref q17), (4, .ref q16), (3, .ref q15), (2, .ref q14), (1, .ref q1), (0, .ref b)]) hx hb dL_law_52 hl (by decide) rfl (fun ls hl => ?_)
  refine lv_iconst (v := 3) hx hb dL_law_54 (by decide) ?_
  refine m_newa (atype := .int) (ty := .int) (a0 := (3, .inl (fun _ => 0))) (N' := 3) hx hb (hts (.arrayClass .int) (by decide +kernel)) rfl 0 hC rfl hM hS hC.1 (fun _ => rfl) (by decide) (by decide) (Nat.le_of_ble_eq_true rfl) (Nat.le_of_ble_eq_true rfl) (Nat.le_of_ble_eq_true rfl) dL_law_55 (fun q22 H hn22 hM hS => ?_)
  have w22 := WI.add w21 22 0 hn22 (.inl (G.2.1 0, 3, .inl (fun _ => 0)))
  obtain ⟨M22, em22⟩ : ∃ m9 : Mp, m9 = va_up M21 q22 (some (.inl (G.2.1 0, 3, .inl (fun _ => 0)))) := ⟨_, rfl⟩
  have hM : Hm G (va_up M21 q22 (some (.inl (G.2.1 0, 3, .inl (fun _ => 0))))) H := hM
  rw [← em22] at hM w22
  refine lv_astore (lv' := [(10, .ref q22), (9, .ref q21), (8, .ref q20), (7, .ref q19), (6, .ref q18), (5, .ref q17), (4, .ref q16), (3, .ref q15), (2, .ref q14), (1, .ref q1), (0, .ref b)]) hx hb dL_law_57 hl (by decide) rfl (fun ls hl => ?_)
  obtain ⟨ad, ead⟩ : ∃ f : Nat → Nat → Nat, f = (u2 (u2 (u2 (u2 (u2 (u2 (u2 (u2 (u2 a5 14 0 q14) 15 0 q15) 16 0 q16) 17 0 q17) 18 0 q18) 19 0 q19) 20 0 q20) 21 0 q21) 22 0 q22) := ⟨_, rfl⟩
  rw [← ead] at w22
  have ha : ∀ k, k < 14 → ad k = a5 k := fun k hk => by rw [ead, u2r (by omega), u2r (by omega), u2r (by omega), u2r (by omega), u2r (by omega), u2r (by omega), u2r (by omega), u2r (by omega), u2r (by omega)]
  have hw : WA G S0 T0 0 0 (fun _ => none) ad M22 := wa_S0 ha w22
  have d0 : q1 = ad 0 0 := by rw [ha 0 (by decide)]; exact e5.symm
  have d14 : q14 = ad 14 0 := by rw [ead, u2_n (by decide), u2_n (by decide), u2_n (by decide), u2_n (by decide), u2_n (by decide), u2_n (by decide), u2_n (by decide), u2_n (by decide), u2_s]
  have d15 : q15 = ad 15 0 := by rw [ead, u2_n (by decide), u2_n (by decide), u2_n (by decide), u2_n (by decide), u2_n (by decide), u2_n (by decide), u2_n (by decide), u2_s]
  have d16 : q16 = ad 16 0 := by rw [ead, u2_n (by decide), u2_n (by decide), u2_n (by decide), u2_n (by decide), u2_n (by decide), u2_n (by decide), u2_s]
  have d17 : q17 = ad 17 0 := by rw [ead, u2_n (by decide), u2_n (by decide), u2_n (by decide), u2_n (by decide), u2_n (by decide), u2_s]
  have d18 : q18 = ad 18 0 := by rw [ead, u2_n (by decide), u2_n (by decide), u2_n (by decide), u2_n (by decide), u2_s]
  have d19 : q19 = ad 19 0 := by rw [ead, u2_n (by decide), u2_n (by decide), u2_n (by decide), u2_s]
  have d20 : q20 = ad 20 0 := by rw [ead, u2_n (by decide), u2_n (by decide), u2_s]
  have d21 : q21 = ad 21 0 := by rw [ead, u2_n (by decide), u2_s]
  have d22 : q22 = ad 22 0 := by rw [ead, u2_s]
  have hl5 : lv_has ls 17 [(0, .ref b), (1, .ref (ad 0 0)), (2, .ref (ad 14 0)), (3, .ref (ad 15 0)), (4, .ref (ad 16 0)), (5, .ref (ad 17 0)), (6, .ref (ad 18 0)), (7, .ref (ad 19 0)), (8, .ref (ad 20 0)), (9, .ref (ad 21 0)), (10, .ref (ad 22 0))] := by
    rw [← d0, ← d14, ← d15, ← d16, ← d17, ← d18, ← d19, ← d20, ← d21, ← d22]
    exact lv_sub hl [10, 9, 8, 7, 6, 5, 4, 3, 2, 1, 0] rfl
  refine W.widen (k := 39) (n := 6279) (by first | omega | exact Nat.le_of_ble_eq_true rfl) (by first | omega | exact Nat.le_of_ble_eq_true rfl) ?_
  exact law_init (hnt_of hflags) hL C0 20 rfl hC hG hw (by omega) (by omega) ls hl5 _ _ hM hS
