theorem mg_0 {S : Sd} {j : Nat} (h : S.1 9 j = 0) : mg S j = 0 := by
  unfold mg
  rw [h]
  have e : ∀ r : Int32, hom 0 r = 0 := by
    intro r
    unfold hom
    rw [show (0 : Int32).toInt64 = 0 from rfl, Int64.zero_mul]
    rfl
  unfold gn
  rw [e, e]
  by_cases z : S.1 8 j = 0
  · rw [if_pos z]; rfl
  · rw [if_neg z]; rfl
theorem ix3 (c k : Nat) : (3 : Int32) * nI c + nI k = nI (3 * c + k) := by
  show nI 3 * nI c + nI k = _
  rw [pk_mul, nI_add]
theorem mny_le {k : Nat} (h : k < 3) : mny k ≤ 4 := by
  have := mny_c k h
  omega
theorem dy_i {S : Sd} (hi : Iv S) {i : Nat} (h : i ≤ 20) : (S.1 0 0 + nI i).toNatClampNeg = tdy S + i := by
  have := tdy_le hi
  rw [tdy_i hi, nI_add, nI_clamp (by omega)]
set_option maxHeartbeats 4000000 in
set_option maxRecDepth 100000 in
theorem c_L_isTold {l : Launch} (hnt : l.stackTraces = false) (l' : Launch) (G : Gx) (M : Mp) (S T : Sd) (th : Int32) (o : Int64) (ex : Nat → Option (Nat × Nat)) (ad : Nat → Nat → Nat) (yy : Int32) (hw : WA G S T th o ex ad M) (hi : Iv S) (hx9 : Ix S ex) (hR : Rel S T) : Met l yL_isTold wsL_isTold ({ frames := 9, cells := 520, slots := 3120, locals := 184 }) (Cv G M [.ref (ad 0 0), .int yy, .ref (ad 14 0), .ref (ad 15 0), .ref (ad 16 0), .ref (ad 17 0), .ref (ad 18 0), .ref (ad 19 0), .ref (ad 20 0), .ref (ad 21 0), .ref (ad 22 0)]) (va_Qi (S := Unit) (fun r _ => r = 1) (Bm G (fun _ => M)) (AG G)) (520) (3120) (AG G) := by
  refine m_met [.ref (ad 0 0), .int yy, .ref (ad 14 0), .ref (ad 15 0), .ref (ad 16 0), .ref (ad 17 0), .ref (ad 18 0), .ref (ad 19 0), .ref (ad 20 0), .ref (ad 21 0), .ref (ad 22 0)] [(0, .ref (ad 0 0)), (1, .int yy), (2, .ref (ad 14 0)), (3, .ref (ad 15 0)), (4, .ref (ad 16 0)), (5, .ref (ad 17 0)), (6, .ref (ad 18 0)), (7, .ref (ad 19 0)), (8, .ref (ad 20 0)), (9, .ref (ad 21 0)), (10, .ref (ad 22 0))] (by decide) rfl rfl (Nat.le_of_ble_eq_true rfl) ?_
  intro p e s m below meth c ls hx hb hr hml hown hts hlocks hin hC hM hl hS
  have hG0 : T.1 22 0 = nI (tdy S) := hR.1.1.trans (tdy_i hi)
  have hG1 : T.1 22 1 = nI (ndl S) := hR.1.2.trans (ndl_i hi)
  have hTg := rl_tg hR hi
  have hnd := hi.nd
  have ht9 := tdy_le hi
  refine lv_iconst (v := 0) hx hb dL_isTold_0 (by decide) ?_
  refine lv_istore (lv' := [(11, .int 0), (0, .ref (ad 0 0)), (1, .int yy), (2, .ref (ad 14 0)), (3, .ref (ad 15 0)), (4, .ref (ad 16 0)), (5, .ref (ad 17 0)), (6, .ref (ad 18 0)), (7, .ref (ad 19 0)), (8, .ref (ad 20 0)), (9, .ref (ad 21 0)), (10, .ref (ad 22 0))]) hx hb dL_isTold_1 hl (by decide) rfl (fun ls hl => ?_)
  have lp1 : ∀ (n_lp1 : Nat) (i9 : Nat), (i9 + n_lp1 = ndl S) → ∀ ls : Array Slot, lv_has ls 15 [(0, .ref (ad 0 0)), (1, .int yy), (2, .ref (ad 14 0)), (3, .ref (ad 15 0)), (4, .ref (ad 16 0)), (5, .ref (ad 17 0)), (6, .ref (ad 18 0)), (7, .ref (ad 19 0)), (8, .ref (ad 20 0)), (9, .ref (ad 21 0)), (10, .ref (ad 22 0)), (11, .int (nI i9))] → ∀ (H : Heap) (locs : List Loc), Hm G M H → va_S (AG G) s.heap H locs → W p l e { frames := 9, cells := 520, slots := 3120, locals := 184 } s m ([.ref (ad 0 0), .int yy, .ref (ad 14 0), .ref (ad 15 0), .ref (ad 16 0), .ref (ad 17 0), .ref (ad 18 0), .ref (ad 19 0), .ref (ad 20 0), .ref (ad 21 0), .ref (ad 22 0)] : List Value).toArray below meth c H locs (4 * i9) (6 * (4 * i9)) (MQ below (va_Qi (S := Unit) (fun r _ => r = 1) (Bm G (fun _ => M)) (AG G)) ([.ref (ad 0 0), .int yy, .ref (ad 14 0), .ref (ad 15 0), .ref (ad 16 0), .ref (ad 17 0), .ref (ad 18 0), .ref (ad 19 0), .ref (ad 20 0), .ref (ad 21 0), .ref (ad 22 0)] : List Value).toArray s (520) (3120) (AG G)) (F0 m 3 ls []) := by
    intro n_lp1
    induction n_lp1 with
    | zero =>
      intro i9 h9 ls hl H locs hM hS
      refine lv_iload hx hb dL_isTold_3 (lv_at hl 11 rfl) ?_
      refine lv_aload hx hb dL_isTold_5 (lv_at hl 10 rfl) ?_
      refine lv_iconst (v := 1) hx hb dL_isTold_7 (by decide) ?_
      refine k_iald (a := (ad 22 0)) hx hb hC hM (qa22 hw) 1 (ix_lit (rfl : (1 : Int32) = nI 1) (by decide) (by decide)) dL_isTold_8 ?_
      rw [hG1]
      refine lv_icmp_ge (tgt := 117) hx hb dL_isTold_9 (by decide) (fun c_9 => ?_) (fun c_9 => False.elim (by exact c_9 (nI_le (a := ndl S) (by omega) (by omega))))
      refine W.widen (k := 80) (n := 6 * (80)) (by omega) (by omega) ?_
      refine lv_iconst (v := 0) hx hb dL_isTold_117 (by decide) ?_
      refine lv_istore (lv' := [(11, .int 0), (0, .ref (ad 0 0)), (1, .int yy), (2, .ref (ad 14 0)), (3, .ref (ad 15 0)), (4, .ref (ad 16 0)), (5, .ref (ad 17 0)), (6, .ref (ad 18 0)), (7, .ref (ad 19 0)), (8, .ref (ad 20 0)), (9, .ref (ad 21 0)), (10, .ref (ad 22 0))]) hx hb dL_isTold_118 hl (by decide) rfl (fun ls hl => ?_)
      have lp2 : ∀ (n_lp2 : Nat) (c9 : Nat), (c9 + n_lp2 = 2) → ∀ ls : Array Slot, lv_has ls 15 [(0, .ref (ad 0 0)), (1, .int yy), (2, .ref (ad 14 0)), (3, .ref (ad 15 0)), (4, .ref (ad 16 0)), (5, .ref (ad 17 0)), (6, .ref (ad 18 0)), (7, .ref (ad 19 0)), (8, .ref (ad 20 0)), (9, .ref (ad 21 0)), (10, .ref (ad 22 0)), (11, .int (nI c9))] → ∀ (H : Heap) (locs : List Loc), Hm G M H → va_S (AG G) s.heap H locs → W p l e { frames := 9, cells := 520, slots := 3120, locals := 184 } s m ([.ref (ad 0 0), .int yy, .ref (ad 14 0), .ref (ad 15 0), .ref (ad 16 0), .ref (ad 17 0), .ref (ad 18 0), .ref (ad 19 0), .ref (ad 20 0), .ref (ad 21 0), .ref (ad 22 0)] : List Value).toArray below meth c H locs (80 + 196 * c9) (6 * (80 + 196 * c9)) (MQ below (va_Qi (S := Unit) (fun r _ => r = 1) (Bm G (fun _ => M)) (AG G)) ([.ref (ad 0 0), .int yy, .ref (ad 14 0), .ref (ad 15 0), .ref (ad 16 0), .ref (ad 17 0), .ref (ad 18 0), .ref (ad 19 0), .ref (ad 20 0), .ref (ad 21 0), .ref (ad 22 0)] : List Value).toArray s (520) (3120) (AG G)) (F0 m 120 ls []) := by
        intro n_lp2
        induction n_lp2 with
        | zero =>
          intro c9 h2 ls hl H locs hM hS
          refine lv_iload hx hb dL_isTold_120 (lv_at hl 11 rfl) ?_
          refine lv_iconst (v := 2) hx hb dL_isTold_122 (by decide) ?_
          refine lv_icmp_ge (tgt := 279) hx hb dL_isTold_123 (by decide) (fun c_123 => ?_) (fun c_123 => False.elim (by exact c_123 (nI_le (a := 2) (by omega) (by omega))))
          refine W.widen (k := 472) (n := 6 * (472)) (by omega) (by omega) ?_
          refine lv_iload_n hx hb dL_isTold_279 rfl (lv_at hl 1 rfl) ?_
          refine lv_sipush (v := 401) hx hb dL_isTold_280 (by decide) ?_
          refine k_i (va_runS (As := [.int yy, .int 401]) (rest := []) ⟨hx, hb, hml, hown, hts⟩ (c_L_low l G M yy 401 (by decide) (by decide)) (va_cwS 2 hts gL_isTold_L_low rfl rfl rfl (by decide +kernel) ⟨Nat.le_of_ble_eq_true rfl, Nat.le_of_ble_eq_true rfl⟩) (preS_of hC hS hM) rfl rfl hl.1 rfl (lv_room (Nat.le_of_ble_eq_true rfl)) dL_isTold_283 ⟨Nat.le_of_ble_eq_true rfl, Nat.le_of_ble_eq_true rfl⟩) hS (fun r283 us283 H locs hp283 hM hS => ?_)
          have hM : Hm G M H := hM
          obtain ⟨q283, hq283, e283⟩ := hp283
          subst e283
          refine lv_istore (lv' := [(11, .int (nI q283)), (0, .ref (ad 0 0)), (1, .int yy), (2, .ref (ad 14 0)), (3, .ref (ad 15 0)), (4, .ref (ad 16 0)), (5, .ref (ad 17 0)), (6, .ref (ad 18 0)), (7, .ref (ad 19 0)), (8, .ref (ad 20 0)), (9, .ref (ad 21 0)), (10, .ref (ad 22 0))]) hx hb dL_isTold_286 hl (by decide) rfl (fun ls hl => ?_)
          refine lv_iconst (v := 0) hx hb dL_isTold_288 (by decide) ?_
          refine lv_istore (lv' := [(12, .int 0), (11, .int (nI q283)), (0, .ref (ad 0 0)), (1, .int yy), (2, .ref (ad 14 0)), (3, .ref (ad 15 0)), (4, .ref (ad 16 0)), (5, .ref (ad 17 0)), (6, .ref (ad 18 0)), (7, .ref (ad 19 0)), (8, .ref (ad 20 0)), (9, .ref (ad 21 0)), (10, .ref (ad 22 0))]) hx hb dL_isTold_289 hl (by decide) rfl (fun ls hl => ?_)
          have lp5 : ∀ (n_lp5 : Nat) (c8 : Nat), (c8 + n_lp5 = 2) → ∀ ls : Array Slot, lv_has ls 15 [(0, .ref (ad 0 0)), (1, .int yy), (2, .ref (ad 14 0)), (3, .ref (ad 15 0)), (4, .ref (ad 16 0)), (5, .ref (ad 17 0)), (6, .ref (ad 18 0)), (7, .ref (ad 19 0)), (8, .ref (ad 20 0)), (9, .ref (ad 21 0)), (10, .ref (ad 22 0)), (11, .int (nI q283)), (12, .int (nI c8))] → ∀ (H : Heap) (locs : List Loc), Hm G M H → va_S (AG G) s.heap H locs → W p l e { frames := 9, cells := 520, slots := 3120, locals := 184 } s m ([.ref (ad 0 0), .int yy, .ref (ad 14 0), .ref (ad 15 0), .ref (ad 16 0), .ref (ad 17 0), .ref (ad 18 0), .ref (ad 19 0), .ref (ad 20 0), .ref (ad 21 0), .ref (ad 22 0)] : List Value).toArray below meth c H locs (472 + 4 * c8) (6 * (472 + 4 * c8)) (MQ below (va_Qi (S := Unit) (fun r _ => r = 1) (Bm G (fun _ => M)) (AG G)) ([.ref (ad 0 0), .int yy, .ref (ad 14 0), .ref (ad 15 0), .ref (ad 16 0), .ref (ad 17 0), .ref (ad 18 0), .ref (ad 19 0), .ref (ad 20 0), .ref (ad 21 0), .ref (ad 22 0)] : List Value).toArray s (520) (3120) (AG G)) (F0 m 291 ls []) := by
            intro n_lp5
            induction n_lp5 with
            | zero =>
              intro c8 h5 ls hl H locs hM hS
              refine lv_iload hx hb dL_isTold_291 (lv_at hl 12 rfl) ?_
              refine lv_iconst (v := 2) hx hb dL_isTold_293 (by decide) ?_
              refine lv_icmp_ge (tgt := 340) hx hb dL_isTold_294 (by decide) (fun c_294 => ?_) (fun c_294 => False.elim (by exact c_294 (nI_le (a := 2) (by omega) (by omega))))
              refine W.widen (k := 480) (n := 6 * (480)) (by omega) (by omega) ?_
              refine lv_aload_n hx hb dL_isTold_340 rfl (lv_at hl 0 rfl) ?_
              refine k_i (va_runV (As := []) (rest := []) ⟨hx, hb, hml, hown, hts⟩ (c_X5_today l G M S T th o ex ad hw hi) (cwV 0 hts gL_isTold_X5_today rfl rfl rfl (by decide +kernel) ⟨Nat.le_of_ble_eq_true rfl, Nat.le_of_ble_eq_true rfl⟩) (preV_of hC hS hM (qa0 hw) rfl) rfl rfl hl.1 rfl (lv_room (Nat.le_of_ble_eq_true rfl)) dL_isTold_341 ⟨Nat.le_of_ble_eq_true rfl, Nat.le_of_ble_eq_true rfl⟩) hS (fun r341 us341 H locs hp341 hM hS => ?_)
              have hM : Hm G M H := hM
              have hp341 : r341 = S.1 0 0 := hp341
              subst hp341
              refine lv_aload hx hb dL_isTold_344 (lv_at hl 10 rfl) ?_
              refine lv_iconst (v := 0) hx hb dL_isTold_346 (by decide) ?_
              refine k_iald (a := (ad 22 0)) hx hb hC hM (qa22 hw) 0 (ix_lit (rfl : (0 : Int32) = nI 0) (by decide) (by decide)) dL_isTold_347 ?_
              rw [hR.1.1]
              refine lv_icmp_ne (tgt := 563) hx hb dL_isTold_348 (by decide) (fun c_348 => False.elim (by exact c_348 rfl)) (fun c_348 => ?_)
              refine lv_aload_n hx hb dL_isTold_351 rfl (lv_at hl 0 rfl) ?_
              refine k_i (va_runV (As := []) (rest := []) ⟨hx, hb, hml, hown, hts⟩ (c_X5_settlementDay l G M S T th o ex ad hw hi) (cwV 0 hts gL_isTold_X5_settlementDay rfl rfl rfl (by decide +kernel) ⟨Nat.le_of_ble_eq_true rfl, Nat.le_of_ble_eq_true rfl⟩) (preV_of hC hS hM (qa0 hw) rfl) rfl rfl hl.1 rfl (lv_room (Nat.le_of_ble_eq_true rfl)) dL_isTold_352 ⟨Nat.le_of_ble_eq_true rfl, Nat.le_of_ble_eq_true rfl⟩) hS (fun r352 us352 H locs hp352 hM hS => ?_)
              have hM : Hm G M H := hM
              have hp352 : r352 = sd S := hp352
              subst hp352
              rw [rl_sd hR hi]
              refine lv_aload hx hb dL_isTold_355 (lv_at hl 10 rfl) ?_
              refine lv_iconst (v := 0) hx hb dL_isTold_357 (by decide) ?_
              refine k_iald (a := (ad 22 0)) hx hb hC hM (qa22 hw) 0 (ix_lit (rfl : (0 : Int32) = nI 0) (by decide) (by decide)) dL_isTold_358 ?_
              rw [hG0]
              refine lv_aload hx hb dL_isTold_359 (lv_at hl 10 rfl) ?_
              refine k_i (va_runS (As := [.ref (ad 22 0)]) (rest := [.int (nI (tdy S)), .int (nI (tdy S + sT T))]) ⟨hx, hb, hml, hown, hts⟩ (c_L_settles l G M S T th o ex ad hw hTg) (va_cwS 1 hts gL_isTold_L_settles rfl rfl rfl (by decide +kernel) ⟨Nat.le_of_ble_eq_true rfl, Nat.le_of_ble_eq_true rfl⟩) (preS_of hC hS hM) rfl rfl hl.1 rfl (lv_room (Nat.le_of_ble_eq_true rfl)) dL_isTold_361 ⟨Nat.le_of_ble_eq_true rfl, Nat.le_of_ble_eq_true rfl⟩) hS (fun r361 us361 H locs hp361 hM hS => ?_)
              have hM : Hm G M H := hM
              have hp361 : r361 = nI (sT T) := hp361
              subst hp361
              refine lv_iadd hx hb dL_isTold_364 ?_
              rw [nI_add]
              refine lv_icmp_ne (tgt := 563) hx hb dL_isTold_365 (by decide) (fun c_365 => False.elim (by exact c_365 rfl)) (fun c_365 => ?_)
              refine lv_aload_n hx hb dL_isTold_368 rfl (lv_at hl 0 rfl) ?_
              refine lv_aload hx hb dL_isTold_369 (lv_at hl 10 rfl) ?_
              refine lv_iconst (v := 1) hx hb dL_isTold_371 (by decide) ?_
              refine k_iald (a := (ad 22 0)) hx hb hC hM (qa22 hw) 1 (ix_lit (rfl : (1 : Int32) = nI 1) (by decide) (by decide)) dL_isTold_372 ?_
              rw [hG1]
              refine k_i (vx_runSW (As := [.ref (ad 0 0), .int (nI (ndl S))]) (rest := []) ⟨hx, hb, hml, hown, hts⟩ (c_L_left hnt l G M S T th o ex ad (nI (ndl S)) hw hi) (vx_cwSW 2 hts gL_isTold_L_left rfl rfl rfl (by decide +kernel) ⟨Nat.le_of_ble_eq_true rfl, Nat.le_of_ble_eq_true rfl⟩) (preS_of hC hS hM) rfl rfl hl.1 rfl (lv_room (Nat.le_of_ble_eq_true rfl)) dL_isTold_373 ⟨Nat.le_of_ble_eq_true rfl, Nat.le_of_ble_eq_true rfl⟩) hS (fun r373 us373 H locs hp373 hM hS => ?_)
              rw [nI_clamp (show (ndl S) < 2 ^ 31 by omega)] at hp373
              have hq373 : r373 = (-2000000071) := by
                rcases hp373 with h | h
                · exact h.1
                · exact False.elim (absurd h.2 (fun z => absurd z.2 (Nat.lt_irrefl _)))
              have hM : Hm G M H := hM
              subst hq373
              refine lv_ldc (own := RL) (v := (-2000000071)) hx hb hown (hts (.constant RL 16 (-2000000071)) (by decide +kernel)) dL_isTold_376 ?_
              refine lv_icmp_ne (tgt := 563) hx hb dL_isTold_378 (by decide) (fun c_378 => False.elim (by revert c_378; decide)) (fun c_378 => ?_)
              refine lv_aload_n hx hb dL_isTold_381 rfl (lv_at hl 0 rfl) ?_
              refine lv_iconst (v := (-1)) hx hb dL_isTold_382 (by decide) ?_
              refine k_i (vx_runSW (As := [.ref (ad 0 0), .int (-1)]) (rest := []) ⟨hx, hb, hml, hown, hts⟩ (c_L_left hnt l G M S T th o ex ad (-1) hw hi) (vx_cwSW 2 hts gL_isTold_L_left rfl rfl rfl (by decide +kernel) ⟨Nat.le_of_ble_eq_true rfl, Nat.le_of_ble_eq_true rfl⟩) (preS_of hC hS hM) rfl rfl hl.1 rfl (lv_room (Nat.le_of_ble_eq_true rfl)) dL_isTold_383 ⟨Nat.le_of_ble_eq_true rfl, Nat.le_of_ble_eq_true rfl⟩) hS (fun r383 us383 H locs hp383 hM hS => ?_)
              have hq383 : r383 = (-2000000071) := by
                rcases hp383 with h | h
                · exact h.1
                · exact False.elim (absurd h.2 (fun z => absurd z.1 (by decide)))
              have hM : Hm G M H := hM
              subst hq383
              refine lv_ldc (own := RL) (v := (-2000000071)) hx hb hown (hts (.constant RL 16 (-2000000071)) (by decide +kernel)) dL_isTold_386 ?_
              refine lv_icmp_ne (tgt := 563) hx hb dL_isTold_388 (by decide) (fun c_388 => False.elim (by revert c_388; decide)) (fun c_388 => ?_)
              refine lv_aload_n hx hb dL_isTold_391 rfl (lv_at hl 0 rfl) ?_
              refine lv_iconst (v := 5) hx hb dL_isTold_392 (by decide) ?_
              refine k_l (vx_runSW (As := [.ref (ad 0 0), .int 5]) (rest := []) ⟨hx, hb, hml, hown, hts⟩ (c_L_exposure hnt l G M S T th o ex ad 5 hw hi) (vx_cwSW 2 hts gL_isTold_L_exposure rfl rfl rfl (by decide +kernel) ⟨Nat.le_of_ble_eq_true rfl, Nat.le_of_ble_eq_true rfl⟩) (preS_of hC hS hM) rfl rfl hl.1 rfl (lv_room (Nat.le_of_ble_eq_true rfl)) dL_isTold_393 ⟨Nat.le_of_ble_eq_true rfl, Nat.le_of_ble_eq_true rfl⟩) hS (fun r393 us393 H locs hp393 hM hS => ?_)
              have hq393 : r393 = (-2000000071) := by
                rcases hp393 with h | h
                · exact h.1
                · exact False.elim (absurd h.2 (by decide))
              have hM : Hm G M H := hM
              subst hq393
              refine lv_ldc2 (own := RL) (v := (-2000000071)) hx hb hown (hts (.constantLong RL 51 (-2000000071)) (by decide +kernel)) dL_isTold_396 ?_
              refine W.lcmp hx hb dL_isTold_399 ?_
              rw [lg_same]
              refine lv_if_ne (tgt := 563) hx hb dL_isTold_400 (by decide) (fun c_400 => False.elim (by revert c_400; decide)) (fun c_400 => ?_)
              refine lv_aload_n hx hb dL_isTold_403 rfl (lv_at hl 0 rfl) ?_
              refine lv_iconst (v := 3) hx hb dL_isTold_404 (by decide) ?_
              refine k_l (vx_runSW (As := [.ref (ad 0 0), .int 3]) (rest := []) ⟨hx, hb, hml, hown, hts⟩ (c_L_exposure hnt l G M S T th o ex ad 3 hw hi) (vx_cwSW 2 hts gL_isTold_L_exposure rfl rfl rfl (by decide +kernel) ⟨Nat.le_of_ble_eq_true rfl, Nat.le_of_ble_eq_true rfl⟩) (preS_of hC hS hM) rfl rfl hl.1 rfl (lv_room (Nat.le_of_ble_eq_true rfl)) dL_isTold_405 ⟨Nat.le_of_ble_eq_true rfl, Nat.le_of_ble_eq_true rfl⟩) hS (fun r405 us405 H locs hp405 hM hS => ?_)
              have hq405 : r405 = exs S ((3 : Int32).toNatClampNeg) := by
                rcases hp405 with h | h
                · exact False.elim (absurd (by decide) h.2)
                · exact h.1
              have hM : Hm G M H := hM
              subst hq405
              rw [show exs S ((3 : Int32).toNatClampNeg) = 0 from rl_ex3 hR (by decide)]
              refine lv_lconst (v := 0) hx hb dL_isTold_408 (by decide) ?_
              refine W.lcmp hx hb dL_isTold_409 ?_
              rw [lg_same]
              refine lv_if_ne (tgt := 563) hx hb dL_isTold_410 (by decide) (fun c_410 => False.elim (by revert c_410; decide)) (fun c_410 => ?_)
              refine lv_aload_n hx hb dL_isTold_413 rfl (lv_at hl 0 rfl) ?_
              refine lv_iconst (v := 5) hx hb dL_isTold_414 (by decide) ?_
              refine lv_bipush (v := 9) hx hb dL_isTold_415 (by decide) ?_
              refine lv_iconst (v := 0) hx hb dL_isTold_417 (by decide) ?_
              refine k_l (vx_runSW (As := [.ref (ad 0 0), .int 5, .int 9, .int 0]) (rest := []) ⟨hx, hb, hml, hown, hts⟩ (c_L_due hnt l G M S T th o ex ad 5 9 0 hw hi hx9) (vx_cwSW 4 hts gL_isTold_L_due rfl rfl rfl (by decide +kernel) ⟨Nat.le_of_ble_eq_true rfl, Nat.le_of_ble_eq_true rfl⟩) (preS_of hC hS hM) rfl rfl hl.1 rfl (lv_room (Nat.le_of_ble_eq_true rfl)) dL_isTold_418 ⟨Nat.le_of_ble_eq_true rfl, Nat.le_of_ble_eq_true rfl⟩) hS (fun r418 us418 H locs hp418 hM hS => ?_)
              have hq418 : r418 = (-2000000071) := by
                rcases hp418 with h | h | h
                · exact h.1
                · exact False.elim (absurd h.2.1 (by decide))
                · exact False.elim (absurd h.2.1 (by decide))
              have hM : Hm G M H := hM
              subst hq418
              refine lv_ldc2 (own := RL) (v := (-2000000071)) hx hb hown (hts (.constantLong RL 51 (-2000000071)) (by decide +kernel)) dL_isTold_421 ?_
              refine W.lcmp hx hb dL_isTold_424 ?_
              rw [lg_same]
              refine lv_if_ne (tgt := 563) hx hb dL_isTold_425 (by decide) (fun c_425 => False.elim (by revert c_425; decide)) (fun c_425 => ?_)
              refine lv_aload_n hx hb dL_isTold_428 rfl (lv_at hl 0 rfl) ?_
              refine lv_iconst (v := 0) hx hb dL_isTold_429 (by decide) ?_
              refine lv_iconst (v := 5) hx hb dL_isTold_430 (by decide) ?_
              refine lv_iconst (v := 1) hx hb dL_isTold_431 (by decide) ?_
              refine k_l (vx_runSW (As := [.ref (ad 0 0), .int 0, .int 5, .int 1]) (rest := []) ⟨hx, hb, hml, hown, hts⟩ (c_L_due hnt l G M S T th o ex ad 0 5 1 hw hi hx9) (vx_cwSW 4 hts gL_isTold_L_due rfl rfl rfl (by decide +kernel) ⟨Nat.le_of_ble_eq_true rfl, Nat.le_of_ble_eq_true rfl⟩) (preS_of hC hS hM) rfl rfl hl.1 rfl (lv_room (Nat.le_of_ble_eq_true rfl)) dL_isTold_432 ⟨Nat.le_of_ble_eq_true rfl, Nat.le_of_ble_eq_true rfl⟩) hS (fun r432 us432 H locs hp432 hM hS => ?_)
              have hq432 : r432 = (-2000000072) := by
                rcases hp432 with h | h | h
                · exact False.elim (absurd (by decide) h.2)
                · exact h.1
                · exact False.elim (absurd h.2.2 (by decide))
              have hM : Hm G M H := hM
              subst hq432
              refine lv_ldc2 (own := RL) (v := (-2000000072)) hx hb hown (hts (.constantLong RL 66 (-2000000072)) (by decide +kernel)) dL_isTold_435 ?_
              refine W.lcmp hx hb dL_isTold_438 ?_
              rw [lg_same]
              refine lv_if_ne (tgt := 563) hx hb dL_isTold_439 (by decide) (fun c_439 => False.elim (by revert c_439; decide)) (fun c_439 => ?_)
              refine lv_aload_n hx hb dL_isTold_442 rfl (lv_at hl 0 rfl) ?_
              refine lv_iconst (v := 0) hx hb dL_isTold_443 (by decide) ?_
              refine lv_iconst (v := 0) hx hb dL_isTold_444 (by decide) ?_
              refine lv_iconst (v := 0) hx hb dL_isTold_445 (by decide) ?_
              refine k_l (vx_runSW (As := [.ref (ad 0 0), .int 0, .int 0, .int 0]) (rest := []) ⟨hx, hb, hml, hown, hts⟩ (c_L_due hnt l G M S T th o ex ad 0 0 0 hw hi hx9) (vx_cwSW 4 hts gL_isTold_L_due rfl rfl rfl (by decide +kernel) ⟨Nat.le_of_ble_eq_true rfl, Nat.le_of_ble_eq_true rfl⟩) (preS_of hC hS hM) rfl rfl hl.1 rfl (lv_room (Nat.le_of_ble_eq_true rfl)) dL_isTold_446 ⟨Nat.le_of_ble_eq_true rfl, Nat.le_of_ble_eq_true rfl⟩) hS (fun r446 us446 H locs hp446 hM hS => ?_)
              have hq446 : r446 = (-2000000072) := by
                rcases hp446 with h | h | h
                · exact False.elim (absurd (by decide) h.2)
                · exact h.1
                · exact False.elim (absurd h.2.2 (by decide))
              have hM : Hm G M H := hM
              subst hq446
              refine lv_ldc2 (own := RL) (v := (-2000000072)) hx hb hown (hts (.constantLong RL 66 (-2000000072)) (by decide +kernel)) dL_isTold_449 ?_
              refine W.lcmp hx hb dL_isTold_452 ?_
              rw [lg_same]
              refine lv_if_ne (tgt := 563) hx hb dL_isTold_453 (by decide) (fun c_453 => False.elim (by revert c_453; decide)) (fun c_453 => ?_)
              refine lv_aload_n hx hb dL_isTold_456 rfl (lv_at hl 0 rfl) ?_
              refine lv_iconst (v := 0) hx hb dL_isTold_457 (by decide) ?_
              refine lv_iconst (v := 0) hx hb dL_isTold_458 (by decide) ?_
              refine lv_bipush (v := 21) hx hb dL_isTold_459 (by decide) ?_
              refine k_l (vx_runSW (As := [.ref (ad 0 0), .int 0, .int 0, .int 21]) (rest := []) ⟨hx, hb, hml, hown, hts⟩ (c_L_due hnt l G M S T th o ex ad 0 0 21 hw hi hx9) (vx_cwSW 4 hts gL_isTold_L_due rfl rfl rfl (by decide +kernel) ⟨Nat.le_of_ble_eq_true rfl, Nat.le_of_ble_eq_true rfl⟩) (preS_of hC hS hM) rfl rfl hl.1 rfl (lv_room (Nat.le_of_ble_eq_true rfl)) dL_isTold_461 ⟨Nat.le_of_ble_eq_true rfl, Nat.le_of_ble_eq_true rfl⟩) hS (fun r461 us461 H locs hp461 hM hS => ?_)
              have hq461 : r461 = (-2000000072) := by
                rcases hp461 with h | h | h
                · exact False.elim (absurd (by decide) h.2)
                · exact h.1
                · exact False.elim (absurd h.2.2 (by decide))
              have hM : Hm G M H := hM
              subst hq461
              refine lv_ldc2 (own := RL) (v := (-2000000072)) hx hb hown (hts (.constantLong RL 66 (-2000000072)) (by decide +kernel)) dL_isTold_464 ?_
              refine W.lcmp hx hb dL_isTold_467 ?_
              rw [lg_same]
              refine lv_if_ne (tgt := 563) hx hb dL_isTold_468 (by decide) (fun c_468 => False.elim (by revert c_468; decide)) (fun c_468 => ?_)
              refine lv_aload_n hx hb dL_isTold_471 rfl (lv_at hl 0 rfl) ?_
              refine lv_iconst (v := (-1)) hx hb dL_isTold_472 (by decide) ?_
              refine lv_bipush (v := 9) hx hb dL_isTold_473 (by decide) ?_
              refine k_l (vx_runSW (As := [.ref (ad 0 0), .int (-1), .int 9]) (rest := []) ⟨hx, hb, hml, hown, hts⟩ (c_L_balance hnt l G M S T th o ex ad (-1) 9 hw hi) (vx_cwSW 3 hts gL_isTold_L_balance rfl rfl rfl (by decide +kernel) ⟨Nat.le_of_ble_eq_true rfl, Nat.le_of_ble_eq_true rfl⟩) (preS_of hC hS hM) rfl rfl hl.1 rfl (lv_room (Nat.le_of_ble_eq_true rfl)) dL_isTold_475 ⟨Nat.le_of_ble_eq_true rfl, Nat.le_of_ble_eq_true rfl⟩) hS (fun r475 us475 H locs hp475 hM hS => ?_)
              have hq475 : r475 = (-2000000071) := by
                rcases hp475 with h | h | h
                · exact h.1
                · exact False.elim (absurd h.2.1 (by decide))
                · exact False.elim (absurd h.2.1 (by decide))
              have hM : Hm G M H := hM
              subst hq475
              refine lv_ldc2 (own := RL) (v := (-2000000071)) hx hb hown (hts (.constantLong RL 51 (-2000000071)) (by decide +kernel)) dL_isTold_478 ?_
              refine W.lcmp hx hb dL_isTold_481 ?_
              rw [lg_same]
              refine lv_if_ne (tgt := 563) hx hb dL_isTold_482 (by decide) (fun c_482 => False.elim (by revert c_482; decide)) (fun c_482 => ?_)
              refine lv_aload_n hx hb dL_isTold_485 rfl (lv_at hl 0 rfl) ?_
              refine lv_iconst (v := 0) hx hb dL_isTold_486 (by decide) ?_
              refine lv_iconst (v := 5) hx hb dL_isTold_487 (by decide) ?_
              refine k_l (vx_runSW (As := [.ref (ad 0 0), .int 0, .int 5]) (rest := []) ⟨hx, hb, hml, hown, hts⟩ (c_L_balance hnt l G M S T th o ex ad 0 5 hw hi) (vx_cwSW 3 hts gL_isTold_L_balance rfl rfl rfl (by decide +kernel) ⟨Nat.le_of_ble_eq_true rfl, Nat.le_of_ble_eq_true rfl⟩) (preS_of hC hS hM) rfl rfl hl.1 rfl (lv_room (Nat.le_of_ble_eq_true rfl)) dL_isTold_488 ⟨Nat.le_of_ble_eq_true rfl, Nat.le_of_ble_eq_true rfl⟩) hS (fun r488 us488 H locs hp488 hM hS => ?_)
              have hq488 : r488 = (-2000000072) := by
                rcases hp488 with h | h | h
                · exact False.elim (absurd (by decide) h.2)
                · exact h.1
                · exact False.elim (absurd h.2.2 (by decide))
              have hM : Hm G M H := hM
              subst hq488
              refine lv_ldc2 (own := RL) (v := (-2000000072)) hx hb hown (hts (.constantLong RL 66 (-2000000072)) (by decide +kernel)) dL_isTold_491 ?_
              refine W.lcmp hx hb dL_isTold_494 ?_
              rw [lg_same]
              refine lv_if_ne (tgt := 563) hx hb dL_isTold_495 (by decide) (fun c_495 => False.elim (by revert c_495; decide)) (fun c_495 => ?_)
              refine lv_aload_n hx hb dL_isTold_498 rfl (lv_at hl 0 rfl) ?_
              refine lv_iconst (v := 0) hx hb dL_isTold_499 (by decide) ?_
              refine lv_iconst (v := (-1)) hx hb dL_isTold_500 (by decide) ?_
              refine k_l (vx_runSW (As := [.ref (ad 0 0), .int 0, .int (-1)]) (rest := []) ⟨hx, hb, hml, hown, hts⟩ (c_L_balance hnt l G M S T th o ex ad 0 (-1) hw hi) (vx_cwSW 3 hts gL_isTold_L_balance rfl rfl rfl (by decide +kernel) ⟨Nat.le_of_ble_eq_true rfl, Nat.le_of_ble_eq_true rfl⟩) (preS_of hC hS hM) rfl rfl hl.1 rfl (lv_room (Nat.le_of_ble_eq_true rfl)) dL_isTold_501 ⟨Nat.le_of_ble_eq_true rfl, Nat.le_of_ble_eq_true rfl⟩) hS (fun r501 us501 H locs hp501 hM hS => ?_)
              have hq501 : r501 = (-2000000072) := by
                rcases hp501 with h | h | h
                · exact False.elim (absurd (by decide) h.2)
                · exact h.1
                · exact False.elim (absurd h.2.2 (by decide))
              have hM : Hm G M H := hM
              subst hq501
              refine lv_ldc2 (own := RL) (v := (-2000000072)) hx hb hown (hts (.constantLong RL 66 (-2000000072)) (by decide +kernel)) dL_isTold_504 ?_
              refine W.lcmp hx hb dL_isTold_507 ?_
              rw [lg_same]
              refine lv_if_ne (tgt := 563) hx hb dL_isTold_508 (by decide) (fun c_508 => False.elim (by revert c_508; decide)) (fun c_508 => ?_)
              refine lv_aload_n hx hb dL_isTold_511 rfl (lv_at hl 0 rfl) ?_
              refine lv_iconst (v := 2) hx hb dL_isTold_512 (by decide) ?_
              refine lv_iconst (v := 4) hx hb dL_isTold_513 (by decide) ?_
              refine k_l (vx_runSW (As := [.ref (ad 0 0), .int 2, .int 4]) (rest := []) ⟨hx, hb, hml, hown, hts⟩ (c_L_balance hnt l G M S T th o ex ad 2 4 hw hi) (vx_cwSW 3 hts gL_isTold_L_balance rfl rfl rfl (by decide +kernel) ⟨Nat.le_of_ble_eq_true rfl, Nat.le_of_ble_eq_true rfl⟩) (preS_of hC hS hM) rfl rfl hl.1 rfl (lv_room (Nat.le_of_ble_eq_true rfl)) dL_isTold_514 ⟨Nat.le_of_ble_eq_true rfl, Nat.le_of_ble_eq_true rfl⟩) hS (fun r514 us514 H locs hp514 hM hS => ?_)
              have hq514 : r514 = S.2 1 (5 * ((2 : Int32).toNatClampNeg) + ((4 : Int32).toNatClampNeg)) := by
                rcases hp514 with h | h | h
                · exact False.elim (absurd (by decide) h.2)
                · exact False.elim (absurd (by decide) h.2.2)
                · exact h.1
              have hM : Hm G M H := hM
              subst hq514
              rw [show S.2 1 (5 * ((2 : Int32).toNatClampNeg) + ((4 : Int32).toNatClampNeg)) = 0 from hR.2.2.2.2.2.2.1]
              refine lv_lconst (v := 0) hx hb dL_isTold_517 (by decide) ?_
              refine W.lcmp hx hb dL_isTold_518 ?_
              rw [lg_same]
              refine lv_if_ne (tgt := 563) hx hb dL_isTold_519 (by decide) (fun c_519 => False.elim (by revert c_519; decide)) (fun c_519 => ?_)
              refine lv_aload_n hx hb dL_isTold_522 rfl (lv_at hl 0 rfl) ?_
              refine lv_iconst (v := 4) hx hb dL_isTold_523 (by decide) ?_
              refine lv_sipush (v := 401) hx hb dL_isTold_524 (by decide) ?_
              refine k_i (vx_runSW (As := [.ref (ad 0 0), .int 4, .int 401]) (rest := []) ⟨hx, hb, hml, hown, hts⟩ (c_L_forward hnt l G M S T th o ex ad 4 401 hw hi) (vx_cwSW 3 hts gL_isTold_L_forward rfl rfl rfl (by decide +kernel) ⟨Nat.le_of_ble_eq_true rfl, Nat.le_of_ble_eq_true rfl⟩) (preS_of hC hS hM) rfl rfl hl.1 rfl (lv_room (Nat.le_of_ble_eq_true rfl)) dL_isTold_527 ⟨Nat.le_of_ble_eq_true rfl, Nat.le_of_ble_eq_true rfl⟩) hS (fun r527 us527 H locs hp527 hM hS => ?_)
              have hq527 : r527 = (-2000000071) := by
                rcases hp527 with h | h | h
                · exact h.1
                · exact False.elim (absurd h.2.1 (by decide))
                · exact False.elim (absurd h.2.1 (by decide))
              have hM : Hm G M H := hM
              subst hq527
              refine lv_ldc (own := RL) (v := (-2000000071)) hx hb hown (hts (.constant RL 16 (-2000000071)) (by decide +kernel)) dL_isTold_530 ?_
              refine lv_icmp_ne (tgt := 563) hx hb dL_isTold_532 (by decide) (fun c_532 => False.elim (by revert c_532; decide)) (fun c_532 => ?_)
              refine lv_aload_n hx hb dL_isTold_535 rfl (lv_at hl 0 rfl) ?_
              refine lv_iconst (v := 0) hx hb dL_isTold_536 (by decide) ?_
              refine lv_sipush (v := 401) hx hb dL_isTold_537 (by decide) ?_
              refine k_i (vx_runSW (As := [.ref (ad 0 0), .int 0, .int 401]) (rest := []) ⟨hx, hb, hml, hown, hts⟩ (c_L_forward hnt l G M S T th o ex ad 0 401 hw hi) (vx_cwSW 3 hts gL_isTold_L_forward rfl rfl rfl (by decide +kernel) ⟨Nat.le_of_ble_eq_true rfl, Nat.le_of_ble_eq_true rfl⟩) (preS_of hC hS hM) rfl rfl hl.1 rfl (lv_room (Nat.le_of_ble_eq_true rfl)) dL_isTold_540 ⟨Nat.le_of_ble_eq_true rfl, Nat.le_of_ble_eq_true rfl⟩) hS (fun r540 us540 H locs hp540 hM hS => ?_)
              have hq540 : r540 = (-2000000072) := by
                rcases hp540 with h | h | h
                · exact False.elim (absurd (by decide) h.2)
                · exact h.1
                · exact False.elim (absurd h.2.2 (by decide))
              have hM : Hm G M H := hM
              subst hq540
              refine lv_ldc (own := RL) (v := (-2000000072)) hx hb hown (hts (.constant RL 19 (-2000000072)) (by decide +kernel)) dL_isTold_543 ?_
              refine lv_icmp_ne (tgt := 563) hx hb dL_isTold_545 (by decide) (fun c_545 => False.elim (by revert c_545; decide)) (fun c_545 => ?_)
              refine lv_aload_n hx hb dL_isTold_548 rfl (lv_at hl 0 rfl) ?_
              refine lv_iconst (v := 0) hx hb dL_isTold_549 (by decide) ?_
              refine lv_iconst (v := (-1)) hx hb dL_isTold_550 (by decide) ?_
              refine k_i (vx_runSW (As := [.ref (ad 0 0), .int 0, .int (-1)]) (rest := []) ⟨hx, hb, hml, hown, hts⟩ (c_L_forward hnt l G M S T th o ex ad 0 (-1) hw hi) (vx_cwSW 3 hts gL_isTold_L_forward rfl rfl rfl (by decide +kernel) ⟨Nat.le_of_ble_eq_true rfl, Nat.le_of_ble_eq_true rfl⟩) (preS_of hC hS hM) rfl rfl hl.1 rfl (lv_room (Nat.le_of_ble_eq_true rfl)) dL_isTold_551 ⟨Nat.le_of_ble_eq_true rfl, Nat.le_of_ble_eq_true rfl⟩) hS (fun r551 us551 H locs hp551 hM hS => ?_)
              have hq551 : r551 = (-2000000072) := by
                rcases hp551 with h | h | h
                · exact False.elim (absurd (by decide) h.2)
                · exact h.1
                · exact False.elim (absurd h.2.2 (by decide))
              have hM : Hm G M H := hM
              subst hq551
              refine lv_ldc (own := RL) (v := (-2000000072)) hx hb hown (hts (.constant RL 19 (-2000000072)) (by decide +kernel)) dL_isTold_554 ?_
              refine lv_icmp_ne (tgt := 563) hx hb dL_isTold_556 (by decide) (fun c_556 => False.elim (by revert c_556; decide)) (fun c_556 => ?_)
              refine lv_iconst (v := 1) hx hb dL_isTold_559 (by decide) ?_
              refine lv_goto (tgt := 564) hx hb dL_isTold_560 (by decide) ?_
              exact (r_z hx hb hr hlocks hS (v := 1) (by simp) () rfl hM (Nat.le_of_ble_eq_true rfl) (Nat.le_of_ble_eq_true rfl) dL_isTold_564)
            | succ n_lp5 ih_lp5 =>
              intro c8 h5 ls hl H locs hM hS
              have hc8 : c8 < 2 := by omega
              refine lv_iload hx hb dL_isTold_291 (lv_at hl 12 rfl) ?_
              refine lv_iconst (v := 2) hx hb dL_isTold_293 (by decide) ?_
              refine lv_icmp_ge (tgt := 340) hx hb dL_isTold_294 (by decide) (fun c_294 => False.elim (by exact nI_ge (a := c8) (b := 2) (by omega) (by decide) c_294)) (fun c_294 => ?_)
              refine lv_aload_n hx hb dL_isTold_297 rfl (lv_at hl 0 rfl) ?_
              refine lv_iload hx hb dL_isTold_298 (lv_at hl 12 rfl) ?_
              refine lv_iload hx hb dL_isTold_300 (lv_at hl 11 rfl) ?_
              refine k_i (vx_runSW (As := [.ref (ad 0 0), .int (nI c8), .int (nI q283)]) (rest := []) ⟨hx, hb, hml, hown, hts⟩ (c_L_forward hnt l G M S T th o ex ad (nI c8) (nI q283) hw hi) (vx_cwSW 3 hts gL_isTold_L_forward rfl rfl rfl (by decide +kernel) ⟨Nat.le_of_ble_eq_true rfl, Nat.le_of_ble_eq_true rfl⟩) (preS_of hC hS hM) rfl rfl hl.1 rfl (lv_room (Nat.le_of_ble_eq_true rfl)) dL_isTold_302 ⟨(by first | omega | (show _ ≤ 520; omega) | (show _ ≤ 3120; omega)), (by first | omega | (show _ ≤ 520; omega) | (show _ ≤ 3120; omega))⟩) hS (fun r302 us302 H locs hp302 hM hS => ?_)
              rw [nI_clamp (show c8 < 2 ^ 31 by omega)] at hp302
              have hq302 : r302 = al1 (S.1 1 c8 + S.1 2 c8 * (nI q283)) := by
                rcases hp302 with h | h | h
                · exact False.elim (absurd (c2_4 hc8) h.2)
                · exact False.elim (absurd (rg_n (b := 400) (Nat.zero_le _) (by omega) (by decide)) h.2.2)
                · exact h.1
              have hM : Hm G M H := hM
              subst hq302
              refine lv_aload hx hb dL_isTold_305 (lv_at hl 7 rfl) ?_
              refine lv_iload hx hb dL_isTold_307 (lv_at hl 12 rfl) ?_
              refine lv_iload hx hb dL_isTold_309 (lv_at hl 11 rfl) ?_
              refine k_i (va_runS (As := [.ref (ad 19 0), .int (nI c8), .int (nI q283)]) (rest := [.int (al1 (S.1 1 c8 + S.1 2 c8 * (nI q283)))]) ⟨hx, hb, hml, hown, hts⟩ (c_L_forwards l G M S T th o ex ad c8 (nI q283) hw (by omega)) (va_cwS 3 hts gL_isTold_L_forwards rfl rfl rfl (by decide +kernel) ⟨Nat.le_of_ble_eq_true rfl, Nat.le_of_ble_eq_true rfl⟩) (preS_of hC hS hM) rfl rfl hl.1 rfl (lv_room (Nat.le_of_ble_eq_true rfl)) dL_isTold_311 ⟨(by first | omega | (show _ ≤ 520; omega) | (show _ ≤ 3120; omega)), (by first | omega | (show _ ≤ 520; omega) | (show _ ≤ 3120; omega))⟩) hS (fun r311 us311 H locs hp311 hM hS => ?_)
              have hM : Hm G M H := hM
              have hp311 : r311 = fwT T c8 (nI q283) := hp311
              subst hp311
              rw [rl_fw hR hc8]
              refine lv_icmp_ne (tgt := 332) hx hb dL_isTold_314 (by decide) (fun c_314 => False.elim (by exact c_314 rfl)) (fun c_314 => ?_)
              refine lv_aload_n hx hb dL_isTold_317 rfl (lv_at hl 0 rfl) ?_
              refine lv_iload hx hb dL_isTold_318 (lv_at hl 12 rfl) ?_
              refine lv_iconst (v := 0) hx hb dL_isTold_320 (by decide) ?_
              refine k_i (vx_runSW (As := [.ref (ad 0 0), .int (nI c8), .int 0]) (rest := []) ⟨hx, hb, hml, hown, hts⟩ (c_L_forward hnt l G M S T th o ex ad (nI c8) 0 hw hi) (vx_cwSW 3 hts gL_isTold_L_forward rfl rfl rfl (by decide +kernel) ⟨Nat.le_of_ble_eq_true rfl, Nat.le_of_ble_eq_true rfl⟩) (preS_of hC hS hM) rfl rfl hl.1 rfl (lv_room (Nat.le_of_ble_eq_true rfl)) dL_isTold_321 ⟨(by first | omega | (show _ ≤ 520; omega) | (show _ ≤ 3120; omega)), (by first | omega | (show _ ≤ 520; omega) | (show _ ≤ 3120; omega))⟩) hS (fun r321 us321 H locs hp321 hM hS => ?_)
              rw [nI_clamp (show c8 < 2 ^ 31 by omega)] at hp321
              have hq321 : r321 = al1 (S.1 1 c8 + S.1 2 c8 * (0 : Int32)) := by
                rcases hp321 with h | h | h
                · exact False.elim (absurd (c2_4 hc8) h.2)
                · exact False.elim (absurd (by decide) h.2.2)
                · exact h.1
              have hM : Hm G M H := hM
              subst hq321
              refine lv_aload hx hb dL_isTold_324 (lv_at hl 7 rfl) ?_
              refine lv_iload hx hb dL_isTold_326 (lv_at hl 12 rfl) ?_
              refine k_iald (a := (ad 19 0)) hx hb hC hM (qa19 hw) c8 (ix_lit rfl (by omega) (by decide)) dL_isTold_328 ?_
              rw [(hR.2.1 c8 hc8).1.1]
              refine lv_icmp_eq (tgt := 334) hx hb dL_isTold_329 (by decide) (fun c_329 => ?_) (fun c_329 => False.elim (by exact c_329 (by rw [Int32.mul_zero, Int32.add_zero]; exact al1_id (hR.2.1 c8 hc8).2.1.1)))
              refine lv_iinc (v := ((nI c8) + 1)) (lv' := [(12, .int ((nI c8) + 1)), (0, .ref (ad 0 0)), (1, .int yy), (2, .ref (ad 14 0)), (3, .ref (ad 15 0)), (4, .ref (ad 16 0)), (5, .ref (ad 17 0)), (6, .ref (ad 18 0)), (7, .ref (ad 19 0)), (8, .ref (ad 20 0)), (9, .ref (ad 21 0)), (10, .ref (ad 22 0)), (11, .int (nI q283))]) hx hb dL_isTold_334 hl (k := 12) rfl rfl (by decide) rfl (fun ls hl => ?_)
              refine lv_goto (tgt := 291) hx hb dL_isTold_337 (by decide) ?_
              rw [show nI c8 + 1 = nI (c8 + 1) from nI_1 c8] at hl
              refine W.widen (k := 472 + 4 * (c8 + 1)) (n := 6 * (472 + 4 * (c8 + 1))) (by omega) (by omega) ?_
              exact ih_lp5 (c8 + 1) (by omega) ls (lv_sub hl [1, 2, 3, 4, 5, 6, 7, 8, 9, 10, 11, 12, 0] rfl) _ _ hM hS
          refine W.widen (k := 472 + 4 * 0) (n := 6 * (472 + 4 * 0)) (by omega) (by omega) ?_
          exact lp5 2 0 (by decide) ls (lv_sub hl [2, 3, 4, 5, 6, 7, 8, 9, 10, 11, 12, 1, 0] rfl) _ _ hM hS
        | succ n_lp2 ih_lp2 =>
          intro c9 h2 ls hl H locs hM hS
          have hc : c9 < 2 := by omega
          refine lv_iload hx hb dL_isTold_120 (lv_at hl 11 rfl) ?_
          refine lv_iconst (v := 2) hx hb dL_isTold_122 (by decide) ?_
          refine lv_icmp_ge (tgt := 279) hx hb dL_isTold_123 (by decide) (fun c_123 => False.elim (by exact nI_ge (a := c9) (b := 2) (by omega) (by decide) c_123)) (fun c_123 => ?_)
          refine lv_aload_n hx hb dL_isTold_126 rfl (lv_at hl 0 rfl) ?_
          refine lv_iload hx hb dL_isTold_127 (lv_at hl 11 rfl) ?_
          refine k_l (vx_runSW (As := [.ref (ad 0 0), .int (nI c9)]) (rest := []) ⟨hx, hb, hml, hown, hts⟩ (c_L_exposure hnt l G M S T th o ex ad (nI c9) hw hi) (vx_cwSW 2 hts gL_isTold_L_exposure rfl rfl rfl (by decide +kernel) ⟨Nat.le_of_ble_eq_true rfl, Nat.le_of_ble_eq_true rfl⟩) (preS_of hC hS hM) rfl rfl hl.1 rfl (lv_room (Nat.le_of_ble_eq_true rfl)) dL_isTold_129 ⟨(by first | omega | (show _ ≤ 520; omega) | (show _ ≤ 3120; omega)), (by first | omega | (show _ ≤ 520; omega) | (show _ ≤ 3120; omega))⟩) hS (fun r129 us129 H locs hp129 hM hS => ?_)
          rw [nI_clamp (show c9 < 2 ^ 31 by omega)] at hp129
          have hq129 : r129 = exs S c9 := by
            rcases hp129 with h | h
            · exact False.elim (absurd (c2_5 hc) h.2)
            · exact h.1
          have hM : Hm G M H := hM
          subst hq129
          refine lv_aload_n hx hb dL_isTold_132 rfl (lv_at hl 2 rfl) ?_
          refine lv_aload_n hx hb dL_isTold_133 rfl (lv_at hl 3 rfl) ?_
          refine lv_aload hx hb dL_isTold_134 (lv_at hl 5 rfl) ?_
          refine lv_aload hx hb dL_isTold_136 (lv_at hl 6 rfl) ?_
          refine lv_aload hx hb dL_isTold_138 (lv_at hl 7 rfl) ?_
          refine lv_aload hx hb dL_isTold_140 (lv_at hl 10 rfl) ?_
          refine lv_iload hx hb dL_isTold_142 (lv_at hl 11 rfl) ?_
          refine k_l (va_runS (As := [.ref (ad 14 0), .ref (ad 15 0), .ref (ad 17 0), .ref (ad 18 0), .ref (ad 19 0), .ref (ad 22 0), .int (nI c9)]) (rest := [.long (exs S c9)]) ⟨hx, hb, hml, hown, hts⟩ (c_L_exposes l G M S T th o ex ad c9 (ndl S) hw hG1 hnd) (va_cwS 7 hts gL_isTold_L_exposes rfl rfl rfl (by decide +kernel) ⟨Nat.le_of_ble_eq_true rfl, Nat.le_of_ble_eq_true rfl⟩) (preS_of hC hS hM) rfl rfl hl.1 rfl (lv_room (Nat.le_of_ble_eq_true rfl)) dL_isTold_144 ⟨(by first | omega | (show _ ≤ 520; omega) | (show _ ≤ 3120; omega)), (by first | omega | (show _ ≤ 520; omega) | (show _ ≤ 3120; omega))⟩) hS (fun r144 us144 H locs hp144 hM hS => ?_)
          have hM : Hm G M H := hM
          have hp144 : r144 = exT T c9 (ndl S) := hp144
          subst hp144
          rw [rl_ex hR hi hc]
          refine W.lcmp hx hb dL_isTold_147 ?_
          rw [lg_same]
          refine lv_if_eq (tgt := 153) hx hb dL_isTold_148 (by decide) (fun c_148 => ?_) (fun c_148 => False.elim (by revert c_148; decide))
          refine lv_iconst (v := 0) hx hb dL_isTold_153 (by decide) ?_
          refine lv_istore (lv' := [(12, .int 0), (0, .ref (ad 0 0)), (1, .int yy), (2, .ref (ad 14 0)), (3, .ref (ad 15 0)), (4, .ref (ad 16 0)), (5, .ref (ad 17 0)), (6, .ref (ad 18 0)), (7, .ref (ad 19 0)), (8, .ref (ad 20 0)), (9, .ref (ad 21 0)), (10, .ref (ad 22 0)), (11, .int (nI c9))]) hx hb dL_isTold_154 hl (by decide) rfl (fun ls hl => ?_)
          have lp3 : ∀ (n_lp3 : Nat) (k7 : Nat), (k7 + n_lp3 = 3) → ∀ ls : Array Slot, lv_has ls 15 [(0, .ref (ad 0 0)), (1, .int yy), (2, .ref (ad 14 0)), (3, .ref (ad 15 0)), (4, .ref (ad 16 0)), (5, .ref (ad 17 0)), (6, .ref (ad 18 0)), (7, .ref (ad 19 0)), (8, .ref (ad 20 0)), (9, .ref (ad 21 0)), (10, .ref (ad 22 0)), (11, .int (nI c9)), (12, .int (nI k7))] → ∀ (H : Heap) (locs : List Loc), Hm G M H → va_S (AG G) s.heap H locs → W p l e { frames := 9, cells := 520, slots := 3120, locals := 184 } s m ([.ref (ad 0 0), .int yy, .ref (ad 14 0), .ref (ad 15 0), .ref (ad 16 0), .ref (ad 17 0), .ref (ad 18 0), .ref (ad 19 0), .ref (ad 20 0), .ref (ad 21 0), .ref (ad 22 0)] : List Value).toArray below meth c H locs (80 + 196 * c9 + 1 + 65 * k7) (6 * (80 + 196 * c9 + 1 + 65 * k7)) (MQ below (va_Qi (S := Unit) (fun r _ => r = 1) (Bm G (fun _ => M)) (AG G)) ([.ref (ad 0 0), .int yy, .ref (ad 14 0), .ref (ad 15 0), .ref (ad 16 0), .ref (ad 17 0), .ref (ad 18 0), .ref (ad 19 0), .ref (ad 20 0), .ref (ad 21 0), .ref (ad 22 0)] : List Value).toArray s (520) (3120) (AG G)) (F0 m 156 ls []) := by
            intro n_lp3
            induction n_lp3 with
            | zero =>
              intro k7 h3 ls hl H locs hM hS
              refine lv_iload hx hb dL_isTold_156 (lv_at hl 12 rfl) ?_
              refine lv_iconst (v := 3) hx hb dL_isTold_158 (by decide) ?_
              refine lv_icmp_ge (tgt := 273) hx hb dL_isTold_159 (by decide) (fun c_159 => ?_) (fun c_159 => False.elim (by exact c_159 (nI_le (a := 3) (by omega) (by omega))))
              refine lv_iinc (v := ((nI c9) + 1)) (lv' := [(11, .int ((nI c9) + 1)), (0, .ref (ad 0 0)), (1, .int yy), (2, .ref (ad 14 0)), (3, .ref (ad 15 0)), (4, .ref (ad 16 0)), (5, .ref (ad 17 0)), (6, .ref (ad 18 0)), (7, .ref (ad 19 0)), (8, .ref (ad 20 0)), (9, .ref (ad 21 0)), (10, .ref (ad 22 0)), (12, .int (nI k7))]) hx hb dL_isTold_273 hl (k := 11) rfl rfl (by decide) rfl (fun ls hl => ?_)
              refine lv_goto (tgt := 120) hx hb dL_isTold_276 (by decide) ?_
              rw [show nI c9 + 1 = nI (c9 + 1) from nI_1 c9] at hl
              refine W.widen (k := 80 + 196 * (c9 + 1)) (n := 6 * (80 + 196 * (c9 + 1))) (by omega) (by omega) ?_
              exact ih_lp2 (c9 + 1) (by omega) ls (lv_sub hl [1, 2, 3, 4, 5, 6, 7, 8, 9, 10, 11, 0] rfl) _ _ hM hS
            | succ n_lp3 ih_lp3 =>
              intro k7 h3 ls hl H locs hM hS
              have hk : k7 < 3 := by omega
              have hmn := mny_le hk
              refine lv_iload hx hb dL_isTold_156 (lv_at hl 12 rfl) ?_
              refine lv_iconst (v := 3) hx hb dL_isTold_158 (by decide) ?_
              refine lv_icmp_ge (tgt := 273) hx hb dL_isTold_159 (by decide) (fun c_159 => False.elim (by exact nI_ge (a := k7) (b := 3) (by omega) (by decide) c_159)) (fun c_159 => ?_)
              have j174 : ∀ (w74 : Nat), (w74 = mny k7) → ∀ (ls : Array Slot), lv_has ls 15 [(0, .ref (ad 0 0)), (1, .int yy), (2, .ref (ad 14 0)), (3, .ref (ad 15 0)), (4, .ref (ad 16 0)), (5, .ref (ad 17 0)), (6, .ref (ad 18 0)), (7, .ref (ad 19 0)), (8, .ref (ad 20 0)), (9, .ref (ad 21 0)), (10, .ref (ad 22 0)), (11, .int (nI c9)), (12, .int (nI k7))] → ∀ (H : Heap) (locs : List Loc), Hm G M H → va_S (AG G) s.heap H locs → W p l e { frames := 9, cells := 520, slots := 3120, locals := 184 } s m ([.ref (ad 0 0), .int yy, .ref (ad 14 0), .ref (ad 15 0), .ref (ad 16 0), .ref (ad 17 0), .ref (ad 18 0), .ref (ad 19 0), .ref (ad 20 0), .ref (ad 21 0), .ref (ad 22 0)] : List Value).toArray below meth c H locs (80 + 196 * c9 + 1 + 65 * k7) (6 * (80 + 196 * c9 + 1 + 65 * k7)) (MQ below (va_Qi (S := Unit) (fun r _ => r = 1) (Bm G (fun _ => M)) (AG G)) ([.ref (ad 0 0), .int yy, .ref (ad 14 0), .ref (ad 15 0), .ref (ad 16 0), .ref (ad 17 0), .ref (ad 18 0), .ref (ad 19 0), .ref (ad 20 0), .ref (ad 21 0), .ref (ad 22 0)] : List Value).toArray s (520) (3120) (AG G)) (F0 m 174 ls [.int (nI w74)]) := by
                intro w74 hw74 ls hl H locs hM hS
                subst hw74
                refine lv_istore (lv' := [(13, .int (nI (mny k7))), (0, .ref (ad 0 0)), (1, .int yy), (2, .ref (ad 14 0)), (3, .ref (ad 15 0)), (4, .ref (ad 16 0)), (5, .ref (ad 17 0)), (6, .ref (ad 18 0)), (7, .ref (ad 19 0)), (8, .ref (ad 20 0)), (9, .ref (ad 21 0)), (10, .ref (ad 22 0)), (11, .int (nI c9)), (12, .int (nI k7))]) hx hb dL_isTold_174 hl (by decide) rfl (fun ls hl => ?_)
                refine lv_aload_n hx hb dL_isTold_176 rfl (lv_at hl 1 rfl) ?_
                refine lv_iload hx hb dL_isTold_177 (lv_at hl 12 rfl) ?_
                refine lv_iload hx hb dL_isTold_179 (lv_at hl 0 rfl) ?_
                refine k_l (vx_runSW (As := [.ref (ad 0 0), .int (nI c9), .int (nI (mny k7))]) (rest := []) ⟨hx, hb, hml, hown, hts⟩ (c_L_balance hnt l G M S T th o ex ad (nI c9) (nI (mny k7)) hw hi) (vx_cwSW 3 hts gL_isTold_L_balance rfl rfl rfl (by decide +kernel) ⟨Nat.le_of_ble_eq_true rfl, Nat.le_of_ble_eq_true rfl⟩) (preS_of hC hS hM) rfl rfl hl.1 rfl (lv_room (Nat.le_of_ble_eq_true rfl)) dL_isTold_181 ⟨(by first | omega | (show _ ≤ 520; omega) | (show _ ≤ 3120; omega)), (by first | omega | (show _ ≤ 520; omega) | (show _ ≤ 3120; omega))⟩) hS (fun r181 us181 H locs hp181 hM hS => ?_)
                rw [nI_clamp (show c9 < 2 ^ 31 by omega)] at hp181
                rw [nI_clamp (show (mny k7) < 2 ^ 31 by omega)] at hp181
                have hq181 : r181 = S.2 1 (5 * c9 + (mny k7)) := by
                  rcases hp181 with h | h | h
                  · exact False.elim (absurd (c2_5 hc) h.2)
                  · exact False.elim (absurd (rg_n (b := 4) (Nat.zero_le _) hmn (by decide)) h.2.2)
                  · exact h.1
                have hM : Hm G M H := hM
                subst hq181
                refine lv_aload hx hb dL_isTold_184 (lv_at hl 10 rfl) ?_
                refine lv_iconst (v := 3) hx hb dL_isTold_186 (by decide) ?_
                refine lv_iload hx hb dL_isTold_187 (lv_at hl 12 rfl) ?_
                refine lv_imul hx hb dL_isTold_189 ?_
                refine lv_iload hx hb dL_isTold_190 (lv_at hl 13 rfl) ?_
                refine lv_iadd hx hb dL_isTold_192 ?_
                refine k_lald (a := (ad 21 0)) hx hb hC hM (qa21 hw) (3 * c9 + k7) (ix_lit (ix3 _ _) (by omega) (by decide)) dL_isTold_193 ?_
                rw [hR.2.2.2.2.2.1 c9 k7 hc hk]
                refine W.lcmp hx hb dL_isTold_194 ?_
                rw [lg_same]
                refine lv_if_eq (tgt := 200) hx hb dL_isTold_195 (by decide) (fun c_195 => ?_) (fun c_195 => False.elim (by revert c_195; decide))
                refine lv_iconst (v := 1) hx hb dL_isTold_200 (by decide) ?_
                refine lv_istore (lv' := [(14, .int 1), (13, .int (nI (mny k7))), (0, .ref (ad 0 0)), (1, .int yy), (2, .ref (ad 14 0)), (3, .ref (ad 15 0)), (4, .ref (ad 16 0)), (5, .ref (ad 17 0)), (6, .ref (ad 18 0)), (7, .ref (ad 19 0)), (8, .ref (ad 20 0)), (9, .ref (ad 21 0)), (10, .ref (ad 22 0)), (11, .int (nI c9)), (12, .int (nI k7))]) hx hb dL_isTold_201 hl (by decide) rfl (fun ls hl => ?_)
                have lp4 : ∀ (n_lp4 : Nat) (i7 : Nat), (1 ≤ i7) → (i7 + n_lp4 = 21) → ∀ ls : Array Slot, lv_has ls 15 [(0, .ref (ad 0 0)), (1, .int yy), (2, .ref (ad 14 0)), (3, .ref (ad 15 0)), (4, .ref (ad 16 0)), (5, .ref (ad 17 0)), (6, .ref (ad 18 0)), (7, .ref (ad 19 0)), (8, .ref (ad 20 0)), (9, .ref (ad 21 0)), (10, .ref (ad 22 0)), (11, .int (nI c9)), (12, .int (nI k7)), (13, .int (nI (mny k7))), (14, .int (nI i7))] → ∀ (H : Heap) (locs : List Loc), Hm G M H → va_S (AG G) s.heap H locs → W p l e { frames := 9, cells := 520, slots := 3120, locals := 184 } s m ([.ref (ad 0 0), .int yy, .ref (ad 14 0), .ref (ad 15 0), .ref (ad 16 0), .ref (ad 17 0), .ref (ad 18 0), .ref (ad 19 0), .ref (ad 20 0), .ref (ad 21 0), .ref (ad 22 0)] : List Value).toArray below meth c H locs (80 + 196 * c9 + 1 + 65 * k7 + 2 + 3 * i7) (6 * (80 + 196 * c9 + 1 + 65 * k7 + 2 + 3 * i7)) (MQ below (va_Qi (S := Unit) (fun r _ => r = 1) (Bm G (fun _ => M)) (AG G)) ([.ref (ad 0 0), .int yy, .ref (ad 14 0), .ref (ad 15 0), .ref (ad 16 0), .ref (ad 17 0), .ref (ad 18 0), .ref (ad 19 0), .ref (ad 20 0), .ref (ad 21 0), .ref (ad 22 0)] : List Value).toArray s (520) (3120) (AG G)) (F0 m 203 ls []) := by
                  intro n_lp4
                  induction n_lp4 with
                  | zero =>
                    intro i7 h41 h4 ls hl H locs hM hS
                    refine lv_iload hx hb dL_isTold_203 (lv_at hl 14 rfl) ?_
                    refine lv_bipush (v := 21) hx hb dL_isTold_205 (by decide) ?_
                    refine lv_icmp_ge (tgt := 267) hx hb dL_isTold_207 (by decide) (fun c_207 => ?_) (fun c_207 => False.elim (by exact c_207 (nI_le (a := 21) (by omega) (by omega))))
                    refine lv_iinc (v := ((nI k7) + 1)) (lv' := [(12, .int ((nI k7) + 1)), (0, .ref (ad 0 0)), (1, .int yy), (2, .ref (ad 14 0)), (3, .ref (ad 15 0)), (4, .ref (ad 16 0)), (5, .ref (ad 17 0)), (6, .ref (ad 18 0)), (7, .ref (ad 19 0)), (8, .ref (ad 20 0)), (9, .ref (ad 21 0)), (10, .ref (ad 22 0)), (11, .int (nI c9)), (13, .int (nI (mny k7))), (14, .int (nI i7))]) hx hb dL_isTold_267 hl (k := 12) rfl rfl (by decide) rfl (fun ls hl => ?_)
                    refine lv_goto (tgt := 156) hx hb dL_isTold_270 (by decide) ?_
                    rw [show nI k7 + 1 = nI (k7 + 1) from nI_1 k7] at hl
                    refine W.widen (k := 80 + 196 * c9 + 1 + 65 * (k7 + 1)) (n := 6 * (80 + 196 * c9 + 1 + 65 * (k7 + 1))) (by omega) (by omega) ?_
                    exact ih_lp3 (k7 + 1) (by omega) ls (lv_sub hl [1, 2, 3, 4, 5, 6, 7, 8, 9, 10, 11, 12, 0] rfl) _ _ hM hS
                  | succ n_lp4 ih_lp4 =>
                    intro i7 h41 h4 ls hl H locs hM hS
                    refine lv_iload hx hb dL_isTold_203 (lv_at hl 14 rfl) ?_
                    refine lv_bipush (v := 21) hx hb dL_isTold_205 (by decide) ?_
                    refine lv_icmp_ge (tgt := 267) hx hb dL_isTold_207 (by decide) (fun c_207 => False.elim (by exact nI_ge (a := i7) (b := 21) (by omega) (by decide) c_207)) (fun c_207 => ?_)
                    refine lv_aload_n hx hb dL_isTold_210 rfl (lv_at hl 0 rfl) ?_
                    refine lv_iload hx hb dL_isTold_211 (lv_at hl 11 rfl) ?_
                    refine lv_iload hx hb dL_isTold_213 (lv_at hl 13 rfl) ?_
                    refine lv_iload hx hb dL_isTold_215 (lv_at hl 14 rfl) ?_
                    refine k_l (vx_runSW (As := [.ref (ad 0 0), .int (nI c9), .int (nI (mny k7)), .int (nI i7)]) (rest := []) ⟨hx, hb, hml, hown, hts⟩ (c_L_due hnt l G M S T th o ex ad (nI c9) (nI (mny k7)) (nI i7) hw hi hx9) (vx_cwSW 4 hts gL_isTold_L_due rfl rfl rfl (by decide +kernel) ⟨Nat.le_of_ble_eq_true rfl, Nat.le_of_ble_eq_true rfl⟩) (preS_of hC hS hM) rfl rfl hl.1 rfl (lv_room (Nat.le_of_ble_eq_true rfl)) dL_isTold_217 ⟨(by first | omega | (show _ ≤ 520; omega) | (show _ ≤ 3120; omega)), (by first | omega | (show _ ≤ 520; omega) | (show _ ≤ 3120; omega))⟩) hS (fun r217 us217 H locs hp217 hM hS => ?_)
                    rw [nI_clamp (show c9 < 2 ^ 31 by omega)] at hp217
                    rw [nI_clamp (show (mny k7) < 2 ^ 31 by omega)] at hp217
                    have hq217 : r217 = S.2 0 (5 * (5 * (S.1 0 0 + (nI i7)).toNatClampNeg + c9) + (mny k7)) := by
                      rcases hp217 with h | h | h
                      · exact False.elim (absurd (c2_5 hc) h.2)
                      · exact False.elim (absurd (⟨rg_n (b := 4) (Nat.zero_le _) hmn (by decide), rg_n (a := 1) (b := 20) h41 (by omega) (by decide)⟩) h.2.2)
                      · exact h.1
                    have hM : Hm G M H := hM
                    subst hq217
                    rw [dy_i hi (i := i7) (by omega)]
                    refine lv_iload hx hb dL_isTold_220 (lv_at hl 14 rfl) ?_
                    refine lv_bipush (v := 10) hx hb dL_isTold_222 (by decide) ?_
                    refine lv_icmp_ge (tgt := 254) hx hb dL_isTold_224 (by decide) (fun c_224 => ?_) (fun c_224 => ?_)
                    · rw [show (S.2 0 (5 * (5 * (tdy S + i7) + c9) + (mny k7))) = 0 from hR.2.2.2.2.1.2.2 c9 k7 (tdy S + i7) hc hk (by have := (nI_leI (a := 10) (by decide) (by omega)).mp c_224; omega)]
                      refine lv_lconst (v := 0) hx hb dL_isTold_254 (by decide) ?_
                      refine W.lcmp hx hb dL_isTold_255 ?_
                      rw [lg_same]
                      refine lv_if_eq (tgt := 261) hx hb dL_isTold_256 (by decide) (fun c_256 => ?_) (fun c_256 => False.elim (by revert c_256; decide))
                      refine lv_iinc (v := ((nI i7) + 1)) (lv' := [(14, .int ((nI i7) + 1)), (0, .ref (ad 0 0)), (1, .int yy), (2, .ref (ad 14 0)), (3, .ref (ad 15 0)), (4, .ref (ad 16 0)), (5, .ref (ad 17 0)), (6, .ref (ad 18 0)), (7, .ref (ad 19 0)), (8, .ref (ad 20 0)), (9, .ref (ad 21 0)), (10, .ref (ad 22 0)), (11, .int (nI c9)), (12, .int (nI k7)), (13, .int (nI (mny k7)))]) hx hb dL_isTold_261 hl (k := 14) rfl rfl (by decide) rfl (fun ls hl => ?_)
                      refine lv_goto (tgt := 203) hx hb dL_isTold_264 (by decide) ?_
                      rw [show nI i7 + 1 = nI (i7 + 1) from nI_1 i7] at hl
                      refine W.widen (k := 80 + 196 * c9 + 1 + 65 * k7 + 2 + 3 * (i7 + 1)) (n := 6 * (80 + 196 * c9 + 1 + 65 * k7 + 2 + 3 * (i7 + 1))) (by omega) (by omega) ?_
                      exact ih_lp4 (i7 + 1) (by omega) (by omega) ls (lv_sub hl [1, 2, 3, 4, 5, 6, 7, 8, 9, 10, 11, 12, 13, 14, 0] rfl) _ _ hM hS
                    · have hi10 : i7 < 10 := Nat.lt_of_not_le (fun q => c_224 (nI_le (a := 10) q (by omega)))
                      refine lv_aload hx hb dL_isTold_227 (lv_at hl 8 rfl) ?_
                      refine lv_bipush (v := 6) hx hb dL_isTold_229 (by decide) ?_
                      refine lv_aload hx hb dL_isTold_231 (lv_at hl 10 rfl) ?_
                      refine lv_iconst (v := 0) hx hb dL_isTold_233 (by decide) ?_
                      refine k_iald (a := (ad 22 0)) hx hb hC hM (qa22 hw) 0 (ix_lit (rfl : (0 : Int32) = nI 0) (by decide) (by decide)) dL_isTold_234 ?_
                      rw [hG0]
                      refine lv_iload hx hb dL_isTold_235 (lv_at hl 14 rfl) ?_
                      refine lv_iadd hx hb dL_isTold_237 ?_
                      rw [nI_add]
                      refine lv_bipush (v := 10) hx hb dL_isTold_238 (by decide) ?_
                      refine lv_irem hx hb dL_isTold_240 (by decide) ?_
                      rw [sn10 (tdy S + i7) (by omega)]
                      refine lv_imul hx hb dL_isTold_241 ?_
                      refine lv_iconst (v := 3) hx hb dL_isTold_242 (by decide) ?_
                      refine lv_iload hx hb dL_isTold_243 (lv_at hl 11 rfl) ?_
                      refine lv_imul hx hb dL_isTold_245 ?_
                      refine lv_iadd hx hb dL_isTold_246 ?_
                      refine lv_iload hx hb dL_isTold_247 (lv_at hl 12 rfl) ?_
                      refine lv_iadd hx hb dL_isTold_249 ?_
                      refine k_lald (a := (ad 20 0)) hx hb hC hM (qa20 hw) (6 * ((tdy S + i7) % 10) + 3 * c9 + k7) (ix_lit (ei_i _ _ _) (by omega) (by decide)) dL_isTold_250 ?_
                      rw [hR.2.2.2.2.1.1 c9 k7 i7 hc hk h41 hi10]
                      refine lv_goto (tgt := 255) hx hb dL_isTold_251 (by decide) ?_
                      refine W.lcmp hx hb dL_isTold_255 ?_
                      rw [lg_same]
                      refine lv_if_eq (tgt := 261) hx hb dL_isTold_256 (by decide) (fun c_256 => ?_) (fun c_256 => False.elim (by revert c_256; decide))
                      refine lv_iinc (v := ((nI i7) + 1)) (lv' := [(14, .int ((nI i7) + 1)), (0, .ref (ad 0 0)), (1, .int yy), (2, .ref (ad 14 0)), (3, .ref (ad 15 0)), (4, .ref (ad 16 0)), (5, .ref (ad 17 0)), (6, .ref (ad 18 0)), (7, .ref (ad 19 0)), (8, .ref (ad 20 0)), (9, .ref (ad 21 0)), (10, .ref (ad 22 0)), (11, .int (nI c9)), (12, .int (nI k7)), (13, .int (nI (mny k7)))]) hx hb dL_isTold_261 hl (k := 14) rfl rfl (by decide) rfl (fun ls hl => ?_)
                      refine lv_goto (tgt := 203) hx hb dL_isTold_264 (by decide) ?_
                      rw [show nI i7 + 1 = nI (i7 + 1) from nI_1 i7] at hl
                      refine W.widen (k := 80 + 196 * c9 + 1 + 65 * k7 + 2 + 3 * (i7 + 1)) (n := 6 * (80 + 196 * c9 + 1 + 65 * k7 + 2 + 3 * (i7 + 1))) (by omega) (by omega) ?_
                      exact ih_lp4 (i7 + 1) (by omega) (by omega) ls (lv_sub hl [1, 2, 3, 4, 5, 6, 7, 8, 9, 10, 11, 12, 13, 14, 0] rfl) _ _ hM hS
                refine W.widen (k := 80 + 196 * c9 + 1 + 65 * k7 + 2 + 3 * 1) (n := 6 * (80 + 196 * c9 + 1 + 65 * k7 + 2 + 3 * 1)) (by omega) (by omega) ?_
                exact lp4 20 1 (by decide) (by decide) ls (lv_sub hl [2, 3, 4, 5, 6, 7, 8, 9, 10, 11, 12, 13, 14, 1, 0] rfl) _ _ hM hS
              refine lv_iload hx hb dL_isTold_162 (lv_at hl 12 rfl) ?_
              refine lv_iconst (v := 2) hx hb dL_isTold_164 (by decide) ?_
              refine lv_icmp_ne (tgt := 172) hx hb dL_isTold_165 (by decide) (fun c_165 => ?_) (fun c_165 => ?_)
              · refine lv_iload hx hb dL_isTold_172 (lv_at hl 12 rfl) ?_
                exact j174 k7 (by unfold mny; rw [if_neg (fun q => c_165 (by rw [q]; rfl))]) ls (lv_sub hl [0, 1, 2, 3, 4, 5, 6, 7, 8, 9, 10, 11, 12] rfl) _ _ hM hS
              · refine lv_iconst (v := 4) hx hb dL_isTold_168 (by decide) ?_
                refine lv_goto (tgt := 174) hx hb dL_isTold_169 (by decide) ?_
                exact j174 4 (by unfold mny; rw [if_pos ((nI_eq (b := 2) (by omega) (by decide)).mp c_165)]) ls (lv_sub hl [0, 1, 2, 3, 4, 5, 6, 7, 8, 9, 10, 11, 12] rfl) _ _ hM hS
          refine W.widen (k := 80 + 196 * c9 + 1 + 65 * 0) (n := 6 * (80 + 196 * c9 + 1 + 65 * 0)) (by omega) (by omega) ?_
          exact lp3 3 0 (by decide) ls (lv_sub hl [1, 2, 3, 4, 5, 6, 7, 8, 9, 10, 11, 12, 0] rfl) _ _ hM hS
      refine W.widen (k := 80 + 196 * 0) (n := 6 * (80 + 196 * 0)) (by omega) (by omega) ?_
      exact lp2 2 0 (by decide) ls (lv_sub hl [1, 2, 3, 4, 5, 6, 7, 8, 9, 10, 11, 0] rfl) _ _ hM hS
    | succ n_lp1 ih_lp1 =>
      intro i9 h9 ls hl H locs hM hS
      have hj : i9 < ndl S := by omega
      obtain ⟨⟨hcu, hcy⟩, -, hT15, hT16, hT17, hT18, -⟩ := rl_j hR hj
      refine lv_iload hx hb dL_isTold_3 (lv_at hl 11 rfl) ?_
      refine lv_aload hx hb dL_isTold_5 (lv_at hl 10 rfl) ?_
      refine lv_iconst (v := 1) hx hb dL_isTold_7 (by decide) ?_
      refine k_iald (a := (ad 22 0)) hx hb hC hM (qa22 hw) 1 (ix_lit (rfl : (1 : Int32) = nI 1) (by decide) (by decide)) dL_isTold_8 ?_
      rw [hG1]
      refine lv_icmp_ge (tgt := 117) hx hb dL_isTold_9 (by decide) (fun c_9 => False.elim (by exact nI_ge (a := i9) (b := ndl S) (by omega) (by omega) c_9)) (fun c_9 => ?_)
      have j44 : ∀ (v44 : Int64), (v44 = mg S i9) → ∀ (ls : Array Slot), lv_has ls 15 [(0, .ref (ad 0 0)), (1, .int yy), (2, .ref (ad 14 0)), (3, .ref (ad 15 0)), (4, .ref (ad 16 0)), (5, .ref (ad 17 0)), (6, .ref (ad 18 0)), (7, .ref (ad 19 0)), (8, .ref (ad 20 0)), (9, .ref (ad 21 0)), (10, .ref (ad 22 0)), (11, .int (nI i9))] → ∀ (H : Heap) (locs : List Loc), Hm G M H → va_S (AG G) s.heap H locs → W p l e { frames := 9, cells := 520, slots := 3120, locals := 184 } s m ([.ref (ad 0 0), .int yy, .ref (ad 14 0), .ref (ad 15 0), .ref (ad 16 0), .ref (ad 17 0), .ref (ad 18 0), .ref (ad 19 0), .ref (ad 20 0), .ref (ad 21 0), .ref (ad 22 0)] : List Value).toArray below meth c H locs (4 * i9) (6 * (4 * i9)) (MQ below (va_Qi (S := Unit) (fun r _ => r = 1) (Bm G (fun _ => M)) (AG G)) ([.ref (ad 0 0), .int yy, .ref (ad 14 0), .ref (ad 15 0), .ref (ad 16 0), .ref (ad 17 0), .ref (ad 18 0), .ref (ad 19 0), .ref (ad 20 0), .ref (ad 21 0), .ref (ad 22 0)] : List Value).toArray s (520) (3120) (AG G)) (F0 m 44 ls [.long v44]) := by
        intro v44 hv44 ls hl H locs hM hS
        subst hv44
        refine lv_lstore (lv' := [(12, .long (mg S i9)), (0, .ref (ad 0 0)), (1, .int yy), (2, .ref (ad 14 0)), (3, .ref (ad 15 0)), (4, .ref (ad 16 0)), (5, .ref (ad 17 0)), (6, .ref (ad 18 0)), (7, .ref (ad 19 0)), (8, .ref (ad 20 0)), (9, .ref (ad 21 0)), (10, .ref (ad 22 0)), (11, .int (nI i9))]) hx hb dL_isTold_44 hl (by decide) rfl (fun ls hl => ?_)
        refine lv_aload_n hx hb dL_isTold_46 rfl (lv_at hl 1 rfl) ?_
        refine lv_iload hx hb dL_isTold_47 (lv_at hl 12 rfl) ?_
        refine k_i (vx_runSW (As := [.ref (ad 0 0), .int (nI i9)]) (rest := []) ⟨hx, hb, hml, hown, hts⟩ (c_L_left hnt l G M S T th o ex ad (nI i9) hw hi) (vx_cwSW 2 hts gL_isTold_L_left rfl rfl rfl (by decide +kernel) ⟨Nat.le_of_ble_eq_true rfl, Nat.le_of_ble_eq_true rfl⟩) (preS_of hC hS hM) rfl rfl hl.1 rfl (lv_room (Nat.le_of_ble_eq_true rfl)) dL_isTold_49 ⟨(by first | omega | (show _ ≤ 520; omega) | (show _ ≤ 3120; omega)), (by first | omega | (show _ ≤ 520; omega) | (show _ ≤ 3120; omega))⟩) hS (fun r49 us49 H locs hp49 hM hS => ?_)
        rw [nI_clamp (show i9 < 2 ^ 31 by omega)] at hp49
        have hq49 : r49 = S.1 9 i9 := by
          rcases hp49 with h | h
          · exact False.elim (absurd (⟨nI_pos' (by omega), hj⟩) h.2)
          · exact h.1
        have hM : Hm G M H := hM
        subst hq49
        refine lv_aload_n hx hb dL_isTold_52 rfl (lv_at hl 4 rfl) ?_
        refine lv_iload hx hb dL_isTold_53 (lv_at hl 12 rfl) ?_
        refine k_iald (a := (ad 15 0)) hx hb hC hM (qa15 hw) i9 (ix_lit rfl (by omega) (by decide)) dL_isTold_55 ?_
        rw [hT15]
        refine lv_icmp_ne (tgt := 109) hx hb dL_isTold_56 (by decide) (fun c_56 => False.elim (by exact c_56 rfl)) (fun c_56 => ?_)
        refine lv_aload_n hx hb dL_isTold_59 rfl (lv_at hl 1 rfl) ?_
        refine lv_iload hx hb dL_isTold_60 (lv_at hl 12 rfl) ?_
        refine kx_i (vx_runV (As := [.int (nI i9)]) (rest := []) ⟨hx, hb, hml, hown, hts⟩ (c_X5_rate hnt l G M S T th o ex ad (nI i9) hw hi) (cwV 1 hts gL_isTold_X5_rate rfl rfl rfl (by decide +kernel) ⟨Nat.le_of_ble_eq_true rfl, Nat.le_of_ble_eq_true rfl⟩) (preV_of hC hS hM (qa0 hw) rfl) rfl rfl hl.1 rfl (lv_room (Nat.le_of_ble_eq_true rfl)) dL_isTold_62 ⟨(by first | omega | (show _ ≤ 520; omega) | (show _ ≤ 3120; omega)), (by first | omega | (show _ ≤ 520; omega) | (show _ ≤ 3120; omega))⟩) hS (fun E ce q9 H locs hE hM hS h1 h2 h3 => ?_) (fun r62 us62 H locs hp62 hM hS => ?_)
        · exact False.elim (hE.2 ⟨nI_pos' (by omega), by rw [nI_clamp (by omega)]; exact hj⟩)
        have hM : Hm G M H := hM
        obtain ⟨-, er62⟩ := hp62
        rw [nI_clamp (show i9 < 2 ^ 31 by omega)] at er62
        subst er62
        refine lv_aload hx hb dL_isTold_65 (lv_at hl 7 rfl) ?_
        refine lv_iload hx hb dL_isTold_67 (lv_at hl 12 rfl) ?_
        refine k_iald (a := (ad 18 0)) hx hb hC hM (qa18 hw) i9 (ix_lit rfl (by omega) (by decide)) dL_isTold_69 ?_
        rw [hT18]
        refine lv_icmp_ne (tgt := 109) hx hb dL_isTold_70 (by decide) (fun c_70 => False.elim (by exact c_70 rfl)) (fun c_70 => ?_)
        refine lv_aload_n hx hb dL_isTold_73 rfl (lv_at hl 1 rfl) ?_
        refine lv_iload hx hb dL_isTold_74 (lv_at hl 12 rfl) ?_
        refine kx_i (vx_runV (As := [.int (nI i9)]) (rest := []) ⟨hx, hb, hml, hown, hts⟩ (c_X5_window hnt l G M S T th o ex ad (nI i9) hw hi) (cwV 1 hts gL_isTold_X5_window rfl rfl rfl (by decide +kernel) ⟨Nat.le_of_ble_eq_true rfl, Nat.le_of_ble_eq_true rfl⟩) (preV_of hC hS hM (qa0 hw) rfl) rfl rfl hl.1 rfl (lv_room (Nat.le_of_ble_eq_true rfl)) dL_isTold_76 ⟨(by first | omega | (show _ ≤ 520; omega) | (show _ ≤ 3120; omega)), (by first | omega | (show _ ≤ 520; omega) | (show _ ≤ 3120; omega))⟩) hS (fun E ce q9 H locs hE hM hS h1 h2 h3 => ?_) (fun r76 us76 H locs hp76 hM hS => ?_)
        · exact False.elim (hE.2 ⟨nI_pos' (by omega), by rw [nI_clamp (by omega)]; exact hj⟩)
        have hM : Hm G M H := hM
        obtain ⟨-, er76⟩ := hp76
        rw [nI_clamp (show i9 < 2 ^ 31 by omega)] at er76
        subst er76
        refine lv_sipush (v := 10000) hx hb dL_isTold_79 (by decide) ?_
        refine lv_aload hx hb dL_isTold_82 (lv_at hl 5 rfl) ?_
        refine lv_iload hx hb dL_isTold_84 (lv_at hl 12 rfl) ?_
        refine k_iald (a := (ad 16 0)) hx hb hC hM (qa16 hw) i9 (ix_lit rfl (by omega) (by decide)) dL_isTold_86 ?_
        rw [hT16]
        refine lv_imul hx hb dL_isTold_87 ?_
        refine lv_aload hx hb dL_isTold_88 (lv_at hl 6 rfl) ?_
        refine lv_iload hx hb dL_isTold_90 (lv_at hl 12 rfl) ?_
        refine k_iald (a := (ad 17 0)) hx hb hC hM (qa17 hw) i9 (ix_lit rfl (by omega) (by decide)) dL_isTold_92 ?_
        rw [hT17]
        refine lv_iadd hx hb dL_isTold_93 ?_
        refine lv_icmp_ne (tgt := 109) hx hb dL_isTold_94 (by decide) (fun c_94 => False.elim (by exact c_94 rfl)) (fun c_94 => ?_)
        refine lv_aload_n hx hb dL_isTold_97 rfl (lv_at hl 1 rfl) ?_
        refine lv_iload hx hb dL_isTold_98 (lv_at hl 12 rfl) ?_
        refine kx_l (vx_runV (As := [.int (nI i9)]) (rest := []) ⟨hx, hb, hml, hown, hts⟩ (c_X5_gain hnt l G M S T th o ex ad (nI i9) hw hi) (cwV 1 hts gL_isTold_X5_gain rfl rfl rfl (by decide +kernel) ⟨Nat.le_of_ble_eq_true rfl, Nat.le_of_ble_eq_true rfl⟩) (preV_of hC hS hM (qa0 hw) rfl) rfl rfl hl.1 rfl (lv_room (Nat.le_of_ble_eq_true rfl)) dL_isTold_100 ⟨(by first | omega | (show _ ≤ 520; omega) | (show _ ≤ 3120; omega)), (by first | omega | (show _ ≤ 520; omega) | (show _ ≤ 3120; omega))⟩) hS (fun E ce q9 H locs hE hM hS h1 h2 h3 => ?_) (fun r100 us100 H locs hp100 hM hS => ?_)
        · exact False.elim (hE.2 ⟨nI_pos' (by omega), by rw [nI_clamp (by omega)]; exact hj⟩)
        have hM : Hm G M H := hM
        obtain ⟨-, er100⟩ := hp100
        rw [nI_clamp (show i9 < 2 ^ 31 by omega)] at er100
        subst er100
        refine lv_lload hx hb dL_isTold_103 (lv_at hl 0 rfl) ?_
        refine W.lcmp hx hb dL_isTold_105 ?_
        rw [lg_same]
        refine lv_if_eq (tgt := 111) hx hb dL_isTold_106 (by decide) (fun c_106 => ?_) (fun c_106 => False.elim (by revert c_106; decide))
        refine lv_iinc (v := ((nI i9) + 1)) (lv' := [(11, .int ((nI i9) + 1)), (12, .long (mg S i9)), (0, .ref (ad 0 0)), (1, .int yy), (2, .ref (ad 14 0)), (3, .ref (ad 15 0)), (4, .ref (ad 16 0)), (5, .ref (ad 17 0)), (6, .ref (ad 18 0)), (7, .ref (ad 19 0)), (8, .ref (ad 20 0)), (9, .ref (ad 21 0)), (10, .ref (ad 22 0))]) hx hb dL_isTold_111 hl (k := 12) rfl rfl (by decide) rfl (fun ls hl => ?_)
        refine lv_goto (tgt := 3) hx hb dL_isTold_114 (by decide) ?_
        rw [show nI i9 + 1 = nI (i9 + 1) from nI_1 i9] at hl
        refine W.widen (k := 4 * (i9 + 1)) (n := 6 * (4 * (i9 + 1))) (by omega) (by omega) ?_
        exact ih_lp1 (i9 + 1) (by omega) ls (lv_sub hl [2, 3, 4, 5, 6, 7, 8, 9, 10, 11, 12, 0] rfl) _ _ hM hS
      refine lv_aload_n hx hb dL_isTold_12 rfl (lv_at hl 3 rfl) ?_
      refine lv_iload hx hb dL_isTold_13 (lv_at hl 11 rfl) ?_
      refine k_iald (a := (ad 15 0)) hx hb hC hM (qa15 hw) i9 (ix_lit rfl (by omega) (by decide)) dL_isTold_15 ?_
      refine lv_if_ne (tgt := 23) hx hb dL_isTold_16 (by decide) (fun c_16 => ?_) (fun c_16 => ?_)
      · refine lv_aload_n hx hb dL_isTold_23 rfl (lv_at hl 2 rfl) ?_
        refine lv_aload_n hx hb dL_isTold_24 rfl (lv_at hl 3 rfl) ?_
        refine lv_aload hx hb dL_isTold_25 (lv_at hl 6 rfl) ?_
        refine lv_iload hx hb dL_isTold_27 (lv_at hl 11 rfl) ?_
        refine lv_aload_n hx hb dL_isTold_29 rfl (lv_at hl 2 rfl) ?_
        refine lv_aload hx hb dL_isTold_30 (lv_at hl 5 rfl) ?_
        refine lv_aload hx hb dL_isTold_32 (lv_at hl 7 rfl) ?_
        refine lv_aload hx hb dL_isTold_34 (lv_at hl 10 rfl) ?_
        refine lv_iload hx hb dL_isTold_36 (lv_at hl 11 rfl) ?_
        refine k_i (va_runS (As := [.ref (ad 14 0), .ref (ad 17 0), .ref (ad 19 0), .ref (ad 22 0), .int (nI i9)]) (rest := [.int (nI i9), .ref (ad 18 0), .ref (ad 15 0), .ref (ad 14 0)]) ⟨hx, hb, hml, hown, hts⟩ (c_L_now l G M S T th o ex ad i9 hw (by omega)) (va_cwS 5 hts gL_isTold_L_now rfl rfl rfl (by decide +kernel) ⟨Nat.le_of_ble_eq_true rfl, Nat.le_of_ble_eq_true rfl⟩) (preS_of hC hS hM) rfl rfl hl.1 rfl (lv_room (Nat.le_of_ble_eq_true rfl)) dL_isTold_38 ⟨(by first | omega | (show _ ≤ 520; omega) | (show _ ≤ 3120; omega)), (by first | omega | (show _ ≤ 520; omega) | (show _ ≤ 3120; omega))⟩) hS (fun r38 us38 H locs hp38 hM hS => ?_)
        have hM : Hm G M H := hM
        have hp38 : r38 = nwT T i9 := hp38
        subst hp38
        refine k_l (va_runS (As := [.ref (ad 14 0), .ref (ad 15 0), .ref (ad 18 0), .int (nI i9), .int (nwT T i9)]) (rest := []) ⟨hx, hb, hml, hown, hts⟩ (c_L_gains l G M S T th o ex ad i9 (nwT T i9) hw (by omega)) (va_cwS 5 hts gL_isTold_L_gains rfl rfl rfl (by decide +kernel) ⟨Nat.le_of_ble_eq_true rfl, Nat.le_of_ble_eq_true rfl⟩) (preS_of hC hS hM) rfl rfl hl.1 rfl (lv_room (Nat.le_of_ble_eq_true rfl)) dL_isTold_41 ⟨(by first | omega | (show _ ≤ 520; omega) | (show _ ≤ 3120; omega)), (by first | omega | (show _ ≤ 520; omega) | (show _ ≤ 3120; omega))⟩) hS (fun r41 us41 H locs hp41 hM hS => ?_)
        have hM : Hm G M H := hM
        have hp41 : r41 = gnT T i9 (nwT T i9) := hp41
        subst hp41
        rw [rl_mg hR hi hj]
        exact j44 (mg S i9) rfl ls (lv_sub hl [0, 1, 2, 3, 4, 5, 6, 7, 8, 9, 10, 11] rfl) _ _ hM hS
      · refine lv_lconst (v := 0) hx hb dL_isTold_19 (by decide) ?_
        refine lv_goto (tgt := 44) hx hb dL_isTold_20 (by decide) ?_
        exact j44 0 (mg_0 (by rw [← hT15]; exact c_16)).symm ls (lv_sub hl [0, 1, 2, 3, 4, 5, 6, 7, 8, 9, 10, 11] rfl) _ _ hM hS
  refine W.widen (k := 4 * 0) (n := 6 * (4 * 0)) (by omega) (by omega) ?_
  exact lp1 (ndl S) 0 (by omega) ls (lv_sub hl [1, 2, 3, 4, 5, 6, 7, 8, 9, 10, 11, 0] rfl) _ _ hM hS
