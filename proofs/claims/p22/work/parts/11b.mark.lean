/-- what an act leaves: the desk and the arrays agree again -/
def Nx (G : Gx) (th : Int32) (o : Int64) (ad : Nat → Nat → Nat) (M2 : Mp) : Prop := ∃ (S2 T2 : Sd) (ex2 : Nat → Option (Nat × Nat)) (ad2 : Nat → Nat → Nat), WA G S2 T2 th o ex2 ad2 M2 ∧ Iv S2 ∧ Ix S2 ex2 ∧ Rel S2 T2 ∧ ∀ k, ¬ k = 11 → ad2 k = ad k
theorem c2_4 {c : Nat} (h : c < 2) : 0 ≤ nI c ∧ nI c < 4 := ⟨nI_pos' (by omega), nI_lt (b := 4) (by omega) (by decide)⟩
theorem c2_5 {c : Nat} (h : c < 2) : 0 ≤ nI c ∧ nI c < 5 := ⟨nI_pos' (by omega), nI_lt (b := 5) (by omega) (by decide)⟩
theorem rg_n {a q b : Nat} (h1 : a ≤ q) (h2 : q ≤ b) (hb : b < 2 ^ 31) : nI a ≤ nI q ∧ nI q ≤ nI b := ⟨nI_le h1 (by omega), nI_le h2 hb⟩
theorem pts_rng {q : Nat} (h : q < 101) : -50 ≤ (nI q - 50).toInt ∧ (nI q - 50).toInt ≤ 50 := by
  have e : (nI q - 50).toInt = (q : Int) - 50 := pk_sub_toInt (b := 50) (by omega) (by decide)
  omega
theorem pts_i {x : Int32} (h : -50 ≤ x.toInt ∧ x.toInt ≤ 50) : (-50) ≤ x ∧ x ≤ 50 := ⟨Int32.le_iff_toInt_le.mpr h.1, Int32.le_iff_toInt_le.mpr h.2⟩
theorem e1_s {T T1 : Sd} {k i : Nat} {v : Int32} (e : T1 = (u2 T.1 k i v, T.2)) : T1.1 k i = v := by
  subst e
  show u2 T.1 k i v k i = v
  exact u2_s
theorem e1_n {T T1 : Sd} {k i k' i' : Nat} {v : Int32} (e : T1 = (u2 T.1 k i v, T.2)) (h : ¬ (k' = k ∧ i' = i)) : T1.1 k' i' = T.1 k' i' := by
  subst e
  show u2 T.1 k i v k' i' = T.1 k' i'
  exact u2_n h
theorem e1_r {T T1 : Sd} {k i k' : Nat} {v : Int32} (e : T1 = (u2 T.1 k i v, T.2)) (h : ¬ k' = k) : T1.1 k' = T.1 k' := by
  subst e
  show u2 T.1 k i v k' = T.1 k'
  exact u2r h
theorem e1_2 {T T1 : Sd} {k i : Nat} {v : Int32} (e : T1 = (u2 T.1 k i v, T.2)) : T1.2 = T.2 := by rw [e]
theorem e1_i {T T1 : Sd} {k i : Nat} {v : Int32} (e : T1 = (u2 T.1 k i v, T.2)) (x : Nat) : T1.1 k x = if x = i then v else T.1 k x := by
  by_cases z : x = i
  · rw [if_pos z, z]; exact e1_s e
  · rw [if_neg z]; exact e1_n e (fun y => z y.2)
theorem e2_1 {T T1 : Sd} {k i : Nat} {v : Int64} (e : T1 = (T.1, u2 T.2 k i v)) : T1.1 = T.1 := by rw [e]
theorem e2_s {T T1 : Sd} {k i : Nat} {v : Int64} (e : T1 = (T.1, u2 T.2 k i v)) : T1.2 k i = v := by
  subst e
  show u2 T.2 k i v k i = v
  exact u2_s
theorem e2_n {T T1 : Sd} {k i k' i' : Nat} {v : Int64} (e : T1 = (T.1, u2 T.2 k i v)) (h : ¬ (k' = k ∧ i' = i)) : T1.2 k' i' = T.2 k' i' := by
  subst e
  show u2 T.2 k i v k' i' = T.2 k' i'
  exact u2_n h
theorem lg_same (x : Int64) : lg_cmp x x = 0 := (lg_cmp_eq x x).mpr rfl
set_option maxHeartbeats 4000000 in
set_option maxRecDepth 100000 in
theorem c_L_markets {l : Launch} (hnt : l.stackTraces = false) (l' : Launch) (G : Gx) (M : Mp) (S T : Sd) (th : Int32) (o : Int64) (ex : Nat → Option (Nat × Nat)) (ad : Nat → Nat → Nat) (ac yy zz : Int32) (hw : WA G S T th o ex ad M) (hi : Iv S) (hx9 : Ix S ex) (hR : Rel S T) : Met l yL_markets wsL_markets ({ frames := 9, cells := 8, slots := 48, locals := 160 }) (Cv G M [.ref (ad 0 0), .int ac, .int yy, .int zz, .ref (ad 19 0), .ref (ad 22 0)]) (va_Qi (S := Mp) (fun r M2 => r = 1 ∧ Nx G th o ad M2) (Bm G (fun M2 => M2)) (AG G)) (8) (48) (AG G) := by
  refine m_met [.ref (ad 0 0), .int ac, .int yy, .int zz, .ref (ad 19 0), .ref (ad 22 0)] [(0, .ref (ad 0 0)), (1, .int ac), (2, .int yy), (3, .int zz), (4, .ref (ad 19 0)), (5, .ref (ad 22 0))] (by decide) rfl rfl (Nat.le_of_ble_eq_true rfl) ?_
  intro p e s m below meth c ls hx hb hr hml hown hts hlocks hin hC hM hl hS
  have hG0 : T.1 22 0 = nI (tdy S) := hR.1.1.trans (tdy_i hi)
  have hG2 : T.1 22 2 = nI (wT T) := hR.2.2.2.1.1
  have hw10 : wT T < 1024 := hR.2.2.2.1.2.1.1
  have ht9 := tdy_le hi
  refine lv_iload_n hx hb dL_markets_0 rfl (lv_at hl 2 rfl) ?_
  refine lv_iconst (v := 2) hx hb dL_markets_1 (by decide) ?_
  refine k_i (va_runS (As := [.int yy, .int 2]) (rest := []) ⟨hx, hb, hml, hown, hts⟩ (c_L_low l G M yy 2 (by decide) (by decide)) (va_cwS 2 hts gL_markets_L_low rfl rfl rfl (by decide +kernel) ⟨Nat.le_of_ble_eq_true rfl, Nat.le_of_ble_eq_true rfl⟩) (preS_of hC hS hM) rfl rfl hl.1 rfl (lv_room (Nat.le_of_ble_eq_true rfl)) dL_markets_2 ⟨Nat.le_of_ble_eq_true rfl, Nat.le_of_ble_eq_true rfl⟩) hS (fun r2 us2 H locs hp2 hM hS => ?_)
  have hM : Hm G M H := hM
  obtain ⟨q2, hq2, e2⟩ := hp2
  subst e2
  refine lv_istore (lv' := [(6, .int (nI q2)), (0, .ref (ad 0 0)), (1, .int ac), (2, .int yy), (3, .int zz), (4, .ref (ad 19 0)), (5, .ref (ad 22 0))]) hx hb dL_markets_5 hl (by decide) rfl (fun ls hl => ?_)
  refine lv_iload_n hx hb dL_markets_7 rfl (lv_at hl 2 rfl) ?_
  refine lv_if_ne (tgt := 115) hx hb dL_markets_8 (by decide) (fun c_8 => ?_) (fun c_8 => ?_)
  · refine lv_iload_n hx hb dL_markets_115 rfl (lv_at hl 2 rfl) ?_
    refine lv_iconst (v := 1) hx hb dL_markets_116 (by decide) ?_
    refine lv_icmp_ne (tgt := 207) hx hb dL_markets_117 (by decide) (fun c_117 => ?_) (fun c_117 => ?_)
    · refine lv_iload_n hx hb dL_markets_207 rfl (lv_at hl 2 rfl) ?_
      refine lv_iconst (v := 2) hx hb dL_markets_208 (by decide) ?_
      refine lv_icmp_ne (tgt := 317) hx hb dL_markets_209 (by decide) (fun c_209 => ?_) (fun c_209 => ?_)
      · refine lv_iconst (v := 1) hx hb dL_markets_317 (by decide) ?_
        refine lv_iload_n hx hb dL_markets_318 rfl (lv_at hl 4 rfl) ?_
        refine lv_bipush (v := 9) hx hb dL_markets_319 (by decide) ?_
        refine k_i (va_runS (As := [.int zz, .int 9]) (rest := [.int 1]) ⟨hx, hb, hml, hown, hts⟩ (c_L_low l G M zz 9 (by decide) (by decide)) (va_cwS 2 hts gL_markets_L_low rfl rfl rfl (by decide +kernel) ⟨Nat.le_of_ble_eq_true rfl, Nat.le_of_ble_eq_true rfl⟩) (preS_of hC hS hM) rfl rfl hl.1 rfl (lv_room (Nat.le_of_ble_eq_true rfl)) dL_markets_321 ⟨Nat.le_of_ble_eq_true rfl, Nat.le_of_ble_eq_true rfl⟩) hS (fun r321 us321 H locs hp321 hM hS => ?_)
        have hM : Hm G M H := hM
        obtain ⟨q321, hq321, e321⟩ := hp321
        subst e321
        refine lv_iadd hx hb dL_markets_324 ?_
        obtain ⟨d8, hd1, hd9, ed8⟩ : ∃ d : Nat, 1 ≤ d ∧ d < 10 ∧ (1 : Int32) + nI q321 = nI d := ⟨1 + q321, by omega, by omega, nI_add 1 q321⟩
        rw [ed8]
        refine lv_istore (lv' := [(7, .int (nI d8)), (6, .int (nI q2)), (0, .ref (ad 0 0)), (1, .int ac), (2, .int yy), (3, .int zz), (4, .ref (ad 19 0)), (5, .ref (ad 22 0))]) hx hb dL_markets_325 hl (by decide) rfl (fun ls hl => ?_)
        refine lv_aload_n hx hb dL_markets_327 rfl (lv_at hl 2 rfl) ?_
        refine lv_iconst (v := 0) hx hb dL_markets_328 (by decide) ?_
        refine k_i (vx_runSW (As := [.ref (ad 0 0), .int 0]) (rest := []) ⟨hx, hb, hml, hown, hts⟩ (c_L_toggleHoliday hnt l G M S T th o ex ad 0 hw hi) (vx_cwSW 2 hts gL_markets_L_toggleHoliday rfl rfl rfl (by decide +kernel) ⟨Nat.le_of_ble_eq_true rfl, Nat.le_of_ble_eq_true rfl⟩) (preS_of hC hS hM) rfl rfl hl.1 rfl (lv_room (Nat.le_of_ble_eq_true rfl)) dL_markets_329 ⟨Nat.le_of_ble_eq_true rfl, Nat.le_of_ble_eq_true rfl⟩) hS (fun r329 us329 H locs hp329 hM hS => ?_)
        have hq329 : r329 = (-2000000072) ∧ us329 = M := by
          rcases hp329 with h | h | h
          · exact ⟨h.1, h.2.2⟩
          · exact False.elim (absurd h.2.1.1 (by decide))
          · exact False.elim (absurd h.2.1.1 (by decide))
        have hM : Hm G us329 H := hM
        obtain ⟨eq329, em329⟩ := hq329
        rw [em329] at hM
        subst eq329
        refine lv_ldc (own := RL) (v := (-2000000072)) hx hb hown (hts (.constant RL 19 (-2000000072)) (by decide +kernel)) dL_markets_332 ?_
        refine lv_icmp_ne (tgt := 375) hx hb dL_markets_334 (by decide) (fun c_334 => False.elim (by revert c_334; decide)) (fun c_334 => ?_)
        refine lv_aload_n hx hb dL_markets_337 rfl (lv_at hl 2 rfl) ?_
        refine lv_sipush (v := 1001) hx hb dL_markets_338 (by decide) ?_
        refine k_i (vx_runSW (As := [.ref (ad 0 0), .int 1001]) (rest := []) ⟨hx, hb, hml, hown, hts⟩ (c_L_toggleHoliday hnt l G M S T th o ex ad 1001 hw hi) (vx_cwSW 2 hts gL_markets_L_toggleHoliday rfl rfl rfl (by decide +kernel) ⟨Nat.le_of_ble_eq_true rfl, Nat.le_of_ble_eq_true rfl⟩) (preS_of hC hS hM) rfl rfl hl.1 rfl (lv_room (Nat.le_of_ble_eq_true rfl)) dL_markets_341 ⟨Nat.le_of_ble_eq_true rfl, Nat.le_of_ble_eq_true rfl⟩) hS (fun r341 us341 H locs hp341 hM hS => ?_)
        have hq341 : r341 = (-2000000072) ∧ us341 = M := by
          rcases hp341 with h | h | h
          · exact ⟨h.1, h.2.2⟩
          · exact False.elim (absurd h.2.1.1 (by decide))
          · exact False.elim (absurd h.2.1.1 (by decide))
        have hM : Hm G us341 H := hM
        obtain ⟨eq341, em341⟩ := hq341
        rw [em341] at hM
        subst eq341
        refine lv_ldc (own := RL) (v := (-2000000072)) hx hb hown (hts (.constant RL 19 (-2000000072)) (by decide +kernel)) dL_markets_344 ?_
        refine lv_icmp_ne (tgt := 375) hx hb dL_markets_346 (by decide) (fun c_346 => False.elim (by revert c_346; decide)) (fun c_346 => ?_)
        have j377 : ∀ (ls : Array Slot), lv_has ls 10 [(7, .int (nI d8)), (6, .int (nI q2)), (0, .ref (ad 0 0)), (1, .int ac), (2, .int yy), (3, .int zz), (4, .ref (ad 19 0)), (5, .ref (ad 22 0))] → ∀ (H : Heap) (locs : List Loc), Hm G M H → va_S (AG G) s.heap H locs → W p l e { frames := 9, cells := 8, slots := 48, locals := 160 } s m ([.ref (ad 0 0), .int ac, .int yy, .int zz, .ref (ad 19 0), .ref (ad 22 0)] : List Value).toArray below meth c H locs (6) (36) (MQ below (va_Qi (S := Mp) (fun r M2 => r = 1 ∧ Nx G th o ad M2) (Bm G (fun M2 => M2)) (AG G)) ([.ref (ad 0 0), .int ac, .int yy, .int zz, .ref (ad 19 0), .ref (ad 22 0)] : List Value).toArray s (8) (48) (AG G)) (F0 m 377 ls []) := by
          intro   ls hl H locs hM hS
          refine lv_aload hx hb dL_markets_377 (lv_at hl 7 rfl) ?_
          refine lv_iconst (v := 0) hx hb dL_markets_379 (by decide) ?_
          refine k_iald (a := (ad 22 0)) hx hb hC hM (qa22 hw) 0 (ix_lit (rfl : (0 : Int32) = nI 0) (by decide) (by decide)) dL_markets_380 ?_
          rw [hG0]
          refine lv_iload hx hb dL_markets_381 (lv_at hl 0 rfl) ?_
          refine lv_iadd hx hb dL_markets_383 ?_
          rw [nI_add]
          refine lv_sipush (v := 1000) hx hb dL_markets_384 (by decide) ?_
          refine lv_icmp_le (tgt := 392) hx hb dL_markets_387 (by decide) (fun c_387 => ?_) (fun c_387 => ?_)
          · have hd8 : tdy S + d8 ≤ 1000 := (nI_leI (b := 1000) (by omega) (by decide)).mp c_387
            refine lv_iconst (v := 0) hx hb dL_markets_392 (by decide) ?_
            refine lv_istore (lv' := [(8, .int 0), (7, .int (nI d8)), (6, .int (nI q2)), (0, .ref (ad 0 0)), (1, .int ac), (2, .int yy), (3, .int zz), (4, .ref (ad 19 0)), (5, .ref (ad 22 0))]) hx hb dL_markets_393 hl (by decide) rfl (fun ls hl => ?_)
            have j476 : (cn (wT T) - bt (wT T) d8 ≤ 2 ∨ bt (wT T) d8 = 1) → ∀ (ls : Array Slot), lv_has ls 10 [(0, .ref (ad 0 0)), (1, .int ac), (2, .int yy), (3, .int zz), (4, .ref (ad 19 0)), (5, .ref (ad 22 0)), (6, .int (nI q2)), (7, .int (nI d8))] → ∀ (H : Heap) (locs : List Loc), Hm G M H → va_S (AG G) s.heap H locs → W p l e { frames := 9, cells := 8, slots := 48, locals := 160 } s m ([.ref (ad 0 0), .int ac, .int yy, .int zz, .ref (ad 19 0), .ref (ad 22 0)] : List Value).toArray below meth c H locs (6) (36) (MQ below (va_Qi (S := Mp) (fun r M2 => r = 1 ∧ Nx G th o ad M2) (Bm G (fun M2 => M2)) (AG G)) ([.ref (ad 0 0), .int ac, .int yy, .int zz, .ref (ad 19 0), .ref (ad 22 0)] : List Value).toArray s (8) (48) (AG G)) (F0 m 476 ls []) := by
              intro  hc ls hl H locs hM hS
              refine lv_aload hx hb dL_markets_476 (lv_at hl 5 rfl) ?_
              refine lv_iconst (v := 2) hx hb dL_markets_478 (by decide) ?_
              refine lv_dup2_11 hx hb dL_markets_479 rfl rfl ?_
              refine k_iald (a := (ad 22 0)) hx hb hC hM (qa22 hw) 2 (ix_lit (rfl : (2 : Int32) = nI 2) (by decide) (by decide)) dL_markets_480 ?_
              rw [hG2]
              refine lv_iconst (v := 1) hx hb dL_markets_481 (by decide) ?_
              refine lv_iload hx hb dL_markets_482 (lv_at hl 7 rfl) ?_
              refine lv_ishl hx hb dL_markets_484 ?_
              refine lv_ixor hx hb dL_markets_485 ?_
              rw [fx_int hw10 hd9]
              refine k_iast (a := (ad 22 0)) hx hb hC hM hS (qa22 hw) 2 (ix_lit (rfl : (2 : Int32) = nI 2) (by decide) (by decide)) dL_markets_486 (fun H locs hM hS => ?_)
              obtain ⟨Ta1, Ma1, ea1, ha1, hM⟩ := qs22 hw hM
              refine lv_aload_n hx hb dL_markets_487 rfl (lv_at hl 0 rfl) ?_
              refine lv_aload hx hb dL_markets_488 (lv_at hl 5 rfl) ?_
              refine lv_iconst (v := 0) hx hb dL_markets_490 (by decide) ?_
              refine k_iald (a := (ad 22 0)) hx hb hC hM (qa22 ha1) 0 (ix_lit (rfl : (0 : Int32) = nI 0) (by decide) (by decide)) dL_markets_491 ?_
              rw [show Ta1.1 22 0 = nI (tdy S) from (e1_n ea1 (by omega)).trans hG0]
              refine lv_iload hx hb dL_markets_492 (lv_at hl 7 rfl) ?_
              refine lv_iadd hx hb dL_markets_494 ?_
              rw [nI_add]
              refine k_i (vx_runSW (As := [.ref (ad 0 0), .int (nI (tdy S + d8))]) (rest := []) ⟨hx, hb, hml, hown, hts⟩ (c_L_toggleHoliday hnt l G Ma1 S Ta1 th o ex ad (nI (tdy S + d8)) ha1 hi) (vx_cwSW 2 hts gL_markets_L_toggleHoliday rfl rfl rfl (by decide +kernel) ⟨Nat.le_of_ble_eq_true rfl, Nat.le_of_ble_eq_true rfl⟩) (preS_of hC hS hM) rfl rfl hl.1 rfl (lv_room (Nat.le_of_ble_eq_true rfl)) dL_markets_495 ⟨Nat.le_of_ble_eq_true rfl, Nat.le_of_ble_eq_true rfl⟩) hS (fun r495 us495 H locs hp495 hM hS => ?_)
              rw [nI_clamp (show (tdy S + d8) < 2 ^ 31 by omega)] at hp495
              have hq495 : r495 = tg (S.1 4 (tdy S + d8)) ∧ WA G (u2 S.1 4 (tdy S + d8) (tg (S.1 4 (tdy S + d8))), S.2) Ta1 th o ex ad us495 := by
                rcases hp495 with h | h | h
                · exact False.elim (absurd (rg_n (a := 1) (b := 1000) (by omega) hd8 (by decide)) h.2.1)
                · exact False.elim (absurd (by rw [tdy_i hi]; exact nI_lt (by omega) (by omega)) h.2.1.2)
                · exact ⟨h.1, h.2.2⟩
              have hM : Hm G us495 H := hM
              obtain ⟨eq495, hwc495⟩ := hq495
              subst eq495
              refine lv_aload hx hb dL_markets_498 (lv_at hl 5 rfl) ?_
              refine lv_iconst (v := 2) hx hb dL_markets_500 (by decide) ?_
              refine k_iald (a := (ad 22 0)) hx hb hC hM (qa22 hwc495) 2 (ix_lit (rfl : (2 : Int32) = nI 2) (by decide) (by decide)) dL_markets_501 ?_
              rw [show Ta1.1 22 2 = nI (fx (wT T) d8) from e1_s ea1]
              refine lv_iload hx hb dL_markets_502 (lv_at hl 7 rfl) ?_
              refine lv_ishr hx hb dL_markets_504 ?_
              refine lv_iconst (v := 1) hx hb dL_markets_505 (by decide) ?_
              refine lv_iand hx hb dL_markets_506 ?_
              rw [bt_int (rl_m3 hR hd1 hd9 hd8 hc ea1).2.2 hd9]
              refine lv_icmp_ne (tgt := 514) hx hb dL_markets_507 (by decide) (fun c_507 => False.elim (by exact c_507 (rl_m3 hR hd1 hd9 hd8 hc ea1).2.1)) (fun c_507 => ?_)
              refine lv_iconst (v := 1) hx hb dL_markets_510 (by decide) ?_
              refine lv_goto (tgt := 515) hx hb dL_markets_511 (by decide) ?_
              exact (r_z hx hb hr hlocks hS (v := 1) (by simp) _ ⟨rfl, (u2 S.1 4 (tdy S + d8) (tg (S.1 4 (tdy S + d8))), S.2), Ta1, ex, ad, hwc495, iv_hol hi (tg01 _), hx9, (rl_m3 hR hd1 hd9 hd8 hc ea1).1, fun _ _ => rfl⟩ hM (Nat.le_of_ble_eq_true rfl) (Nat.le_of_ble_eq_true rfl) dL_markets_515)
            refine lv_iconst (v := 1) hx hb dL_markets_395 (by decide) ?_
            refine lv_istore (lv' := [(9, .int 1), (8, .int 0), (7, .int (nI d8)), (6, .int (nI q2)), (0, .ref (ad 0 0)), (1, .int ac), (2, .int yy), (3, .int zz), (4, .ref (ad 19 0)), (5, .ref (ad 22 0))]) hx hb dL_markets_396 hl (by decide) rfl (fun ls hl => ?_)
            have loop : ∀ (n_loop : Nat) (i9 : Nat), (1 ≤ i9) → (i9 + n_loop = 10) → ∀ ls : Array Slot, lv_has ls 10 [(0, .ref (ad 0 0)), (1, .int ac), (2, .int yy), (3, .int zz), (4, .ref (ad 19 0)), (5, .ref (ad 22 0)), (6, .int (nI q2)), (7, .int (nI d8)), (8, .int (nI (cm (wT T) d8 i9))), (9, .int (nI i9))] → ∀ (H : Heap) (locs : List Loc), Hm G M H → va_S (AG G) s.heap H locs → W p l e { frames := 9, cells := 8, slots := 48, locals := 160 } s m ([.ref (ad 0 0), .int ac, .int yy, .int zz, .ref (ad 19 0), .ref (ad 22 0)] : List Value).toArray below meth c H locs (6) (36) (MQ below (va_Qi (S := Mp) (fun r M2 => r = 1 ∧ Nx G th o ad M2) (Bm G (fun M2 => M2)) (AG G)) ([.ref (ad 0 0), .int ac, .int yy, .int zz, .ref (ad 19 0), .ref (ad 22 0)] : List Value).toArray s (8) (48) (AG G)) (F0 m 398 ls []) := by
              intro n_loop
              induction n_loop with
              | zero =>
                intro i9 h1 h9 ls hl H locs hM hS
                refine lv_iload hx hb dL_markets_398 (lv_at hl 9 rfl) ?_
                refine lv_bipush (v := 10) hx hb dL_markets_400 (by decide) ?_
                refine lv_icmp_ge (tgt := 441) hx hb dL_markets_402 (by decide) (fun c_402 => ?_) (fun c_402 => False.elim (by exact c_402 (nI_le (a := 10) (by omega) (by omega))))
                refine lv_iload hx hb dL_markets_441 (lv_at hl 8 rfl) ?_
                refine lv_iconst (v := 2) hx hb dL_markets_443 (by decide) ?_
                refine lv_icmp_le (tgt := 476) hx hb dL_markets_444 (by decide) (fun c_444 => ?_) (fun c_444 => ?_)
                · exact j476 (Or.inl (by have h7 : cm (wT T) d8 i9 ≤ 2 := (nI_leI (b := 2) (by have := cm_le (wT T) d8 i9; omega) (by decide)).mp c_444; rw [show i9 = 10 by omega, cm_10 _ hw10 _ hd9 hd1] at h7; exact h7)) ls (lv_sub hl [0, 1, 2, 3, 4, 5, 6, 7] rfl) _ _ hM hS
                · refine lv_aload hx hb dL_markets_447 (lv_at hl 5 rfl) ?_
                  refine lv_iconst (v := 2) hx hb dL_markets_449 (by decide) ?_
                  refine k_iald (a := (ad 22 0)) hx hb hC hM (qa22 hw) 2 (ix_lit (rfl : (2 : Int32) = nI 2) (by decide) (by decide)) dL_markets_450 ?_
                  rw [hG2]
                  refine lv_iload hx hb dL_markets_451 (lv_at hl 7 rfl) ?_
                  refine lv_ishr hx hb dL_markets_453 ?_
                  refine lv_iconst (v := 1) hx hb dL_markets_454 (by decide) ?_
                  refine lv_iand hx hb dL_markets_455 ?_
                  rw [bt_int hw10 hd9]
                  refine lv_if_ne (tgt := 476) hx hb dL_markets_456 (by decide) (fun c_456 => ?_) (fun c_456 => ?_)
                  · exact j476 (Or.inr ((bt_01 _ _).resolve_left (fun q => c_456 (by rw [q]; rfl)))) ls (lv_sub hl [0, 1, 2, 3, 4, 5, 6, 7] rfl) _ _ hM hS
                  · refine lv_aload_n hx hb dL_markets_459 rfl (lv_at hl 0 rfl) ?_
                    refine k_i (va_runV (As := []) (rest := []) ⟨hx, hb, hml, hown, hts⟩ (c_X5_today l G M S T th o ex ad hw hi) (cwV 0 hts gL_markets_X5_today rfl rfl rfl (by decide +kernel) ⟨Nat.le_of_ble_eq_true rfl, Nat.le_of_ble_eq_true rfl⟩) (preV_of hC hS hM (qa0 hw) rfl) rfl rfl hl.1 rfl (lv_room (Nat.le_of_ble_eq_true rfl)) dL_markets_460 ⟨Nat.le_of_ble_eq_true rfl, Nat.le_of_ble_eq_true rfl⟩) hS (fun r460 us460 H locs hp460 hM hS => ?_)
                    have hM : Hm G M H := hM
                    have hp460 : r460 = S.1 0 0 := hp460
                    subst hp460
                    refine lv_aload hx hb dL_markets_463 (lv_at hl 5 rfl) ?_
                    refine lv_iconst (v := 0) hx hb dL_markets_465 (by decide) ?_
                    refine k_iald (a := (ad 22 0)) hx hb hC hM (qa22 hw) 0 (ix_lit (rfl : (0 : Int32) = nI 0) (by decide) (by decide)) dL_markets_466 ?_
                    rw [hG0]
                    refine lv_icmp_ne (tgt := 474) hx hb dL_markets_467 (by decide) (fun c_467 => False.elim (by exact c_467 (tdy_i hi))) (fun c_467 => ?_)
                    refine lv_iconst (v := 1) hx hb dL_markets_470 (by decide) ?_
                    refine lv_goto (tgt := 475) hx hb dL_markets_471 (by decide) ?_
                    exact (r_z hx hb hr hlocks hS (v := 1) (by simp) _ ⟨rfl, S, T, ex, ad, hw, hi, hx9, hR, fun _ _ => rfl⟩ hM (Nat.le_of_ble_eq_true rfl) (Nat.le_of_ble_eq_true rfl) dL_markets_475)
              | succ n_loop ih_loop =>
                intro i9 h1 h9 ls hl H locs hM hS
                refine lv_iload hx hb dL_markets_398 (lv_at hl 9 rfl) ?_
                refine lv_bipush (v := 10) hx hb dL_markets_400 (by decide) ?_
                refine lv_icmp_ge (tgt := 441) hx hb dL_markets_402 (by decide) (fun c_402 => False.elim (by exact nI_ge (a := i9) (b := 10) (by omega) (by decide) c_402)) (fun c_402 => ?_)
                refine lv_iload hx hb dL_markets_405 (lv_at hl 8 rfl) ?_
                refine lv_iload hx hb dL_markets_407 (lv_at hl 9 rfl) ?_
                refine lv_iload hx hb dL_markets_409 (lv_at hl 7 rfl) ?_
                refine lv_icmp_eq (tgt := 431) hx hb dL_markets_411 (by decide) (fun c_411 => ?_) (fun c_411 => ?_)
                · refine lv_iconst (v := 0) hx hb dL_markets_431 (by decide) ?_
                  refine lv_iadd hx hb dL_markets_432 ?_
                  refine lv_istore (lv' := [(8, .int ((nI (cm (wT T) d8 i9)) + 0)), (0, .ref (ad 0 0)), (1, .int ac), (2, .int yy), (3, .int zz), (4, .ref (ad 19 0)), (5, .ref (ad 22 0)), (6, .int (nI q2)), (7, .int (nI d8)), (9, .int (nI i9))]) hx hb dL_markets_433 hl (by decide) rfl (fun ls hl => ?_)
                  refine lv_iinc (v := ((nI i9) + 1)) (lv' := [(9, .int ((nI i9) + 1)), (8, .int ((nI (cm (wT T) d8 i9)) + 0)), (0, .ref (ad 0 0)), (1, .int ac), (2, .int yy), (3, .int zz), (4, .ref (ad 19 0)), (5, .ref (ad 22 0)), (6, .int (nI q2)), (7, .int (nI d8))]) hx hb dL_markets_435 hl (k := 9) rfl rfl (by decide) rfl (fun ls hl => ?_)
                  refine lv_goto (tgt := 398) hx hb dL_markets_438 (by decide) ?_
                  have em : ((nI (cm (wT T) d8 i9)) + 0) = nI (cm (wT T) d8 (i9 + 1)) := by
                    show _ = nI (if 1 ≤ i9 ∧ ¬ i9 = d8 ∧ bt (wT T) i9 = 1 then cm (wT T) d8 i9 + 1 else cm (wT T) d8 i9)
                    rw [if_neg (fun q => q.2.1 ((nI_eq (by omega) (by omega)).mp c_411))]
                    exact Int32.add_zero _
                  rw [em, show nI i9 + 1 = nI (i9 + 1) from nI_1 i9] at hl
                  exact ih_loop (i9 + 1) (by omega) (by omega) ls (lv_sub hl [2, 3, 4, 5, 6, 7, 8, 9, 1, 0] rfl) _ _ hM hS
                · refine lv_aload hx hb dL_markets_414 (lv_at hl 5 rfl) ?_
                  refine lv_iconst (v := 2) hx hb dL_markets_416 (by decide) ?_
                  refine k_iald (a := (ad 22 0)) hx hb hC hM (qa22 hw) 2 (ix_lit (rfl : (2 : Int32) = nI 2) (by decide) (by decide)) dL_markets_417 ?_
                  rw [hG2]
                  refine lv_iload hx hb dL_markets_418 (lv_at hl 9 rfl) ?_
                  refine lv_ishr hx hb dL_markets_420 ?_
                  refine lv_iconst (v := 1) hx hb dL_markets_421 (by decide) ?_
                  refine lv_iand hx hb dL_markets_422 ?_
                  rw [bt_int hw10 (by omega)]
                  refine lv_iconst (v := 1) hx hb dL_markets_423 (by decide) ?_
                  refine lv_icmp_ne (tgt := 431) hx hb dL_markets_424 (by decide) (fun c_424 => ?_) (fun c_424 => ?_)
                  · refine lv_iconst (v := 0) hx hb dL_markets_431 (by decide) ?_
                    refine lv_iadd hx hb dL_markets_432 ?_
                    refine lv_istore (lv' := [(8, .int ((nI (cm (wT T) d8 i9)) + 0)), (0, .ref (ad 0 0)), (1, .int ac), (2, .int yy), (3, .int zz), (4, .ref (ad 19 0)), (5, .ref (ad 22 0)), (6, .int (nI q2)), (7, .int (nI d8)), (9, .int (nI i9))]) hx hb dL_markets_433 hl (by decide) rfl (fun ls hl => ?_)
                    refine lv_iinc (v := ((nI i9) + 1)) (lv' := [(9, .int ((nI i9) + 1)), (8, .int ((nI (cm (wT T) d8 i9)) + 0)), (0, .ref (ad 0 0)), (1, .int ac), (2, .int yy), (3, .int zz), (4, .ref (ad 19 0)), (5, .ref (ad 22 0)), (6, .int (nI q2)), (7, .int (nI d8))]) hx hb dL_markets_435 hl (k := 9) rfl rfl (by decide) rfl (fun ls hl => ?_)
                    refine lv_goto (tgt := 398) hx hb dL_markets_438 (by decide) ?_
                    have em : ((nI (cm (wT T) d8 i9)) + 0) = nI (cm (wT T) d8 (i9 + 1)) := by
                      show _ = nI (if 1 ≤ i9 ∧ ¬ i9 = d8 ∧ bt (wT T) i9 = 1 then cm (wT T) d8 i9 + 1 else cm (wT T) d8 i9)
                      rw [if_neg (fun q => c_424 (by rw [q.2.2]; rfl))]
                      exact Int32.add_zero _
                    rw [em, show nI i9 + 1 = nI (i9 + 1) from nI_1 i9] at hl
                    exact ih_loop (i9 + 1) (by omega) (by omega) ls (lv_sub hl [2, 3, 4, 5, 6, 7, 8, 9, 1, 0] rfl) _ _ hM hS
                  · refine lv_iconst (v := 1) hx hb dL_markets_427 (by decide) ?_
                    refine lv_goto (tgt := 432) hx hb dL_markets_428 (by decide) ?_
                    refine lv_iadd hx hb dL_markets_432 ?_
                    refine lv_istore (lv' := [(8, .int ((nI (cm (wT T) d8 i9)) + 1)), (0, .ref (ad 0 0)), (1, .int ac), (2, .int yy), (3, .int zz), (4, .ref (ad 19 0)), (5, .ref (ad 22 0)), (6, .int (nI q2)), (7, .int (nI d8)), (9, .int (nI i9))]) hx hb dL_markets_433 hl (by decide) rfl (fun ls hl => ?_)
                    refine lv_iinc (v := ((nI i9) + 1)) (lv' := [(9, .int ((nI i9) + 1)), (8, .int ((nI (cm (wT T) d8 i9)) + 1)), (0, .ref (ad 0 0)), (1, .int ac), (2, .int yy), (3, .int zz), (4, .ref (ad 19 0)), (5, .ref (ad 22 0)), (6, .int (nI q2)), (7, .int (nI d8))]) hx hb dL_markets_435 hl (k := 9) rfl rfl (by decide) rfl (fun ls hl => ?_)
                    refine lv_goto (tgt := 398) hx hb dL_markets_438 (by decide) ?_
                    have em : ((nI (cm (wT T) d8 i9)) + 1) = nI (cm (wT T) d8 (i9 + 1)) := by
                      show _ = nI (if 1 ≤ i9 ∧ ¬ i9 = d8 ∧ bt (wT T) i9 = 1 then cm (wT T) d8 i9 + 1 else cm (wT T) d8 i9)
                      rw [if_pos ⟨h1, fun q => c_411 (by rw [q]), (bt_01 _ _).resolve_left (fun q => absurd c_424 (by rw [q]; decide))⟩]
                      exact nI_1 _
                    rw [em, show nI i9 + 1 = nI (i9 + 1) from nI_1 i9] at hl
                    exact ih_loop (i9 + 1) (by omega) (by omega) ls (lv_sub hl [2, 3, 4, 5, 6, 7, 8, 9, 1, 0] rfl) _ _ hM hS
            have e8 : (0 : Int32) = nI (cm (wT T) d8 1) := by
              show _ = nI (if 1 ≤ 0 ∧ ¬ 0 = d8 ∧ bt (wT T) 0 = 1 then cm (wT T) d8 0 + 1 else cm (wT T) d8 0)
              rw [if_neg (fun q => absurd q.1 (by decide))]
              rfl
            rw [e8] at hl
            exact loop 9 1 (by decide) (by decide) ls (lv_sub hl [4, 5, 6, 7, 8, 9, 3, 2, 1, 0] rfl) _ _ hM hS
          · refine lv_iconst (v := 1) hx hb dL_markets_390 (by decide) ?_
            exact (r_z hx hb hr hlocks hS (v := 1) (by simp) _ ⟨rfl, S, T, ex, ad, hw, hi, hx9, hR, fun _ _ => rfl⟩ hM (Nat.le_of_ble_eq_true rfl) (Nat.le_of_ble_eq_true rfl) dL_markets_391)
        refine lv_aload hx hb dL_markets_349 (lv_at hl 7 rfl) ?_
        refine lv_iconst (v := 0) hx hb dL_markets_351 (by decide) ?_
        refine k_iald (a := (ad 22 0)) hx hb hC hM (qa22 hw) 0 (ix_lit (rfl : (0 : Int32) = nI 0) (by decide) (by decide)) dL_markets_352 ?_
        rw [hG0]
        refine lv_if_le (tgt := 377) hx hb dL_markets_353 (by decide) (fun c_353 => ?_) (fun c_353 => ?_)
        · refine W.widen (k := 6) (n := 36) (Nat.le_of_ble_eq_true rfl) (Nat.le_of_ble_eq_true rfl) ?_
          exact j377  ls (lv_sub hl [0, 1, 2, 3, 4, 5, 6, 7] rfl) _ _ hM hS
        · have ht0 : 0 < tdy S := Nat.pos_of_ne_zero (fun q => c_353 (by rw [q]; decide))
          refine lv_aload_n hx hb dL_markets_356 rfl (lv_at hl 2 rfl) ?_
          refine lv_iconst (v := 1) hx hb dL_markets_357 (by decide) ?_
          refine lv_iload_n hx hb dL_markets_358 rfl (lv_at hl 5 rfl) ?_
          refine lv_aload hx hb dL_markets_359 (lv_at hl 7 rfl) ?_
          refine lv_iconst (v := 0) hx hb dL_markets_361 (by decide) ?_
          refine k_iald (a := (ad 22 0)) hx hb hC hM (qa22 hw) 0 (ix_lit (rfl : (0 : Int32) = nI 0) (by decide) (by decide)) dL_markets_362 ?_
          rw [hG0]
          refine k_i (va_runS (As := [.int zz, .int (nI (tdy S))]) (rest := [.int 1, .ref (ad 0 0)]) ⟨hx, hb, hml, hown, hts⟩ (c_L_low l G M zz (tdy S) (by omega) (by omega)) (va_cwS 2 hts gL_markets_L_low rfl rfl rfl (by decide +kernel) ⟨Nat.le_of_ble_eq_true rfl, Nat.le_of_ble_eq_true rfl⟩) (preS_of hC hS hM) rfl rfl hl.1 rfl (lv_room (Nat.le_of_ble_eq_true rfl)) dL_markets_363 ⟨Nat.le_of_ble_eq_true rfl, Nat.le_of_ble_eq_true rfl⟩) hS (fun r363 us363 H locs hp363 hM hS => ?_)
          have hM : Hm G M H := hM
          obtain ⟨q363, hq363, e363⟩ := hp363
          subst e363
          refine lv_iadd hx hb dL_markets_366 ?_
          obtain ⟨d7, hd71, hd79, ed7⟩ : ∃ d : Nat, 1 ≤ d ∧ d ≤ tdy S ∧ (1 : Int32) + nI q363 = nI d := ⟨1 + q363, by omega, by omega, nI_add 1 q363⟩
          rw [ed7]
          refine k_i (vx_runSW (As := [.ref (ad 0 0), .int (nI d7)]) (rest := []) ⟨hx, hb, hml, hown, hts⟩ (c_L_toggleHoliday hnt l G M S T th o ex ad (nI d7) hw hi) (vx_cwSW 2 hts gL_markets_L_toggleHoliday rfl rfl rfl (by decide +kernel) ⟨Nat.le_of_ble_eq_true rfl, Nat.le_of_ble_eq_true rfl⟩) (preS_of hC hS hM) rfl rfl hl.1 rfl (lv_room (Nat.le_of_ble_eq_true rfl)) dL_markets_367 ⟨Nat.le_of_ble_eq_true rfl, Nat.le_of_ble_eq_true rfl⟩) hS (fun r367 us367 H locs hp367 hM hS => ?_)
          rw [nI_clamp (show d7 < 2 ^ 31 by omega)] at hp367
          have hq367 : r367 = (-2000000073) ∧ us367 = M := by
            rcases hp367 with h | h | h
            · exact False.elim (absurd (rg_n (b := 1000) hd71 (by omega) (by decide)) h.2.1)
            · exact ⟨h.1, h.2.2⟩
            · exact False.elim (absurd h.2.1.2 (by rw [tdy_i hi]; exact nI_nlt hd79 (by omega)))
          have hM : Hm G us367 H := hM
          obtain ⟨eq367, em367⟩ := hq367
          rw [em367] at hM
          subst eq367
          refine lv_ldc (own := RL) (v := (-2000000073)) hx hb hown (hts (.constant RL 29 (-2000000073)) (by decide +kernel)) dL_markets_370 ?_
          refine lv_icmp_eq (tgt := 377) hx hb dL_markets_372 (by decide) (fun c_372 => ?_) (fun c_372 => False.elim (by revert c_372; decide))
          exact j377  ls (lv_sub hl [0, 1, 2, 3, 4, 5, 6, 7] rfl) _ _ hM hS
      · refine lv_aload hx hb dL_markets_212 (lv_at hl 5 rfl) ?_
        refine lv_iconst (v := 4) hx hb dL_markets_214 (by decide) ?_
        refine lv_iload hx hb dL_markets_215 (lv_at hl 0 rfl) ?_
        refine lv_iadd hx hb dL_markets_217 ?_
        refine k_iald (a := (ad 19 0)) hx hb hC hM (qa19 hw) (4 + q2) (ix_lit (nI_add 4 q2) (by omega) (by decide)) dL_markets_218 ?_
        refine lv_istore (lv' := [(7, .int (T.1 19 (4 + q2))), (6, .int (nI q2)), (0, .ref (ad 0 0)), (1, .int ac), (2, .int yy), (3, .int zz), (4, .ref (ad 19 0)), (5, .ref (ad 22 0))]) hx hb dL_markets_219 hl (by decide) rfl (fun ls hl => ?_)
        refine lv_aload hx hb dL_markets_221 (lv_at hl 6 rfl) ?_
        refine lv_iconst (v := 4) hx hb dL_markets_223 (by decide) ?_
        refine lv_iload hx hb dL_markets_224 (lv_at hl 1 rfl) ?_
        refine lv_iadd hx hb dL_markets_226 ?_
        have j256 : ∀ (q256 : Nat), (q256 ≤ 100000000) → ∀ (ls : Array Slot), lv_has ls 10 [(7, .int (T.1 19 (4 + q2))), (6, .int (nI q2)), (0, .ref (ad 0 0)), (1, .int ac), (2, .int yy), (3, .int zz), (4, .ref (ad 19 0)), (5, .ref (ad 22 0))] → ∀ (H : Heap) (locs : List Loc), Hm G M H → va_S (AG G) s.heap H locs → W p l e { frames := 9, cells := 8, slots := 48, locals := 160 } s m ([.ref (ad 0 0), .int ac, .int yy, .int zz, .ref (ad 19 0), .ref (ad 22 0)] : List Value).toArray below meth c H locs (0) (0) (MQ below (va_Qi (S := Mp) (fun r M2 => r = 1 ∧ Nx G th o ad M2) (Bm G (fun M2 => M2)) (AG G)) ([.ref (ad 0 0), .int ac, .int yy, .int zz, .ref (ad 19 0), .ref (ad 22 0)] : List Value).toArray s (8) (48) (AG G)) (F0 m 256 ls [.int (nI q256), .int (4 + (nI q2)), .ref (ad 19 0)]) := by
          intro q256 hb256 ls hl H locs hM hS
          refine k_iast (a := (ad 19 0)) hx hb hC hM hS (qa19 hw) (4 + q2) (ix_lit (nI_add 4 q2) (by omega) (by decide)) dL_markets_256 (fun H locs hM hS => ?_)
          obtain ⟨Ta2, Ma2, ea2, ha2, hM⟩ := qs19 hw hM
          refine lv_aload_n hx hb dL_markets_257 rfl (lv_at hl 2 rfl) ?_
          refine lv_iconst (v := 5) hx hb dL_markets_258 (by decide) ?_
          refine lv_iconst (v := (-1)) hx hb dL_markets_259 (by decide) ?_
          refine k_i (vx_runSW (As := [.ref (ad 0 0), .int 5, .int (-1)]) (rest := []) ⟨hx, hb, hml, hown, hts⟩ (c_L_setLimit hnt l G Ma2 S Ta2 th o ex ad 5 (-1) ha2 hi) (vx_cwSW 3 hts gL_markets_L_setLimit rfl rfl rfl (by decide +kernel) ⟨Nat.le_of_ble_eq_true rfl, Nat.le_of_ble_eq_true rfl⟩) (preS_of hC hS hM) rfl rfl hl.1 rfl (lv_room (Nat.le_of_ble_eq_true rfl)) dL_markets_260 ⟨Nat.le_of_ble_eq_true rfl, Nat.le_of_ble_eq_true rfl⟩) hS (fun r260 us260 H locs hp260 hM hS => ?_)
          have hq260 : r260 = (-2000000071) ∧ us260 = Ma2 := by
            rcases hp260 with h | h | h
            · exact ⟨h.1, h.2.2⟩
            · exact False.elim (absurd h.2.1.1 (by decide))
            · exact False.elim (absurd h.2.1.1 (by decide))
          have hM : Hm G us260 H := hM
          obtain ⟨eq260, em260⟩ := hq260
          rw [em260] at hM
          subst eq260
          refine lv_ldc (own := RL) (v := (-2000000071)) hx hb hown (hts (.constant RL 16 (-2000000071)) (by decide +kernel)) dL_markets_263 ?_
          refine lv_icmp_ne (tgt := 315) hx hb dL_markets_265 (by decide) (fun c_265 => False.elim (by revert c_265; decide)) (fun c_265 => ?_)
          refine lv_aload_n hx hb dL_markets_268 rfl (lv_at hl 2 rfl) ?_
          refine lv_iload hx hb dL_markets_269 (lv_at hl 1 rfl) ?_
          refine lv_iconst (v := (-1)) hx hb dL_markets_271 (by decide) ?_
          refine k_i (vx_runSW (As := [.ref (ad 0 0), .int (nI q2), .int (-1)]) (rest := []) ⟨hx, hb, hml, hown, hts⟩ (c_L_setLimit hnt l G Ma2 S Ta2 th o ex ad (nI q2) (-1) ha2 hi) (vx_cwSW 3 hts gL_markets_L_setLimit rfl rfl rfl (by decide +kernel) ⟨Nat.le_of_ble_eq_true rfl, Nat.le_of_ble_eq_true rfl⟩) (preS_of hC hS hM) rfl rfl hl.1 rfl (lv_room (Nat.le_of_ble_eq_true rfl)) dL_markets_272 ⟨Nat.le_of_ble_eq_true rfl, Nat.le_of_ble_eq_true rfl⟩) hS (fun r272 us272 H locs hp272 hM hS => ?_)
          rw [nI_clamp (show q2 < 2 ^ 31 by omega)] at hp272
          have hq272 : r272 = (-2000000072) ∧ us272 = Ma2 := by
            rcases hp272 with h | h | h
            · exact False.elim (absurd (c2_5 hq2) h.2.1)
            · exact ⟨h.1, h.2.2⟩
            · exact False.elim (absurd h.2.1.2 (by decide))
          have hM : Hm G us272 H := hM
          obtain ⟨eq272, em272⟩ := hq272
          rw [em272] at hM
          subst eq272
          refine lv_ldc (own := RL) (v := (-2000000072)) hx hb hown (hts (.constant RL 19 (-2000000072)) (by decide +kernel)) dL_markets_275 ?_
          refine lv_icmp_ne (tgt := 315) hx hb dL_markets_277 (by decide) (fun c_277 => False.elim (by revert c_277; decide)) (fun c_277 => ?_)
          refine lv_aload_n hx hb dL_markets_280 rfl (lv_at hl 2 rfl) ?_
          refine lv_iload hx hb dL_markets_281 (lv_at hl 1 rfl) ?_
          refine lv_ldc (own := RL) (v := 100000001) hx hb hown (hts (.constant RL 112 100000001) (by decide +kernel)) dL_markets_283 ?_
          refine k_i (vx_runSW (As := [.ref (ad 0 0), .int (nI q2), .int 100000001]) (rest := []) ⟨hx, hb, hml, hown, hts⟩ (c_L_setLimit hnt l G Ma2 S Ta2 th o ex ad (nI q2) 100000001 ha2 hi) (vx_cwSW 3 hts gL_markets_L_setLimit rfl rfl rfl (by decide +kernel) ⟨Nat.le_of_ble_eq_true rfl, Nat.le_of_ble_eq_true rfl⟩) (preS_of hC hS hM) rfl rfl hl.1 rfl (lv_room (Nat.le_of_ble_eq_true rfl)) dL_markets_285 ⟨Nat.le_of_ble_eq_true rfl, Nat.le_of_ble_eq_true rfl⟩) hS (fun r285 us285 H locs hp285 hM hS => ?_)
          rw [nI_clamp (show q2 < 2 ^ 31 by omega)] at hp285
          have hq285 : r285 = (-2000000072) ∧ us285 = Ma2 := by
            rcases hp285 with h | h | h
            · exact False.elim (absurd (c2_5 hq2) h.2.1)
            · exact ⟨h.1, h.2.2⟩
            · exact False.elim (absurd h.2.1.2 (by decide))
          have hM : Hm G us285 H := hM
          obtain ⟨eq285, em285⟩ := hq285
          rw [em285] at hM
          subst eq285
          refine lv_ldc (own := RL) (v := (-2000000072)) hx hb hown (hts (.constant RL 19 (-2000000072)) (by decide +kernel)) dL_markets_288 ?_
          refine lv_icmp_ne (tgt := 315) hx hb dL_markets_290 (by decide) (fun c_290 => False.elim (by revert c_290; decide)) (fun c_290 => ?_)
          refine lv_aload_n hx hb dL_markets_293 rfl (lv_at hl 2 rfl) ?_
          refine lv_iload hx hb dL_markets_294 (lv_at hl 1 rfl) ?_
          refine lv_aload hx hb dL_markets_296 (lv_at hl 6 rfl) ?_
          refine lv_iconst (v := 4) hx hb dL_markets_298 (by decide) ?_
          refine lv_iload hx hb dL_markets_299 (lv_at hl 1 rfl) ?_
          refine lv_iadd hx hb dL_markets_301 ?_
          refine k_iald (a := (ad 19 0)) hx hb hC hM (qa19 ha2) (4 + q2) (ix_lit (nI_add 4 q2) (by omega) (by decide)) dL_markets_302 ?_
          rw [show Ta2.1 19 (4 + q2) = nI q256 from e1_s ea2]
          refine k_i (vx_runSW (As := [.ref (ad 0 0), .int (nI q2), .int (nI q256)]) (rest := []) ⟨hx, hb, hml, hown, hts⟩ (c_L_setLimit hnt l G Ma2 S Ta2 th o ex ad (nI q2) (nI q256) ha2 hi) (vx_cwSW 3 hts gL_markets_L_setLimit rfl rfl rfl (by decide +kernel) ⟨Nat.le_of_ble_eq_true rfl, Nat.le_of_ble_eq_true rfl⟩) (preS_of hC hS hM) rfl rfl hl.1 rfl (lv_room (Nat.le_of_ble_eq_true rfl)) dL_markets_303 ⟨Nat.le_of_ble_eq_true rfl, Nat.le_of_ble_eq_true rfl⟩) hS (fun r303 us303 H locs hp303 hM hS => ?_)
          rw [nI_clamp (show q2 < 2 ^ 31 by omega)] at hp303
          have hq303 : r303 = S.1 3 q2 ∧ WA G (u2 S.1 3 q2 (nI q256), u2 S.2 2 q2 (nI q256).toInt64) Ta2 th o ex ad us303 := by
            rcases hp303 with h | h | h
            · exact False.elim (absurd (c2_5 hq2) h.2.1)
            · exact False.elim (absurd (rg_n (Nat.zero_le q256) hb256 (by decide)) h.2.1.2)
            · exact ⟨h.1, h.2.2⟩
          have hM : Hm G us303 H := hM
          obtain ⟨eq303, hwc303⟩ := hq303
          subst eq303
          refine lv_iload hx hb dL_markets_306 (lv_at hl 0 rfl) ?_
          refine lv_icmp_ne (tgt := 315) hx hb dL_markets_308 (by decide) (fun c_308 => False.elim (by exact c_308 (hR.2.1 q2 hq2).1.2.2.symm)) (fun c_308 => ?_)
          refine lv_iconst (v := 1) hx hb dL_markets_311 (by decide) ?_
          refine lv_goto (tgt := 316) hx hb dL_markets_312 (by decide) ?_
          exact (r_z hx hb hr hlocks hS (v := 1) (by simp) _ ⟨rfl, (u2 S.1 3 q2 (nI q256), u2 S.2 2 q2 (nI q256).toInt64), Ta2, ex, ad, hwc303, iv_lim hi, ix_lim hx9, rl_m2 hR hq2 ea2, fun _ _ => rfl⟩ hM (Nat.le_of_ble_eq_true rfl) (Nat.le_of_ble_eq_true rfl) dL_markets_316)
        refine lv_iload_n hx hb dL_markets_227 rfl (lv_at hl 5 rfl) ?_
        refine lv_bipush (v := 6) hx hb dL_markets_228 (by decide) ?_
        refine lv_iand hx hb dL_markets_230 ?_
        refine lv_if_ne (tgt := 246) hx hb dL_markets_231 (by decide) (fun c_231 => ?_) (fun c_231 => ?_)
        · refine lv_iconst (v := 1) hx hb dL_markets_246 (by decide) ?_
          refine lv_iload_n hx hb dL_markets_247 rfl (lv_at hl 5 rfl) ?_
          refine lv_iconst (v := 3) hx hb dL_markets_248 (by decide) ?_
          refine lv_ishr hx hb dL_markets_249 ?_
          refine lv_ldc (own := RL) (v := 100000000) hx hb hown (hts (.constant RL 109 100000000) (by decide +kernel)) dL_markets_250 ?_
          refine k_i (va_runS (As := [.int (zz >>> ((3 : Int32) &&& 31)), .int 100000000]) (rest := [.int 1, .int (4 + (nI q2)), .ref (ad 19 0)]) ⟨hx, hb, hml, hown, hts⟩ (c_L_low l G M (zz >>> ((3 : Int32) &&& 31)) 100000000 (by decide) (by decide)) (va_cwS 2 hts gL_markets_L_low rfl rfl rfl (by decide +kernel) ⟨Nat.le_of_ble_eq_true rfl, Nat.le_of_ble_eq_true rfl⟩) (preS_of hC hS hM) rfl rfl hl.1 rfl (lv_room (Nat.le_of_ble_eq_true rfl)) dL_markets_252 ⟨Nat.le_of_ble_eq_true rfl, Nat.le_of_ble_eq_true rfl⟩) hS (fun r252 us252 H locs hp252 hM hS => ?_)
          have hM : Hm G M H := hM
          obtain ⟨q252, hq252, e252⟩ := hp252
          subst e252
          refine lv_iadd hx hb dL_markets_255 ?_
          rw [show (1 : Int32) + nI q252 = nI (1 + q252) from nI_add 1 q252]
          exact j256 (1 + q252) (by omega) ls (lv_sub hl [0, 1, 2, 3, 4, 5, 6, 7] rfl) _ _ hM hS
        · refine lv_iload_n hx hb dL_markets_234 rfl (lv_at hl 5 rfl) ?_
          refine lv_iconst (v := 3) hx hb dL_markets_235 (by decide) ?_
          refine lv_ishr hx hb dL_markets_236 ?_
          refine lv_sipush (v := 3000) hx hb dL_markets_237 (by decide) ?_
          refine k_i (va_runS (As := [.int (zz >>> ((3 : Int32) &&& 31)), .int 3000]) (rest := [.int (4 + (nI q2)), .ref (ad 19 0)]) ⟨hx, hb, hml, hown, hts⟩ (c_L_low l G M (zz >>> ((3 : Int32) &&& 31)) 3000 (by decide) (by decide)) (va_cwS 2 hts gL_markets_L_low rfl rfl rfl (by decide +kernel) ⟨Nat.le_of_ble_eq_true rfl, Nat.le_of_ble_eq_true rfl⟩) (preS_of hC hS hM) rfl rfl hl.1 rfl (lv_room (Nat.le_of_ble_eq_true rfl)) dL_markets_240 ⟨Nat.le_of_ble_eq_true rfl, Nat.le_of_ble_eq_true rfl⟩) hS (fun r240 us240 H locs hp240 hM hS => ?_)
          have hM : Hm G M H := hM
          obtain ⟨q240, hq240, e240⟩ := hp240
          subst e240
          refine lv_goto (tgt := 256) hx hb dL_markets_243 (by decide) ?_
          exact j256 q240 (by omega) ls (lv_sub hl [0, 1, 2, 3, 4, 5, 6, 7] rfl) _ _ hM hS
    · refine lv_aload hx hb dL_markets_120 (lv_at hl 5 rfl) ?_
      refine lv_iconst (v := 2) hx hb dL_markets_122 (by decide) ?_
      refine lv_iload hx hb dL_markets_123 (lv_at hl 0 rfl) ?_
      refine lv_iadd hx hb dL_markets_125 ?_
      refine k_iald (a := (ad 19 0)) hx hb hC hM (qa19 hw) (2 + q2) (ix_lit (nI_add 2 q2) (by omega) (by decide)) dL_markets_126 ?_
      refine lv_istore (lv' := [(7, .int (T.1 19 (2 + q2))), (6, .int (nI q2)), (0, .ref (ad 0 0)), (1, .int ac), (2, .int yy), (3, .int zz), (4, .ref (ad 19 0)), (5, .ref (ad 22 0))]) hx hb dL_markets_127 hl (by decide) rfl (fun ls hl => ?_)
      refine lv_aload hx hb dL_markets_129 (lv_at hl 6 rfl) ?_
      refine lv_iconst (v := 2) hx hb dL_markets_131 (by decide) ?_
      refine lv_iload hx hb dL_markets_132 (lv_at hl 1 rfl) ?_
      refine lv_iadd hx hb dL_markets_134 ?_
      refine lv_iload_n hx hb dL_markets_135 rfl (lv_at hl 5 rfl) ?_
      refine lv_bipush (v := 101) hx hb dL_markets_136 (by decide) ?_
      refine k_i (va_runS (As := [.int zz, .int 101]) (rest := [.int (2 + (nI q2)), .ref (ad 19 0)]) ⟨hx, hb, hml, hown, hts⟩ (c_L_low l G M zz 101 (by decide) (by decide)) (va_cwS 2 hts gL_markets_L_low rfl rfl rfl (by decide +kernel) ⟨Nat.le_of_ble_eq_true rfl, Nat.le_of_ble_eq_true rfl⟩) (preS_of hC hS hM) rfl rfl hl.1 rfl (lv_room (Nat.le_of_ble_eq_true rfl)) dL_markets_138 ⟨Nat.le_of_ble_eq_true rfl, Nat.le_of_ble_eq_true rfl⟩) hS (fun r138 us138 H locs hp138 hM hS => ?_)
      have hM : Hm G M H := hM
      obtain ⟨q138, hq138, e138⟩ := hp138
      subst e138
      refine lv_bipush (v := 50) hx hb dL_markets_141 (by decide) ?_
      refine lv_isub hx hb dL_markets_143 ?_
      obtain ⟨v9, ev9, hv9⟩ : ∃ v : Int32, v = nI q138 - 50 ∧ -50 ≤ v.toInt ∧ v.toInt ≤ 50 := ⟨_, rfl, pts_rng hq138⟩
      rw [← ev9]
      refine k_iast (a := (ad 19 0)) hx hb hC hM hS (qa19 hw) (2 + q2) (ix_lit (nI_add 2 q2) (by omega) (by decide)) dL_markets_144 (fun H locs hM hS => ?_)
      obtain ⟨Ta3, Ma3, ea3, ha3, hM⟩ := qs19 hw hM
      refine lv_aload_n hx hb dL_markets_145 rfl (lv_at hl 2 rfl) ?_
      refine lv_iconst (v := (-1)) hx hb dL_markets_146 (by decide) ?_
      refine lv_bipush (v := 51) hx hb dL_markets_147 (by decide) ?_
      refine k_i (vx_runSW (As := [.ref (ad 0 0), .int (-1), .int 51]) (rest := []) ⟨hx, hb, hml, hown, hts⟩ (c_L_setPoints hnt l G Ma3 S Ta3 th o ex ad (-1) 51 ha3 hi) (vx_cwSW 3 hts gL_markets_L_setPoints rfl rfl rfl (by decide +kernel) ⟨Nat.le_of_ble_eq_true rfl, Nat.le_of_ble_eq_true rfl⟩) (preS_of hC hS hM) rfl rfl hl.1 rfl (lv_room (Nat.le_of_ble_eq_true rfl)) dL_markets_149 ⟨Nat.le_of_ble_eq_true rfl, Nat.le_of_ble_eq_true rfl⟩) hS (fun r149 us149 H locs hp149 hM hS => ?_)
      have hq149 : r149 = (-2000000071) ∧ us149 = Ma3 := by
        rcases hp149 with h | h | h
        · exact ⟨h.1, h.2.2⟩
        · exact False.elim (absurd h.2.1.1 (by decide))
        · exact False.elim (absurd h.2.1.1 (by decide))
      have hM : Hm G us149 H := hM
      obtain ⟨eq149, em149⟩ := hq149
      rw [em149] at hM
      subst eq149
      refine lv_ldc (own := RL) (v := (-2000000071)) hx hb hown (hts (.constant RL 16 (-2000000071)) (by decide +kernel)) dL_markets_152 ?_
      refine lv_icmp_ne (tgt := 205) hx hb dL_markets_154 (by decide) (fun c_154 => False.elim (by revert c_154; decide)) (fun c_154 => ?_)
      refine lv_aload_n hx hb dL_markets_157 rfl (lv_at hl 2 rfl) ?_
      refine lv_iload hx hb dL_markets_158 (lv_at hl 1 rfl) ?_
      refine lv_bipush (v := 51) hx hb dL_markets_160 (by decide) ?_
      refine k_i (vx_runSW (As := [.ref (ad 0 0), .int (nI q2), .int 51]) (rest := []) ⟨hx, hb, hml, hown, hts⟩ (c_L_setPoints hnt l G Ma3 S Ta3 th o ex ad (nI q2) 51 ha3 hi) (vx_cwSW 3 hts gL_markets_L_setPoints rfl rfl rfl (by decide +kernel) ⟨Nat.le_of_ble_eq_true rfl, Nat.le_of_ble_eq_true rfl⟩) (preS_of hC hS hM) rfl rfl hl.1 rfl (lv_room (Nat.le_of_ble_eq_true rfl)) dL_markets_162 ⟨Nat.le_of_ble_eq_true rfl, Nat.le_of_ble_eq_true rfl⟩) hS (fun r162 us162 H locs hp162 hM hS => ?_)
      rw [nI_clamp (show q2 < 2 ^ 31 by omega)] at hp162
      have hq162 : r162 = (-2000000072) ∧ us162 = Ma3 := by
        rcases hp162 with h | h | h
        · exact False.elim (absurd (c2_4 hq2) h.2.1)
        · exact ⟨h.1, h.2.2⟩
        · exact False.elim (absurd h.2.1.2 (by decide))
      have hM : Hm G us162 H := hM
      obtain ⟨eq162, em162⟩ := hq162
      rw [em162] at hM
      subst eq162
      refine lv_ldc (own := RL) (v := (-2000000072)) hx hb hown (hts (.constant RL 19 (-2000000072)) (by decide +kernel)) dL_markets_165 ?_
      refine lv_icmp_ne (tgt := 205) hx hb dL_markets_167 (by decide) (fun c_167 => False.elim (by revert c_167; decide)) (fun c_167 => ?_)
      refine lv_aload_n hx hb dL_markets_170 rfl (lv_at hl 2 rfl) ?_
      refine lv_iload hx hb dL_markets_171 (lv_at hl 1 rfl) ?_
      refine lv_bipush (v := (-51)) hx hb dL_markets_173 (by decide) ?_
      refine k_i (vx_runSW (As := [.ref (ad 0 0), .int (nI q2), .int (-51)]) (rest := []) ⟨hx, hb, hml, hown, hts⟩ (c_L_setPoints hnt l G Ma3 S Ta3 th o ex ad (nI q2) (-51) ha3 hi) (vx_cwSW 3 hts gL_markets_L_setPoints rfl rfl rfl (by decide +kernel) ⟨Nat.le_of_ble_eq_true rfl, Nat.le_of_ble_eq_true rfl⟩) (preS_of hC hS hM) rfl rfl hl.1 rfl (lv_room (Nat.le_of_ble_eq_true rfl)) dL_markets_175 ⟨Nat.le_of_ble_eq_true rfl, Nat.le_of_ble_eq_true rfl⟩) hS (fun r175 us175 H locs hp175 hM hS => ?_)
      rw [nI_clamp (show q2 < 2 ^ 31 by omega)] at hp175
      have hq175 : r175 = (-2000000072) ∧ us175 = Ma3 := by
        rcases hp175 with h | h | h
        · exact False.elim (absurd (c2_4 hq2) h.2.1)
        · exact ⟨h.1, h.2.2⟩
        · exact False.elim (absurd h.2.1.2 (by decide))
      have hM : Hm G us175 H := hM
      obtain ⟨eq175, em175⟩ := hq175
      rw [em175] at hM
      subst eq175
      refine lv_ldc (own := RL) (v := (-2000000072)) hx hb hown (hts (.constant RL 19 (-2000000072)) (by decide +kernel)) dL_markets_178 ?_
      refine lv_icmp_ne (tgt := 205) hx hb dL_markets_180 (by decide) (fun c_180 => False.elim (by revert c_180; decide)) (fun c_180 => ?_)
      refine lv_aload_n hx hb dL_markets_183 rfl (lv_at hl 2 rfl) ?_
      refine lv_iload hx hb dL_markets_184 (lv_at hl 1 rfl) ?_
      refine lv_aload hx hb dL_markets_186 (lv_at hl 6 rfl) ?_
      refine lv_iconst (v := 2) hx hb dL_markets_188 (by decide) ?_
      refine lv_iload hx hb dL_markets_189 (lv_at hl 1 rfl) ?_
      refine lv_iadd hx hb dL_markets_191 ?_
      refine k_iald (a := (ad 19 0)) hx hb hC hM (qa19 ha3) (2 + q2) (ix_lit (nI_add 2 q2) (by omega) (by decide)) dL_markets_192 ?_
      rw [show Ta3.1 19 (2 + q2) = v9 from e1_s ea3]
      refine k_i (vx_runSW (As := [.ref (ad 0 0), .int (nI q2), .int v9]) (rest := []) ⟨hx, hb, hml, hown, hts⟩ (c_L_setPoints hnt l G Ma3 S Ta3 th o ex ad (nI q2) v9 ha3 hi) (vx_cwSW 3 hts gL_markets_L_setPoints rfl rfl rfl (by decide +kernel) ⟨Nat.le_of_ble_eq_true rfl, Nat.le_of_ble_eq_true rfl⟩) (preS_of hC hS hM) rfl rfl hl.1 rfl (lv_room (Nat.le_of_ble_eq_true rfl)) dL_markets_193 ⟨Nat.le_of_ble_eq_true rfl, Nat.le_of_ble_eq_true rfl⟩) hS (fun r193 us193 H locs hp193 hM hS => ?_)
      rw [nI_clamp (show q2 < 2 ^ 31 by omega)] at hp193
      have hq193 : r193 = S.1 2 q2 ∧ WA G (u2 S.1 2 q2 v9, S.2) Ta3 th o ex ad us193 := by
        rcases hp193 with h | h | h
        · exact False.elim (absurd (c2_4 hq2) h.2.1)
        · exact False.elim (absurd (pts_i hv9) h.2.1.2)
        · exact ⟨h.1, h.2.2⟩
      have hM : Hm G us193 H := hM
      obtain ⟨eq193, hwc193⟩ := hq193
      subst eq193
      refine lv_iload hx hb dL_markets_196 (lv_at hl 0 rfl) ?_
      refine lv_icmp_ne (tgt := 205) hx hb dL_markets_198 (by decide) (fun c_198 => False.elim (by exact c_198 (hR.2.1 q2 hq2).1.2.1.symm)) (fun c_198 => ?_)
      refine lv_iconst (v := 1) hx hb dL_markets_201 (by decide) ?_
      refine lv_goto (tgt := 206) hx hb dL_markets_202 (by decide) ?_
      exact (r_z hx hb hr hlocks hS (v := 1) (by simp) _ ⟨rfl, (u2 S.1 2 q2 v9, S.2), Ta3, ex, ad, hwc193, iv_12 hi (Or.inr rfl), hx9, rl_m1 hR hq2 hv9.1 hv9.2 ea3, fun _ _ => rfl⟩ hM (Nat.le_of_ble_eq_true rfl) (Nat.le_of_ble_eq_true rfl) dL_markets_206)
  · have j44 : ∀ (q44 : Nat), (1 ≤ q44) → (q44 ≤ 100000) → ∀ (ls : Array Slot), lv_has ls 10 [(6, .int (nI q2)), (0, .ref (ad 0 0)), (1, .int ac), (2, .int yy), (3, .int zz), (4, .ref (ad 19 0)), (5, .ref (ad 22 0))] → ∀ (H : Heap) (locs : List Loc), Hm G M H → va_S (AG G) s.heap H locs → W p l e { frames := 9, cells := 8, slots := 48, locals := 160 } s m ([.ref (ad 0 0), .int ac, .int yy, .int zz, .ref (ad 19 0), .ref (ad 22 0)] : List Value).toArray below meth c H locs (0) (0) (MQ below (va_Qi (S := Mp) (fun r M2 => r = 1 ∧ Nx G th o ad M2) (Bm G (fun M2 => M2)) (AG G)) ([.ref (ad 0 0), .int ac, .int yy, .int zz, .ref (ad 19 0), .ref (ad 22 0)] : List Value).toArray s (8) (48) (AG G)) (F0 m 44 ls [.int (nI q44)]) := by
      intro q44 ha44 hb44 ls hl H locs hM hS
      refine lv_istore (lv' := [(7, .int (nI q44)), (6, .int (nI q2)), (0, .ref (ad 0 0)), (1, .int ac), (2, .int yy), (3, .int zz), (4, .ref (ad 19 0)), (5, .ref (ad 22 0))]) hx hb dL_markets_44 hl (by decide) rfl (fun ls hl => ?_)
      refine lv_aload hx hb dL_markets_46 (lv_at hl 6 rfl) ?_
      refine lv_iload hx hb dL_markets_48 (lv_at hl 1 rfl) ?_
      refine k_iald (a := (ad 19 0)) hx hb hC hM (qa19 hw) q2 (ix_lit rfl (by omega) (by decide)) dL_markets_50 ?_
      refine lv_istore (lv' := [(8, .int (T.1 19 q2)), (7, .int (nI q44)), (6, .int (nI q2)), (0, .ref (ad 0 0)), (1, .int ac), (2, .int yy), (3, .int zz), (4, .ref (ad 19 0)), (5, .ref (ad 22 0))]) hx hb dL_markets_51 hl (by decide) rfl (fun ls hl => ?_)
      refine lv_aload hx hb dL_markets_53 (lv_at hl 7 rfl) ?_
      refine lv_iload hx hb dL_markets_55 (lv_at hl 2 rfl) ?_
      refine lv_iload hx hb dL_markets_57 (lv_at hl 1 rfl) ?_
      refine k_iast (a := (ad 19 0)) hx hb hC hM hS (qa19 hw) q2 (ix_lit rfl (by omega) (by decide)) dL_markets_59 (fun H locs hM hS => ?_)
      obtain ⟨Ta4, Ma4, ea4, ha4, hM⟩ := qs19 hw hM
      refine lv_aload_n hx hb dL_markets_60 rfl (lv_at hl 3 rfl) ?_
      refine lv_iconst (v := 4) hx hb dL_markets_61 (by decide) ?_
      refine lv_iconst (v := 0) hx hb dL_markets_62 (by decide) ?_
      refine k_i (vx_runSW (As := [.ref (ad 0 0), .int 4, .int 0]) (rest := []) ⟨hx, hb, hml, hown, hts⟩ (c_L_setRate hnt l G Ma4 S Ta4 th o ex ad 4 0 ha4 hi) (vx_cwSW 3 hts gL_markets_L_setRate rfl rfl rfl (by decide +kernel) ⟨Nat.le_of_ble_eq_true rfl, Nat.le_of_ble_eq_true rfl⟩) (preS_of hC hS hM) rfl rfl hl.1 rfl (lv_room (Nat.le_of_ble_eq_true rfl)) dL_markets_63 ⟨Nat.le_of_ble_eq_true rfl, Nat.le_of_ble_eq_true rfl⟩) hS (fun r63 us63 H locs hp63 hM hS => ?_)
      have hq63 : r63 = (-2000000071) ∧ us63 = Ma4 := by
        rcases hp63 with h | h | h
        · exact ⟨h.1, h.2.2⟩
        · exact False.elim (absurd h.2.1.1 (by decide))
        · exact False.elim (absurd h.2.1.1 (by decide))
      have hM : Hm G us63 H := hM
      obtain ⟨eq63, em63⟩ := hq63
      rw [em63] at hM
      subst eq63
      refine lv_ldc (own := RL) (v := (-2000000071)) hx hb hown (hts (.constant RL 16 (-2000000071)) (by decide +kernel)) dL_markets_66 ?_
      refine lv_icmp_ne (tgt := 113) hx hb dL_markets_68 (by decide) (fun c_68 => False.elim (by revert c_68; decide)) (fun c_68 => ?_)
      refine lv_aload_n hx hb dL_markets_71 rfl (lv_at hl 3 rfl) ?_
      refine lv_iload hx hb dL_markets_72 (lv_at hl 2 rfl) ?_
      refine lv_iconst (v := 0) hx hb dL_markets_74 (by decide) ?_
      refine k_i (vx_runSW (As := [.ref (ad 0 0), .int (nI q2), .int 0]) (rest := []) ⟨hx, hb, hml, hown, hts⟩ (c_L_setRate hnt l G Ma4 S Ta4 th o ex ad (nI q2) 0 ha4 hi) (vx_cwSW 3 hts gL_markets_L_setRate rfl rfl rfl (by decide +kernel) ⟨Nat.le_of_ble_eq_true rfl, Nat.le_of_ble_eq_true rfl⟩) (preS_of hC hS hM) rfl rfl hl.1 rfl (lv_room (Nat.le_of_ble_eq_true rfl)) dL_markets_75 ⟨Nat.le_of_ble_eq_true rfl, Nat.le_of_ble_eq_true rfl⟩) hS (fun r75 us75 H locs hp75 hM hS => ?_)
      rw [nI_clamp (show q2 < 2 ^ 31 by omega)] at hp75
      have hq75 : r75 = (-2000000072) ∧ us75 = Ma4 := by
        rcases hp75 with h | h | h
        · exact False.elim (absurd (c2_4 hq2) h.2.1)
        · exact ⟨h.1, h.2.2⟩
        · exact False.elim (absurd h.2.1.2 (by decide))
      have hM : Hm G us75 H := hM
      obtain ⟨eq75, em75⟩ := hq75
      rw [em75] at hM
      subst eq75
      refine lv_ldc (own := RL) (v := (-2000000072)) hx hb hown (hts (.constant RL 19 (-2000000072)) (by decide +kernel)) dL_markets_78 ?_
      refine lv_icmp_ne (tgt := 113) hx hb dL_markets_80 (by decide) (fun c_80 => False.elim (by revert c_80; decide)) (fun c_80 => ?_)
      refine lv_aload_n hx hb dL_markets_83 rfl (lv_at hl 3 rfl) ?_
      refine lv_iload hx hb dL_markets_84 (lv_at hl 2 rfl) ?_
      refine lv_ldc (own := RL) (v := 100001) hx hb hown (hts (.constant RL 106 100001) (by decide +kernel)) dL_markets_86 ?_
      refine k_i (vx_runSW (As := [.ref (ad 0 0), .int (nI q2), .int 100001]) (rest := []) ⟨hx, hb, hml, hown, hts⟩ (c_L_setRate hnt l G Ma4 S Ta4 th o ex ad (nI q2) 100001 ha4 hi) (vx_cwSW 3 hts gL_markets_L_setRate rfl rfl rfl (by decide +kernel) ⟨Nat.le_of_ble_eq_true rfl, Nat.le_of_ble_eq_true rfl⟩) (preS_of hC hS hM) rfl rfl hl.1 rfl (lv_room (Nat.le_of_ble_eq_true rfl)) dL_markets_88 ⟨Nat.le_of_ble_eq_true rfl, Nat.le_of_ble_eq_true rfl⟩) hS (fun r88 us88 H locs hp88 hM hS => ?_)
      rw [nI_clamp (show q2 < 2 ^ 31 by omega)] at hp88
      have hq88 : r88 = (-2000000072) ∧ us88 = Ma4 := by
        rcases hp88 with h | h | h
        · exact False.elim (absurd (c2_4 hq2) h.2.1)
        · exact ⟨h.1, h.2.2⟩
        · exact False.elim (absurd h.2.1.2 (by decide))
      have hM : Hm G us88 H := hM
      obtain ⟨eq88, em88⟩ := hq88
      rw [em88] at hM
      subst eq88
      refine lv_ldc (own := RL) (v := (-2000000072)) hx hb hown (hts (.constant RL 19 (-2000000072)) (by decide +kernel)) dL_markets_91 ?_
      refine lv_icmp_ne (tgt := 113) hx hb dL_markets_93 (by decide) (fun c_93 => False.elim (by revert c_93; decide)) (fun c_93 => ?_)
      refine lv_aload_n hx hb dL_markets_96 rfl (lv_at hl 3 rfl) ?_
      refine lv_iload hx hb dL_markets_97 (lv_at hl 2 rfl) ?_
      refine lv_iload hx hb dL_markets_99 (lv_at hl 1 rfl) ?_
      refine k_i (vx_runSW (As := [.ref (ad 0 0), .int (nI q2), .int (nI q44)]) (rest := []) ⟨hx, hb, hml, hown, hts⟩ (c_L_setRate hnt l G Ma4 S Ta4 th o ex ad (nI q2) (nI q44) ha4 hi) (vx_cwSW 3 hts gL_markets_L_setRate rfl rfl rfl (by decide +kernel) ⟨Nat.le_of_ble_eq_true rfl, Nat.le_of_ble_eq_true rfl⟩) (preS_of hC hS hM) rfl rfl hl.1 rfl (lv_room (Nat.le_of_ble_eq_true rfl)) dL_markets_101 ⟨Nat.le_of_ble_eq_true rfl, Nat.le_of_ble_eq_true rfl⟩) hS (fun r101 us101 H locs hp101 hM hS => ?_)
      rw [nI_clamp (show q2 < 2 ^ 31 by omega)] at hp101
      have hq101 : r101 = S.1 1 q2 ∧ WA G (u2 S.1 1 q2 (nI q44), S.2) Ta4 th o ex ad us101 := by
        rcases hp101 with h | h | h
        · exact False.elim (absurd (c2_4 hq2) h.2.1)
        · exact False.elim (absurd (rg_n ha44 hb44 (by decide)) h.2.1.2)
        · exact ⟨h.1, h.2.2⟩
      have hM : Hm G us101 H := hM
      obtain ⟨eq101, hwc101⟩ := hq101
      subst eq101
      refine lv_iload hx hb dL_markets_104 (lv_at hl 0 rfl) ?_
      refine lv_icmp_ne (tgt := 113) hx hb dL_markets_106 (by decide) (fun c_106 => False.elim (by exact c_106 (hR.2.1 q2 hq2).1.1.symm)) (fun c_106 => ?_)
      refine lv_iconst (v := 1) hx hb dL_markets_109 (by decide) ?_
      refine lv_goto (tgt := 114) hx hb dL_markets_110 (by decide) ?_
      exact (r_z hx hb hr hlocks hS (v := 1) (by simp) _ ⟨rfl, (u2 S.1 1 q2 (nI q44), S.2), Ta4, ex, ad, hwc101, iv_12 hi (Or.inl rfl), hx9, rl_m0 hR hq2 (by rw [nI_toInt (by omega)]; omega) (by rw [nI_toInt (by omega)]; omega) ea4, fun _ _ => rfl⟩ hM (Nat.le_of_ble_eq_true rfl) (Nat.le_of_ble_eq_true rfl) dL_markets_114)
    refine lv_iload_n hx hb dL_markets_11 rfl (lv_at hl 4 rfl) ?_
    refine lv_bipush (v := 6) hx hb dL_markets_12 (by decide) ?_
    refine lv_iand hx hb dL_markets_14 ?_
    refine lv_if_ne (tgt := 31) hx hb dL_markets_15 (by decide) (fun c_15 => ?_) (fun c_15 => ?_)
    · refine lv_sipush (v := 9000) hx hb dL_markets_31 (by decide) ?_
      refine lv_iload_n hx hb dL_markets_34 rfl (lv_at hl 4 rfl) ?_
      refine lv_iconst (v := 3) hx hb dL_markets_35 (by decide) ?_
      refine lv_ishr hx hb dL_markets_36 ?_
      refine lv_sipush (v := 3000) hx hb dL_markets_37 (by decide) ?_
      refine k_i (va_runS (As := [.int (zz >>> ((3 : Int32) &&& 31)), .int 3000]) (rest := [.int 9000]) ⟨hx, hb, hml, hown, hts⟩ (c_L_low l G M (zz >>> ((3 : Int32) &&& 31)) 3000 (by decide) (by decide)) (va_cwS 2 hts gL_markets_L_low rfl rfl rfl (by decide +kernel) ⟨Nat.le_of_ble_eq_true rfl, Nat.le_of_ble_eq_true rfl⟩) (preS_of hC hS hM) rfl rfl hl.1 rfl (lv_room (Nat.le_of_ble_eq_true rfl)) dL_markets_40 ⟨Nat.le_of_ble_eq_true rfl, Nat.le_of_ble_eq_true rfl⟩) hS (fun r40 us40 H locs hp40 hM hS => ?_)
      have hM : Hm G M H := hM
      obtain ⟨q40, hq40, e40⟩ := hp40
      subst e40
      refine lv_iadd hx hb dL_markets_43 ?_
      rw [show (9000 : Int32) + nI q40 = nI (9000 + q40) from nI_add 9000 q40]
      exact j44 (9000 + q40) (by omega) (by omega) ls (lv_sub hl [0, 1, 2, 3, 4, 5, 6] rfl) _ _ hM hS
    · refine lv_iconst (v := 1) hx hb dL_markets_18 (by decide) ?_
      refine lv_iload_n hx hb dL_markets_19 rfl (lv_at hl 4 rfl) ?_
      refine lv_iconst (v := 3) hx hb dL_markets_20 (by decide) ?_
      refine lv_ishr hx hb dL_markets_21 ?_
      refine lv_ldc (own := RL) (v := 100000) hx hb hown (hts (.constant RL 102 100000) (by decide +kernel)) dL_markets_22 ?_
      refine k_i (va_runS (As := [.int (zz >>> ((3 : Int32) &&& 31)), .int 100000]) (rest := [.int 1]) ⟨hx, hb, hml, hown, hts⟩ (c_L_low l G M (zz >>> ((3 : Int32) &&& 31)) 100000 (by decide) (by decide)) (va_cwS 2 hts gL_markets_L_low rfl rfl rfl (by decide +kernel) ⟨Nat.le_of_ble_eq_true rfl, Nat.le_of_ble_eq_true rfl⟩) (preS_of hC hS hM) rfl rfl hl.1 rfl (lv_room (Nat.le_of_ble_eq_true rfl)) dL_markets_24 ⟨Nat.le_of_ble_eq_true rfl, Nat.le_of_ble_eq_true rfl⟩) hS (fun r24 us24 H locs hp24 hM hS => ?_)
      have hM : Hm G M H := hM
      obtain ⟨q24, hq24, e24⟩ := hp24
      subst e24
      refine lv_iadd hx hb dL_markets_27 ?_
      refine lv_goto (tgt := 44) hx hb dL_markets_28 (by decide) ?_
      rw [show (1 : Int32) + nI q24 = nI (1 + q24) from nI_add 1 q24]
      exact j44 (1 + q24) (by omega) (by omega) ls (lv_sub hl [0, 1, 2, 3, 4, 5, 6] rfl) _ _ hM hS
