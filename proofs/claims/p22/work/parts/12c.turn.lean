set_option maxHeartbeats 4000000 in
set_option maxRecDepth 100000 in
theorem law_turn {p : Program} {l : Launch} (hnt : l.stackTraces = false) {e : Env} {s : State} {m : MethodId} {below : List Frame} {meth : Method} {c : Code} {b L : Nat} {xs : Nat → Int32} (hL : L ≤ 260) (C0 : lw_At p s m meth c b L xs) {G : Gx} (k9 : Nat) (hk9 : k9 = 20) (hC : Cx G s) (hG : G.2.2 = s.heap.size) {S T : Sd} {th : Int32} {o : Int64} {ex : Nat → Option (Nat × Nat)} {ad : Nat → Nat → Nat} {M : Mp} {c0 s0 t : Nat} {Q : State → Prop} (ht : t < 110) (hw : WA G S T th o ex ad M) (hi : Iv S) (hx9 : Ix S ex) (hR : Rel S T) (hc0 : c0 + 700 ≤ 600074) (hs0 : s0 + 3700 ≤ 7301550)
    (K : ∀ (S2 T2 : Sd) (ex2 : Nat → Option (Nat × Nat)) (ad2 : Nat → Nat → Nat) (M2 : Mp) (H : Heap) (locs : List Loc) (ls : Array Slot), WA G S2 T2 th o ex2 ad2 M2 → Iv S2 → Ix S2 ex2 → Rel S2 T2 → Hm G M2 H → va_S (AG G) s.heap H locs → lv_has ls 17 [(0, .ref b), (1, .ref (ad2 0 0)), (2, .ref (ad2 14 0)), (3, .ref (ad2 15 0)), (4, .ref (ad2 16 0)), (5, .ref (ad2 17 0)), (6, .ref (ad2 18 0)), (7, .ref (ad2 19 0)), (8, .ref (ad2 20 0)), (9, .ref (ad2 21 0)), (10, .ref (ad2 22 0)), (11, .int (nI (t + 1)))] → W p l e room_1 s m #[Value.ref b] below meth c H locs (c0 + 688) (s0 + 3648) Q (F0 m 120 ls [])) (ls : Array Slot) (hl : lv_has ls 17 [(0, .ref b), (1, .ref (ad 0 0)), (2, .ref (ad 14 0)), (3, .ref (ad 15 0)), (4, .ref (ad 16 0)), (5, .ref (ad 17 0)), (6, .ref (ad 18 0)), (7, .ref (ad 19 0)), (8, .ref (ad 20 0)), (9, .ref (ad 21 0)), (10, .ref (ad 22 0)), (11, .int (nI t))]) (H : Heap) (locs : List Loc) (hM : Hm G M H) (hS : va_S (AG G) s.heap H locs) : W p l e room_1 s m #[Value.ref b] below meth c H locs c0 s0 Q (F0 m 127 ls []) := by
  obtain ⟨hx, hb, hr, hml, hown, hts0, hX, hbl, hlocks, hgv⟩ := id C0
  have hts := fun w h => hts0 w (wsL_law_in w h)
  have hbA : ¬ AG G b := by show ¬ G.2.2 ≤ b; rw [hG]; exact Nat.not_le.mpr hbl
  have hbG : b < G.2.2 := Nat.lt_of_not_le hbA
  refine lv_aload_n hx hb dL_law_127 rfl (lv_at hl 0 rfl) ?_
  refine lv_iconst (v := 3) hx hb dL_law_128 (by decide) ?_
  refine lv_iload hx hb dL_law_129 (lv_at hl 11 rfl) ?_
  refine lv_imul hx hb dL_law_131 ?_
  rw [show (3 : Int32) * nI t = nI (3 * t) from pk_mul 3 t]
  refine k_i (va_runS (As := [.ref b, .int (nI (3 * t))]) (rest := []) ⟨hx, hb, hml, hown, hts⟩ (c_L_cell l G M b L xs (3 * t) hbG hL (by omega)) (va_cwS 2 hts gL_law_L_cell rfl rfl rfl (by decide +kernel) ⟨Nat.le_of_ble_eq_true rfl, Nat.le_of_ble_eq_true rfl⟩) (preX_of hC hS hM hX hbl hbA) rfl rfl hl.1 rfl (lv_room (Nat.le_of_ble_eq_true rfl)) dL_law_132 ⟨(by first | omega | (show _ ≤ 600074; omega) | (show _ ≤ 7301550; omega)), (by first | omega | (show _ ≤ 600074; omega) | (show _ ≤ 7301550; omega))⟩) hS (fun r132 us132 H locs hp132 hM hS => ?_)
  have hM : Hm G M H := hM
  refine lv_istore (lv' := [(12, .int r132), (0, .ref b), (1, .ref (ad 0 0)), (2, .ref (ad 14 0)), (3, .ref (ad 15 0)), (4, .ref (ad 16 0)), (5, .ref (ad 17 0)), (6, .ref (ad 18 0)), (7, .ref (ad 19 0)), (8, .ref (ad 20 0)), (9, .ref (ad 21 0)), (10, .ref (ad 22 0)), (11, .int (nI t))]) hx hb dL_law_135 hl (by decide) rfl (fun ls hl => ?_)
  refine lv_aload_n hx hb dL_law_137 rfl (lv_at hl 1 rfl) ?_
  refine lv_iconst (v := 3) hx hb dL_law_138 (by decide) ?_
  refine lv_iload hx hb dL_law_139 (lv_at hl 12 rfl) ?_
  refine lv_imul hx hb dL_law_141 ?_
  refine lv_iconst (v := 1) hx hb dL_law_142 (by decide) ?_
  refine lv_iadd hx hb dL_law_143 ?_
  rw [show (3 : Int32) * nI t + 1 = nI (3 * t + 1) from (congrArg (fun x => x + 1) (pk_mul 3 t)).trans (nI_add (3 * t) 1)]
  refine k_i (va_runS (As := [.ref b, .int (nI (3 * t + 1))]) (rest := []) ⟨hx, hb, hml, hown, hts⟩ (c_L_cell l G M b L xs (3 * t + 1) hbG hL (by omega)) (va_cwS 2 hts gL_law_L_cell rfl rfl rfl (by decide +kernel) ⟨Nat.le_of_ble_eq_true rfl, Nat.le_of_ble_eq_true rfl⟩) (preX_of hC hS hM hX hbl hbA) rfl rfl hl.1 rfl (lv_room (Nat.le_of_ble_eq_true rfl)) dL_law_144 ⟨(by first | omega | (show _ ≤ 600074; omega) | (show _ ≤ 7301550; omega)), (by first | omega | (show _ ≤ 600074; omega) | (show _ ≤ 7301550; omega))⟩) hS (fun r144 us144 H locs hp144 hM hS => ?_)
  have hM : Hm G M H := hM
  refine lv_istore (lv' := [(13, .int r144), (12, .int r132), (0, .ref b), (1, .ref (ad 0 0)), (2, .ref (ad 14 0)), (3, .ref (ad 15 0)), (4, .ref (ad 16 0)), (5, .ref (ad 17 0)), (6, .ref (ad 18 0)), (7, .ref (ad 19 0)), (8, .ref (ad 20 0)), (9, .ref (ad 21 0)), (10, .ref (ad 22 0)), (11, .int (nI t))]) hx hb dL_law_147 hl (by decide) rfl (fun ls hl => ?_)
  refine lv_aload_n hx hb dL_law_149 rfl (lv_at hl 2 rfl) ?_
  refine lv_iconst (v := 3) hx hb dL_law_150 (by decide) ?_
  refine lv_iload hx hb dL_law_151 (lv_at hl 13 rfl) ?_
  refine lv_imul hx hb dL_law_153 ?_
  refine lv_iconst (v := 2) hx hb dL_law_154 (by decide) ?_
  refine lv_iadd hx hb dL_law_155 ?_
  rw [show (3 : Int32) * nI t + 2 = nI (3 * t + 2) from (congrArg (fun x => x + 2) (pk_mul 3 t)).trans (nI_add (3 * t) 2)]
  refine k_i (va_runS (As := [.ref b, .int (nI (3 * t + 2))]) (rest := []) ⟨hx, hb, hml, hown, hts⟩ (c_L_cell l G M b L xs (3 * t + 2) hbG hL (by omega)) (va_cwS 2 hts gL_law_L_cell rfl rfl rfl (by decide +kernel) ⟨Nat.le_of_ble_eq_true rfl, Nat.le_of_ble_eq_true rfl⟩) (preX_of hC hS hM hX hbl hbA) rfl rfl hl.1 rfl (lv_room (Nat.le_of_ble_eq_true rfl)) dL_law_156 ⟨(by first | omega | (show _ ≤ 600074; omega) | (show _ ≤ 7301550; omega)), (by first | omega | (show _ ≤ 600074; omega) | (show _ ≤ 7301550; omega))⟩) hS (fun r156 us156 H locs hp156 hM hS => ?_)
  have hM : Hm G M H := hM
  refine lv_istore (lv' := [(14, .int r156), (13, .int r144), (12, .int r132), (0, .ref b), (1, .ref (ad 0 0)), (2, .ref (ad 14 0)), (3, .ref (ad 15 0)), (4, .ref (ad 16 0)), (5, .ref (ad 17 0)), (6, .ref (ad 18 0)), (7, .ref (ad 19 0)), (8, .ref (ad 20 0)), (9, .ref (ad 21 0)), (10, .ref (ad 22 0)), (11, .int (nI t))]) hx hb dL_law_159 hl (by decide) rfl (fun ls hl => ?_)
  have j188 : ∀ (v88 : Int32), ∀ (ls : Array Slot), lv_has ls 17 [(14, .int r156), (13, .int r144), (12, .int r132), (0, .ref b), (1, .ref (ad 0 0)), (2, .ref (ad 14 0)), (3, .ref (ad 15 0)), (4, .ref (ad 16 0)), (5, .ref (ad 17 0)), (6, .ref (ad 18 0)), (7, .ref (ad 19 0)), (8, .ref (ad 20 0)), (9, .ref (ad 21 0)), (10, .ref (ad 22 0)), (11, .int (nI t))] → ∀ (H : Heap) (locs : List Loc), Hm G M H → va_S (AG G) s.heap H locs → W p l e room_1 s m #[Value.ref b] below meth c H locs (c0) (s0) (Q) (F0 m 188 ls [.int v88]) := by
    intro v88  ls hl H locs hM hS
    refine lv_istore (lv' := [(15, .int v88), (14, .int r156), (13, .int r144), (12, .int r132), (0, .ref b), (1, .ref (ad 0 0)), (2, .ref (ad 14 0)), (3, .ref (ad 15 0)), (4, .ref (ad 16 0)), (5, .ref (ad 17 0)), (6, .ref (ad 18 0)), (7, .ref (ad 19 0)), (8, .ref (ad 20 0)), (9, .ref (ad 21 0)), (10, .ref (ad 22 0)), (11, .int (nI t))]) hx hb dL_law_188 hl (by decide) rfl (fun ls hl => ?_)
    have j290 : ∀  (S2 T2 : Sd) (ex2 : Nat → Option (Nat × Nat)) (ad2 : Nat → Nat → Nat) (M2 : Mp), (WA G S2 T2 th o ex2 ad2 M2) → (Iv S2) → (Ix S2 ex2) → (Rel S2 T2) → (∀ k, ¬ k = 11 → ad2 k = ad k) → ∀ (ls : Array Slot), lv_has ls 17 [(15, .int v88), (14, .int r156), (13, .int r144), (12, .int r132), (0, .ref b), (1, .ref (ad 0 0)), (2, .ref (ad 14 0)), (3, .ref (ad 15 0)), (4, .ref (ad 16 0)), (5, .ref (ad 17 0)), (6, .ref (ad 18 0)), (7, .ref (ad 19 0)), (8, .ref (ad 20 0)), (9, .ref (ad 21 0)), (10, .ref (ad 22 0)), (11, .int (nI t))] → ∀ (H : Heap) (locs : List Loc), Hm G M2 H → va_S (AG G) s.heap H locs → W p l e room_1 s m #[Value.ref b] below meth c H locs (c0 + 168) (s0 + 528) (Q) (F0 m 290 ls [.int 1]) := by
      intro S2 T2 ex2 ad2 M2 hw2 hi2 hx2 hR2 had2 ls hl H locs hM hS
      have aa0 : ad 0 0 = ad2 0 0 := (congrFun (had2 0 (by decide)) 0).symm
      have aa14 : ad 14 0 = ad2 14 0 := (congrFun (had2 14 (by decide)) 0).symm
      have aa15 : ad 15 0 = ad2 15 0 := (congrFun (had2 15 (by decide)) 0).symm
      have aa16 : ad 16 0 = ad2 16 0 := (congrFun (had2 16 (by decide)) 0).symm
      have aa17 : ad 17 0 = ad2 17 0 := (congrFun (had2 17 (by decide)) 0).symm
      have aa18 : ad 18 0 = ad2 18 0 := (congrFun (had2 18 (by decide)) 0).symm
      have aa19 : ad 19 0 = ad2 19 0 := (congrFun (had2 19 (by decide)) 0).symm
      have aa20 : ad 20 0 = ad2 20 0 := (congrFun (had2 20 (by decide)) 0).symm
      have aa21 : ad 21 0 = ad2 21 0 := (congrFun (had2 21 (by decide)) 0).symm
      have aa22 : ad 22 0 = ad2 22 0 := (congrFun (had2 22 (by decide)) 0).symm
      rw [aa0, aa14, aa15, aa16, aa17, aa18, aa19, aa20, aa21, aa22] at hl
      refine lv_istore (lv' := [(16, .int 1), (15, .int v88), (14, .int r156), (13, .int r144), (12, .int r132), (0, .ref b), (1, .ref (ad2 0 0)), (2, .ref (ad2 14 0)), (3, .ref (ad2 15 0)), (4, .ref (ad2 16 0)), (5, .ref (ad2 17 0)), (6, .ref (ad2 18 0)), (7, .ref (ad2 19 0)), (8, .ref (ad2 20 0)), (9, .ref (ad2 21 0)), (10, .ref (ad2 22 0)), (11, .int (nI t))]) hx hb dL_law_290 hl (by decide) rfl (fun ls hl => ?_)
      refine lv_iload hx hb dL_law_292 (lv_at hl 0 rfl) ?_
      refine lv_if_eq (tgt := 327) hx hb dL_law_294 (by decide) (fun c_294 => False.elim (by revert c_294; decide)) (fun c_294 => ?_)
      refine lv_aload_n hx hb dL_law_297 rfl (lv_at hl 6 rfl) ?_
      refine lv_iload hx hb dL_law_298 (lv_at hl 4 rfl) ?_
      refine lv_iconst (v := 5) hx hb dL_law_300 (by decide) ?_
      refine lv_ishr hx hb dL_law_301 ?_
      refine lv_iload hx hb dL_law_302 (lv_at hl 3 rfl) ?_
      refine lv_ixor hx hb dL_law_304 ?_
      refine lv_aload_n hx hb dL_law_305 rfl (lv_at hl 7 rfl) ?_
      refine lv_aload_n hx hb dL_law_306 rfl (lv_at hl 8 rfl) ?_
      refine lv_aload hx hb dL_law_307 (lv_at hl 9 rfl) ?_
      refine lv_aload hx hb dL_law_309 (lv_at hl 10 rfl) ?_
      refine lv_aload hx hb dL_law_311 (lv_at hl 11 rfl) ?_
      refine lv_aload hx hb dL_law_313 (lv_at hl 12 rfl) ?_
      refine lv_aload hx hb dL_law_315 (lv_at hl 13 rfl) ?_
      refine lv_aload hx hb dL_law_317 (lv_at hl 14 rfl) ?_
      refine lv_aload hx hb dL_law_319 (lv_at hl 15 rfl) ?_
      refine k_i (va_runS (As := [.ref (ad2 0 0), .int ((r132 >>> ((5 : Int32) &&& 31)) ^^^ r144), .ref (ad2 14 0), .ref (ad2 15 0), .ref (ad2 16 0), .ref (ad2 17 0), .ref (ad2 18 0), .ref (ad2 19 0), .ref (ad2 20 0), .ref (ad2 21 0), .ref (ad2 22 0)]) (rest := []) ⟨hx, hb, hml, hown, hts⟩ (c_L_isTold hnt l G M2 S2 T2 th o ex2 ad2 ((r132 >>> ((5 : Int32) &&& 31)) ^^^ r144) hw2 hi2 hx2 hR2) (va_cwS 11 hts gL_law_L_isTold rfl rfl rfl (by decide +kernel) ⟨Nat.le_of_ble_eq_true rfl, Nat.le_of_ble_eq_true rfl⟩) (preS_of hC hS hM) rfl rfl hl.1 rfl (lv_room (Nat.le_of_ble_eq_true rfl)) dL_law_321 ⟨(by first | omega | (show _ ≤ 600074; omega) | (show _ ≤ 7301550; omega)), (by first | omega | (show _ ≤ 600074; omega) | (show _ ≤ 7301550; omega))⟩) hS (fun r321 us321 H locs hp321 hM hS => ?_)
      have hM : Hm G M2 H := hM
      have hp321 : r321 = 1 := hp321
      subst hp321
      refine lv_if_ne (tgt := 329) hx hb dL_law_324 (by decide) (fun c_324 => ?_) (fun c_324 => False.elim (by revert c_324; decide))
      refine lv_iinc (v := ((nI t) + 1)) (lv' := [(11, .int ((nI t) + 1)), (16, .int 1), (15, .int v88), (14, .int r156), (13, .int r144), (12, .int r132), (0, .ref b), (1, .ref (ad2 0 0)), (2, .ref (ad2 14 0)), (3, .ref (ad2 15 0)), (4, .ref (ad2 16 0)), (5, .ref (ad2 17 0)), (6, .ref (ad2 18 0)), (7, .ref (ad2 19 0)), (8, .ref (ad2 20 0)), (9, .ref (ad2 21 0)), (10, .ref (ad2 22 0))]) hx hb dL_law_329 hl (k := 16) rfl rfl (by decide) rfl (fun ls hl => ?_)
      refine lv_goto (tgt := 120) hx hb dL_law_332 (by decide) ?_
      refine W.widen (k := c0 + 688) (n := s0 + 3648) (by omega) (by omega) ?_
      rw [show nI t + 1 = nI (t + 1) from nI_1 t] at hl
      exact K S2 T2 ex2 ad2 M2 _ _ ls hw2 hi2 hx2 hR2 hM hS (lv_sub hl [6, 7, 8, 9, 10, 11, 12, 13, 14, 15, 16, 0] rfl)
    refine lv_iload hx hb dL_law_190 (lv_at hl 0 rfl) ?_
    refine lv_iconst (v := 4) hx hb dL_law_192 (by decide) ?_
    refine lv_icmp_ge (tgt := 213) hx hb dL_law_193 (by decide) (fun c_193 => ?_) (fun c_193 => ?_)
    · refine lv_iload hx hb dL_law_213 (lv_at hl 0 rfl) ?_
      refine lv_bipush (v := 19) hx hb dL_law_215 (by decide) ?_
      refine lv_icmp_ge (tgt := 249) hx hb dL_law_217 (by decide) (fun c_217 => ?_) (fun c_217 => ?_)
      · refine lv_aload_n hx hb dL_law_249 rfl (lv_at hl 5 rfl) ?_
        have j273 : ∀ (dy : Nat), (1 ≤ dy) → (dy ≤ 30) → ∀ (ls : Array Slot), lv_has ls 17 [(15, .int v88), (14, .int r156), (13, .int r144), (12, .int r132), (0, .ref b), (1, .ref (ad 0 0)), (2, .ref (ad 14 0)), (3, .ref (ad 15 0)), (4, .ref (ad 16 0)), (5, .ref (ad 17 0)), (6, .ref (ad 18 0)), (7, .ref (ad 19 0)), (8, .ref (ad 20 0)), (9, .ref (ad 21 0)), (10, .ref (ad 22 0)), (11, .int (nI t))] → ∀ (H : Heap) (locs : List Loc), Hm G M H → va_S (AG G) s.heap H locs → W p l e room_1 s m #[Value.ref b] below meth c H locs (c0) (s0) (Q) (F0 m 273 ls [.int (nI dy), .ref (ad 0 0)]) := by
          intro dy hd1 hd2 ls hl H locs hM hS
          refine lv_aload_n hx hb dL_law_273 rfl (lv_at hl 6 rfl) ?_
          refine lv_aload_n hx hb dL_law_274 rfl (lv_at hl 7 rfl) ?_
          refine lv_aload hx hb dL_law_275 (lv_at hl 9 rfl) ?_
          refine lv_aload hx hb dL_law_277 (lv_at hl 10 rfl) ?_
          refine lv_aload hx hb dL_law_279 (lv_at hl 11 rfl) ?_
          refine lv_aload hx hb dL_law_281 (lv_at hl 12 rfl) ?_
          refine lv_aload hx hb dL_law_283 (lv_at hl 13 rfl) ?_
          refine lv_aload hx hb dL_law_285 (lv_at hl 14 rfl) ?_
          refine k_i (va_runS (As := [.ref (ad 0 0), .int (nI dy), .ref (ad 14 0), .ref (ad 15 0), .ref (ad 17 0), .ref (ad 18 0), .ref (ad 19 0), .ref (ad 20 0), .ref (ad 21 0), .ref (ad 22 0)]) (rest := []) ⟨hx, hb, hml, hown, hts⟩ (c_L_passes hnt l G M S T th o ex ad k9 hk9 dy hd1 hd2 hw hi hx9 hR) (va_cwS 10 hts gL_law_L_passes rfl rfl rfl (by decide +kernel) ⟨Nat.le_of_ble_eq_true rfl, Nat.le_of_ble_eq_true rfl⟩) (preS_of hC hS hM) rfl rfl hl.1 rfl (lv_room (Nat.le_of_ble_eq_true rfl)) dL_law_287 ⟨(by first | omega | (show _ ≤ 600074; omega) | (show _ ≤ 7301550; omega)), (by first | omega | (show _ ≤ 600074; omega) | (show _ ≤ 7301550; omega))⟩) hS (fun r287 us287 H locs hp287 hM hS => ?_)
          have hM : Hm G us287 H := hM
          obtain ⟨er287, S2, T2, ex2, ad2, hw2, hi2, hx2, hR2, had2⟩ := hp287
          subst er287
          exact j290 S2 T2 ex2 ad2 us287 hw2 hi2 hx2 hR2 had2 ls (lv_sub hl [0, 1, 2, 3, 4, 5, 6, 7, 8, 9, 10, 11, 12, 13, 14, 15] rfl) _ _ hM hS
        refine lv_iconst (v := 1) hx hb dL_law_250 (by decide) ?_
        refine lv_iload hx hb dL_law_251 (lv_at hl 2 rfl) ?_
        refine lv_iload hx hb dL_law_253 (lv_at hl 2 rfl) ?_
        refine lv_sipush (v := 192) hx hb dL_law_255 (by decide) ?_
        refine lv_iand hx hb dL_law_258 ?_
        refine lv_if_ne (tgt := 267) hx hb dL_law_259 (by decide) (fun c_259 => ?_) (fun c_259 => ?_)
        · refine lv_bipush (v := 6) hx hb dL_law_267 (by decide) ?_
          refine k_i (va_runS (As := [.int r144, .int 6]) (rest := [.int 1, .ref (ad 0 0)]) ⟨hx, hb, hml, hown, hts⟩ (c_L_low l G M r144 6 (by decide) (by decide)) (va_cwS 2 hts gL_law_L_low rfl rfl rfl (by decide +kernel) ⟨Nat.le_of_ble_eq_true rfl, Nat.le_of_ble_eq_true rfl⟩) (preS_of hC hS hM) rfl rfl hl.1 rfl (lv_room (Nat.le_of_ble_eq_true rfl)) dL_law_269 ⟨(by first | omega | (show _ ≤ 600074; omega) | (show _ ≤ 7301550; omega)), (by first | omega | (show _ ≤ 600074; omega) | (show _ ≤ 7301550; omega))⟩) hS (fun r269 us269 H locs hp269 hM hS => ?_)
          have hM : Hm G M H := hM
          obtain ⟨q269, hq269, e269⟩ := hp269
          subst e269
          refine lv_iadd hx hb dL_law_272 ?_
          rw [show (1 : Int32) + nI q269 = nI (1 + q269) from nI_add 1 q269]
          exact j273 (1 + q269) (by omega) (by omega) ls (lv_sub hl [0, 1, 2, 3, 4, 5, 6, 7, 8, 9, 10, 11, 12, 13, 14, 15] rfl) _ _ hM hS
        · refine lv_bipush (v := 30) hx hb dL_law_262 (by decide) ?_
          refine lv_goto (tgt := 269) hx hb dL_law_264 (by decide) ?_
          refine k_i (va_runS (As := [.int r144, .int 30]) (rest := [.int 1, .ref (ad 0 0)]) ⟨hx, hb, hml, hown, hts⟩ (c_L_low l G M r144 30 (by decide) (by decide)) (va_cwS 2 hts gL_law_L_low rfl rfl rfl (by decide +kernel) ⟨Nat.le_of_ble_eq_true rfl, Nat.le_of_ble_eq_true rfl⟩) (preS_of hC hS hM) rfl rfl hl.1 rfl (lv_room (Nat.le_of_ble_eq_true rfl)) dL_law_269 ⟨(by first | omega | (show _ ≤ 600074; omega) | (show _ ≤ 7301550; omega)), (by first | omega | (show _ ≤ 600074; omega) | (show _ ≤ 7301550; omega))⟩) hS (fun r269 us269 H locs hp269 hM hS => ?_)
          have hM : Hm G M H := hM
          obtain ⟨q269, hq269, e269⟩ := hp269
          subst e269
          refine lv_iadd hx hb dL_law_272 ?_
          rw [show (1 : Int32) + nI q269 = nI (1 + q269) from nI_add 1 q269]
          exact j273 (1 + q269) (by omega) (by omega) ls (lv_sub hl [0, 1, 2, 3, 4, 5, 6, 7, 8, 9, 10, 11, 12, 13, 14, 15] rfl) _ _ hM hS
      · refine lv_aload_n hx hb dL_law_220 rfl (lv_at hl 5 rfl) ?_
        refine lv_iload hx hb dL_law_221 (lv_at hl 0 rfl) ?_
        refine lv_iconst (v := 4) hx hb dL_law_223 (by decide) ?_
        refine lv_isub hx hb dL_law_224 ?_
        refine lv_iload hx hb dL_law_225 (lv_at hl 2 rfl) ?_
        refine lv_iload hx hb dL_law_227 (lv_at hl 1 rfl) ?_
        refine lv_aload_n hx hb dL_law_229 rfl (lv_at hl 6 rfl) ?_
        refine lv_aload_n hx hb dL_law_230 rfl (lv_at hl 7 rfl) ?_
        refine lv_aload hx hb dL_law_231 (lv_at hl 8 rfl) ?_
        refine lv_aload hx hb dL_law_233 (lv_at hl 9 rfl) ?_
        refine lv_aload hx hb dL_law_235 (lv_at hl 10 rfl) ?_
        refine lv_aload hx hb dL_law_237 (lv_at hl 11 rfl) ?_
        refine lv_aload hx hb dL_law_239 (lv_at hl 12 rfl) ?_
        refine lv_aload hx hb dL_law_241 (lv_at hl 14 rfl) ?_
        refine k_i (va_runS (As := [.ref (ad 0 0), .int (v88 - 4), .int r144, .int r156, .ref (ad 14 0), .ref (ad 15 0), .ref (ad 16 0), .ref (ad 17 0), .ref (ad 18 0), .ref (ad 19 0), .ref (ad 20 0), .ref (ad 22 0)]) (rest := []) ⟨hx, hb, hml, hown, hts⟩ (c_L_deals hnt l G M S T th o ex ad (v88 - 4) r144 r156 hw hi hx9 hR) (va_cwS 12 hts gL_law_L_deals rfl rfl rfl (by decide +kernel) ⟨Nat.le_of_ble_eq_true rfl, Nat.le_of_ble_eq_true rfl⟩) (preS_of hC hS hM) rfl rfl hl.1 rfl (lv_room (Nat.le_of_ble_eq_true rfl)) dL_law_243 ⟨(by first | omega | (show _ ≤ 600074; omega) | (show _ ≤ 7301550; omega)), (by first | omega | (show _ ≤ 600074; omega) | (show _ ≤ 7301550; omega))⟩) hS (fun r243 us243 H locs hp243 hM hS => ?_)
        have hM : Hm G us243 H := hM
        obtain ⟨er243, S2, T2, ex2, ad2, hw2, hi2, hx2, hR2, had2⟩ := hp243
        subst er243
        refine lv_goto (tgt := 290) hx hb dL_law_246 (by decide) ?_
        refine W.widen (k := c0 + 168) (n := s0 + 528) ((by first | omega | (show _ ≤ 600074; omega) | (show _ ≤ 7301550; omega))) ((by first | omega | (show _ ≤ 600074; omega) | (show _ ≤ 7301550; omega))) ?_
        exact j290 S2 T2 ex2 ad2 us243 hw2 hi2 hx2 hR2 had2 ls (lv_sub hl [0, 1, 2, 3, 4, 5, 6, 7, 8, 9, 10, 11, 12, 13, 14, 15] rfl) _ _ hM hS
    · refine lv_aload_n hx hb dL_law_196 rfl (lv_at hl 5 rfl) ?_
      refine lv_iload hx hb dL_law_197 (lv_at hl 0 rfl) ?_
      refine lv_iload hx hb dL_law_199 (lv_at hl 2 rfl) ?_
      refine lv_iload hx hb dL_law_201 (lv_at hl 1 rfl) ?_
      refine lv_aload hx hb dL_law_203 (lv_at hl 11 rfl) ?_
      refine lv_aload hx hb dL_law_205 (lv_at hl 14 rfl) ?_
      refine k_i (va_runS (As := [.ref (ad 0 0), .int v88, .int r144, .int r156, .ref (ad 19 0), .ref (ad 22 0)]) (rest := []) ⟨hx, hb, hml, hown, hts⟩ (c_L_markets hnt l G M S T th o ex ad v88 r144 r156 hw hi hx9 hR) (va_cwS 6 hts gL_law_L_markets rfl rfl rfl (by decide +kernel) ⟨Nat.le_of_ble_eq_true rfl, Nat.le_of_ble_eq_true rfl⟩) (preS_of hC hS hM) rfl rfl hl.1 rfl (lv_room (Nat.le_of_ble_eq_true rfl)) dL_law_207 ⟨(by first | omega | (show _ ≤ 600074; omega) | (show _ ≤ 7301550; omega)), (by first | omega | (show _ ≤ 600074; omega) | (show _ ≤ 7301550; omega))⟩) hS (fun r207 us207 H locs hp207 hM hS => ?_)
      have hM : Hm G us207 H := hM
      obtain ⟨er207, S2, T2, ex2, ad2, hw2, hi2, hx2, hR2, had2⟩ := hp207
      subst er207
      refine lv_goto (tgt := 290) hx hb dL_law_210 (by decide) ?_
      refine W.widen (k := c0 + 168) (n := s0 + 528) ((by first | omega | (show _ ≤ 600074; omega) | (show _ ≤ 7301550; omega))) ((by first | omega | (show _ ≤ 600074; omega) | (show _ ≤ 7301550; omega))) ?_
      exact j290 S2 T2 ex2 ad2 us207 hw2 hi2 hx2 hR2 had2 ls (lv_sub hl [0, 1, 2, 3, 4, 5, 6, 7, 8, 9, 10, 11, 12, 13, 14, 15] rfl) _ _ hM hS
  refine lv_iload hx hb dL_law_161 (lv_at hl 14 rfl) ?_
  refine lv_iconst (v := 2) hx hb dL_law_163 (by decide) ?_
  refine lv_icmp_ge (tgt := 171) hx hb dL_law_164 (by decide) (fun c_164 => ?_) (fun c_164 => ?_)
  · refine lv_iload hx hb dL_law_171 (lv_at hl 14 rfl) ?_
    refine lv_iconst (v := 5) hx hb dL_law_173 (by decide) ?_
    refine lv_icmp_ge (tgt := 181) hx hb dL_law_174 (by decide) (fun c_174 => ?_) (fun c_174 => ?_)
    · refine lv_iload hx hb dL_law_181 (lv_at hl 2 rfl) ?_
      refine lv_bipush (v := 24) hx hb dL_law_183 (by decide) ?_
      refine k_i (va_runS (As := [.int r132, .int 24]) (rest := []) ⟨hx, hb, hml, hown, hts⟩ (c_L_low l G M r132 24 (by decide) (by decide)) (va_cwS 2 hts gL_law_L_low rfl rfl rfl (by decide +kernel) ⟨Nat.le_of_ble_eq_true rfl, Nat.le_of_ble_eq_true rfl⟩) (preS_of hC hS hM) rfl rfl hl.1 rfl (lv_room (Nat.le_of_ble_eq_true rfl)) dL_law_185 ⟨(by first | omega | (show _ ≤ 600074; omega) | (show _ ≤ 7301550; omega)), (by first | omega | (show _ ≤ 600074; omega) | (show _ ≤ 7301550; omega))⟩) hS (fun r185 us185 H locs hp185 hM hS => ?_)
      have hM : Hm G M H := hM
      obtain ⟨q185, hq185, e185⟩ := hp185
      subst e185
      exact j188 (nI q185) ls (lv_sub hl [0, 1, 2, 3, 4, 5, 6, 7, 8, 9, 10, 11, 12, 13, 14] rfl) _ _ hM hS
    · refine lv_iconst (v := 4) hx hb dL_law_177 (by decide) ?_
      refine lv_goto (tgt := 188) hx hb dL_law_178 (by decide) ?_
      exact j188 4 ls (lv_sub hl [0, 1, 2, 3, 4, 5, 6, 7, 8, 9, 10, 11, 12, 13, 14] rfl) _ _ hM hS
  · refine lv_iconst (v := 1) hx hb dL_law_167 (by decide) ?_
    refine lv_goto (tgt := 188) hx hb dL_law_168 (by decide) ?_
    exact j188 1 ls (lv_sub hl [0, 1, 2, 3, 4, 5, 6, 7, 8, 9, 10, 11, 12, 13, 14] rfl) _ _ hM hS
set_option maxHeartbeats 4000000 in
set_option maxRecDepth 100000 in
theorem law_loop {p : Program} {l : Launch} (hnt : l.stackTraces = false) {e : Env} {s : State} {m : MethodId} {below : List Frame} {meth : Method} {c : Code} {b L : Nat} {xs : Nat → Int32} (hL : L ≤ 260) (C0 : lw_At p s m meth c b L xs) {G : Gx} (k9 : Nat) (hk9 : k9 = 20) (hC : Cx G s) (hG : G.2.2 = s.heap.size) (th : Int32) (o : Int64) :
    ∀ (n t : Nat), t + n = 110 → ∀ (S T : Sd) (ex : Nat → Option (Nat × Nat)) (ad : Nat → Nat → Nat) (M : Mp) (H : Heap) (locs : List Loc) (ls : Array Slot), WA G S T th o ex ad M → Iv S → Ix S ex → Rel S T → Hm G M H → va_S (AG G) s.heap H locs → lv_has ls 17 [(0, .ref b), (1, .ref (ad 0 0)), (2, .ref (ad 14 0)), (3, .ref (ad 15 0)), (4, .ref (ad 16 0)), (5, .ref (ad 17 0)), (6, .ref (ad 18 0)), (7, .ref (ad 19 0)), (8, .ref (ad 20 0)), (9, .ref (ad 21 0)), (10, .ref (ad 22 0)), (11, .int (nI t))] → W p l e room_1 s m #[Value.ref b] below meth c H locs (600 + 688 * t) (10000 + 3648 * t) (lw_Z below #[Value.ref b] s) (F0 m 120 ls []) := by
  obtain ⟨hx, hb, hr, hml, hown, hts0, hX, hbl, hlocks, hgv⟩ := id C0
  intro n
  induction n with
  | zero =>
    intro t ht S T ex ad M H locs ls hw hi hx9 hR hM hS hl
    refine lv_iload hx hb dL_law_120 (lv_at hl 11 rfl) ?_
    refine lv_bipush (v := 110) hx hb dL_law_122 (by decide) ?_
    refine lv_icmp_ge (tgt := 335) hx hb dL_law_124 (by decide) (fun c_124 => ?_) (fun c_124 => False.elim (c_124 (nI_le (a := 110) (by omega) (by omega))))
    refine lv_iconst (v := 1) hx hb dL_law_335 (by decide) ?_
    refine va_forget (fun q hq => by have h9 := hS.2.2 q hq; rw [← hG]; exact h9) ?_
    refine W.widen (k := 600074) (n := 7301550) (by omega) (by omega) ?_
    exact lw_ret hx hb hr hlocks dL_law_336
  | succ n ih =>
    intro t ht S T ex ad M H locs ls hw hi hx9 hR hM hS hl
    refine lv_iload hx hb dL_law_120 (lv_at hl 11 rfl) ?_
    refine lv_bipush (v := 110) hx hb dL_law_122 (by decide) ?_
    refine lv_icmp_ge (tgt := 335) hx hb dL_law_124 (by decide) (fun c_124 => False.elim (nI_ge (a := t) (b := 110) (by omega) (by decide) c_124)) (fun c_124 => ?_)
    refine law_turn hnt hL C0 k9 hk9 hC hG (by omega) hw hi hx9 hR (by omega) (by omega) (fun S2 T2 ex2 ad2 M2 H locs ls hw2 hi2 hx2 hR2 hM hS hl => ?_) ls hl H locs hM hS
    refine W.widen (k := 600 + 688 * (t + 1)) (n := 10000 + 3648 * (t + 1)) (by omega) (by omega) ?_
    exact ih (t + 1) (by omega) S2 T2 ex2 ad2 M2 H locs ls hw2 hi2 hx2 hR2 hM hS hl
