set_option maxHeartbeats 4000000 in
set_option maxRecDepth 100000 in
theorem law_14 {p : Program} {l : Launch} (hnt : l.stackTraces = false) {e : Env} {s : State} {m : MethodId} {below : List Frame} {meth : Method} {c : Code} {b L : Nat} {xs : Nat → Int32} (C0 : lw_At p s m meth c b L xs) {G : Gx} {T : Sd} {th : Int32} {o : Int64} {ex : Nat → Option (Nat × Nat)} {ad : Nat → Nat → Nat} {M : Mp} {c0 s0 : Nat} {x4 : Int32} {Q : State → Prop} (hC : Cx G s) (hG : G.2.2 = s.heap.size) (hi : Iv T) (hx9 : Ix T ex) (hw : WA G T T th o ex ad M) (hc0 : c0 + 42 ≤ 601024) (hs0 : s0 + 132 ≤ 7293034)
    (K : ∀ (T' : Sd) (th' : Int32) (o' : Int64) (ex' : Nat → Option (Nat × Nat)) (ad' : Nat → Nat → Nat) (M' : Mp) (H : Heap) (locs : List Loc) (ls : Array Slot), Iv T' → Ix T' ex' → WA G T' T' th' o' ex' ad' M' → Hm G M' H → va_S (AG G) s.heap H locs → lv_has ls 8 [(0, .ref b), (1, .ref (ad' 0 0)), (2, .ref (ad' 14 0)), (3, .ref (ad' 28 0)), (4, .int x4)] → W p l e room_1 s m #[Value.ref b] below meth c H locs (c0 + 42) (s0 + 132) Q (F0 m 1326 ls [])) (ls : Array Slot) (hl : lv_has ls 8 [(0, .ref b), (1, .ref (ad 0 0)), (2, .ref (ad 14 0)), (3, .ref (ad 28 0)), (4, .int x4)]) (H : Heap) (locs : List Loc) (hM : Hm G M H) (hS : va_S (AG G) s.heap H locs) : W p l e room_1 s m #[Value.ref b] below meth c H locs c0 s0 Q (F0 m 1098 ls []) := by
  obtain ⟨hx, hb, hr, hml, hown, hts0, hX, hbl, hlocks, hgv⟩ := id C0
  have hts := fun w h => hts0 w (wsL_law_in w h)
  have f0 : M (ad 0 0) = some (.inr (5, [.ref (ad 1 0), .ref (ad 3 0), .ref (ad 5 0), .ref (ad 10 0), .int (T.1 5 0)])) := hw.1 0 0 _ rfl
  have f14 : M (ad 14 0) = some (.inr (6, [.int th, .int (T.1 0 0), .ref (ad 15 0), .ref (ad 16 0), .ref (ad 17 0), .ref (ad 18 0), .int (T.1 5 0), .ref (ad 19 0), .ref (ad 20 0), .ref (ad 21 0), .ref (ad 22 0), .ref (ad 23 0), .ref (ad 24 0), .ref (ad 25 0), .ref (ad 26 0), .ref (ad 27 0)])) := hw.1 14 0 _ rfl
  refine lv_aload_n hx hb dL_law_1098 rfl (lv_at hl 1 rfl) ?_
  refine k_i (va_runV (As := []) (rest := []) ⟨hx, hb, hml, hown, hts⟩ (c_X5_settlementDay l G M T T th o ex ad hw hi) (cwV 0 hts gL_law_X5_settlementDay rfl rfl rfl (by decide +kernel) ⟨Nat.le_of_ble_eq_true rfl, Nat.le_of_ble_eq_true rfl⟩) (preV_of hC hS hM f0 rfl) rfl rfl hl.1 rfl (lv_room (Nat.le_of_ble_eq_true rfl)) dL_law_1099 ⟨(by first | omega | (show _ ≤ 601024; omega) | (show _ ≤ 7293034; omega)), (by first | omega | (show _ ≤ 601024; omega) | (show _ ≤ 7293034; omega))⟩) hS (fun r1099 u1099 H locs hp1099 hM hS => ?_)
  have hM : Hm G M H := hM
  have hp1099 : r1099 = (sd T) := hp1099
  subst hp1099
  refine lv_aload_n hx hb dL_law_1102 rfl (lv_at hl 2 rfl) ?_
  refine k_i (va_runV (As := []) (rest := [.int (sd T)]) ⟨hx, hb, hml, hown, hts⟩ (c_X6_settlementDay l G M T T th o ex ad hw hi) (cwV 0 hts gL_law_X6_settlementDay rfl rfl rfl (by decide +kernel) ⟨Nat.le_of_ble_eq_true rfl, Nat.le_of_ble_eq_true rfl⟩) (preV_of hC hS hM f14 rfl) rfl rfl hl.1 rfl (lv_room (Nat.le_of_ble_eq_true rfl)) dL_law_1103 ⟨(by first | omega | (show _ ≤ 601024; omega) | (show _ ≤ 7293034; omega)), (by first | omega | (show _ ≤ 601024; omega) | (show _ ≤ 7293034; omega))⟩) hS (fun r1103 u1103 H locs hp1103 hM hS => ?_)
  obtain ⟨er2, hw2⟩ := hp1103
  have hM : Hm G u1103 H := hM
  subst er2
  refine lv_icmp_eq (tgt := 1326) hx hb dL_law_1106 (by decide) (fun c_1106 => ?_) (fun c_1106 => False.elim (by exact c_1106 rfl))
  refine W.widen (k := c0 + 42) (n := s0 + 132) (by omega) (by omega) ?_
  exact K T 0 o ex ad _ _ _ ls hi hx9 hw2 hM hS hl
set_option maxHeartbeats 4000000 in
set_option maxRecDepth 100000 in
theorem law_18 {p : Program} {l : Launch} (hnt : l.stackTraces = false) {e : Env} {s : State} {m : MethodId} {below : List Frame} {meth : Method} {c : Code} {b L : Nat} {xs : Nat → Int32} (C0 : lw_At p s m meth c b L xs) {G : Gx} {T : Sd} {th : Int32} {o : Int64} {ex : Nat → Option (Nat × Nat)} {ad : Nat → Nat → Nat} {M : Mp} {c0 s0 : Nat} {x4 : Int32} {Q : State → Prop} (hC : Cx G s) (hG : G.2.2 = s.heap.size) (hi : Iv T) (hx9 : Ix T ex) (hw : WA G T T th o ex ad M) (hc0 : c0 + 42 ≤ 601024) (hs0 : s0 + 132 ≤ 7293034)
    (K : ∀ (T' : Sd) (th' : Int32) (o' : Int64) (ex' : Nat → Option (Nat × Nat)) (ad' : Nat → Nat → Nat) (M' : Mp) (H : Heap) (locs : List Loc) (ls : Array Slot), Iv T' → Ix T' ex' → WA G T' T' th' o' ex' ad' M' → Hm G M' H → va_S (AG G) s.heap H locs → lv_has ls 8 [(0, .ref b), (1, .ref (ad' 0 0)), (2, .ref (ad' 14 0)), (3, .ref (ad' 28 0)), (4, .int x4)] → W p l e room_1 s m #[Value.ref b] below meth c H locs (c0 + 42) (s0 + 132) Q (F0 m 1326 ls [])) (ls : Array Slot) (hl : lv_has ls 8 [(0, .ref b), (1, .ref (ad 0 0)), (2, .ref (ad 14 0)), (3, .ref (ad 28 0)), (4, .int x4)]) (H : Heap) (locs : List Loc) (hM : Hm G M H) (hS : va_S (AG G) s.heap H locs) : W p l e room_1 s m #[Value.ref b] below meth c H locs c0 s0 Q (F0 m 1313 ls []) := by
  obtain ⟨hx, hb, hr, hml, hown, hts0, hX, hbl, hlocks, hgv⟩ := id C0
  have hts := fun w h => hts0 w (wsL_law_in w h)
  have f0 : M (ad 0 0) = some (.inr (5, [.ref (ad 1 0), .ref (ad 3 0), .ref (ad 5 0), .ref (ad 10 0), .int (T.1 5 0)])) := hw.1 0 0 _ rfl
  have f14 : M (ad 14 0) = some (.inr (6, [.int th, .int (T.1 0 0), .ref (ad 15 0), .ref (ad 16 0), .ref (ad 17 0), .ref (ad 18 0), .int (T.1 5 0), .ref (ad 19 0), .ref (ad 20 0), .ref (ad 21 0), .ref (ad 22 0), .ref (ad 23 0), .ref (ad 24 0), .ref (ad 25 0), .ref (ad 26 0), .ref (ad 27 0)])) := hw.1 14 0 _ rfl
  refine lv_aload_n hx hb dL_law_1313 rfl (lv_at hl 1 rfl) ?_
  refine k_i (va_runV (As := []) (rest := []) ⟨hx, hb, hml, hown, hts⟩ (c_X5_today l G M T T th o ex ad hw hi) (cwV 0 hts gL_law_X5_today rfl rfl rfl (by decide +kernel) ⟨Nat.le_of_ble_eq_true rfl, Nat.le_of_ble_eq_true rfl⟩) (preV_of hC hS hM f0 rfl) rfl rfl hl.1 rfl (lv_room (Nat.le_of_ble_eq_true rfl)) dL_law_1314 ⟨(by first | omega | (show _ ≤ 601024; omega) | (show _ ≤ 7293034; omega)), (by first | omega | (show _ ≤ 601024; omega) | (show _ ≤ 7293034; omega))⟩) hS (fun r1314 u1314 H locs hp1314 hM hS => ?_)
  have hM : Hm G M H := hM
  have hp1314 : r1314 = (T.1 0 0) := hp1314
  subst hp1314
  refine lv_aload_n hx hb dL_law_1317 rfl (lv_at hl 2 rfl) ?_
  refine k_i (va_runV (As := []) (rest := [.int (T.1 0 0)]) ⟨hx, hb, hml, hown, hts⟩ (c_X6_today l G M T T th o ex ad hw) (cwV 0 hts gL_law_X6_today rfl rfl rfl (by decide +kernel) ⟨Nat.le_of_ble_eq_true rfl, Nat.le_of_ble_eq_true rfl⟩) (preV_of hC hS hM f14 rfl) rfl rfl hl.1 rfl (lv_room (Nat.le_of_ble_eq_true rfl)) dL_law_1318 ⟨(by first | omega | (show _ ≤ 601024; omega) | (show _ ≤ 7293034; omega)), (by first | omega | (show _ ≤ 601024; omega) | (show _ ≤ 7293034; omega))⟩) hS (fun r1318 u1318 H locs hp1318 hM hS => ?_)
  obtain ⟨er2, hw2⟩ := hp1318
  have hM : Hm G u1318 H := hM
  subst er2
  refine lv_icmp_eq (tgt := 1326) hx hb dL_law_1321 (by decide) (fun c_1321 => ?_) (fun c_1321 => False.elim (by exact c_1321 rfl))
  refine W.widen (k := c0 + 42) (n := s0 + 132) (by omega) (by omega) ?_
  exact K T 0 o ex ad _ _ _ ls hi hx9 hw2 hM hS hl
