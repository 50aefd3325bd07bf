set_option maxHeartbeats 4000000 in
set_option maxRecDepth 100000 in
theorem law_0 {p : Program} {l : Launch} (hnt : l.stackTraces = false) {e : Env} {s : State} {m : MethodId} {below : List Frame} {meth : Method} {c : Code} {b L : Nat} {xs : Nat → Int32} (C0 : lw_At p s m meth c b L xs) {G : Gx} {T : Sd} {th : Int32} {o : Int64} {ex : Nat → Option (Nat × Nat)} {ad : Nat → Nat → Nat} {M : Mp} {c0 s0 : Nat} {x4 : Int32} {Q : State → Prop} (k9 : Nat) (hk9 : k9 = 20) (hC : Cx G s) (hG : G.2.2 = s.heap.size) (hi : Iv T) (hx9 : Ix T ex) (hw : WA G T T th o ex ad M) (hc0 : c0 + 42 ≤ 601024) (hs0 : s0 + 132 ≤ 7293034) (h_1 : vp_in (x4 + 1) L) (h_2 : vp_in (x4 + 2) L) (h_3 : vp_in (x4 + 3) L) (h_4 : vp_in (x4 + 4) L) (h_5 : vp_in (x4 + 5) L) (h_6 : vp_in (x4 + 6) L)
    (K : ∀ (T' : Sd) (th' : Int32) (o' : Int64) (ex' : Nat → Option (Nat × Nat)) (ad' : Nat → Nat → Nat) (M' : Mp) (H : Heap) (locs : List Loc) (ls : Array Slot), Iv T' → Ix T' ex' → WA G T' T' th' o' ex' ad' M' → Hm G M' H → va_S (AG G) s.heap H locs → lv_has ls 8 [(0, .ref b), (1, .ref (ad' 0 0)), (2, .ref (ad' 14 0)), (3, .ref (ad' 28 0)), (4, .int x4)] → W p l e room_1 s m #[Value.ref b] below meth c H locs (c0 + 42) (s0 + 132) Q (F0 m 1326 ls [])) (ls : Array Slot) (hl : lv_has ls 8 [(0, .ref b), (1, .ref (ad 0 0)), (2, .ref (ad 14 0)), (3, .ref (ad 28 0)), (4, .int x4)]) (H : Heap) (locs : List Loc) (hM : Hm G M H) (hS : va_S (AG G) s.heap H locs) : W p l e room_1 s m #[Value.ref b] below meth c H locs c0 s0 Q (F0 m 132 ls []) := by
  obtain ⟨hx, hb, hr, hml, hown, hts0, hX, hbl, hlocks, hgv⟩ := id C0
  have hts := fun w h => hts0 w (wsL_law_in w h)
  have hbA : ¬ AG G b := by show ¬ G.2.2 ≤ b; rw [hG]; exact Nat.not_le.mpr hbl
  refine lv_aload_n hx hb dL_law_132 rfl (lv_at hl 1 rfl) ?_
  refine lv_aload_n hx hb dL_law_133 rfl (lv_at hl 0 rfl) ?_
  refine lv_iload hx hb dL_law_134 (lv_at hl 4 rfl) ?_
  refine lv_iconst (v := 1) hx hb dL_law_136 (by decide) ?_
  refine lv_iadd hx hb dL_law_137 ?_
  refine va_sld hx hb hX hbl hbA hS h_1 dL_law_138 ?_
  refine lv_aload_n hx hb dL_law_139 rfl (lv_at hl 0 rfl) ?_
  refine lv_iload hx hb dL_law_140 (lv_at hl 4 rfl) ?_
  refine lv_iconst (v := 2) hx hb dL_law_142 (by decide) ?_
  refine lv_iadd hx hb dL_law_143 ?_
  refine va_sld hx hb hX hbl hbA hS h_2 dL_law_144 ?_
  refine lv_aload_n hx hb dL_law_145 rfl (lv_at hl 3 rfl) ?_
  refine k_i (vx_runSW (As := [.ref (ad 0 0), .int (xs (x4 + 1).toNatClampNeg), .int (xs (x4 + 2).toNatClampNeg), .ref (ad 28 0)]) (rest := []) ⟨hx, hb, hml, hown, hts⟩ (c_L_setRate hnt l G M T T th o ex ad (xs (x4 + 1).toNatClampNeg) (xs (x4 + 2).toNatClampNeg) hw hi) (vx_cwSW 4 hts gL_law_L_setRate rfl rfl rfl (by decide +kernel) ⟨Nat.le_of_ble_eq_true rfl, Nat.le_of_ble_eq_true rfl⟩) (preS_of hC hS hM) rfl rfl hl.1 rfl (lv_room (Nat.le_of_ble_eq_true rfl)) dL_law_146 ⟨(by first | omega | (show _ ≤ 601024; omega) | (show _ ≤ 7293034; omega)), (by first | omega | (show _ ≤ 601024; omega) | (show _ ≤ 7293034; omega))⟩) hS (fun r146 u146 H locs hp146 hM hS => ?_)
  have hM : Hm G u146 H := hM
  rcases hp146 with ⟨er, z1, hw1⟩ | ⟨er, ⟨z1, z2⟩, hw1⟩ | ⟨er, ⟨z1, z2⟩, hw1⟩
  · subst er
    have go1 : u146 (ad 28 0) = some (.inl (G.2.1 1, 1, .inr (.inl (fun _ => o)))) := hw1.1 28 0 _ rfl
    have gm1 : u146 (ad 14 0) = some (.inr (6, [.int th, .int (T.1 0 0), .ref (ad 15 0), .ref (ad 16 0), .ref (ad 17 0), .ref (ad 18 0), .int (T.1 5 0), .ref (ad 19 0), .ref (ad 20 0), .ref (ad 21 0), .ref (ad 22 0), .ref (ad 23 0), .ref (ad 24 0), .ref (ad 25 0), .ref (ad 26 0), .ref (ad 27 0)])) := hw1.1 14 0 _ rfl
    refine lv_istore (lv' := [(5, .int 1), (0, .ref b), (1, .ref (ad 0 0)), (2, .ref (ad 14 0)), (3, .ref (ad 28 0)), (4, .int x4)]) hx hb dL_law_149 hl (by decide) rfl (fun ls hl => ?_)
    refine lv_aload_n hx hb dL_law_151 rfl (lv_at hl 3 rfl) ?_
    refine lv_aload_n hx hb dL_law_152 rfl (lv_at hl 1 rfl) ?_
    refine lv_iload hx hb dL_law_153 (lv_at hl 5 rfl) ?_
    refine lv_iconst (v := 1) hx hb dL_law_155 (by decide) ?_
    refine lv_iadd hx hb dL_law_156 ?_
    refine va_sld hx hb hX hbl hbA hS h_1 dL_law_157 ?_
    refine lv_aload_n hx hb dL_law_158 rfl (lv_at hl 1 rfl) ?_
    refine lv_iload hx hb dL_law_159 (lv_at hl 5 rfl) ?_
    refine lv_iconst (v := 2) hx hb dL_law_161 (by decide) ?_
    refine lv_iadd hx hb dL_law_162 ?_
    refine va_sld hx hb hX hbl hbA hS h_2 dL_law_163 ?_
    refine k_i (va_runV (As := [.int (xs (x4 + 1).toNatClampNeg), .int (xs (x4 + 2).toNatClampNeg)]) (rest := []) ⟨hx, hb, hml, hown, hts⟩ (c_X6_setRate l G u146 T T th o ex ad (xs (x4 + 1).toNatClampNeg) (xs (x4 + 2).toNatClampNeg) hw1) (cwV 2 hts gL_law_X6_setRate rfl rfl rfl (by decide +kernel) ⟨Nat.le_of_ble_eq_true rfl, Nat.le_of_ble_eq_true rfl⟩) (preV_of hC hS hM gm1 rfl) rfl rfl hl.1 rfl (lv_room (Nat.le_of_ble_eq_true rfl)) dL_law_164 ⟨(by first | omega | (show _ ≤ 601024; omega) | (show _ ≤ 7293034; omega)), (by first | omega | (show _ ≤ 601024; omega) | (show _ ≤ 7293034; omega))⟩) hS (fun r164 u164 H locs hp164 hM hS => ?_)
    have hM : Hm G u164 H := hM
    rcases hp164 with ⟨y1, hw2⟩ | ⟨y1, y2, hw2⟩ | ⟨y1, y2, er2, hw2⟩
    · have hMk : Hm G u164 H := hM
      have go2 : u164 (ad 28 0) = some (.inl (G.2.1 1, 1, .inr (.inl (fun _ => o)))) := hw2.1 28 0 _ rfl
      have gm2 : u164 (ad 14 0) = some (.inr (6, [.int 1, .int (T.1 0 0), .ref (ad 15 0), .ref (ad 16 0), .ref (ad 17 0), .ref (ad 18 0), .int (T.1 5 0), .ref (ad 19 0), .ref (ad 20 0), .ref (ad 21 0), .ref (ad 22 0), .ref (ad 23 0), .ref (ad 24 0), .ref (ad 25 0), .ref (ad 26 0), .ref (ad 27 0)])) := hw2.1 14 0 _ rfl
      refine lv_istore (lv' := [(6, .int r164), (5, .int 1), (0, .ref b), (1, .ref (ad 0 0)), (2, .ref (ad 14 0)), (3, .ref (ad 28 0)), (4, .int x4)]) hx hb dL_law_167 hl (by decide) rfl (fun ls hl => ?_)
      refine lv_aload_n hx hb dL_law_169 rfl (lv_at hl 4 rfl) ?_
      refine k_i (va_runV (As := []) (rest := []) ⟨hx, hb, hml, hown, hts⟩ (c_X6_thrown l G u164 T T 1 o ex ad hw2) (cwV 0 hts gL_law_X6_thrown rfl rfl rfl (by decide +kernel) ⟨Nat.le_of_ble_eq_true rfl, Nat.le_of_ble_eq_true rfl⟩) (preV_of hC hS hM gm2 rfl) rfl rfl hl.1 rfl (lv_room (Nat.le_of_ble_eq_true rfl)) dL_law_170 ⟨(by first | omega | (show _ ≤ 601024; omega) | (show _ ≤ 7293034; omega)), (by first | omega | (show _ ≤ 601024; omega) | (show _ ≤ 7293034; omega))⟩) hS (fun r170 u170 H locs hp170 hM hS => ?_)
      have hM : Hm G u164 H := hM
      have hp170 : r170 = 1 := hp170
      subst hp170
      refine lv_iload hx hb dL_law_173 (lv_at hl 1 rfl) ?_
      refine lv_icmp_eq (tgt := 180) hx hb dL_law_175 (by decide) (fun c_175 => ?_) (fun c_175 => False.elim (by revert c_175; decide))
      refine lv_iload hx hb dL_law_180 (lv_at hl 1 rfl) ?_
      refine lv_if_ne (tgt := 197) hx hb dL_law_182 (by decide) (fun c_182 => ?_) (fun c_182 => False.elim (by revert c_182; decide))
      refine lv_goto (tgt := 1326) hx hb dL_law_197 (by decide) ?_
      refine W.widen (k := c0 + 42) (n := s0 + 132) (by omega) (by omega) ?_
      exact K T 1 o ex ad _ _ _ ls hi hx9 hw2 hM hS (lv_sub hl [2, 3, 4, 5, 6] rfl)
    · exact False.elim (by first | exact absurd z1 y1 | exact absurd y1 z1)
    · exact False.elim (by first | exact absurd z1 y1 | exact absurd y1 z1)
  · subst er
    have go5 : u146 (ad 28 0) = some (.inl (G.2.1 1, 1, .inr (.inl (fun _ => o)))) := hw1.1 28 0 _ rfl
    have gm5 : u146 (ad 14 0) = some (.inr (6, [.int th, .int (T.1 0 0), .ref (ad 15 0), .ref (ad 16 0), .ref (ad 17 0), .ref (ad 18 0), .int (T.1 5 0), .ref (ad 19 0), .ref (ad 20 0), .ref (ad 21 0), .ref (ad 22 0), .ref (ad 23 0), .ref (ad 24 0), .ref (ad 25 0), .ref (ad 26 0), .ref (ad 27 0)])) := hw1.1 14 0 _ rfl
    refine lv_istore (lv' := [(5, .int 2), (0, .ref b), (1, .ref (ad 0 0)), (2, .ref (ad 14 0)), (3, .ref (ad 28 0)), (4, .int x4)]) hx hb dL_law_149 hl (by decide) rfl (fun ls hl => ?_)
    refine lv_aload_n hx hb dL_law_151 rfl (lv_at hl 3 rfl) ?_
    refine lv_aload_n hx hb dL_law_152 rfl (lv_at hl 1 rfl) ?_
    refine lv_iload hx hb dL_law_153 (lv_at hl 5 rfl) ?_
    refine lv_iconst (v := 1) hx hb dL_law_155 (by decide) ?_
    refine lv_iadd hx hb dL_law_156 ?_
    refine va_sld hx hb hX hbl hbA hS h_1 dL_law_157 ?_
    refine lv_aload_n hx hb dL_law_158 rfl (lv_at hl 1 rfl) ?_
    refine lv_iload hx hb dL_law_159 (lv_at hl 5 rfl) ?_
    refine lv_iconst (v := 2) hx hb dL_law_161 (by decide) ?_
    refine lv_iadd hx hb dL_law_162 ?_
    refine va_sld hx hb hX hbl hbA hS h_2 dL_law_163 ?_
    refine k_i (va_runV (As := [.int (xs (x4 + 1).toNatClampNeg), .int (xs (x4 + 2).toNatClampNeg)]) (rest := []) ⟨hx, hb, hml, hown, hts⟩ (c_X6_setRate l G u146 T T th o ex ad (xs (x4 + 1).toNatClampNeg) (xs (x4 + 2).toNatClampNeg) hw1) (cwV 2 hts gL_law_X6_setRate rfl rfl rfl (by decide +kernel) ⟨Nat.le_of_ble_eq_true rfl, Nat.le_of_ble_eq_true rfl⟩) (preV_of hC hS hM gm5 rfl) rfl rfl hl.1 rfl (lv_room (Nat.le_of_ble_eq_true rfl)) dL_law_164 ⟨(by first | omega | (show _ ≤ 601024; omega) | (show _ ≤ 7293034; omega)), (by first | omega | (show _ ≤ 601024; omega) | (show _ ≤ 7293034; omega))⟩) hS (fun r164 u164 H locs hp164 hM hS => ?_)
    have hM : Hm G u164 H := hM
    rcases hp164 with ⟨y1, hw2⟩ | ⟨y1, y2, hw2⟩ | ⟨y1, y2, er2, hw2⟩
    · exact False.elim (by first | exact absurd z1 y1 | exact absurd y1 z1)
    · have hMk : Hm G u164 H := hM
      have go6 : u164 (ad 28 0) = some (.inl (G.2.1 1, 1, .inr (.inl (fun _ => o)))) := hw2.1 28 0 _ rfl
      have gm6 : u164 (ad 14 0) = some (.inr (6, [.int 2, .int (T.1 0 0), .ref (ad 15 0), .ref (ad 16 0), .ref (ad 17 0), .ref (ad 18 0), .int (T.1 5 0), .ref (ad 19 0), .ref (ad 20 0), .ref (ad 21 0), .ref (ad 22 0), .ref (ad 23 0), .ref (ad 24 0), .ref (ad 25 0), .ref (ad 26 0), .ref (ad 27 0)])) := hw2.1 14 0 _ rfl
      refine lv_istore (lv' := [(6, .int r164), (5, .int 2), (0, .ref b), (1, .ref (ad 0 0)), (2, .ref (ad 14 0)), (3, .ref (ad 28 0)), (4, .int x4)]) hx hb dL_law_167 hl (by decide) rfl (fun ls hl => ?_)
      refine lv_aload_n hx hb dL_law_169 rfl (lv_at hl 4 rfl) ?_
      refine k_i (va_runV (As := []) (rest := []) ⟨hx, hb, hml, hown, hts⟩ (c_X6_thrown l G u164 T T 2 o ex ad hw2) (cwV 0 hts gL_law_X6_thrown rfl rfl rfl (by decide +kernel) ⟨Nat.le_of_ble_eq_true rfl, Nat.le_of_ble_eq_true rfl⟩) (preV_of hC hS hM gm6 rfl) rfl rfl hl.1 rfl (lv_room (Nat.le_of_ble_eq_true rfl)) dL_law_170 ⟨(by first | omega | (show _ ≤ 601024; omega) | (show _ ≤ 7293034; omega)), (by first | omega | (show _ ≤ 601024; omega) | (show _ ≤ 7293034; omega))⟩) hS (fun r170 u170 H locs hp170 hM hS => ?_)
      have hM : Hm G u164 H := hM
      have hp170 : r170 = 2 := hp170
      subst hp170
      refine lv_iload hx hb dL_law_173 (lv_at hl 1 rfl) ?_
      refine lv_icmp_eq (tgt := 180) hx hb dL_law_175 (by decide) (fun c_175 => ?_) (fun c_175 => False.elim (by revert c_175; decide))
      refine lv_iload hx hb dL_law_180 (lv_at hl 1 rfl) ?_
      refine lv_if_ne (tgt := 197) hx hb dL_law_182 (by decide) (fun c_182 => ?_) (fun c_182 => False.elim (by revert c_182; decide))
      refine lv_goto (tgt := 1326) hx hb dL_law_197 (by decide) ?_
      refine W.widen (k := c0 + 42) (n := s0 + 132) (by omega) (by omega) ?_
      exact K T 2 o ex ad _ _ _ ls hi hx9 hw2 hM hS (lv_sub hl [2, 3, 4, 5, 6] rfl)
    · exact False.elim (by first | exact absurd z2 y2 | exact absurd y2 z2)
  · subst er
    have go9 : u146 (ad 28 0) = some (.inl (G.2.1 1, 1, .inr (.inl (fun _ => (T.1 1 (xs (x4 + 1).toNatClampNeg).toNatClampNeg).toInt64)))) := hw1.1 28 0 _ rfl
    have gm9 : u146 (ad 14 0) = some (.inr (6, [.int th, .int (T.1 0 0), .ref (ad 15 0), .ref (ad 16 0), .ref (ad 17 0), .ref (ad 18 0), .int (T.1 5 0), .ref (ad 19 0), .ref (ad 20 0), .ref (ad 21 0), .ref (ad 22 0), .ref (ad 23 0), .ref (ad 24 0), .ref (ad 25 0), .ref (ad 26 0), .ref (ad 27 0)])) := hw1.1 14 0 _ rfl
    refine lv_istore (lv' := [(5, .int 0), (0, .ref b), (1, .ref (ad 0 0)), (2, .ref (ad 14 0)), (3, .ref (ad 28 0)), (4, .int x4)]) hx hb dL_law_149 hl (by decide) rfl (fun ls hl => ?_)
    refine lv_aload_n hx hb dL_law_151 rfl (lv_at hl 3 rfl) ?_
    refine lv_aload_n hx hb dL_law_152 rfl (lv_at hl 1 rfl) ?_
    refine lv_iload hx hb dL_law_153 (lv_at hl 5 rfl) ?_
    refine lv_iconst (v := 1) hx hb dL_law_155 (by decide) ?_
    refine lv_iadd hx hb dL_law_156 ?_
    refine va_sld hx hb hX hbl hbA hS h_1 dL_law_157 ?_
    refine lv_aload_n hx hb dL_law_158 rfl (lv_at hl 1 rfl) ?_
    refine lv_iload hx hb dL_law_159 (lv_at hl 5 rfl) ?_
    refine lv_iconst (v := 2) hx hb dL_law_161 (by decide) ?_
    refine lv_iadd hx hb dL_law_162 ?_
    refine va_sld hx hb hX hbl hbA hS h_2 dL_law_163 ?_
    refine k_i (va_runV (As := [.int (xs (x4 + 1).toNatClampNeg), .int (xs (x4 + 2).toNatClampNeg)]) (rest := []) ⟨hx, hb, hml, hown, hts⟩ (c_X6_setRate l G u146 (u2 T.1 1 (xs (x4 + 1).toNatClampNeg).toNatClampNeg (xs (x4 + 2).toNatClampNeg), T.2) T th ((T.1 1 (xs (x4 + 1).toNatClampNeg).toNatClampNeg).toInt64) ex ad (xs (x4 + 1).toNatClampNeg) (xs (x4 + 2).toNatClampNeg) hw1) (cwV 2 hts gL_law_X6_setRate rfl rfl rfl (by decide +kernel) ⟨Nat.le_of_ble_eq_true rfl, Nat.le_of_ble_eq_true rfl⟩) (preV_of hC hS hM gm9 rfl) rfl rfl hl.1 rfl (lv_room (Nat.le_of_ble_eq_true rfl)) dL_law_164 ⟨(by first | omega | (show _ ≤ 601024; omega) | (show _ ≤ 7293034; omega)), (by first | omega | (show _ ≤ 601024; omega) | (show _ ≤ 7293034; omega))⟩) hS (fun r164 u164 H locs hp164 hM hS => ?_)
    have hM : Hm G u164 H := hM
    rcases hp164 with ⟨y1, hw2⟩ | ⟨y1, y2, hw2⟩ | ⟨y1, y2, er2, hw2⟩
    · exact False.elim (by first | exact absurd z1 y1 | exact absurd y1 z1)
    · exact False.elim (by first | exact absurd z2 y2 | exact absurd y2 z2)
    · subst er2
      have hMk : Hm G u164 H := hM
      have go10 : u164 (ad 28 0) = some (.inl (G.2.1 1, 1, .inr (.inl (fun _ => (T.1 1 (xs (x4 + 1).toNatClampNeg).toNatClampNeg).toInt64)))) := hw2.1 28 0 _ rfl
      have gm10 : u164 (ad 14 0) = some (.inr (6, [.int 0, .int ((u2 T.1 1 (xs (x4 + 1).toNatClampNeg).toNatClampNeg (xs (x4 + 2).toNatClampNeg), T.2).1 0 0), .ref (ad 15 0), .ref (ad 16 0), .ref (ad 17 0), .ref (ad 18 0), .int ((u2 T.1 1 (xs (x4 + 1).toNatClampNeg).toNatClampNeg (xs (x4 + 2).toNatClampNeg), T.2).1 5 0), .ref (ad 19 0), .ref (ad 20 0), .ref (ad 21 0), .ref (ad 22 0), .ref (ad 23 0), .ref (ad 24 0), .ref (ad 25 0), .ref (ad 26 0), .ref (ad 27 0)])) := hw2.1 14 0 _ rfl
      refine lv_istore (lv' := [(6, .int (T.1 1 (xs (x4 + 1).toNatClampNeg).toNatClampNeg)), (5, .int 0), (0, .ref b), (1, .ref (ad 0 0)), (2, .ref (ad 14 0)), (3, .ref (ad 28 0)), (4, .int x4)]) hx hb dL_law_167 hl (by decide) rfl (fun ls hl => ?_)
      refine lv_aload_n hx hb dL_law_169 rfl (lv_at hl 4 rfl) ?_
      refine k_i (va_runV (As := []) (rest := []) ⟨hx, hb, hml, hown, hts⟩ (c_X6_thrown l G u164 (u2 T.1 1 (xs (x4 + 1).toNatClampNeg).toNatClampNeg (xs (x4 + 2).toNatClampNeg), T.2) (u2 T.1 1 (xs (x4 + 1).toNatClampNeg).toNatClampNeg (xs (x4 + 2).toNatClampNeg), T.2) 0 ((T.1 1 (xs (x4 + 1).toNatClampNeg).toNatClampNeg).toInt64) ex ad hw2) (cwV 0 hts gL_law_X6_thrown rfl rfl rfl (by decide +kernel) ⟨Nat.le_of_ble_eq_true rfl, Nat.le_of_ble_eq_true rfl⟩) (preV_of hC hS hM gm10 rfl) rfl rfl hl.1 rfl (lv_room (Nat.le_of_ble_eq_true rfl)) dL_law_170 ⟨(by first | omega | (show _ ≤ 601024; omega) | (show _ ≤ 7293034; omega)), (by first | omega | (show _ ≤ 601024; omega) | (show _ ≤ 7293034; omega))⟩) hS (fun r170 u170 H locs hp170 hM hS => ?_)
      have hM : Hm G u164 H := hM
      have hp170 : r170 = 0 := hp170
      subst hp170
      refine lv_iload hx hb dL_law_173 (lv_at hl 1 rfl) ?_
      refine lv_icmp_eq (tgt := 180) hx hb dL_law_175 (by decide) (fun c_175 => ?_) (fun c_175 => False.elim (by revert c_175; decide))
      refine lv_iload hx hb dL_law_180 (lv_at hl 1 rfl) ?_
      refine lv_if_ne (tgt := 197) hx hb dL_law_182 (by decide) (fun c_182 => False.elim (by revert c_182; decide)) (fun c_182 => ?_)
      refine lv_aload_n hx hb dL_law_185 rfl (lv_at hl 5 rfl) ?_
      refine lv_iconst (v := 0) hx hb dL_law_186 (by decide) ?_
      refine m_lald (a := (ad 28 0)) hx hb hC hM go10 (vin_of (n := 1) 1 (by decide) (by decide)) dL_law_187 ?_
      refine lv_iload hx hb dL_law_188 (lv_at hl 0 rfl) ?_
      refine lv_i2l hx hb dL_law_190 rfl ?_
      refine W.lcmp hx hb dL_law_191 ?_
      refine lv_if_eq (tgt := 197) hx hb dL_law_192 (by decide) (fun c_192 => ?_) (fun c_192 => False.elim (by exact c_192 ((lg_cmp_eq _ _).mpr rfl)))
      refine lv_goto (tgt := 1326) hx hb dL_law_197 (by decide) ?_
      refine W.widen (k := c0 + 42) (n := s0 + 132) (by omega) (by omega) ?_
      exact K (u2 T.1 1 (xs (x4 + 1).toNatClampNeg).toNatClampNeg (xs (x4 + 2).toNatClampNeg), T.2) 0 ((T.1 1 (xs (x4 + 1).toNatClampNeg).toNatClampNeg).toInt64) ex ad _ _ _ ls (iv_12 hi (Or.inl rfl)) hx9 (hw2) hM hS (lv_sub hl [2, 3, 4, 5, 6] rfl)
set_option maxHeartbeats 4000000 in
set_option maxRecDepth 100000 in
theorem law_1 {p : Program} {l : Launch} (hnt : l.stackTraces = false) {e : Env} {s : State} {m : MethodId} {below : List Frame} {meth : Method} {c : Code} {b L : Nat} {xs : Nat → Int32} (C0 : lw_At p s m meth c b L xs) {G : Gx} {T : Sd} {th : Int32} {o : Int64} {ex : Nat → Option (Nat × Nat)} {ad : Nat → Nat → Nat} {M : Mp} {c0 s0 : Nat} {x4 : Int32} {Q : State → Prop} (k9 : Nat) (hk9 : k9 = 20) (hC : Cx G s) (hG : G.2.2 = s.heap.size) (hi : Iv T) (hx9 : Ix T ex) (hw : WA G T T th o ex ad M) (hc0 : c0 + 42 ≤ 601024) (hs0 : s0 + 132 ≤ 7293034) (h_1 : vp_in (x4 + 1) L) (h_2 : vp_in (x4 + 2) L) (h_3 : vp_in (x4 + 3) L) (h_4 : vp_in (x4 + 4) L) (h_5 : vp_in (x4 + 5) L) (h_6 : vp_in (x4 + 6) L)
    (K : ∀ (T' : Sd) (th' : Int32) (o' : Int64) (ex' : Nat → Option (Nat × Nat)) (ad' : Nat → Nat → Nat) (M' : Mp) (H : Heap) (locs : List Loc) (ls : Array Slot), Iv T' → Ix T' ex' → WA G T' T' th' o' ex' ad' M' → Hm G M' H → va_S (AG G) s.heap H locs → lv_has ls 8 [(0, .ref b), (1, .ref (ad' 0 0)), (2, .ref (ad' 14 0)), (3, .ref (ad' 28 0)), (4, .int x4)] → W p l e room_1 s m #[Value.ref b] below meth c H locs (c0 + 42) (s0 + 132) Q (F0 m 1326 ls [])) (ls : Array Slot) (hl : lv_has ls 8 [(0, .ref b), (1, .ref (ad 0 0)), (2, .ref (ad 14 0)), (3, .ref (ad 28 0)), (4, .int x4)]) (H : Heap) (locs : List Loc) (hM : Hm G M H) (hS : va_S (AG G) s.heap H locs) : W p l e room_1 s m #[Value.ref b] below meth c H locs c0 s0 Q (F0 m 200 ls []) := by
  obtain ⟨hx, hb, hr, hml, hown, hts0, hX, hbl, hlocks, hgv⟩ := id C0
  have hts := fun w h => hts0 w (wsL_law_in w h)
  have hbA : ¬ AG G b := by show ¬ G.2.2 ≤ b; rw [hG]; exact Nat.not_le.mpr hbl
  refine lv_aload_n hx hb dL_law_200 rfl (lv_at hl 1 rfl) ?_
  refine lv_aload_n hx hb dL_law_201 rfl (lv_at hl 0 rfl) ?_
  refine lv_iload hx hb dL_law_202 (lv_at hl 4 rfl) ?_
  refine lv_iconst (v := 1) hx hb dL_law_204 (by decide) ?_
  refine lv_iadd hx hb dL_law_205 ?_
  refine va_sld hx hb hX hbl hbA hS h_1 dL_law_206 ?_
  refine lv_aload_n hx hb dL_law_207 rfl (lv_at hl 0 rfl) ?_
  refine lv_iload hx hb dL_law_208 (lv_at hl 4 rfl) ?_
  refine lv_iconst (v := 2) hx hb dL_law_210 (by decide) ?_
  refine lv_iadd hx hb dL_law_211 ?_
  refine va_sld hx hb hX hbl hbA hS h_2 dL_law_212 ?_
  refine lv_aload_n hx hb dL_law_213 rfl (lv_at hl 3 rfl) ?_
  refine k_i (vx_runSW (As := [.ref (ad 0 0), .int (xs (x4 + 1).toNatClampNeg), .int (xs (x4 + 2).toNatClampNeg), .ref (ad 28 0)]) (rest := []) ⟨hx, hb, hml, hown, hts⟩ (c_L_setPoints hnt l G M T T th o ex ad (xs (x4 + 1).toNatClampNeg) (xs (x4 + 2).toNatClampNeg) hw hi) (vx_cwSW 4 hts gL_law_L_setPoints rfl rfl rfl (by decide +kernel) ⟨Nat.le_of_ble_eq_true rfl, Nat.le_of_ble_eq_true rfl⟩) (preS_of hC hS hM) rfl rfl hl.1 rfl (lv_room (Nat.le_of_ble_eq_true rfl)) dL_law_214 ⟨(by first | omega | (show _ ≤ 601024; omega) | (show _ ≤ 7293034; omega)), (by first | omega | (show _ ≤ 601024; omega) | (show _ ≤ 7293034; omega))⟩) hS (fun r214 u214 H locs hp214 hM hS => ?_)
  have hM : Hm G u214 H := hM
  rcases hp214 with ⟨er, z1, hw1⟩ | ⟨er, ⟨z1, z2⟩, hw1⟩ | ⟨er, ⟨z1, z2⟩, hw1⟩
  · subst er
    have go1 : u214 (ad 28 0) = some (.inl (G.2.1 1, 1, .inr (.inl (fun _ => o)))) := hw1.1 28 0 _ rfl
    have gm1 : u214 (ad 14 0) = some (.inr (6, [.int th, .int (T.1 0 0), .ref (ad 15 0), .ref (ad 16 0), .ref (ad 17 0), .ref (ad 18 0), .int (T.1 5 0), .ref (ad 19 0), .ref (ad 20 0), .ref (ad 21 0), .ref (ad 22 0), .ref (ad 23 0), .ref (ad 24 0), .ref (ad 25 0), .ref (ad 26 0), .ref (ad 27 0)])) := hw1.1 14 0 _ rfl
    refine lv_istore (lv' := [(5, .int 1), (0, .ref b), (1, .ref (ad 0 0)), (2, .ref (ad 14 0)), (3, .ref (ad 28 0)), (4, .int x4)]) hx hb dL_law_217 hl (by decide) rfl (fun ls hl => ?_)
    refine lv_aload_n hx hb dL_law_219 rfl (lv_at hl 3 rfl) ?_
    refine lv_aload_n hx hb dL_law_220 rfl (lv_at hl 1 rfl) ?_
    refine lv_iload hx hb dL_law_221 (lv_at hl 5 rfl) ?_
    refine lv_iconst (v := 1) hx hb dL_law_223 (by decide) ?_
    refine lv_iadd hx hb dL_law_224 ?_
    refine va_sld hx hb hX hbl hbA hS h_1 dL_law_225 ?_
    refine lv_aload_n hx hb dL_law_226 rfl (lv_at hl 1 rfl) ?_
    refine lv_iload hx hb dL_law_227 (lv_at hl 5 rfl) ?_
    refine lv_iconst (v := 2) hx hb dL_law_229 (by decide) ?_
    refine lv_iadd hx hb dL_law_230 ?_
    refine va_sld hx hb hX hbl hbA hS h_2 dL_law_231 ?_
    refine k_i (va_runV (As := [.int (xs (x4 + 1).toNatClampNeg), .int (xs (x4 + 2).toNatClampNeg)]) (rest := []) ⟨hx, hb, hml, hown, hts⟩ (c_X6_setPoints l G u214 T T th o ex ad (xs (x4 + 1).toNatClampNeg) (xs (x4 + 2).toNatClampNeg) hw1) (cwV 2 hts gL_law_X6_setPoints rfl rfl rfl (by decide +kernel) ⟨Nat.le_of_ble_eq_true rfl, Nat.le_of_ble_eq_true rfl⟩) (preV_of hC hS hM gm1 rfl) rfl rfl hl.1 rfl (lv_room (Nat.le_of_ble_eq_true rfl)) dL_law_232 ⟨(by first | omega | (show _ ≤ 601024; omega) | (show _ ≤ 7293034; omega)), (by first | omega | (show _ ≤ 601024; omega) | (show _ ≤ 7293034; omega))⟩) hS (fun r232 u232 H locs hp232 hM hS => ?_)
    have hM : Hm G u232 H := hM
    rcases hp232 with ⟨y1, hw2⟩ | ⟨y1, y2, hw2⟩ | ⟨y1, y2, er2, hw2⟩
    · have hMk : Hm G u232 H := hM
      have go2 : u232 (ad 28 0) = some (.inl (G.2.1 1, 1, .inr (.inl (fun _ => o)))) := hw2.1 28 0 _ rfl
      have gm2 : u232 (ad 14 0) = some (.inr (6, [.int 1, .int (T.1 0 0), .ref (ad 15 0), .ref (ad 16 0), .ref (ad 17 0), .ref (ad 18 0), .int (T.1 5 0), .ref (ad 19 0), .ref (ad 20 0), .ref (ad 21 0), .ref (ad 22 0), .ref (ad 23 0), .ref (ad 24 0), .ref (ad 25 0), .ref (ad 26 0), .ref (ad 27 0)])) := hw2.1 14 0 _ rfl
      refine lv_istore (lv' := [(6, .int r232), (5, .int 1), (0, .ref b), (1, .ref (ad 0 0)), (2, .ref (ad 14 0)), (3, .ref (ad 28 0)), (4, .int x4)]) hx hb dL_law_235 hl (by decide) rfl (fun ls hl => ?_)
      refine lv_aload_n hx hb dL_law_237 rfl (lv_at hl 4 rfl) ?_
      refine k_i (va_runV (As := []) (rest := []) ⟨hx, hb, hml, hown, hts⟩ (c_X6_thrown l G u232 T T 1 o ex ad hw2) (cwV 0 hts gL_law_X6_thrown rfl rfl rfl (by decide +kernel) ⟨Nat.le_of_ble_eq_true rfl, Nat.le_of_ble_eq_true rfl⟩) (preV_of hC hS hM gm2 rfl) rfl rfl hl.1 rfl (lv_room (Nat.le_of_ble_eq_true rfl)) dL_law_238 ⟨(by first | omega | (show _ ≤ 601024; omega) | (show _ ≤ 7293034; omega)), (by first | omega | (show _ ≤ 601024; omega) | (show _ ≤ 7293034; omega))⟩) hS (fun r238 u238 H locs hp238 hM hS => ?_)
      have hM : Hm G u232 H := hM
      have hp238 : r238 = 1 := hp238
      subst hp238
      refine lv_iload hx hb dL_law_241 (lv_at hl 1 rfl) ?_
      refine lv_icmp_eq (tgt := 248) hx hb dL_law_243 (by decide) (fun c_243 => ?_) (fun c_243 => False.elim (by revert c_243; decide))
      refine lv_iload hx hb dL_law_248 (lv_at hl 1 rfl) ?_
      refine lv_if_ne (tgt := 265) hx hb dL_law_250 (by decide) (fun c_250 => ?_) (fun c_250 => False.elim (by revert c_250; decide))
      refine lv_goto (tgt := 1326) hx hb dL_law_265 (by decide) ?_
      refine W.widen (k := c0 + 42) (n := s0 + 132) (by omega) (by omega) ?_
      exact K T 1 o ex ad _ _ _ ls hi hx9 hw2 hM hS (lv_sub hl [2, 3, 4, 5, 6] rfl)
    · exact False.elim (by first | exact absurd z1 y1 | exact absurd y1 z1)
    · exact False.elim (by first | exact absurd z1 y1 | exact absurd y1 z1)
  · subst er
    have go5 : u214 (ad 28 0) = some (.inl (G.2.1 1, 1, .inr (.inl (fun _ => o)))) := hw1.1 28 0 _ rfl
    have gm5 : u214 (ad 14 0) = some (.inr (6, [.int th, .int (T.1 0 0), .ref (ad 15 0), .ref (ad 16 0), .ref (ad 17 0), .ref (ad 18 0), .int (T.1 5 0), .ref (ad 19 0), .ref (ad 20 0), .ref (ad 21 0), .ref (ad 22 0), .ref (ad 23 0), .ref (ad 24 0), .ref (ad 25 0), .ref (ad 26 0), .ref (ad 27 0)])) := hw1.1 14 0 _ rfl
    refine lv_istore (lv' := [(5, .int 2), (0, .ref b), (1, .ref (ad 0 0)), (2, .ref (ad 14 0)), (3, .ref (ad 28 0)), (4, .int x4)]) hx hb dL_law_217 hl (by decide) rfl (fun ls hl => ?_)
    refine lv_aload_n hx hb dL_law_219 rfl (lv_at hl 3 rfl) ?_
    refine lv_aload_n hx hb dL_law_220 rfl (lv_at hl 1 rfl) ?_
    refine lv_iload hx hb dL_law_221 (lv_at hl 5 rfl) ?_
    refine lv_iconst (v := 1) hx hb dL_law_223 (by decide) ?_
    refine lv_iadd hx hb dL_law_224 ?_
    refine va_sld hx hb hX hbl hbA hS h_1 dL_law_225 ?_
    refine lv_aload_n hx hb dL_law_226 rfl (lv_at hl 1 rfl) ?_
    refine lv_iload hx hb dL_law_227 (lv_at hl 5 rfl) ?_
    refine lv_iconst (v := 2) hx hb dL_law_229 (by decide) ?_
    refine lv_iadd hx hb dL_law_230 ?_
    refine va_sld hx hb hX hbl hbA hS h_2 dL_law_231 ?_
    refine k_i (va_runV (As := [.int (xs (x4 + 1).toNatClampNeg), .int (xs (x4 + 2).toNatClampNeg)]) (rest := []) ⟨hx, hb, hml, hown, hts⟩ (c_X6_setPoints l G u214 T T th o ex ad (xs (x4 + 1).toNatClampNeg) (xs (x4 + 2).toNatClampNeg) hw1) (cwV 2 hts gL_law_X6_setPoints rfl rfl rfl (by decide +kernel) ⟨Nat.le_of_ble_eq_true rfl, Nat.le_of_ble_eq_true rfl⟩) (preV_of hC hS hM gm5 rfl) rfl rfl hl.1 rfl (lv_room (Nat.le_of_ble_eq_true rfl)) dL_law_232 ⟨(by first | omega | (show _ ≤ 601024; omega) | (show _ ≤ 7293034; omega)), (by first | omega | (show _ ≤ 601024; omega) | (show _ ≤ 7293034; omega))⟩) hS (fun r232 u232 H locs hp232 hM hS => ?_)
    have hM : Hm G u232 H := hM
    rcases hp232 with ⟨y1, hw2⟩ | ⟨y1, y2, hw2⟩ | ⟨y1, y2, er2, hw2⟩
    · exact False.elim (by first | exact absurd z1 y1 | exact absurd y1 z1)
    · have hMk : Hm G u232 H := hM
      have go6 : u232 (ad 28 0) = some (.inl (G.2.1 1, 1, .inr (.inl (fun _ => o)))) := hw2.1 28 0 _ rfl
      have gm6 : u232 (ad 14 0) = some (.inr (6, [.int 2, .int (T.1 0 0), .ref (ad 15 0), .ref (ad 16 0), .ref (ad 17 0), .ref (ad 18 0), .int (T.1 5 0), .ref (ad 19 0), .ref (ad 20 0), .ref (ad 21 0), .ref (ad 22 0), .ref (ad 23 0), .ref (ad 24 0), .ref (ad 25 0), .ref (ad 26 0), .ref (ad 27 0)])) := hw2.1 14 0 _ rfl
      refine lv_istore (lv' := [(6, .int r232), (5, .int 2), (0, .ref b), (1, .ref (ad 0 0)), (2, .ref (ad 14 0)), (3, .ref (ad 28 0)), (4, .int x4)]) hx hb dL_law_235 hl (by decide) rfl (fun ls hl => ?_)
      refine lv_aload_n hx hb dL_law_237 rfl (lv_at hl 4 rfl) ?_
      refine k_i (va_runV (As := []) (rest := []) ⟨hx, hb, hml, hown, hts⟩ (c_X6_thrown l G u232 T T 2 o ex ad hw2) (cwV 0 hts gL_law_X6_thrown rfl rfl rfl (by decide +kernel) ⟨Nat.le_of_ble_eq_true rfl, Nat.le_of_ble_eq_true rfl⟩) (preV_of hC hS hM gm6 rfl) rfl rfl hl.1 rfl (lv_room (Nat.le_of_ble_eq_true rfl)) dL_law_238 ⟨(by first | omega | (show _ ≤ 601024; omega) | (show _ ≤ 7293034; omega)), (by first | omega | (show _ ≤ 601024; omega) | (show _ ≤ 7293034; omega))⟩) hS (fun r238 u238 H locs hp238 hM hS => ?_)
      have hM : Hm G u232 H := hM
      have hp238 : r238 = 2 := hp238
      subst hp238
      refine lv_iload hx hb dL_law_241 (lv_at hl 1 rfl) ?_
      refine lv_icmp_eq (tgt := 248) hx hb dL_law_243 (by decide) (fun c_243 => ?_) (fun c_243 => False.elim (by revert c_243; decide))
      refine lv_iload hx hb dL_law_248 (lv_at hl 1 rfl) ?_
      refine lv_if_ne (tgt := 265) hx hb dL_law_250 (by decide) (fun c_250 => ?_) (fun c_250 => False.elim (by revert c_250; decide))
      refine lv_goto (tgt := 1326) hx hb dL_law_265 (by decide) ?_
      refine W.widen (k := c0 + 42) (n := s0 + 132) (by omega) (by omega) ?_
      exact K T 2 o ex ad _ _ _ ls hi hx9 hw2 hM hS (lv_sub hl [2, 3, 4, 5, 6] rfl)
    · exact False.elim (by first | exact absurd z2 y2 | exact absurd y2 z2)
  · subst er
    have go9 : u214 (ad 28 0) = some (.inl (G.2.1 1, 1, .inr (.inl (fun _ => (T.1 2 (xs (x4 + 1).toNatClampNeg).toNatClampNeg).toInt64)))) := hw1.1 28 0 _ rfl
    have gm9 : u214 (ad 14 0) = some (.inr (6, [.int th, .int (T.1 0 0), .ref (ad 15 0), .ref (ad 16 0), .ref (ad 17 0), .ref (ad 18 0), .int (T.1 5 0), .ref (ad 19 0), .ref (ad 20 0), .ref (ad 21 0), .ref (ad 22 0), .ref (ad 23 0), .ref (ad 24 0), .ref (ad 25 0), .ref (ad 26 0), .ref (ad 27 0)])) := hw1.1 14 0 _ rfl
    refine lv_istore (lv' := [(5, .int 0), (0, .ref b), (1, .ref (ad 0 0)), (2, .ref (ad 14 0)), (3, .ref (ad 28 0)), (4, .int x4)]) hx hb dL_law_217 hl (by decide) rfl (fun ls hl => ?_)
    refine lv_aload_n hx hb dL_law_219 rfl (lv_at hl 3 rfl) ?_
    refine lv_aload_n hx hb dL_law_220 rfl (lv_at hl 1 rfl) ?_
    refine lv_iload hx hb dL_law_221 (lv_at hl 5 rfl) ?_
    refine lv_iconst (v := 1) hx hb dL_law_223 (by decide) ?_
    refine lv_iadd hx hb dL_law_224 ?_
    refine va_sld hx hb hX hbl hbA hS h_1 dL_law_225 ?_
    refine lv_aload_n hx hb dL_law_226 rfl (lv_at hl 1 rfl) ?_
    refine lv_iload hx hb dL_law_227 (lv_at hl 5 rfl) ?_
    refine lv_iconst (v := 2) hx hb dL_law_229 (by decide) ?_
    refine lv_iadd hx hb dL_law_230 ?_
    refine va_sld hx hb hX hbl hbA hS h_2 dL_law_231 ?_
    refine k_i (va_runV (As := [.int (xs (x4 + 1).toNatClampNeg), .int (xs (x4 + 2).toNatClampNeg)]) (rest := []) ⟨hx, hb, hml, hown, hts⟩ (c_X6_setPoints l G u214 (u2 T.1 2 (xs (x4 + 1).toNatClampNeg).toNatClampNeg (xs (x4 + 2).toNatClampNeg), T.2) T th ((T.1 2 (xs (x4 + 1).toNatClampNeg).toNatClampNeg).toInt64) ex ad (xs (x4 + 1).toNatClampNeg) (xs (x4 + 2).toNatClampNeg) hw1) (cwV 2 hts gL_law_X6_setPoints rfl rfl rfl (by decide +kernel) ⟨Nat.le_of_ble_eq_true rfl, Nat.le_of_ble_eq_true rfl⟩) (preV_of hC hS hM gm9 rfl) rfl rfl hl.1 rfl (lv_room (Nat.le_of_ble_eq_true rfl)) dL_law_232 ⟨(by first | omega | (show _ ≤ 601024; omega) | (show _ ≤ 7293034; omega)), (by first | omega | (show _ ≤ 601024; omega) | (show _ ≤ 7293034; omega))⟩) hS (fun r232 u232 H locs hp232 hM hS => ?_)
    have hM : Hm G u232 H := hM
    rcases hp232 with ⟨y1, hw2⟩ | ⟨y1, y2, hw2⟩ | ⟨y1, y2, er2, hw2⟩
    · exact False.elim (by first | exact absurd z1 y1 | exact absurd y1 z1)
    · exact False.elim (by first | exact absurd z2 y2 | exact absurd y2 z2)
    · subst er2
      have hMk : Hm G u232 H := hM
      have go10 : u232 (ad 28 0) = some (.inl (G.2.1 1, 1, .inr (.inl (fun _ => (T.1 2 (xs (x4 + 1).toNatClampNeg).toNatClampNeg).toInt64)))) := hw2.1 28 0 _ rfl
      have gm10 : u232 (ad 14 0) = some (.inr (6, [.int 0, .int ((u2 T.1 2 (xs (x4 + 1).toNatClampNeg).toNatClampNeg (xs (x4 + 2).toNatClampNeg), T.2).1 0 0), .ref (ad 15 0), .ref (ad 16 0), .ref (ad 17 0), .ref (ad 18 0), .int ((u2 T.1 2 (xs (x4 + 1).toNatClampNeg).toNatClampNeg (xs (x4 + 2).toNatClampNeg), T.2).1 5 0), .ref (ad 19 0), .ref (ad 20 0), .ref (ad 21 0), .ref (ad 22 0), .ref (ad 23 0), .ref (ad 24 0), .ref (ad 25 0), .ref (ad 26 0), .ref (ad 27 0)])) := hw2.1 14 0 _ rfl
      refine lv_istore (lv' := [(6, .int (T.1 2 (xs (x4 + 1).toNatClampNeg).toNatClampNeg)), (5, .int 0), (0, .ref b), (1, .ref (ad 0 0)), (2, .ref (ad 14 0)), (3, .ref (ad 28 0)), (4, .int x4)]) hx hb dL_law_235 hl (by decide) rfl (fun ls hl => ?_)
      refine lv_aload_n hx hb dL_law_237 rfl (lv_at hl 4 rfl) ?_
      refine k_i (va_runV (As := []) (rest := []) ⟨hx, hb, hml, hown, hts⟩ (c_X6_thrown l G u232 (u2 T.1 2 (xs (x4 + 1).toNatClampNeg).toNatClampNeg (xs (x4 + 2).toNatClampNeg), T.2) (u2 T.1 2 (xs (x4 + 1).toNatClampNeg).toNatClampNeg (xs (x4 + 2).toNatClampNeg), T.2) 0 ((T.1 2 (xs (x4 + 1).toNatClampNeg).toNatClampNeg).toInt64) ex ad hw2) (cwV 0 hts gL_law_X6_thrown rfl rfl rfl (by decide +kernel) ⟨Nat.le_of_ble_eq_true rfl, Nat.le_of_ble_eq_true rfl⟩) (preV_of hC hS hM gm10 rfl) rfl rfl hl.1 rfl (lv_room (Nat.le_of_ble_eq_true rfl)) dL_law_238 ⟨(by first | omega | (show _ ≤ 601024; omega) | (show _ ≤ 7293034; omega)), (by first | omega | (show _ ≤ 601024; omega) | (show _ ≤ 7293034; omega))⟩) hS (fun r238 u238 H locs hp238 hM hS => ?_)
      have hM : Hm G u232 H := hM
      have hp238 : r238 = 0 := hp238
      subst hp238
      refine lv_iload hx hb dL_law_241 (lv_at hl 1 rfl) ?_
      refine lv_icmp_eq (tgt := 248) hx hb dL_law_243 (by decide) (fun c_243 => ?_) (fun c_243 => False.elim (by revert c_243; decide))
      refine lv_iload hx hb dL_law_248 (lv_at hl 1 rfl) ?_
      refine lv_if_ne (tgt := 265) hx hb dL_law_250 (by decide) (fun c_250 => False.elim (by revert c_250; decide)) (fun c_250 => ?_)
      refine lv_aload_n hx hb dL_law_253 rfl (lv_at hl 5 rfl) ?_
      refine lv_iconst (v := 0) hx hb dL_law_254 (by decide) ?_
      refine m_lald (a := (ad 28 0)) hx hb hC hM go10 (vin_of (n := 1) 1 (by decide) (by decide)) dL_law_255 ?_
      refine lv_iload hx hb dL_law_256 (lv_at hl 0 rfl) ?_
      refine lv_i2l hx hb dL_law_258 rfl ?_
      refine W.lcmp hx hb dL_law_259 ?_
      refine lv_if_eq (tgt := 265) hx hb dL_law_260 (by decide) (fun c_260 => ?_) (fun c_260 => False.elim (by exact c_260 ((lg_cmp_eq _ _).mpr rfl)))
      refine lv_goto (tgt := 1326) hx hb dL_law_265 (by decide) ?_
      refine W.widen (k := c0 + 42) (n := s0 + 132) (by omega) (by omega) ?_
      exact K (u2 T.1 2 (xs (x4 + 1).toNatClampNeg).toNatClampNeg (xs (x4 + 2).toNatClampNeg), T.2) 0 ((T.1 2 (xs (x4 + 1).toNatClampNeg).toNatClampNeg).toInt64) ex ad _ _ _ ls (iv_12 hi (Or.inr rfl)) hx9 (hw2) hM hS (lv_sub hl [2, 3, 4, 5, 6] rfl)
set_option maxHeartbeats 4000000 in
set_option maxRecDepth 100000 in
theorem law_2 {p : Program} {l : Launch} (hnt : l.stackTraces = false) {e : Env} {s : State} {m : MethodId} {below : List Frame} {meth : Method} {c : Code} {b L : Nat} {xs : Nat → Int32} (C0 : lw_At p s m meth c b L xs) {G : Gx} {T : Sd} {th : Int32} {o : Int64} {ex : Nat → Option (Nat × Nat)} {ad : Nat → Nat → Nat} {M : Mp} {c0 s0 : Nat} {x4 : Int32} {Q : State → Prop} (k9 : Nat) (hk9 : k9 = 20) (hC : Cx G s) (hG : G.2.2 = s.heap.size) (hi : Iv T) (hx9 : Ix T ex) (hw : WA G T T th o ex ad M) (hc0 : c0 + 42 ≤ 601024) (hs0 : s0 + 132 ≤ 7293034) (h_1 : vp_in (x4 + 1) L) (h_2 : vp_in (x4 + 2) L) (h_3 : vp_in (x4 + 3) L) (h_4 : vp_in (x4 + 4) L) (h_5 : vp_in (x4 + 5) L) (h_6 : vp_in (x4 + 6) L)
    (K : ∀ (T' : Sd) (th' : Int32) (o' : Int64) (ex' : Nat → Option (Nat × Nat)) (ad' : Nat → Nat → Nat) (M' : Mp) (H : Heap) (locs : List Loc) (ls : Array Slot), Iv T' → Ix T' ex' → WA G T' T' th' o' ex' ad' M' → Hm G M' H → va_S (AG G) s.heap H locs → lv_has ls 8 [(0, .ref b), (1, .ref (ad' 0 0)), (2, .ref (ad' 14 0)), (3, .ref (ad' 28 0)), (4, .int x4)] → W p l e room_1 s m #[Value.ref b] below meth c H locs (c0 + 42) (s0 + 132) Q (F0 m 1326 ls [])) (ls : Array Slot) (hl : lv_has ls 8 [(0, .ref b), (1, .ref (ad 0 0)), (2, .ref (ad 14 0)), (3, .ref (ad 28 0)), (4, .int x4)]) (H : Heap) (locs : List Loc) (hM : Hm G M H) (hS : va_S (AG G) s.heap H locs) : W p l e room_1 s m #[Value.ref b] below meth c H locs c0 s0 Q (F0 m 268 ls []) := by
  obtain ⟨hx, hb, hr, hml, hown, hts0, hX, hbl, hlocks, hgv⟩ := id C0
  have hts := fun w h => hts0 w (wsL_law_in w h)
  have hbA : ¬ AG G b := by show ¬ G.2.2 ≤ b; rw [hG]; exact Nat.not_le.mpr hbl
  refine lv_aload_n hx hb dL_law_268 rfl (lv_at hl 1 rfl) ?_
  refine lv_aload_n hx hb dL_law_269 rfl (lv_at hl 0 rfl) ?_
  refine lv_iload hx hb dL_law_270 (lv_at hl 4 rfl) ?_
  refine lv_iconst (v := 1) hx hb dL_law_272 (by decide) ?_
  refine lv_iadd hx hb dL_law_273 ?_
  refine va_sld hx hb hX hbl hbA hS h_1 dL_law_274 ?_
  refine lv_aload_n hx hb dL_law_275 rfl (lv_at hl 3 rfl) ?_
  refine k_i (vx_runSW (As := [.ref (ad 0 0), .int (xs (x4 + 1).toNatClampNeg), .ref (ad 28 0)]) (rest := []) ⟨hx, hb, hml, hown, hts⟩ (c_L_toggleHoliday hnt l G M T T th o ex ad (xs (x4 + 1).toNatClampNeg) hw hi) (vx_cwSW 3 hts gL_law_L_toggleHoliday rfl rfl rfl (by decide +kernel) ⟨Nat.le_of_ble_eq_true rfl, Nat.le_of_ble_eq_true rfl⟩) (preS_of hC hS hM) rfl rfl hl.1 rfl (lv_room (Nat.le_of_ble_eq_true rfl)) dL_law_276 ⟨(by first | omega | (show _ ≤ 601024; omega) | (show _ ≤ 7293034; omega)), (by first | omega | (show _ ≤ 601024; omega) | (show _ ≤ 7293034; omega))⟩) hS (fun r276 u276 H locs hp276 hM hS => ?_)
  have hM : Hm G u276 H := hM
  rcases hp276 with ⟨er, z1, hw1⟩ | ⟨er, ⟨z1, z2⟩, hw1⟩ | ⟨er, ⟨z1, z2⟩, hw1⟩
  · subst er
    have go1 : u276 (ad 28 0) = some (.inl (G.2.1 1, 1, .inr (.inl (fun _ => o)))) := hw1.1 28 0 _ rfl
    have gm1 : u276 (ad 14 0) = some (.inr (6, [.int th, .int (T.1 0 0), .ref (ad 15 0), .ref (ad 16 0), .ref (ad 17 0), .ref (ad 18 0), .int (T.1 5 0), .ref (ad 19 0), .ref (ad 20 0), .ref (ad 21 0), .ref (ad 22 0), .ref (ad 23 0), .ref (ad 24 0), .ref (ad 25 0), .ref (ad 26 0), .ref (ad 27 0)])) := hw1.1 14 0 _ rfl
    refine lv_istore (lv' := [(5, .int 1), (0, .ref b), (1, .ref (ad 0 0)), (2, .ref (ad 14 0)), (3, .ref (ad 28 0)), (4, .int x4)]) hx hb dL_law_279 hl (by decide) rfl (fun ls hl => ?_)
    refine lv_aload_n hx hb dL_law_281 rfl (lv_at hl 3 rfl) ?_
    refine lv_aload_n hx hb dL_law_282 rfl (lv_at hl 1 rfl) ?_
    refine lv_iload hx hb dL_law_283 (lv_at hl 5 rfl) ?_
    refine lv_iconst (v := 1) hx hb dL_law_285 (by decide) ?_
    refine lv_iadd hx hb dL_law_286 ?_
    refine va_sld hx hb hX hbl hbA hS h_1 dL_law_287 ?_
    refine k_i (va_runV (As := [.int (xs (x4 + 1).toNatClampNeg)]) (rest := []) ⟨hx, hb, hml, hown, hts⟩ (c_X6_toggleHoliday l G u276 T T th o ex ad (xs (x4 + 1).toNatClampNeg) hw1) (cwV 1 hts gL_law_X6_toggleHoliday rfl rfl rfl (by decide +kernel) ⟨Nat.le_of_ble_eq_true rfl, Nat.le_of_ble_eq_true rfl⟩) (preV_of hC hS hM gm1 rfl) rfl rfl hl.1 rfl (lv_room (Nat.le_of_ble_eq_true rfl)) dL_law_288 ⟨(by first | omega | (show _ ≤ 601024; omega) | (show _ ≤ 7293034; omega)), (by first | omega | (show _ ≤ 601024; omega) | (show _ ≤ 7293034; omega))⟩) hS (fun r288 u288 H locs hp288 hM hS => ?_)
    have hM : Hm G u288 H := hM
    rcases hp288 with ⟨y1, hw2⟩ | ⟨y1, y2, hw2⟩ | ⟨y1, y2, er2, hw2⟩
    · have hMk : Hm G u288 H := hM
      have go2 : u288 (ad 28 0) = some (.inl (G.2.1 1, 1, .inr (.inl (fun _ => o)))) := hw2.1 28 0 _ rfl
      have gm2 : u288 (ad 14 0) = some (.inr (6, [.int 1, .int (T.1 0 0), .ref (ad 15 0), .ref (ad 16 0), .ref (ad 17 0), .ref (ad 18 0), .int (T.1 5 0), .ref (ad 19 0), .ref (ad 20 0), .ref (ad 21 0), .ref (ad 22 0), .ref (ad 23 0), .ref (ad 24 0), .ref (ad 25 0), .ref (ad 26 0), .ref (ad 27 0)])) := hw2.1 14 0 _ rfl
      refine lv_istore (lv' := [(6, .int r288), (5, .int 1), (0, .ref b), (1, .ref (ad 0 0)), (2, .ref (ad 14 0)), (3, .ref (ad 28 0)), (4, .int x4)]) hx hb dL_law_291 hl (by decide) rfl (fun ls hl => ?_)
      refine lv_aload_n hx hb dL_law_293 rfl (lv_at hl 4 rfl) ?_
      refine k_i (va_runV (As := []) (rest := []) ⟨hx, hb, hml, hown, hts⟩ (c_X6_thrown l G u288 T T 1 o ex ad hw2) (cwV 0 hts gL_law_X6_thrown rfl rfl rfl (by decide +kernel) ⟨Nat.le_of_ble_eq_true rfl, Nat.le_of_ble_eq_true rfl⟩) (preV_of hC hS hM gm2 rfl) rfl rfl hl.1 rfl (lv_room (Nat.le_of_ble_eq_true rfl)) dL_law_294 ⟨(by first | omega | (show _ ≤ 601024; omega) | (show _ ≤ 7293034; omega)), (by first | omega | (show _ ≤ 601024; omega) | (show _ ≤ 7293034; omega))⟩) hS (fun r294 u294 H locs hp294 hM hS => ?_)
      have hM : Hm G u288 H := hM
      have hp294 : r294 = 1 := hp294
      subst hp294
      refine lv_iload hx hb dL_law_297 (lv_at hl 1 rfl) ?_
      refine lv_icmp_eq (tgt := 304) hx hb dL_law_299 (by decide) (fun c_299 => ?_) (fun c_299 => False.elim (by revert c_299; decide))
      refine lv_iload hx hb dL_law_304 (lv_at hl 1 rfl) ?_
      refine lv_if_ne (tgt := 328) hx hb dL_law_306 (by decide) (fun c_306 => ?_) (fun c_306 => False.elim (by revert c_306; decide))
      refine lv_goto (tgt := 1326) hx hb dL_law_328 (by decide) ?_
      refine W.widen (k := c0 + 42) (n := s0 + 132) (by omega) (by omega) ?_
      exact K T 1 o ex ad _ _ _ ls hi hx9 hw2 hM hS (lv_sub hl [2, 3, 4, 5, 6] rfl)
    · exact False.elim (by first | exact absurd z1 y1 | exact absurd y1 z1)
    · exact False.elim (by first | exact absurd z1 y1 | exact absurd y1 z1)
  · subst er
    have go5 : u276 (ad 28 0) = some (.inl (G.2.1 1, 1, .inr (.inl (fun _ => o)))) := hw1.1 28 0 _ rfl
    have gm5 : u276 (ad 14 0) = some (.inr (6, [.int th, .int (T.1 0 0), .ref (ad 15 0), .ref (ad 16 0), .ref (ad 17 0), .ref (ad 18 0), .int (T.1 5 0), .ref (ad 19 0), .ref (ad 20 0), .ref (ad 21 0), .ref (ad 22 0), .ref (ad 23 0), .ref (ad 24 0), .ref (ad 25 0), .ref (ad 26 0), .ref (ad 27 0)])) := hw1.1 14 0 _ rfl
    refine lv_istore (lv' := [(5, .int 2), (0, .ref b), (1, .ref (ad 0 0)), (2, .ref (ad 14 0)), (3, .ref (ad 28 0)), (4, .int x4)]) hx hb dL_law_279 hl (by decide) rfl (fun ls hl => ?_)
    refine lv_aload_n hx hb dL_law_281 rfl (lv_at hl 3 rfl) ?_
    refine lv_aload_n hx hb dL_law_282 rfl (lv_at hl 1 rfl) ?_
    refine lv_iload hx hb dL_law_283 (lv_at hl 5 rfl) ?_
    refine lv_iconst (v := 1) hx hb dL_law_285 (by decide) ?_
    refine lv_iadd hx hb dL_law_286 ?_
    refine va_sld hx hb hX hbl hbA hS h_1 dL_law_287 ?_
    refine k_i (va_runV (As := [.int (xs (x4 + 1).toNatClampNeg)]) (rest := []) ⟨hx, hb, hml, hown, hts⟩ (c_X6_toggleHoliday l G u276 T T th o ex ad (xs (x4 + 1).toNatClampNeg) hw1) (cwV 1 hts gL_law_X6_toggleHoliday rfl rfl rfl (by decide +kernel) ⟨Nat.le_of_ble_eq_true rfl, Nat.le_of_ble_eq_true rfl⟩) (preV_of hC hS hM gm5 rfl) rfl rfl hl.1 rfl (lv_room (Nat.le_of_ble_eq_true rfl)) dL_law_288 ⟨(by first | omega | (show _ ≤ 601024; omega) | (show _ ≤ 7293034; omega)), (by first | omega | (show _ ≤ 601024; omega) | (show _ ≤ 7293034; omega))⟩) hS (fun r288 u288 H locs hp288 hM hS => ?_)
    have hM : Hm G u288 H := hM
    rcases hp288 with ⟨y1, hw2⟩ | ⟨y1, y2, hw2⟩ | ⟨y1, y2, er2, hw2⟩
    · exact False.elim (by first | exact absurd z1 y1 | exact absurd y1 z1)
    · have hMk : Hm G u288 H := hM
      have go6 : u288 (ad 28 0) = some (.inl (G.2.1 1, 1, .inr (.inl (fun _ => o)))) := hw2.1 28 0 _ rfl
      have gm6 : u288 (ad 14 0) = some (.inr (6, [.int 2, .int (T.1 0 0), .ref (ad 15 0), .ref (ad 16 0), .ref (ad 17 0), .ref (ad 18 0), .int (T.1 5 0), .ref (ad 19 0), .ref (ad 20 0), .ref (ad 21 0), .ref (ad 22 0), .ref (ad 23 0), .ref (ad 24 0), .ref (ad 25 0), .ref (ad 26 0), .ref (ad 27 0)])) := hw2.1 14 0 _ rfl
      refine lv_istore (lv' := [(6, .int r288), (5, .int 2), (0, .ref b), (1, .ref (ad 0 0)), (2, .ref (ad 14 0)), (3, .ref (ad 28 0)), (4, .int x4)]) hx hb dL_law_291 hl (by decide) rfl (fun ls hl => ?_)
      refine lv_aload_n hx hb dL_law_293 rfl (lv_at hl 4 rfl) ?_
      refine k_i (va_runV (As := []) (rest := []) ⟨hx, hb, hml, hown, hts⟩ (c_X6_thrown l G u288 T T 2 o ex ad hw2) (cwV 0 hts gL_law_X6_thrown rfl rfl rfl (by decide +kernel) ⟨Nat.le_of_ble_eq_true rfl, Nat.le_of_ble_eq_true rfl⟩) (preV_of hC hS hM gm6 rfl) rfl rfl hl.1 rfl (lv_room (Nat.le_of_ble_eq_true rfl)) dL_law_294 ⟨(by first | omega | (show _ ≤ 601024; omega) | (show _ ≤ 7293034; omega)), (by first | omega | (show _ ≤ 601024; omega) | (show _ ≤ 7293034; omega))⟩) hS (fun r294 u294 H locs hp294 hM hS => ?_)
      have hM : Hm G u288 H := hM
      have hp294 : r294 = 2 := hp294
      subst hp294
      refine lv_iload hx hb dL_law_297 (lv_at hl 1 rfl) ?_
      refine lv_icmp_eq (tgt := 304) hx hb dL_law_299 (by decide) (fun c_299 => ?_) (fun c_299 => False.elim (by revert c_299; decide))
      refine lv_iload hx hb dL_law_304 (lv_at hl 1 rfl) ?_
      refine lv_if_ne (tgt := 328) hx hb dL_law_306 (by decide) (fun c_306 => ?_) (fun c_306 => False.elim (by revert c_306; decide))
      refine lv_goto (tgt := 1326) hx hb dL_law_328 (by decide) ?_
      refine W.widen (k := c0 + 42) (n := s0 + 132) (by omega) (by omega) ?_
      exact K T 2 o ex ad _ _ _ ls hi hx9 hw2 hM hS (lv_sub hl [2, 3, 4, 5, 6] rfl)
    · exact False.elim (by first | exact absurd z2 y2 | exact absurd y2 z2)
  · subst er
    have go9 : u276 (ad 28 0) = some (.inl (G.2.1 1, 1, .inr (.inl (fun _ => (if (tg (T.1 4 (xs (x4 + 1).toNatClampNeg).toNatClampNeg)) = 0 then 0 else 1))))) := hw1.1 28 0 _ rfl
    have gm9 : u276 (ad 14 0) = some (.inr (6, [.int th, .int (T.1 0 0), .ref (ad 15 0), .ref (ad 16 0), .ref (ad 17 0), .ref (ad 18 0), .int (T.1 5 0), .ref (ad 19 0), .ref (ad 20 0), .ref (ad 21 0), .ref (ad 22 0), .ref (ad 23 0), .ref (ad 24 0), .ref (ad 25 0), .ref (ad 26 0), .ref (ad 27 0)])) := hw1.1 14 0 _ rfl
    refine lv_istore (lv' := [(5, .int 0), (0, .ref b), (1, .ref (ad 0 0)), (2, .ref (ad 14 0)), (3, .ref (ad 28 0)), (4, .int x4)]) hx hb dL_law_279 hl (by decide) rfl (fun ls hl => ?_)
    refine lv_aload_n hx hb dL_law_281 rfl (lv_at hl 3 rfl) ?_
    refine lv_aload_n hx hb dL_law_282 rfl (lv_at hl 1 rfl) ?_
    refine lv_iload hx hb dL_law_283 (lv_at hl 5 rfl) ?_
    refine lv_iconst (v := 1) hx hb dL_law_285 (by decide) ?_
    refine lv_iadd hx hb dL_law_286 ?_
    refine va_sld hx hb hX hbl hbA hS h_1 dL_law_287 ?_
    refine k_i (va_runV (As := [.int (xs (x4 + 1).toNatClampNeg)]) (rest := []) ⟨hx, hb, hml, hown, hts⟩ (c_X6_toggleHoliday l G u276 (u2 T.1 4 (xs (x4 + 1).toNatClampNeg).toNatClampNeg (tg (T.1 4 (xs (x4 + 1).toNatClampNeg).toNatClampNeg)), T.2) T th (if (tg (T.1 4 (xs (x4 + 1).toNatClampNeg).toNatClampNeg)) = 0 then 0 else 1) ex ad (xs (x4 + 1).toNatClampNeg) hw1) (cwV 1 hts gL_law_X6_toggleHoliday rfl rfl rfl (by decide +kernel) ⟨Nat.le_of_ble_eq_true rfl, Nat.le_of_ble_eq_true rfl⟩) (preV_of hC hS hM gm9 rfl) rfl rfl hl.1 rfl (lv_room (Nat.le_of_ble_eq_true rfl)) dL_law_288 ⟨(by first | omega | (show _ ≤ 601024; omega) | (show _ ≤ 7293034; omega)), (by first | omega | (show _ ≤ 601024; omega) | (show _ ≤ 7293034; omega))⟩) hS (fun r288 u288 H locs hp288 hM hS => ?_)
    have hM : Hm G u288 H := hM
    rcases hp288 with ⟨y1, hw2⟩ | ⟨y1, y2, hw2⟩ | ⟨y1, y2, er2, hw2⟩
    · exact False.elim (by first | exact absurd z1 y1 | exact absurd y1 z1)
    · exact False.elim (by first | exact absurd z2 y2 | exact absurd y2 z2)
    · subst er2
      have hMk : Hm G u288 H := hM
      have go10 : u288 (ad 28 0) = some (.inl (G.2.1 1, 1, .inr (.inl (fun _ => (if (tg (T.1 4 (xs (x4 + 1).toNatClampNeg).toNatClampNeg)) = 0 then 0 else 1))))) := hw2.1 28 0 _ rfl
      have gm10 : u288 (ad 14 0) = some (.inr (6, [.int 0, .int ((u2 T.1 4 (xs (x4 + 1).toNatClampNeg).toNatClampNeg (tg (T.1 4 (xs (x4 + 1).toNatClampNeg).toNatClampNeg)), T.2).1 0 0), .ref (ad 15 0), .ref (ad 16 0), .ref (ad 17 0), .ref (ad 18 0), .int ((u2 T.1 4 (xs (x4 + 1).toNatClampNeg).toNatClampNeg (tg (T.1 4 (xs (x4 + 1).toNatClampNeg).toNatClampNeg)), T.2).1 5 0), .ref (ad 19 0), .ref (ad 20 0), .ref (ad 21 0), .ref (ad 22 0), .ref (ad 23 0), .ref (ad 24 0), .ref (ad 25 0), .ref (ad 26 0), .ref (ad 27 0)])) := hw2.1 14 0 _ rfl
      refine lv_istore (lv' := [(6, .int (tg (T.1 4 (xs (x4 + 1).toNatClampNeg).toNatClampNeg))), (5, .int 0), (0, .ref b), (1, .ref (ad 0 0)), (2, .ref (ad 14 0)), (3, .ref (ad 28 0)), (4, .int x4)]) hx hb dL_law_291 hl (by decide) rfl (fun ls hl => ?_)
      refine lv_aload_n hx hb dL_law_293 rfl (lv_at hl 4 rfl) ?_
      refine k_i (va_runV (As := []) (rest := []) ⟨hx, hb, hml, hown, hts⟩ (c_X6_thrown l G u288 (u2 T.1 4 (xs (x4 + 1).toNatClampNeg).toNatClampNeg (tg (T.1 4 (xs (x4 + 1).toNatClampNeg).toNatClampNeg)), T.2) (u2 T.1 4 (xs (x4 + 1).toNatClampNeg).toNatClampNeg (tg (T.1 4 (xs (x4 + 1).toNatClampNeg).toNatClampNeg)), T.2) 0 (if (tg (T.1 4 (xs (x4 + 1).toNatClampNeg).toNatClampNeg)) = 0 then 0 else 1) ex ad hw2) (cwV 0 hts gL_law_X6_thrown rfl rfl rfl (by decide +kernel) ⟨Nat.le_of_ble_eq_true rfl, Nat.le_of_ble_eq_true rfl⟩) (preV_of hC hS hM gm10 rfl) rfl rfl hl.1 rfl (lv_room (Nat.le_of_ble_eq_true rfl)) dL_law_294 ⟨(by first | omega | (show _ ≤ 601024; omega) | (show _ ≤ 7293034; omega)), (by first | omega | (show _ ≤ 601024; omega) | (show _ ≤ 7293034; omega))⟩) hS (fun r294 u294 H locs hp294 hM hS => ?_)
      have hM : Hm G u288 H := hM
      have hp294 : r294 = 0 := hp294
      subst hp294
      refine lv_iload hx hb dL_law_297 (lv_at hl 1 rfl) ?_
      refine lv_icmp_eq (tgt := 304) hx hb dL_law_299 (by decide) (fun c_299 => ?_) (fun c_299 => False.elim (by revert c_299; decide))
      refine lv_iload hx hb dL_law_304 (lv_at hl 1 rfl) ?_
      refine lv_if_ne (tgt := 328) hx hb dL_law_306 (by decide) (fun c_306 => False.elim (by revert c_306; decide)) (fun c_306 => ?_)
      refine lv_aload_n hx hb dL_law_309 rfl (lv_at hl 5 rfl) ?_
      refine lv_iconst (v := 0) hx hb dL_law_310 (by decide) ?_
      refine m_lald (a := (ad 28 0)) hx hb hC hM go10 (vin_of (n := 1) 1 (by decide) (by decide)) dL_law_311 ?_
      refine lv_iload hx hb dL_law_312 (lv_at hl 0 rfl) ?_
      refine lv_if_eq (tgt := 321) hx hb dL_law_314 (by decide) (fun c_314 => ?_) (fun c_314 => ?_)
      · refine lv_lconst (v := 0) hx hb dL_law_321 (by decide) ?_
        refine W.lcmp hx hb dL_law_322 ?_
        refine lv_if_eq (tgt := 328) hx hb dL_law_323 (by decide) (fun c_323 => ?_) (fun c_323 => False.elim (by exact c_323 ((lg_cmp_eq _ _).mpr (if_pos c_314))))
        refine lv_goto (tgt := 1326) hx hb dL_law_328 (by decide) ?_
        refine W.widen (k := c0 + 42) (n := s0 + 132) (by omega) (by omega) ?_
        exact K (u2 T.1 4 (xs (x4 + 1).toNatClampNeg).toNatClampNeg (tg (T.1 4 (xs (x4 + 1).toNatClampNeg).toNatClampNeg)), T.2) 0 (if (tg (T.1 4 (xs (x4 + 1).toNatClampNeg).toNatClampNeg)) = 0 then 0 else 1) ex ad _ _ _ ls (iv_hol hi (tg01 _)) hx9 (hw2) hM hS (lv_sub hl [2, 3, 4, 5, 6] rfl)
      · refine lv_lconst (v := 1) hx hb dL_law_317 (by decide) ?_
        refine lv_goto (tgt := 322) hx hb dL_law_318 (by decide) ?_
        refine W.lcmp hx hb dL_law_322 ?_
        refine lv_if_eq (tgt := 328) hx hb dL_law_323 (by decide) (fun c_323 => ?_) (fun c_323 => False.elim (by exact c_323 ((lg_cmp_eq _ _).mpr (if_neg c_314))))
        refine lv_goto (tgt := 1326) hx hb dL_law_328 (by decide) ?_
        refine W.widen (k := c0 + 42) (n := s0 + 132) (by omega) (by omega) ?_
        exact K (u2 T.1 4 (xs (x4 + 1).toNatClampNeg).toNatClampNeg (tg (T.1 4 (xs (x4 + 1).toNatClampNeg).toNatClampNeg)), T.2) 0 (if (tg (T.1 4 (xs (x4 + 1).toNatClampNeg).toNatClampNeg)) = 0 then 0 else 1) ex ad _ _ _ ls (iv_hol hi (tg01 _)) hx9 (hw2) hM hS (lv_sub hl [2, 3, 4, 5, 6] rfl)
set_option maxHeartbeats 4000000 in
set_option maxRecDepth 100000 in
theorem law_3 {p : Program} {l : Launch} (hnt : l.stackTraces = false) {e : Env} {s : State} {m : MethodId} {below : List Frame} {meth : Method} {c : Code} {b L : Nat} {xs : Nat → Int32} (C0 : lw_At p s m meth c b L xs) {G : Gx} {T : Sd} {th : Int32} {o : Int64} {ex : Nat → Option (Nat × Nat)} {ad : Nat → Nat → Nat} {M : Mp} {c0 s0 : Nat} {x4 : Int32} {Q : State → Prop} (k9 : Nat) (hk9 : k9 = 20) (hC : Cx G s) (hG : G.2.2 = s.heap.size) (hi : Iv T) (hx9 : Ix T ex) (hw : WA G T T th o ex ad M) (hc0 : c0 + 42 ≤ 601024) (hs0 : s0 + 132 ≤ 7293034) (h_1 : vp_in (x4 + 1) L) (h_2 : vp_in (x4 + 2) L) (h_3 : vp_in (x4 + 3) L) (h_4 : vp_in (x4 + 4) L) (h_5 : vp_in (x4 + 5) L) (h_6 : vp_in (x4 + 6) L)
    (K : ∀ (T' : Sd) (th' : Int32) (o' : Int64) (ex' : Nat → Option (Nat × Nat)) (ad' : Nat → Nat → Nat) (M' : Mp) (H : Heap) (locs : List Loc) (ls : Array Slot), Iv T' → Ix T' ex' → WA G T' T' th' o' ex' ad' M' → Hm G M' H → va_S (AG G) s.heap H locs → lv_has ls 8 [(0, .ref b), (1, .ref (ad' 0 0)), (2, .ref (ad' 14 0)), (3, .ref (ad' 28 0)), (4, .int x4)] → W p l e room_1 s m #[Value.ref b] below meth c H locs (c0 + 42) (s0 + 132) Q (F0 m 1326 ls [])) (ls : Array Slot) (hl : lv_has ls 8 [(0, .ref b), (1, .ref (ad 0 0)), (2, .ref (ad 14 0)), (3, .ref (ad 28 0)), (4, .int x4)]) (H : Heap) (locs : List Loc) (hM : Hm G M H) (hS : va_S (AG G) s.heap H locs) : W p l e room_1 s m #[Value.ref b] below meth c H locs c0 s0 Q (F0 m 331 ls []) := by
  obtain ⟨hx, hb, hr, hml, hown, hts0, hX, hbl, hlocks, hgv⟩ := id C0
  have hts := fun w h => hts0 w (wsL_law_in w h)
  have hbA : ¬ AG G b := by show ¬ G.2.2 ≤ b; rw [hG]; exact Nat.not_le.mpr hbl
  refine lv_aload_n hx hb dL_law_331 rfl (lv_at hl 1 rfl) ?_
  refine lv_aload_n hx hb dL_law_332 rfl (lv_at hl 0 rfl) ?_
  refine lv_iload hx hb dL_law_333 (lv_at hl 4 rfl) ?_
  refine lv_iconst (v := 1) hx hb dL_law_335 (by decide) ?_
  refine lv_iadd hx hb dL_law_336 ?_
  refine va_sld hx hb hX hbl hbA hS h_1 dL_law_337 ?_
  refine lv_aload_n hx hb dL_law_338 rfl (lv_at hl 0 rfl) ?_
  refine lv_iload hx hb dL_law_339 (lv_at hl 4 rfl) ?_
  refine lv_iconst (v := 2) hx hb dL_law_341 (by decide) ?_
  refine lv_iadd hx hb dL_law_342 ?_
  refine va_sld hx hb hX hbl hbA hS h_2 dL_law_343 ?_
  refine lv_aload_n hx hb dL_law_344 rfl (lv_at hl 3 rfl) ?_
  refine k_i (vx_runSW (As := [.ref (ad 0 0), .int (xs (x4 + 1).toNatClampNeg), .int (xs (x4 + 2).toNatClampNeg), .ref (ad 28 0)]) (rest := []) ⟨hx, hb, hml, hown, hts⟩ (c_L_setLimit hnt l G M T T th o ex ad (xs (x4 + 1).toNatClampNeg) (xs (x4 + 2).toNatClampNeg) hw hi) (vx_cwSW 4 hts gL_law_L_setLimit rfl rfl rfl (by decide +kernel) ⟨Nat.le_of_ble_eq_true rfl, Nat.le_of_ble_eq_true rfl⟩) (preS_of hC hS hM) rfl rfl hl.1 rfl (lv_room (Nat.le_of_ble_eq_true rfl)) dL_law_345 ⟨(by first | omega | (show _ ≤ 601024; omega) | (show _ ≤ 7293034; omega)), (by first | omega | (show _ ≤ 601024; omega) | (show _ ≤ 7293034; omega))⟩) hS (fun r345 u345 H locs hp345 hM hS => ?_)
  have hM : Hm G u345 H := hM
  rcases hp345 with ⟨er, z1, hw1⟩ | ⟨er, ⟨z1, z2⟩, hw1⟩ | ⟨er, ⟨z1, z2⟩, hw1⟩
  · subst er
    have go1 : u345 (ad 28 0) = some (.inl (G.2.1 1, 1, .inr (.inl (fun _ => o)))) := hw1.1 28 0 _ rfl
    have gm1 : u345 (ad 14 0) = some (.inr (6, [.int th, .int (T.1 0 0), .ref (ad 15 0), .ref (ad 16 0), .ref (ad 17 0), .ref (ad 18 0), .int (T.1 5 0), .ref (ad 19 0), .ref (ad 20 0), .ref (ad 21 0), .ref (ad 22 0), .ref (ad 23 0), .ref (ad 24 0), .ref (ad 25 0), .ref (ad 26 0), .ref (ad 27 0)])) := hw1.1 14 0 _ rfl
    refine lv_istore (lv' := [(5, .int 1), (0, .ref b), (1, .ref (ad 0 0)), (2, .ref (ad 14 0)), (3, .ref (ad 28 0)), (4, .int x4)]) hx hb dL_law_348 hl (by decide) rfl (fun ls hl => ?_)
    refine lv_aload_n hx hb dL_law_350 rfl (lv_at hl 3 rfl) ?_
    refine lv_aload_n hx hb dL_law_351 rfl (lv_at hl 1 rfl) ?_
    refine lv_iload hx hb dL_law_352 (lv_at hl 5 rfl) ?_
    refine lv_iconst (v := 1) hx hb dL_law_354 (by decide) ?_
    refine lv_iadd hx hb dL_law_355 ?_
    refine va_sld hx hb hX hbl hbA hS h_1 dL_law_356 ?_
    refine lv_aload_n hx hb dL_law_357 rfl (lv_at hl 1 rfl) ?_
    refine lv_iload hx hb dL_law_358 (lv_at hl 5 rfl) ?_
    refine lv_iconst (v := 2) hx hb dL_law_360 (by decide) ?_
    refine lv_iadd hx hb dL_law_361 ?_
    refine va_sld hx hb hX hbl hbA hS h_2 dL_law_362 ?_
    refine k_i (va_runV (As := [.int (xs (x4 + 1).toNatClampNeg), .int (xs (x4 + 2).toNatClampNeg)]) (rest := []) ⟨hx, hb, hml, hown, hts⟩ (c_X6_setLimit l G u345 T T th o ex ad (xs (x4 + 1).toNatClampNeg) (xs (x4 + 2).toNatClampNeg) hw1) (cwV 2 hts gL_law_X6_setLimit rfl rfl rfl (by decide +kernel) ⟨Nat.le_of_ble_eq_true rfl, Nat.le_of_ble_eq_true rfl⟩) (preV_of hC hS hM gm1 rfl) rfl rfl hl.1 rfl (lv_room (Nat.le_of_ble_eq_true rfl)) dL_law_363 ⟨(by first | omega | (show _ ≤ 601024; omega) | (show _ ≤ 7293034; omega)), (by first | omega | (show _ ≤ 601024; omega) | (show _ ≤ 7293034; omega))⟩) hS (fun r363 u363 H locs hp363 hM hS => ?_)
    have hM : Hm G u363 H := hM
    rcases hp363 with ⟨y1, hw2⟩ | ⟨y1, y2, hw2⟩ | ⟨y1, y2, er2, hw2⟩
    · have hMk : Hm G u363 H := hM
      have go2 : u363 (ad 28 0) = some (.inl (G.2.1 1, 1, .inr (.inl (fun _ => o)))) := hw2.1 28 0 _ rfl
      have gm2 : u363 (ad 14 0) = some (.inr (6, [.int 1, .int (T.1 0 0), .ref (ad 15 0), .ref (ad 16 0), .ref (ad 17 0), .ref (ad 18 0), .int (T.1 5 0), .ref (ad 19 0), .ref (ad 20 0), .ref (ad 21 0), .ref (ad 22 0), .ref (ad 23 0), .ref (ad 24 0), .ref (ad 25 0), .ref (ad 26 0), .ref (ad 27 0)])) := hw2.1 14 0 _ rfl
      refine lv_istore (lv' := [(6, .int r363), (5, .int 1), (0, .ref b), (1, .ref (ad 0 0)), (2, .ref (ad 14 0)), (3, .ref (ad 28 0)), (4, .int x4)]) hx hb dL_law_366 hl (by decide) rfl (fun ls hl => ?_)
      refine lv_aload_n hx hb dL_law_368 rfl (lv_at hl 4 rfl) ?_
      refine k_i (va_runV (As := []) (rest := []) ⟨hx, hb, hml, hown, hts⟩ (c_X6_thrown l G u363 T T 1 o ex ad hw2) (cwV 0 hts gL_law_X6_thrown rfl rfl rfl (by decide +kernel) ⟨Nat.le_of_ble_eq_true rfl, Nat.le_of_ble_eq_true rfl⟩) (preV_of hC hS hM gm2 rfl) rfl rfl hl.1 rfl (lv_room (Nat.le_of_ble_eq_true rfl)) dL_law_369 ⟨(by first | omega | (show _ ≤ 601024; omega) | (show _ ≤ 7293034; omega)), (by first | omega | (show _ ≤ 601024; omega) | (show _ ≤ 7293034; omega))⟩) hS (fun r369 u369 H locs hp369 hM hS => ?_)
      have hM : Hm G u363 H := hM
      have hp369 : r369 = 1 := hp369
      subst hp369
      refine lv_iload hx hb dL_law_372 (lv_at hl 1 rfl) ?_
      refine lv_icmp_eq (tgt := 379) hx hb dL_law_374 (by decide) (fun c_374 => ?_) (fun c_374 => False.elim (by revert c_374; decide))
      refine lv_iload hx hb dL_law_379 (lv_at hl 1 rfl) ?_
      refine lv_if_ne (tgt := 396) hx hb dL_law_381 (by decide) (fun c_381 => ?_) (fun c_381 => False.elim (by revert c_381; decide))
      refine lv_goto (tgt := 1326) hx hb dL_law_396 (by decide) ?_
      refine W.widen (k := c0 + 42) (n := s0 + 132) (by omega) (by omega) ?_
      exact K T 1 o ex ad _ _ _ ls hi hx9 hw2 hM hS (lv_sub hl [2, 3, 4, 5, 6] rfl)
    · exact False.elim (by first | exact absurd z1 y1 | exact absurd y1 z1)
    · exact False.elim (by first | exact absurd z1 y1 | exact absurd y1 z1)
  · subst er
    have go5 : u345 (ad 28 0) = some (.inl (G.2.1 1, 1, .inr (.inl (fun _ => o)))) := hw1.1 28 0 _ rfl
    have gm5 : u345 (ad 14 0) = some (.inr (6, [.int th, .int (T.1 0 0), .ref (ad 15 0), .ref (ad 16 0), .ref (ad 17 0), .ref (ad 18 0), .int (T.1 5 0), .ref (ad 19 0), .ref (ad 20 0), .ref (ad 21 0), .ref (ad 22 0), .ref (ad 23 0), .ref (ad 24 0), .ref (ad 25 0), .ref (ad 26 0), .ref (ad 27 0)])) := hw1.1 14 0 _ rfl
    refine lv_istore (lv' := [(5, .int 2), (0, .ref b), (1, .ref (ad 0 0)), (2, .ref (ad 14 0)), (3, .ref (ad 28 0)), (4, .int x4)]) hx hb dL_law_348 hl (by decide) rfl (fun ls hl => ?_)
    refine lv_aload_n hx hb dL_law_350 rfl (lv_at hl 3 rfl) ?_
    refine lv_aload_n hx hb dL_law_351 rfl (lv_at hl 1 rfl) ?_
    refine lv_iload hx hb dL_law_352 (lv_at hl 5 rfl) ?_
    refine lv_iconst (v := 1) hx hb dL_law_354 (by decide) ?_
    refine lv_iadd hx hb dL_law_355 ?_
    refine va_sld hx hb hX hbl hbA hS h_1 dL_law_356 ?_
    refine lv_aload_n hx hb dL_law_357 rfl (lv_at hl 1 rfl) ?_
    refine lv_iload hx hb dL_law_358 (lv_at hl 5 rfl) ?_
    refine lv_iconst (v := 2) hx hb dL_law_360 (by decide) ?_
    refine lv_iadd hx hb dL_law_361 ?_
    refine va_sld hx hb hX hbl hbA hS h_2 dL_law_362 ?_
    refine k_i (va_runV (As := [.int (xs (x4 + 1).toNatClampNeg), .int (xs (x4 + 2).toNatClampNeg)]) (rest := []) ⟨hx, hb, hml, hown, hts⟩ (c_X6_setLimit l G u345 T T th o ex ad (xs (x4 + 1).toNatClampNeg) (xs (x4 + 2).toNatClampNeg) hw1) (cwV 2 hts gL_law_X6_setLimit rfl rfl rfl (by decide +kernel) ⟨Nat.le_of_ble_eq_true rfl, Nat.le_of_ble_eq_true rfl⟩) (preV_of hC hS hM gm5 rfl) rfl rfl hl.1 rfl (lv_room (Nat.le_of_ble_eq_true rfl)) dL_law_363 ⟨(by first | omega | (show _ ≤ 601024; omega) | (show _ ≤ 7293034; omega)), (by first | omega | (show _ ≤ 601024; omega) | (show _ ≤ 7293034; omega))⟩) hS (fun r363 u363 H locs hp363 hM hS => ?_)
    have hM : Hm G u363 H := hM
    rcases hp363 with ⟨y1, hw2⟩ | ⟨y1, y2, hw2⟩ | ⟨y1, y2, er2, hw2⟩
    · exact False.elim (by first | exact absurd z1 y1 | exact absurd y1 z1)
    · have hMk : Hm G u363 H := hM
      have go6 : u363 (ad 28 0) = some (.inl (G.2.1 1, 1, .inr (.inl (fun _ => o)))) := hw2.1 28 0 _ rfl
      have gm6 : u363 (ad 14 0) = some (.inr (6, [.int 2, .int (T.1 0 0), .ref (ad 15 0), .ref (ad 16 0), .ref (ad 17 0), .ref (ad 18 0), .int (T.1 5 0), .ref (ad 19 0), .ref (ad 20 0), .ref (ad 21 0), .ref (ad 22 0), .ref (ad 23 0), .ref (ad 24 0), .ref (ad 25 0), .ref (ad 26 0), .ref (ad 27 0)])) := hw2.1 14 0 _ rfl
      refine lv_istore (lv' := [(6, .int r363), (5, .int 2), (0, .ref b), (1, .ref (ad 0 0)), (2, .ref (ad 14 0)), (3, .ref (ad 28 0)), (4, .int x4)]) hx hb dL_law_366 hl (by decide) rfl (fun ls hl => ?_)
      refine lv_aload_n hx hb dL_law_368 rfl (lv_at hl 4 rfl) ?_
      refine k_i (va_runV (As := []) (rest := []) ⟨hx, hb, hml, hown, hts⟩ (c_X6_thrown l G u363 T T 2 o ex ad hw2) (cwV 0 hts gL_law_X6_thrown rfl rfl rfl (by decide +kernel) ⟨Nat.le_of_ble_eq_true rfl, Nat.le_of_ble_eq_true rfl⟩) (preV_of hC hS hM gm6 rfl) rfl rfl hl.1 rfl (lv_room (Nat.le_of_ble_eq_true rfl)) dL_law_369 ⟨(by first | omega | (show _ ≤ 601024; omega) | (show _ ≤ 7293034; omega)), (by first | omega | (show _ ≤ 601024; omega) | (show _ ≤ 7293034; omega))⟩) hS (fun r369 u369 H locs hp369 hM hS => ?_)
      have hM : Hm G u363 H := hM
      have hp369 : r369 = 2 := hp369
      subst hp369
      refine lv_iload hx hb dL_law_372 (lv_at hl 1 rfl) ?_
      refine lv_icmp_eq (tgt := 379) hx hb dL_law_374 (by decide) (fun c_374 => ?_) (fun c_374 => False.elim (by revert c_374; decide))
      refine lv_iload hx hb dL_law_379 (lv_at hl 1 rfl) ?_
      refine lv_if_ne (tgt := 396) hx hb dL_law_381 (by decide) (fun c_381 => ?_) (fun c_381 => False.elim (by revert c_381; decide))
      refine lv_goto (tgt := 1326) hx hb dL_law_396 (by decide) ?_
      refine W.widen (k := c0 + 42) (n := s0 + 132) (by omega) (by omega) ?_
      exact K T 2 o ex ad _ _ _ ls hi hx9 hw2 hM hS (lv_sub hl [2, 3, 4, 5, 6] rfl)
    · exact False.elim (by first | exact absurd z2 y2 | exact absurd y2 z2)
  · subst er
    have go9 : u345 (ad 28 0) = some (.inl (G.2.1 1, 1, .inr (.inl (fun _ => (T.1 3 (xs (x4 + 1).toNatClampNeg).toNatClampNeg).toInt64)))) := hw1.1 28 0 _ rfl
    have gm9 : u345 (ad 14 0) = some (.inr (6, [.int th, .int (T.1 0 0), .ref (ad 15 0), .ref (ad 16 0), .ref (ad 17 0), .ref (ad 18 0), .int (T.1 5 0), .ref (ad 19 0), .ref (ad 20 0), .ref (ad 21 0), .ref (ad 22 0), .ref (ad 23 0), .ref (ad 24 0), .ref (ad 25 0), .ref (ad 26 0), .ref (ad 27 0)])) := hw1.1 14 0 _ rfl
    refine lv_istore (lv' := [(5, .int 0), (0, .ref b), (1, .ref (ad 0 0)), (2, .ref (ad 14 0)), (3, .ref (ad 28 0)), (4, .int x4)]) hx hb dL_law_348 hl (by decide) rfl (fun ls hl => ?_)
    refine lv_aload_n hx hb dL_law_350 rfl (lv_at hl 3 rfl) ?_
    refine lv_aload_n hx hb dL_law_351 rfl (lv_at hl 1 rfl) ?_
    refine lv_iload hx hb dL_law_352 (lv_at hl 5 rfl) ?_
    refine lv_iconst (v := 1) hx hb dL_law_354 (by decide) ?_
    refine lv_iadd hx hb dL_law_355 ?_
    refine va_sld hx hb hX hbl hbA hS h_1 dL_law_356 ?_
    refine lv_aload_n hx hb dL_law_357 rfl (lv_at hl 1 rfl) ?_
    refine lv_iload hx hb dL_law_358 (lv_at hl 5 rfl) ?_
    refine lv_iconst (v := 2) hx hb dL_law_360 (by decide) ?_
    refine lv_iadd hx hb dL_law_361 ?_
    refine va_sld hx hb hX hbl hbA hS h_2 dL_law_362 ?_
    refine k_i (va_runV (As := [.int (xs (x4 + 1).toNatClampNeg), .int (xs (x4 + 2).toNatClampNeg)]) (rest := []) ⟨hx, hb, hml, hown, hts⟩ (c_X6_setLimit l G u345 (u2 T.1 3 (xs (x4 + 1).toNatClampNeg).toNatClampNeg (xs (x4 + 2).toNatClampNeg), u2 T.2 2 (xs (x4 + 1).toNatClampNeg).toNatClampNeg (xs (x4 + 2).toNatClampNeg).toInt64) T th ((T.1 3 (xs (x4 + 1).toNatClampNeg).toNatClampNeg).toInt64) ex ad (xs (x4 + 1).toNatClampNeg) (xs (x4 + 2).toNatClampNeg) hw1) (cwV 2 hts gL_law_X6_setLimit rfl rfl rfl (by decide +kernel) ⟨Nat.le_of_ble_eq_true rfl, Nat.le_of_ble_eq_true rfl⟩) (preV_of hC hS hM gm9 rfl) rfl rfl hl.1 rfl (lv_room (Nat.le_of_ble_eq_true rfl)) dL_law_363 ⟨(by first | omega | (show _ ≤ 601024; omega) | (show _ ≤ 7293034; omega)), (by first | omega | (show _ ≤ 601024; omega) | (show _ ≤ 7293034; omega))⟩) hS (fun r363 u363 H locs hp363 hM hS => ?_)
    have hM : Hm G u363 H := hM
    rcases hp363 with ⟨y1, hw2⟩ | ⟨y1, y2, hw2⟩ | ⟨y1, y2, er2, hw2⟩
    · exact False.elim (by first | exact absurd z1 y1 | exact absurd y1 z1)
    · exact False.elim (by first | exact absurd z2 y2 | exact absurd y2 z2)
    · subst er2
      have hMk : Hm G u363 H := hM
      have go10 : u363 (ad 28 0) = some (.inl (G.2.1 1, 1, .inr (.inl (fun _ => (T.1 3 (xs (x4 + 1).toNatClampNeg).toNatClampNeg).toInt64)))) := hw2.1 28 0 _ rfl
      have gm10 : u363 (ad 14 0) = some (.inr (6, [.int 0, .int ((T.1, u2 T.2 2 (xs (x4 + 1).toNatClampNeg).toNatClampNeg (xs (x4 + 2).toNatClampNeg).toInt64).1 0 0), .ref (ad 15 0), .ref (ad 16 0), .ref (ad 17 0), .ref (ad 18 0), .int ((T.1, u2 T.2 2 (xs (x4 + 1).toNatClampNeg).toNatClampNeg (xs (x4 + 2).toNatClampNeg).toInt64).1 5 0), .ref (ad 19 0), .ref (ad 20 0), .ref (ad 21 0), .ref (ad 22 0), .ref (ad 23 0), .ref (ad 24 0), .ref (ad 25 0), .ref (ad 26 0), .ref (ad 27 0)])) := hw2.1 14 0 _ rfl
      refine lv_istore (lv' := [(6, .int ((T.2 2 (xs (x4 + 1).toNatClampNeg).toNatClampNeg).toInt32)), (5, .int 0), (0, .ref b), (1, .ref (ad 0 0)), (2, .ref (ad 14 0)), (3, .ref (ad 28 0)), (4, .int x4)]) hx hb dL_law_366 hl (by decide) rfl (fun ls hl => ?_)
      refine lv_aload_n hx hb dL_law_368 rfl (lv_at hl 4 rfl) ?_
      refine k_i (va_runV (As := []) (rest := []) ⟨hx, hb, hml, hown, hts⟩ (c_X6_thrown l G u363 (u2 T.1 3 (xs (x4 + 1).toNatClampNeg).toNatClampNeg (xs (x4 + 2).toNatClampNeg), u2 T.2 2 (xs (x4 + 1).toNatClampNeg).toNatClampNeg (xs (x4 + 2).toNatClampNeg).toInt64) (T.1, u2 T.2 2 (xs (x4 + 1).toNatClampNeg).toNatClampNeg (xs (x4 + 2).toNatClampNeg).toInt64) 0 ((T.1 3 (xs (x4 + 1).toNatClampNeg).toNatClampNeg).toInt64) ex ad hw2) (cwV 0 hts gL_law_X6_thrown rfl rfl rfl (by decide +kernel) ⟨Nat.le_of_ble_eq_true rfl, Nat.le_of_ble_eq_true rfl⟩) (preV_of hC hS hM gm10 rfl) rfl rfl hl.1 rfl (lv_room (Nat.le_of_ble_eq_true rfl)) dL_law_369 ⟨(by first | omega | (show _ ≤ 601024; omega) | (show _ ≤ 7293034; omega)), (by first | omega | (show _ ≤ 601024; omega) | (show _ ≤ 7293034; omega))⟩) hS (fun r369 u369 H locs hp369 hM hS => ?_)
      have hM : Hm G u363 H := hM
      have hp369 : r369 = 0 := hp369
      subst hp369
      refine lv_iload hx hb dL_law_372 (lv_at hl 1 rfl) ?_
      refine lv_icmp_eq (tgt := 379) hx hb dL_law_374 (by decide) (fun c_374 => ?_) (fun c_374 => False.elim (by revert c_374; decide))
      refine lv_iload hx hb dL_law_379 (lv_at hl 1 rfl) ?_
      refine lv_if_ne (tgt := 396) hx hb dL_law_381 (by decide) (fun c_381 => False.elim (by revert c_381; decide)) (fun c_381 => ?_)
      refine lv_aload_n hx hb dL_law_384 rfl (lv_at hl 5 rfl) ?_
      refine lv_iconst (v := 0) hx hb dL_law_385 (by decide) ?_
      refine m_lald (a := (ad 28 0)) hx hb hC hM go10 (vin_of (n := 1) 1 (by decide) (by decide)) dL_law_386 ?_
      refine lv_iload hx hb dL_law_387 (lv_at hl 0 rfl) ?_
      refine lv_i2l hx hb dL_law_389 rfl ?_
      refine W.lcmp hx hb dL_law_390 ?_
      refine lv_if_eq (tgt := 396) hx hb dL_law_391 (by decide) (fun c_391 => ?_) (fun c_391 => False.elim (by exact c_391 ((lg_cmp_eq _ _).mpr (by show (T.1 3 _).toInt64 = (T.2 2 _).toInt32.toInt64; rw [hi.2.2.2.2, Int32.toInt32_toInt64]))))
      refine lv_goto (tgt := 1326) hx hb dL_law_396 (by decide) ?_
      refine W.widen (k := c0 + 42) (n := s0 + 132) (by omega) (by omega) ?_
      exact K (u2 T.1 3 (xs (x4 + 1).toNatClampNeg).toNatClampNeg (xs (x4 + 2).toNatClampNeg), u2 T.2 2 (xs (x4 + 1).toNatClampNeg).toNatClampNeg (xs (x4 + 2).toNatClampNeg).toInt64) 0 ((T.1 3 (xs (x4 + 1).toNatClampNeg).toNatClampNeg).toInt64) ex ad _ _ _ ls (iv_lim hi) (ix_lim hx9) (wa_lim hw2) hM hS (lv_sub hl [2, 3, 4, 5, 6] rfl)
set_option maxHeartbeats 4000000 in
set_option maxRecDepth 100000 in
theorem law_4 {p : Program} {l : Launch} (hnt : l.stackTraces = false) {e : Env} {s : State} {m : MethodId} {below : List Frame} {meth : Method} {c : Code} {b L : Nat} {xs : Nat → Int32} (C0 : lw_At p s m meth c b L xs) {G : Gx} {T : Sd} {th : Int32} {o : Int64} {ex : Nat → Option (Nat × Nat)} {ad : Nat → Nat → Nat} {M : Mp} {c0 s0 : Nat} {x4 : Int32} {Q : State → Prop} (k9 : Nat) (hk9 : k9 = 20) (hC : Cx G s) (hG : G.2.2 = s.heap.size) (hi : Iv T) (hx9 : Ix T ex) (hw : WA G T T th o ex ad M) (hc0 : c0 + 42 ≤ 601024) (hs0 : s0 + 132 ≤ 7293034) (h_1 : vp_in (x4 + 1) L) (h_2 : vp_in (x4 + 2) L) (h_3 : vp_in (x4 + 3) L) (h_4 : vp_in (x4 + 4) L) (h_5 : vp_in (x4 + 5) L) (h_6 : vp_in (x4 + 6) L)
    (K : ∀ (T' : Sd) (th' : Int32) (o' : Int64) (ex' : Nat → Option (Nat × Nat)) (ad' : Nat → Nat → Nat) (M' : Mp) (H : Heap) (locs : List Loc) (ls : Array Slot), Iv T' → Ix T' ex' → WA G T' T' th' o' ex' ad' M' → Hm G M' H → va_S (AG G) s.heap H locs → lv_has ls 8 [(0, .ref b), (1, .ref (ad' 0 0)), (2, .ref (ad' 14 0)), (3, .ref (ad' 28 0)), (4, .int x4)] → W p l e room_1 s m #[Value.ref b] below meth c H locs (c0 + 42) (s0 + 132) Q (F0 m 1326 ls [])) (ls : Array Slot) (hl : lv_has ls 8 [(0, .ref b), (1, .ref (ad 0 0)), (2, .ref (ad 14 0)), (3, .ref (ad 28 0)), (4, .int x4)]) (H : Heap) (locs : List Loc) (hM : Hm G M H) (hS : va_S (AG G) s.heap H locs) : W p l e room_1 s m #[Value.ref b] below meth c H locs c0 s0 Q (F0 m 399 ls []) := by
  obtain ⟨hx, hb, hr, hml, hown, hts0, hX, hbl, hlocks, hgv⟩ := id C0
  have hts := fun w h => hts0 w (wsL_law_in w h)
  have hbA : ¬ AG G b := by show ¬ G.2.2 ≤ b; rw [hG]; exact Nat.not_le.mpr hbl
  refine lv_aload_n hx hb dL_law_399 rfl (lv_at hl 1 rfl) ?_
  refine lv_aload_n hx hb dL_law_400 rfl (lv_at hl 0 rfl) ?_
  refine lv_iload hx hb dL_law_401 (lv_at hl 4 rfl) ?_
  refine lv_iconst (v := 1) hx hb dL_law_403 (by decide) ?_
  refine lv_iadd hx hb dL_law_404 ?_
  refine va_sld hx hb hX hbl hbA hS h_1 dL_law_405 ?_
  refine lv_aload_n hx hb dL_law_406 rfl (lv_at hl 0 rfl) ?_
  refine lv_iload hx hb dL_law_407 (lv_at hl 4 rfl) ?_
  refine lv_iconst (v := 2) hx hb dL_law_409 (by decide) ?_
  refine lv_iadd hx hb dL_law_410 ?_
  refine va_sld hx hb hX hbl hbA hS h_2 dL_law_411 ?_
  refine lv_aload_n hx hb dL_law_412 rfl (lv_at hl 3 rfl) ?_
  refine k_i (vx_runSW (As := [.ref (ad 0 0), .int (xs (x4 + 1).toNatClampNeg), .int (xs (x4 + 2).toNatClampNeg), .ref (ad 28 0)]) (rest := []) ⟨hx, hb, hml, hown, hts⟩ (c_L_forward hnt l G M T T th o ex ad (xs (x4 + 1).toNatClampNeg) (xs (x4 + 2).toNatClampNeg) hw hi) (vx_cwSW 4 hts gL_law_L_forward rfl rfl rfl (by decide +kernel) ⟨Nat.le_of_ble_eq_true rfl, Nat.le_of_ble_eq_true rfl⟩) (preS_of hC hS hM) rfl rfl hl.1 rfl (lv_room (Nat.le_of_ble_eq_true rfl)) dL_law_413 ⟨(by first | omega | (show _ ≤ 601024; omega) | (show _ ≤ 7293034; omega)), (by first | omega | (show _ ≤ 601024; omega) | (show _ ≤ 7293034; omega))⟩) hS (fun r413 u413 H locs hp413 hM hS => ?_)
  have hM : Hm G u413 H := hM
  rcases hp413 with ⟨er, z1, hw1⟩ | ⟨er, ⟨z1, z2⟩, hw1⟩ | ⟨er, ⟨z1, z2⟩, hw1⟩
  · subst er
    have go1 : u413 (ad 28 0) = some (.inl (G.2.1 1, 1, .inr (.inl (fun _ => o)))) := hw1.1 28 0 _ rfl
    have gm1 : u413 (ad 14 0) = some (.inr (6, [.int th, .int (T.1 0 0), .ref (ad 15 0), .ref (ad 16 0), .ref (ad 17 0), .ref (ad 18 0), .int (T.1 5 0), .ref (ad 19 0), .ref (ad 20 0), .ref (ad 21 0), .ref (ad 22 0), .ref (ad 23 0), .ref (ad 24 0), .ref (ad 25 0), .ref (ad 26 0), .ref (ad 27 0)])) := hw1.1 14 0 _ rfl
    refine lv_istore (lv' := [(5, .int 1), (0, .ref b), (1, .ref (ad 0 0)), (2, .ref (ad 14 0)), (3, .ref (ad 28 0)), (4, .int x4)]) hx hb dL_law_416 hl (by decide) rfl (fun ls hl => ?_)
    refine lv_aload_n hx hb dL_law_418 rfl (lv_at hl 3 rfl) ?_
    refine lv_aload_n hx hb dL_law_419 rfl (lv_at hl 1 rfl) ?_
    refine lv_iload hx hb dL_law_420 (lv_at hl 5 rfl) ?_
    refine lv_iconst (v := 1) hx hb dL_law_422 (by decide) ?_
    refine lv_iadd hx hb dL_law_423 ?_
    refine va_sld hx hb hX hbl hbA hS h_1 dL_law_424 ?_
    refine lv_aload_n hx hb dL_law_425 rfl (lv_at hl 1 rfl) ?_
    refine lv_iload hx hb dL_law_426 (lv_at hl 5 rfl) ?_
    refine lv_iconst (v := 2) hx hb dL_law_428 (by decide) ?_
    refine lv_iadd hx hb dL_law_429 ?_
    refine va_sld hx hb hX hbl hbA hS h_2 dL_law_430 ?_
    refine k_i (va_runV (As := [.int (xs (x4 + 1).toNatClampNeg), .int (xs (x4 + 2).toNatClampNeg)]) (rest := []) ⟨hx, hb, hml, hown, hts⟩ (c_X6_forward l G u413 T T th o ex ad (xs (x4 + 1).toNatClampNeg) (xs (x4 + 2).toNatClampNeg) hw1) (cwV 2 hts gL_law_X6_forward rfl rfl rfl (by decide +kernel) ⟨Nat.le_of_ble_eq_true rfl, Nat.le_of_ble_eq_true rfl⟩) (preV_of hC hS hM gm1 rfl) rfl rfl hl.1 rfl (lv_room (Nat.le_of_ble_eq_true rfl)) dL_law_431 ⟨(by first | omega | (show _ ≤ 601024; omega) | (show _ ≤ 7293034; omega)), (by first | omega | (show _ ≤ 601024; omega) | (show _ ≤ 7293034; omega))⟩) hS (fun r431 u431 H locs hp431 hM hS => ?_)
    have hM : Hm G u431 H := hM
    rcases hp431 with ⟨y1, hw2⟩ | ⟨y1, y2, hw2⟩ | ⟨y1, y2, er2, hw2⟩
    · have hMk : Hm G u431 H := hM
      have go2 : u431 (ad 28 0) = some (.inl (G.2.1 1, 1, .inr (.inl (fun _ => o)))) := hw2.1 28 0 _ rfl
      have gm2 : u431 (ad 14 0) = some (.inr (6, [.int 1, .int (T.1 0 0), .ref (ad 15 0), .ref (ad 16 0), .ref (ad 17 0), .ref (ad 18 0), .int (T.1 5 0), .ref (ad 19 0), .ref (ad 20 0), .ref (ad 21 0), .ref (ad 22 0), .ref (ad 23 0), .ref (ad 24 0), .ref (ad 25 0), .ref (ad 26 0), .ref (ad 27 0)])) := hw2.1 14 0 _ rfl
      refine lv_istore (lv' := [(6, .int r431), (5, .int 1), (0, .ref b), (1, .ref (ad 0 0)), (2, .ref (ad 14 0)), (3, .ref (ad 28 0)), (4, .int x4)]) hx hb dL_law_434 hl (by decide) rfl (fun ls hl => ?_)
      refine lv_aload_n hx hb dL_law_436 rfl (lv_at hl 4 rfl) ?_
      refine k_i (va_runV (As := []) (rest := []) ⟨hx, hb, hml, hown, hts⟩ (c_X6_thrown l G u431 T T 1 o ex ad hw2) (cwV 0 hts gL_law_X6_thrown rfl rfl rfl (by decide +kernel) ⟨Nat.le_of_ble_eq_true rfl, Nat.le_of_ble_eq_true rfl⟩) (preV_of hC hS hM gm2 rfl) rfl rfl hl.1 rfl (lv_room (Nat.le_of_ble_eq_true rfl)) dL_law_437 ⟨(by first | omega | (show _ ≤ 601024; omega) | (show _ ≤ 7293034; omega)), (by first | omega | (show _ ≤ 601024; omega) | (show _ ≤ 7293034; omega))⟩) hS (fun r437 u437 H locs hp437 hM hS => ?_)
      have hM : Hm G u431 H := hM
      have hp437 : r437 = 1 := hp437
      subst hp437
      refine lv_iload hx hb dL_law_440 (lv_at hl 1 rfl) ?_
      refine lv_icmp_eq (tgt := 447) hx hb dL_law_442 (by decide) (fun c_442 => ?_) (fun c_442 => False.elim (by revert c_442; decide))
      refine lv_iload hx hb dL_law_447 (lv_at hl 1 rfl) ?_
      refine lv_if_ne (tgt := 464) hx hb dL_law_449 (by decide) (fun c_449 => ?_) (fun c_449 => False.elim (by revert c_449; decide))
      refine lv_goto (tgt := 1326) hx hb dL_law_464 (by decide) ?_
      refine W.widen (k := c0 + 42) (n := s0 + 132) (by omega) (by omega) ?_
      exact K T 1 o ex ad _ _ _ ls hi hx9 hw2 hM hS (lv_sub hl [2, 3, 4, 5, 6] rfl)
    · exact False.elim (by first | exact absurd z1 y1 | exact absurd y1 z1)
    · exact False.elim (by first | exact absurd z1 y1 | exact absurd y1 z1)
  · subst er
    have go5 : u413 (ad 28 0) = some (.inl (G.2.1 1, 1, .inr (.inl (fun _ => o)))) := hw1.1 28 0 _ rfl
    have gm5 : u413 (ad 14 0) = some (.inr (6, [.int th, .int (T.1 0 0), .ref (ad 15 0), .ref (ad 16 0), .ref (ad 17 0), .ref (ad 18 0), .int (T.1 5 0), .ref (ad 19 0), .ref (ad 20 0), .ref (ad 21 0), .ref (ad 22 0), .ref (ad 23 0), .ref (ad 24 0), .ref (ad 25 0), .ref (ad 26 0), .ref (ad 27 0)])) := hw1.1 14 0 _ rfl
    refine lv_istore (lv' := [(5, .int 2), (0, .ref b), (1, .ref (ad 0 0)), (2, .ref (ad 14 0)), (3, .ref (ad 28 0)), (4, .int x4)]) hx hb dL_law_416 hl (by decide) rfl (fun ls hl => ?_)
    refine lv_aload_n hx hb dL_law_418 rfl (lv_at hl 3 rfl) ?_
    refine lv_aload_n hx hb dL_law_419 rfl (lv_at hl 1 rfl) ?_
    refine lv_iload hx hb dL_law_420 (lv_at hl 5 rfl) ?_
    refine lv_iconst (v := 1) hx hb dL_law_422 (by decide) ?_
    refine lv_iadd hx hb dL_law_423 ?_
    refine va_sld hx hb hX hbl hbA hS h_1 dL_law_424 ?_
    refine lv_aload_n hx hb dL_law_425 rfl (lv_at hl 1 rfl) ?_
    refine lv_iload hx hb dL_law_426 (lv_at hl 5 rfl) ?_
    refine lv_iconst (v := 2) hx hb dL_law_428 (by decide) ?_
    refine lv_iadd hx hb dL_law_429 ?_
    refine va_sld hx hb hX hbl hbA hS h_2 dL_law_430 ?_
    refine k_i (va_runV (As := [.int (xs (x4 + 1).toNatClampNeg), .int (xs (x4 + 2).toNatClampNeg)]) (rest := []) ⟨hx, hb, hml, hown, hts⟩ (c_X6_forward l G u413 T T th o ex ad (xs (x4 + 1).toNatClampNeg) (xs (x4 + 2).toNatClampNeg) hw1) (cwV 2 hts gL_law_X6_forward rfl rfl rfl (by decide +kernel) ⟨Nat.le_of_ble_eq_true rfl, Nat.le_of_ble_eq_true rfl⟩) (preV_of hC hS hM gm5 rfl) rfl rfl hl.1 rfl (lv_room (Nat.le_of_ble_eq_true rfl)) dL_law_431 ⟨(by first | omega | (show _ ≤ 601024; omega) | (show _ ≤ 7293034; omega)), (by first | omega | (show _ ≤ 601024; omega) | (show _ ≤ 7293034; omega))⟩) hS (fun r431 u431 H locs hp431 hM hS => ?_)
    have hM : Hm G u431 H := hM
    rcases hp431 with ⟨y1, hw2⟩ | ⟨y1, y2, hw2⟩ | ⟨y1, y2, er2, hw2⟩
    · exact False.elim (by first | exact absurd z1 y1 | exact absurd y1 z1)
    · have hMk : Hm G u431 H := hM
      have go6 : u431 (ad 28 0) = some (.inl (G.2.1 1, 1, .inr (.inl (fun _ => o)))) := hw2.1 28 0 _ rfl
      have gm6 : u431 (ad 14 0) = some (.inr (6, [.int 2, .int (T.1 0 0), .ref (ad 15 0), .ref (ad 16 0), .ref (ad 17 0), .ref (ad 18 0), .int (T.1 5 0), .ref (ad 19 0), .ref (ad 20 0), .ref (ad 21 0), .ref (ad 22 0), .ref (ad 23 0), .ref (ad 24 0), .ref (ad 25 0), .ref (ad 26 0), .ref (ad 27 0)])) := hw2.1 14 0 _ rfl
      refine lv_istore (lv' := [(6, .int r431), (5, .int 2), (0, .ref b), (1, .ref (ad 0 0)), (2, .ref (ad 14 0)), (3, .ref (ad 28 0)), (4, .int x4)]) hx hb dL_law_434 hl (by decide) rfl (fun ls hl => ?_)
      refine lv_aload_n hx hb dL_law_436 rfl (lv_at hl 4 rfl) ?_
      refine k_i (va_runV (As := []) (rest := []) ⟨hx, hb, hml, hown, hts⟩ (c_X6_thrown l G u431 T T 2 o ex ad hw2) (cwV 0 hts gL_law_X6_thrown rfl rfl rfl (by decide +kernel) ⟨Nat.le_of_ble_eq_true rfl, Nat.le_of_ble_eq_true rfl⟩) (preV_of hC hS hM gm6 rfl) rfl rfl hl.1 rfl (lv_room (Nat.le_of_ble_eq_true rfl)) dL_law_437 ⟨(by first | omega | (show _ ≤ 601024; omega) | (show _ ≤ 7293034; omega)), (by first | omega | (show _ ≤ 601024; omega) | (show _ ≤ 7293034; omega))⟩) hS (fun r437 u437 H locs hp437 hM hS => ?_)
      have hM : Hm G u431 H := hM
      have hp437 : r437 = 2 := hp437
      subst hp437
      refine lv_iload hx hb dL_law_440 (lv_at hl 1 rfl) ?_
      refine lv_icmp_eq (tgt := 447) hx hb dL_law_442 (by decide) (fun c_442 => ?_) (fun c_442 => False.elim (by revert c_442; decide))
      refine lv_iload hx hb dL_law_447 (lv_at hl 1 rfl) ?_
      refine lv_if_ne (tgt := 464) hx hb dL_law_449 (by decide) (fun c_449 => ?_) (fun c_449 => False.elim (by revert c_449; decide))
      refine lv_goto (tgt := 1326) hx hb dL_law_464 (by decide) ?_
      refine W.widen (k := c0 + 42) (n := s0 + 132) (by omega) (by omega) ?_
      exact K T 2 o ex ad _ _ _ ls hi hx9 hw2 hM hS (lv_sub hl [2, 3, 4, 5, 6] rfl)
    · exact False.elim (by first | exact absurd z2 y2 | exact absurd y2 z2)
  · subst er
    have go9 : u413 (ad 28 0) = some (.inl (G.2.1 1, 1, .inr (.inl (fun _ => (al1 (T.1 1 (xs (x4 + 1).toNatClampNeg).toNatClampNeg + T.1 2 (xs (x4 + 1).toNatClampNeg).toNatClampNeg * (xs (x4 + 2).toNatClampNeg))).toInt64)))) := hw1.1 28 0 _ rfl
    have gm9 : u413 (ad 14 0) = some (.inr (6, [.int th, .int (T.1 0 0), .ref (ad 15 0), .ref (ad 16 0), .ref (ad 17 0), .ref (ad 18 0), .int (T.1 5 0), .ref (ad 19 0), .ref (ad 20 0), .ref (ad 21 0), .ref (ad 22 0), .ref (ad 23 0), .ref (ad 24 0), .ref (ad 25 0), .ref (ad 26 0), .ref (ad 27 0)])) := hw1.1 14 0 _ rfl
    refine lv_istore (lv' := [(5, .int 0), (0, .ref b), (1, .ref (ad 0 0)), (2, .ref (ad 14 0)), (3, .ref (ad 28 0)), (4, .int x4)]) hx hb dL_law_416 hl (by decide) rfl (fun ls hl => ?_)
    refine lv_aload_n hx hb dL_law_418 rfl (lv_at hl 3 rfl) ?_
    refine lv_aload_n hx hb dL_law_419 rfl (lv_at hl 1 rfl) ?_
    refine lv_iload hx hb dL_law_420 (lv_at hl 5 rfl) ?_
    refine lv_iconst (v := 1) hx hb dL_law_422 (by decide) ?_
    refine lv_iadd hx hb dL_law_423 ?_
    refine va_sld hx hb hX hbl hbA hS h_1 dL_law_424 ?_
    refine lv_aload_n hx hb dL_law_425 rfl (lv_at hl 1 rfl) ?_
    refine lv_iload hx hb dL_law_426 (lv_at hl 5 rfl) ?_
    refine lv_iconst (v := 2) hx hb dL_law_428 (by decide) ?_
    refine lv_iadd hx hb dL_law_429 ?_
    refine va_sld hx hb hX hbl hbA hS h_2 dL_law_430 ?_
    refine k_i (va_runV (As := [.int (xs (x4 + 1).toNatClampNeg), .int (xs (x4 + 2).toNatClampNeg)]) (rest := []) ⟨hx, hb, hml, hown, hts⟩ (c_X6_forward l G u413 T T th ((al1 (T.1 1 (xs (x4 + 1).toNatClampNeg).toNatClampNeg + T.1 2 (xs (x4 + 1).toNatClampNeg).toNatClampNeg * (xs (x4 + 2).toNatClampNeg))).toInt64) ex ad (xs (x4 + 1).toNatClampNeg) (xs (x4 + 2).toNatClampNeg) hw1) (cwV 2 hts gL_law_X6_forward rfl rfl rfl (by decide +kernel) ⟨Nat.le_of_ble_eq_true rfl, Nat.le_of_ble_eq_true rfl⟩) (preV_of hC hS hM gm9 rfl) rfl rfl hl.1 rfl (lv_room (Nat.le_of_ble_eq_true rfl)) dL_law_431 ⟨(by first | omega | (show _ ≤ 601024; omega) | (show _ ≤ 7293034; omega)), (by first | omega | (show _ ≤ 601024; omega) | (show _ ≤ 7293034; omega))⟩) hS (fun r431 u431 H locs hp431 hM hS => ?_)
    have hM : Hm G u431 H := hM
    rcases hp431 with ⟨y1, hw2⟩ | ⟨y1, y2, hw2⟩ | ⟨y1, y2, er2, hw2⟩
    · exact False.elim (by first | exact absurd z1 y1 | exact absurd y1 z1)
    · exact False.elim (by first | exact absurd z2 y2 | exact absurd y2 z2)
    · subst er2
      have hMk : Hm G u431 H := hM
      have go10 : u431 (ad 28 0) = some (.inl (G.2.1 1, 1, .inr (.inl (fun _ => (al1 (T.1 1 (xs (x4 + 1).toNatClampNeg).toNatClampNeg + T.1 2 (xs (x4 + 1).toNatClampNeg).toNatClampNeg * (xs (x4 + 2).toNatClampNeg))).toInt64)))) := hw2.1 28 0 _ rfl
      have gm10 : u431 (ad 14 0) = some (.inr (6, [.int 0, .int (T.1 0 0), .ref (ad 15 0), .ref (ad 16 0), .ref (ad 17 0), .ref (ad 18 0), .int (T.1 5 0), .ref (ad 19 0), .ref (ad 20 0), .ref (ad 21 0), .ref (ad 22 0), .ref (ad 23 0), .ref (ad 24 0), .ref (ad 25 0), .ref (ad 26 0), .ref (ad 27 0)])) := hw2.1 14 0 _ rfl
      refine lv_istore (lv' := [(6, .int (al1 (T.1 1 (xs (x4 + 1).toNatClampNeg).toNatClampNeg + T.1 2 (xs (x4 + 1).toNatClampNeg).toNatClampNeg * (xs (x4 + 2).toNatClampNeg)))), (5, .int 0), (0, .ref b), (1, .ref (ad 0 0)), (2, .ref (ad 14 0)), (3, .ref (ad 28 0)), (4, .int x4)]) hx hb dL_law_434 hl (by decide) rfl (fun ls hl => ?_)
      refine lv_aload_n hx hb dL_law_436 rfl (lv_at hl 4 rfl) ?_
      refine k_i (va_runV (As := []) (rest := []) ⟨hx, hb, hml, hown, hts⟩ (c_X6_thrown l G u431 T T 0 ((al1 (T.1 1 (xs (x4 + 1).toNatClampNeg).toNatClampNeg + T.1 2 (xs (x4 + 1).toNatClampNeg).toNatClampNeg * (xs (x4 + 2).toNatClampNeg))).toInt64) ex ad hw2) (cwV 0 hts gL_law_X6_thrown rfl rfl rfl (by decide +kernel) ⟨Nat.le_of_ble_eq_true rfl, Nat.le_of_ble_eq_true rfl⟩) (preV_of hC hS hM gm10 rfl) rfl rfl hl.1 rfl (lv_room (Nat.le_of_ble_eq_true rfl)) dL_law_437 ⟨(by first | omega | (show _ ≤ 601024; omega) | (show _ ≤ 7293034; omega)), (by first | omega | (show _ ≤ 601024; omega) | (show _ ≤ 7293034; omega))⟩) hS (fun r437 u437 H locs hp437 hM hS => ?_)
      have hM : Hm G u431 H := hM
      have hp437 : r437 = 0 := hp437
      subst hp437
      refine lv_iload hx hb dL_law_440 (lv_at hl 1 rfl) ?_
      refine lv_icmp_eq (tgt := 447) hx hb dL_law_442 (by decide) (fun c_442 => ?_) (fun c_442 => False.elim (by revert c_442; decide))
      refine lv_iload hx hb dL_law_447 (lv_at hl 1 rfl) ?_
      refine lv_if_ne (tgt := 464) hx hb dL_law_449 (by decide) (fun c_449 => False.elim (by revert c_449; decide)) (fun c_449 => ?_)
      refine lv_aload_n hx hb dL_law_452 rfl (lv_at hl 5 rfl) ?_
      refine lv_iconst (v := 0) hx hb dL_law_453 (by decide) ?_
      refine m_lald (a := (ad 28 0)) hx hb hC hM go10 (vin_of (n := 1) 1 (by decide) (by decide)) dL_law_454 ?_
      refine lv_iload hx hb dL_law_455 (lv_at hl 0 rfl) ?_
      refine lv_i2l hx hb dL_law_457 rfl ?_
      refine W.lcmp hx hb dL_law_458 ?_
      refine lv_if_eq (tgt := 464) hx hb dL_law_459 (by decide) (fun c_459 => ?_) (fun c_459 => False.elim (by exact c_459 ((lg_cmp_eq _ _).mpr rfl)))
      refine lv_goto (tgt := 1326) hx hb dL_law_464 (by decide) ?_
      refine W.widen (k := c0 + 42) (n := s0 + 132) (by omega) (by omega) ?_
      exact K T 0 ((al1 (T.1 1 (xs (x4 + 1).toNatClampNeg).toNatClampNeg + T.1 2 (xs (x4 + 1).toNatClampNeg).toNatClampNeg * (xs (x4 + 2).toNatClampNeg))).toInt64) ex ad _ _ _ ls hi hx9 (hw2) hM hS (lv_sub hl [2, 3, 4, 5, 6] rfl)
set_option maxHeartbeats 4000000 in
set_option maxRecDepth 100000 in
theorem law_5 {p : Program} {l : Launch} (hnt : l.stackTraces = false) {e : Env} {s : State} {m : MethodId} {below : List Frame} {meth : Method} {c : Code} {b L : Nat} {xs : Nat → Int32} (C0 : lw_At p s m meth c b L xs) {G : Gx} {T : Sd} {th : Int32} {o : Int64} {ex : Nat → Option (Nat × Nat)} {ad : Nat → Nat → Nat} {M : Mp} {c0 s0 : Nat} {x4 : Int32} {Q : State → Prop} (k9 : Nat) (hk9 : k9 = 20) (hC : Cx G s) (hG : G.2.2 = s.heap.size) (hi : Iv T) (hx9 : Ix T ex) (hw : WA G T T th o ex ad M) (hc0 : c0 + 42 ≤ 601024) (hs0 : s0 + 132 ≤ 7293034) (h_1 : vp_in (x4 + 1) L) (h_2 : vp_in (x4 + 2) L) (h_3 : vp_in (x4 + 3) L) (h_4 : vp_in (x4 + 4) L) (h_5 : vp_in (x4 + 5) L) (h_6 : vp_in (x4 + 6) L)
    (K : ∀ (T' : Sd) (th' : Int32) (o' : Int64) (ex' : Nat → Option (Nat × Nat)) (ad' : Nat → Nat → Nat) (M' : Mp) (H : Heap) (locs : List Loc) (ls : Array Slot), Iv T' → Ix T' ex' → WA G T' T' th' o' ex' ad' M' → Hm G M' H → va_S (AG G) s.heap H locs → lv_has ls 8 [(0, .ref b), (1, .ref (ad' 0 0)), (2, .ref (ad' 14 0)), (3, .ref (ad' 28 0)), (4, .int x4)] → W p l e room_1 s m #[Value.ref b] below meth c H locs (c0 + 42) (s0 + 132) Q (F0 m 1326 ls [])) (ls : Array Slot) (hl : lv_has ls 8 [(0, .ref b), (1, .ref (ad 0 0)), (2, .ref (ad 14 0)), (3, .ref (ad 28 0)), (4, .int x4)]) (H : Heap) (locs : List Loc) (hM : Hm G M H) (hS : va_S (AG G) s.heap H locs) : W p l e room_1 s m #[Value.ref b] below meth c H locs c0 s0 Q (F0 m 467 ls []) := by
  obtain ⟨hx, hb, hr, hml, hown, hts0, hX, hbl, hlocks, hgv⟩ := id C0
  have hts := fun w h => hts0 w (wsL_law_in w h)
  have hbA : ¬ AG G b := by show ¬ G.2.2 ≤ b; rw [hG]; exact Nat.not_le.mpr hbl
  refine lv_aload_n hx hb dL_law_467 rfl (lv_at hl 1 rfl) ?_
  refine lv_aload_n hx hb dL_law_468 rfl (lv_at hl 0 rfl) ?_
  refine lv_iload hx hb dL_law_469 (lv_at hl 4 rfl) ?_
  refine lv_iconst (v := 1) hx hb dL_law_471 (by decide) ?_
  refine lv_iadd hx hb dL_law_472 ?_
  refine va_sld hx hb hX hbl hbA hS h_1 dL_law_473 ?_
  refine lv_aload_n hx hb dL_law_474 rfl (lv_at hl 0 rfl) ?_
  refine lv_iload hx hb dL_law_475 (lv_at hl 4 rfl) ?_
  refine lv_iconst (v := 2) hx hb dL_law_477 (by decide) ?_
  refine lv_iadd hx hb dL_law_478 ?_
  refine va_sld hx hb hX hbl hbA hS h_2 dL_law_479 ?_
  refine lv_aload_n hx hb dL_law_480 rfl (lv_at hl 0 rfl) ?_
  refine lv_iload hx hb dL_law_481 (lv_at hl 4 rfl) ?_
  refine lv_iconst (v := 3) hx hb dL_law_483 (by decide) ?_
  refine lv_iadd hx hb dL_law_484 ?_
  refine va_sld hx hb hX hbl hbA hS h_3 dL_law_485 ?_
  refine lv_if_eq (tgt := 493) hx hb dL_law_486 (by decide) (fun c_486 => ?_) (fun c_486 => ?_)
  · refine lv_iconst (v := 0) hx hb dL_law_493 (by decide) ?_
    refine lv_aload_n hx hb dL_law_494 rfl (lv_at hl 0 rfl) ?_
    refine lv_iload hx hb dL_law_495 (lv_at hl 4 rfl) ?_
    refine lv_iconst (v := 4) hx hb dL_law_497 (by decide) ?_
    refine lv_iadd hx hb dL_law_498 ?_
    refine va_sld hx hb hX hbl hbA hS h_4 dL_law_499 ?_
    refine lv_aload_n hx hb dL_law_500 rfl (lv_at hl 0 rfl) ?_
    refine lv_iload hx hb dL_law_501 (lv_at hl 4 rfl) ?_
    refine lv_iconst (v := 5) hx hb dL_law_503 (by decide) ?_
    refine lv_iadd hx hb dL_law_504 ?_
    refine va_sld hx hb hX hbl hbA hS h_5 dL_law_505 ?_
    refine lv_aload_n hx hb dL_law_506 rfl (lv_at hl 0 rfl) ?_
    refine lv_iload hx hb dL_law_507 (lv_at hl 4 rfl) ?_
    refine lv_bipush (v := 6) hx hb dL_law_509 (by decide) ?_
    refine lv_iadd hx hb dL_law_511 ?_
    refine va_sld hx hb hX hbl hbA hS h_6 dL_law_512 ?_
    refine lv_aload_n hx hb dL_law_513 rfl (lv_at hl 3 rfl) ?_
    refine k_i (vx_runSW (As := [.ref (ad 0 0), .int (xs (x4 + 1).toNatClampNeg), .int (xs (x4 + 2).toNatClampNeg), .int 0, .int (xs (x4 + 4).toNatClampNeg), .int (xs (x4 + 5).toNatClampNeg), .int (xs (x4 + 6).toNatClampNeg), .ref (ad 28 0)]) (rest := []) ⟨hx, hb, hml, hown, hts⟩ (c_L_deal hnt l G M T T th o ex ad (xs (x4 + 1).toNatClampNeg) (xs (x4 + 2).toNatClampNeg) 0 (xs (x4 + 4).toNatClampNeg) (xs (x4 + 5).toNatClampNeg) (xs (x4 + 6).toNatClampNeg) hw hi (Or.inl rfl)) (vx_cwSW 8 hts gL_law_L_deal rfl rfl rfl (by decide +kernel) ⟨Nat.le_of_ble_eq_true rfl, Nat.le_of_ble_eq_true rfl⟩) (preS_of hC hS hM) rfl rfl hl.1 rfl (lv_room (Nat.le_of_ble_eq_true rfl)) dL_law_514 ⟨(by first | omega | (show _ ≤ 601024; omega) | (show _ ≤ 7293034; omega)), (by first | omega | (show _ ≤ 601024; omega) | (show _ ≤ 7293034; omega))⟩) hS (fun r514 u514 H locs hp514 hM hS => ?_)
    have hM : Hm G u514 H := hM
    rcases hp514 with ⟨er, z1, hw1⟩ | ⟨er, ⟨z1, z2⟩, hw1⟩ | ⟨er, ⟨z1, z2, z3⟩, hw1⟩ | ⟨er, ⟨z1, z2, z3, z4⟩, q1, hw1⟩
    · subst er
      have go2 : u514 (ad 28 0) = some (.inl (G.2.1 1, 1, .inr (.inl (fun _ => o)))) := hw1.1 28 0 _ rfl
      have gm2 : u514 (ad 14 0) = some (.inr (6, [.int th, .int (T.1 0 0), .ref (ad 15 0), .ref (ad 16 0), .ref (ad 17 0), .ref (ad 18 0), .int (T.1 5 0), .ref (ad 19 0), .ref (ad 20 0), .ref (ad 21 0), .ref (ad 22 0), .ref (ad 23 0), .ref (ad 24 0), .ref (ad 25 0), .ref (ad 26 0), .ref (ad 27 0)])) := hw1.1 14 0 _ rfl
      refine lv_istore (lv' := [(5, .int 1), (0, .ref b), (1, .ref (ad 0 0)), (2, .ref (ad 14 0)), (3, .ref (ad 28 0)), (4, .int x4)]) hx hb dL_law_517 hl (by decide) rfl (fun ls hl => ?_)
      refine lv_aload_n hx hb dL_law_519 rfl (lv_at hl 3 rfl) ?_
      refine lv_aload_n hx hb dL_law_520 rfl (lv_at hl 1 rfl) ?_
      refine lv_iload hx hb dL_law_521 (lv_at hl 5 rfl) ?_
      refine lv_iconst (v := 1) hx hb dL_law_523 (by decide) ?_
      refine lv_iadd hx hb dL_law_524 ?_
      refine va_sld hx hb hX hbl hbA hS h_1 dL_law_525 ?_
      refine lv_aload_n hx hb dL_law_526 rfl (lv_at hl 1 rfl) ?_
      refine lv_iload hx hb dL_law_527 (lv_at hl 5 rfl) ?_
      refine lv_iconst (v := 2) hx hb dL_law_529 (by decide) ?_
      refine lv_iadd hx hb dL_law_530 ?_
      refine va_sld hx hb hX hbl hbA hS h_2 dL_law_531 ?_
      refine lv_aload_n hx hb dL_law_532 rfl (lv_at hl 1 rfl) ?_
      refine lv_iload hx hb dL_law_533 (lv_at hl 5 rfl) ?_
      refine lv_iconst (v := 3) hx hb dL_law_535 (by decide) ?_
      refine lv_iadd hx hb dL_law_536 ?_
      refine va_sld hx hb hX hbl hbA hS h_3 dL_law_537 ?_
      refine lv_if_eq (tgt := 545) hx hb dL_law_538 (by decide) (fun c_538 => ?_) (fun c_538 => False.elim (by exact absurd c_486 c_538))
      refine lv_iconst (v := 0) hx hb dL_law_545 (by decide) ?_
      refine lv_aload_n hx hb dL_law_546 rfl (lv_at hl 1 rfl) ?_
      refine lv_iload hx hb dL_law_547 (lv_at hl 5 rfl) ?_
      refine lv_iconst (v := 4) hx hb dL_law_549 (by decide) ?_
      refine lv_iadd hx hb dL_law_550 ?_
      refine va_sld hx hb hX hbl hbA hS h_4 dL_law_551 ?_
      refine lv_aload_n hx hb dL_law_552 rfl (lv_at hl 1 rfl) ?_
      refine lv_iload hx hb dL_law_553 (lv_at hl 5 rfl) ?_
      refine lv_iconst (v := 5) hx hb dL_law_555 (by decide) ?_
      refine lv_iadd hx hb dL_law_556 ?_
      refine va_sld hx hb hX hbl hbA hS h_5 dL_law_557 ?_
      refine lv_aload_n hx hb dL_law_558 rfl (lv_at hl 1 rfl) ?_
      refine lv_iload hx hb dL_law_559 (lv_at hl 5 rfl) ?_
      refine lv_bipush (v := 6) hx hb dL_law_561 (by decide) ?_
      refine lv_iadd hx hb dL_law_563 ?_
      refine va_sld hx hb hX hbl hbA hS h_6 dL_law_564 ?_
      refine k_i (va_runV (As := [.int (xs (x4 + 1).toNatClampNeg), .int (xs (x4 + 2).toNatClampNeg), .int 0, .int (xs (x4 + 4).toNatClampNeg), .int (xs (x4 + 5).toNatClampNeg), .int (xs (x4 + 6).toNatClampNeg)]) (rest := []) ⟨hx, hb, hml, hown, hts⟩ (c_X6_deal l G u514 T T th o ex ad (xs (x4 + 1).toNatClampNeg) (xs (x4 + 2).toNatClampNeg) 0 (xs (x4 + 4).toNatClampNeg) (xs (x4 + 5).toNatClampNeg) (xs (x4 + 6).toNatClampNeg) hw1 hi (Or.inl rfl)) (cwV 6 hts gL_law_X6_deal rfl rfl rfl (by decide +kernel) ⟨Nat.le_of_ble_eq_true rfl, Nat.le_of_ble_eq_true rfl⟩) (preV_of hC hS hM gm2 rfl) rfl rfl hl.1 rfl (lv_room (Nat.le_of_ble_eq_true rfl)) dL_law_565 ⟨(by first | omega | (show _ ≤ 601024; omega) | (show _ ≤ 7293034; omega)), (by first | omega | (show _ ≤ 601024; omega) | (show _ ≤ 7293034; omega))⟩) hS (fun r565 u565 H locs hp565 hM hS => ?_)
      have hM : Hm G u565 H := hM
      rcases hp565 with ⟨y1, hw2⟩ | ⟨y1, y2, hw2⟩ | ⟨y1, y2, y3, T9, hsm, hw2⟩ | ⟨y1, y2, y3, y4, er2, hw2⟩
      · have hMk : Hm G u565 H := hM
        have go4 : u565 (ad 28 0) = some (.inl (G.2.1 1, 1, .inr (.inl (fun _ => o)))) := hw2.1 28 0 _ rfl
        have gm4 : u565 (ad 14 0) = some (.inr (6, [.int 1, .int (T.1 0 0), .ref (ad 15 0), .ref (ad 16 0), .ref (ad 17 0), .ref (ad 18 0), .int (T.1 5 0), .ref (ad 19 0), .ref (ad 20 0), .ref (ad 21 0), .ref (ad 22 0), .ref (ad 23 0), .ref (ad 24 0), .ref (ad 25 0), .ref (ad 26 0), .ref (ad 27 0)])) := hw2.1 14 0 _ rfl
        refine lv_istore (lv' := [(6, .int r565), (5, .int 1), (0, .ref b), (1, .ref (ad 0 0)), (2, .ref (ad 14 0)), (3, .ref (ad 28 0)), (4, .int x4)]) hx hb dL_law_568 hl (by decide) rfl (fun ls hl => ?_)
        refine lv_aload_n hx hb dL_law_570 rfl (lv_at hl 4 rfl) ?_
        refine k_i (va_runV (As := []) (rest := []) ⟨hx, hb, hml, hown, hts⟩ (c_X6_thrown l G u565 T T 1 o ex ad hw2) (cwV 0 hts gL_law_X6_thrown rfl rfl rfl (by decide +kernel) ⟨Nat.le_of_ble_eq_true rfl, Nat.le_of_ble_eq_true rfl⟩) (preV_of hC hS hM gm4 rfl) rfl rfl hl.1 rfl (lv_room (Nat.le_of_ble_eq_true rfl)) dL_law_571 ⟨(by first | omega | (show _ ≤ 601024; omega) | (show _ ≤ 7293034; omega)), (by first | omega | (show _ ≤ 601024; omega) | (show _ ≤ 7293034; omega))⟩) hS (fun r571 u571 H locs hp571 hM hS => ?_)
        have hM : Hm G u565 H := hM
        have hp571 : r571 = 1 := hp571
        subst hp571
        refine lv_iload hx hb dL_law_574 (lv_at hl 1 rfl) ?_
        refine lv_icmp_eq (tgt := 581) hx hb dL_law_576 (by decide) (fun c_576 => ?_) (fun c_576 => False.elim (by revert c_576; decide))
        refine lv_iload hx hb dL_law_581 (lv_at hl 1 rfl) ?_
        refine lv_if_ne (tgt := 598) hx hb dL_law_583 (by decide) (fun c_583 => ?_) (fun c_583 => False.elim (by revert c_583; decide))
        refine lv_goto (tgt := 1326) hx hb dL_law_598 (by decide) ?_
        refine W.widen (k := c0 + 42) (n := s0 + 132) (by omega) (by omega) ?_
        exact K T 1 o ex ad _ _ _ ls hi hx9 hw2 hM hS (lv_sub hl [2, 3, 4, 5, 6] rfl)
      · exact False.elim (by first | exact absurd z1 y1 | exact absurd y1 z1)
      · exact False.elim (by first | exact absurd z1 y1 | exact absurd y1 z1)
      · exact False.elim (by first | exact absurd z1 y1 | exact absurd y1 z1)
    · subst er
      have go7 : u514 (ad 28 0) = some (.inl (G.2.1 1, 1, .inr (.inl (fun _ => o)))) := hw1.1 28 0 _ rfl
      have gm7 : u514 (ad 14 0) = some (.inr (6, [.int th, .int (T.1 0 0), .ref (ad 15 0), .ref (ad 16 0), .ref (ad 17 0), .ref (ad 18 0), .int (T.1 5 0), .ref (ad 19 0), .ref (ad 20 0), .ref (ad 21 0), .ref (ad 22 0), .ref (ad 23 0), .ref (ad 24 0), .ref (ad 25 0), .ref (ad 26 0), .ref (ad 27 0)])) := hw1.1 14 0 _ rfl
      refine lv_istore (lv' := [(5, .int 2), (0, .ref b), (1, .ref (ad 0 0)), (2, .ref (ad 14 0)), (3, .ref (ad 28 0)), (4, .int x4)]) hx hb dL_law_517 hl (by decide) rfl (fun ls hl => ?_)
      refine lv_aload_n hx hb dL_law_519 rfl (lv_at hl 3 rfl) ?_
      refine lv_aload_n hx hb dL_law_520 rfl (lv_at hl 1 rfl) ?_
      refine lv_iload hx hb dL_law_521 (lv_at hl 5 rfl) ?_
      refine lv_iconst (v := 1) hx hb dL_law_523 (by decide) ?_
      refine lv_iadd hx hb dL_law_524 ?_
      refine va_sld hx hb hX hbl hbA hS h_1 dL_law_525 ?_
      refine lv_aload_n hx hb dL_law_526 rfl (lv_at hl 1 rfl) ?_
      refine lv_iload hx hb dL_law_527 (lv_at hl 5 rfl) ?_
      refine lv_iconst (v := 2) hx hb dL_law_529 (by decide) ?_
      refine lv_iadd hx hb dL_law_530 ?_
      refine va_sld hx hb hX hbl hbA hS h_2 dL_law_531 ?_
      refine lv_aload_n hx hb dL_law_532 rfl (lv_at hl 1 rfl) ?_
      refine lv_iload hx hb dL_law_533 (lv_at hl 5 rfl) ?_
      refine lv_iconst (v := 3) hx hb dL_law_535 (by decide) ?_
      refine lv_iadd hx hb dL_law_536 ?_
      refine va_sld hx hb hX hbl hbA hS h_3 dL_law_537 ?_
      refine lv_if_eq (tgt := 545) hx hb dL_law_538 (by decide) (fun c_538 => ?_) (fun c_538 => False.elim (by exact absurd c_486 c_538))
      refine lv_iconst (v := 0) hx hb dL_law_545 (by decide) ?_
      refine lv_aload_n hx hb dL_law_546 rfl (lv_at hl 1 rfl) ?_
      refine lv_iload hx hb dL_law_547 (lv_at hl 5 rfl) ?_
      refine lv_iconst (v := 4) hx hb dL_law_549 (by decide) ?_
      refine lv_iadd hx hb dL_law_550 ?_
      refine va_sld hx hb hX hbl hbA hS h_4 dL_law_551 ?_
      refine lv_aload_n hx hb dL_law_552 rfl (lv_at hl 1 rfl) ?_
      refine lv_iload hx hb dL_law_553 (lv_at hl 5 rfl) ?_
      refine lv_iconst (v := 5) hx hb dL_law_555 (by decide) ?_
      refine lv_iadd hx hb dL_law_556 ?_
      refine va_sld hx hb hX hbl hbA hS h_5 dL_law_557 ?_
      refine lv_aload_n hx hb dL_law_558 rfl (lv_at hl 1 rfl) ?_
      refine lv_iload hx hb dL_law_559 (lv_at hl 5 rfl) ?_
      refine lv_bipush (v := 6) hx hb dL_law_561 (by decide) ?_
      refine lv_iadd hx hb dL_law_563 ?_
      refine va_sld hx hb hX hbl hbA hS h_6 dL_law_564 ?_
      refine k_i (va_runV (As := [.int (xs (x4 + 1).toNatClampNeg), .int (xs (x4 + 2).toNatClampNeg), .int 0, .int (xs (x4 + 4).toNatClampNeg), .int (xs (x4 + 5).toNatClampNeg), .int (xs (x4 + 6).toNatClampNeg)]) (rest := []) ⟨hx, hb, hml, hown, hts⟩ (c_X6_deal l G u514 T T th o ex ad (xs (x4 + 1).toNatClampNeg) (xs (x4 + 2).toNatClampNeg) 0 (xs (x4 + 4).toNatClampNeg) (xs (x4 + 5).toNatClampNeg) (xs (x4 + 6).toNatClampNeg) hw1 hi (Or.inl rfl)) (cwV 6 hts gL_law_X6_deal rfl rfl rfl (by decide +kernel) ⟨Nat.le_of_ble_eq_true rfl, Nat.le_of_ble_eq_true rfl⟩) (preV_of hC hS hM gm7 rfl) rfl rfl hl.1 rfl (lv_room (Nat.le_of_ble_eq_true rfl)) dL_law_565 ⟨(by first | omega | (show _ ≤ 601024; omega) | (show _ ≤ 7293034; omega)), (by first | omega | (show _ ≤ 601024; omega) | (show _ ≤ 7293034; omega))⟩) hS (fun r565 u565 H locs hp565 hM hS => ?_)
      have hM : Hm G u565 H := hM
      rcases hp565 with ⟨y1, hw2⟩ | ⟨y1, y2, hw2⟩ | ⟨y1, y2, y3, T9, hsm, hw2⟩ | ⟨y1, y2, y3, y4, er2, hw2⟩
      · exact False.elim (by first | exact absurd z1 y1 | exact absurd y1 z1)
      · have hMk : Hm G u565 H := hM
        have go9 : u565 (ad 28 0) = some (.inl (G.2.1 1, 1, .inr (.inl (fun _ => o)))) := hw2.1 28 0 _ rfl
        have gm9 : u565 (ad 14 0) = some (.inr (6, [.int 2, .int (T.1 0 0), .ref (ad 15 0), .ref (ad 16 0), .ref (ad 17 0), .ref (ad 18 0), .int (T.1 5 0), .ref (ad 19 0), .ref (ad 20 0), .ref (ad 21 0), .ref (ad 22 0), .ref (ad 23 0), .ref (ad 24 0), .ref (ad 25 0), .ref (ad 26 0), .ref (ad 27 0)])) := hw2.1 14 0 _ rfl
        refine lv_istore (lv' := [(6, .int r565), (5, .int 2), (0, .ref b), (1, .ref (ad 0 0)), (2, .ref (ad 14 0)), (3, .ref (ad 28 0)), (4, .int x4)]) hx hb dL_law_568 hl (by decide) rfl (fun ls hl => ?_)
        refine lv_aload_n hx hb dL_law_570 rfl (lv_at hl 4 rfl) ?_
        refine k_i (va_runV (As := []) (rest := []) ⟨hx, hb, hml, hown, hts⟩ (c_X6_thrown l G u565 T T 2 o ex ad hw2) (cwV 0 hts gL_law_X6_thrown rfl rfl rfl (by decide +kernel) ⟨Nat.le_of_ble_eq_true rfl, Nat.le_of_ble_eq_true rfl⟩) (preV_of hC hS hM gm9 rfl) rfl rfl hl.1 rfl (lv_room (Nat.le_of_ble_eq_true rfl)) dL_law_571 ⟨(by first | omega | (show _ ≤ 601024; omega) | (show _ ≤ 7293034; omega)), (by first | omega | (show _ ≤ 601024; omega) | (show _ ≤ 7293034; omega))⟩) hS (fun r571 u571 H locs hp571 hM hS => ?_)
        have hM : Hm G u565 H := hM
        have hp571 : r571 = 2 := hp571
        subst hp571
        refine lv_iload hx hb dL_law_574 (lv_at hl 1 rfl) ?_
        refine lv_icmp_eq (tgt := 581) hx hb dL_law_576 (by decide) (fun c_576 => ?_) (fun c_576 => False.elim (by revert c_576; decide))
        refine lv_iload hx hb dL_law_581 (lv_at hl 1 rfl) ?_
        refine lv_if_ne (tgt := 598) hx hb dL_law_583 (by decide) (fun c_583 => ?_) (fun c_583 => False.elim (by revert c_583; decide))
        refine lv_goto (tgt := 1326) hx hb dL_law_598 (by decide) ?_
        refine W.widen (k := c0 + 42) (n := s0 + 132) (by omega) (by omega) ?_
        exact K T 2 o ex ad _ _ _ ls hi hx9 hw2 hM hS (lv_sub hl [2, 3, 4, 5, 6] rfl)
      · exact False.elim (by first | exact absurd z2 y2 | exact absurd y2 z2)
      · exact False.elim (by first | exact absurd z2 y2 | exact absurd y2 z2)
    · subst er
      have go12 : u514 (ad 28 0) = some (.inl (G.2.1 1, 1, .inr (.inl (fun _ => o)))) := hw1.1 28 0 _ rfl
      have gm12 : u514 (ad 14 0) = some (.inr (6, [.int th, .int (T.1 0 0), .ref (ad 15 0), .ref (ad 16 0), .ref (ad 17 0), .ref (ad 18 0), .int (T.1 5 0), .ref (ad 19 0), .ref (ad 20 0), .ref (ad 21 0), .ref (ad 22 0), .ref (ad 23 0), .ref (ad 24 0), .ref (ad 25 0), .ref (ad 26 0), .ref (ad 27 0)])) := hw1.1 14 0 _ rfl
      refine lv_istore (lv' := [(5, .int 3), (0, .ref b), (1, .ref (ad 0 0)), (2, .ref (ad 14 0)), (3, .ref (ad 28 0)), (4, .int x4)]) hx hb dL_law_517 hl (by decide) rfl (fun ls hl => ?_)
      refine lv_aload_n hx hb dL_law_519 rfl (lv_at hl 3 rfl) ?_
      refine lv_aload_n hx hb dL_law_520 rfl (lv_at hl 1 rfl) ?_
      refine lv_iload hx hb dL_law_521 (lv_at hl 5 rfl) ?_
      refine lv_iconst (v := 1) hx hb dL_law_523 (by decide) ?_
      refine lv_iadd hx hb dL_law_524 ?_
      refine va_sld hx hb hX hbl hbA hS h_1 dL_law_525 ?_
      refine lv_aload_n hx hb dL_law_526 rfl (lv_at hl 1 rfl) ?_
      refine lv_iload hx hb dL_law_527 (lv_at hl 5 rfl) ?_
      refine lv_iconst (v := 2) hx hb dL_law_529 (by decide) ?_
      refine lv_iadd hx hb dL_law_530 ?_
      refine va_sld hx hb hX hbl hbA hS h_2 dL_law_531 ?_
      refine lv_aload_n hx hb dL_law_532 rfl (lv_at hl 1 rfl) ?_
      refine lv_iload hx hb dL_law_533 (lv_at hl 5 rfl) ?_
      refine lv_iconst (v := 3) hx hb dL_law_535 (by decide) ?_
      refine lv_iadd hx hb dL_law_536 ?_
      refine va_sld hx hb hX hbl hbA hS h_3 dL_law_537 ?_
      refine lv_if_eq (tgt := 545) hx hb dL_law_538 (by decide) (fun c_538 => ?_) (fun c_538 => False.elim (by exact absurd c_486 c_538))
      refine lv_iconst (v := 0) hx hb dL_law_545 (by decide) ?_
      refine lv_aload_n hx hb dL_law_546 rfl (lv_at hl 1 rfl) ?_
      refine lv_iload hx hb dL_law_547 (lv_at hl 5 rfl) ?_
      refine lv_iconst (v := 4) hx hb dL_law_549 (by decide) ?_
      refine lv_iadd hx hb dL_law_550 ?_
      refine va_sld hx hb hX hbl hbA hS h_4 dL_law_551 ?_
      refine lv_aload_n hx hb dL_law_552 rfl (lv_at hl 1 rfl) ?_
      refine lv_iload hx hb dL_law_553 (lv_at hl 5 rfl) ?_
      refine lv_iconst (v := 5) hx hb dL_law_555 (by decide) ?_
      refine lv_iadd hx hb dL_law_556 ?_
      refine va_sld hx hb hX hbl hbA hS h_5 dL_law_557 ?_
      refine lv_aload_n hx hb dL_law_558 rfl (lv_at hl 1 rfl) ?_
      refine lv_iload hx hb dL_law_559 (lv_at hl 5 rfl) ?_
      refine lv_bipush (v := 6) hx hb dL_law_561 (by decide) ?_
      refine lv_iadd hx hb dL_law_563 ?_
      refine va_sld hx hb hX hbl hbA hS h_6 dL_law_564 ?_
      refine k_i (va_runV (As := [.int (xs (x4 + 1).toNatClampNeg), .int (xs (x4 + 2).toNatClampNeg), .int 0, .int (xs (x4 + 4).toNatClampNeg), .int (xs (x4 + 5).toNatClampNeg), .int (xs (x4 + 6).toNatClampNeg)]) (rest := []) ⟨hx, hb, hml, hown, hts⟩ (c_X6_deal l G u514 T T th o ex ad (xs (x4 + 1).toNatClampNeg) (xs (x4 + 2).toNatClampNeg) 0 (xs (x4 + 4).toNatClampNeg) (xs (x4 + 5).toNatClampNeg) (xs (x4 + 6).toNatClampNeg) hw1 hi (Or.inl rfl)) (cwV 6 hts gL_law_X6_deal rfl rfl rfl (by decide +kernel) ⟨Nat.le_of_ble_eq_true rfl, Nat.le_of_ble_eq_true rfl⟩) (preV_of hC hS hM gm12 rfl) rfl rfl hl.1 rfl (lv_room (Nat.le_of_ble_eq_true rfl)) dL_law_565 ⟨(by first | omega | (show _ ≤ 601024; omega) | (show _ ≤ 7293034; omega)), (by first | omega | (show _ ≤ 601024; omega) | (show _ ≤ 7293034; omega))⟩) hS (fun r565 u565 H locs hp565 hM hS => ?_)
      have hM : Hm G u565 H := hM
      rcases hp565 with ⟨y1, hw2⟩ | ⟨y1, y2, hw2⟩ | ⟨y1, y2, y3, T9, hsm, hw2⟩ | ⟨y1, y2, y3, y4, er2, hw2⟩
      · exact False.elim (by first | exact absurd z1 y1 | exact absurd y1 z1)
      · exact False.elim (by first | exact absurd z2 y2 | exact absurd y2 z2)
      · have hMk : Hm G u565 H := hM
        have go14 : u565 (ad 28 0) = some (.inl (G.2.1 1, 1, .inr (.inl (fun _ => o)))) := hw2.1 28 0 _ rfl
        have gm14 : u565 (ad 14 0) = some (.inr (6, [.int 3, .int (T9.1 0 0), .ref (ad 15 0), .ref (ad 16 0), .ref (ad 17 0), .ref (ad 18 0), .int (T9.1 5 0), .ref (ad 19 0), .ref (ad 20 0), .ref (ad 21 0), .ref (ad 22 0), .ref (ad 23 0), .ref (ad 24 0), .ref (ad 25 0), .ref (ad 26 0), .ref (ad 27 0)])) := hw2.1 14 0 _ rfl
        refine lv_istore (lv' := [(6, .int r565), (5, .int 3), (0, .ref b), (1, .ref (ad 0 0)), (2, .ref (ad 14 0)), (3, .ref (ad 28 0)), (4, .int x4)]) hx hb dL_law_568 hl (by decide) rfl (fun ls hl => ?_)
        refine lv_aload_n hx hb dL_law_570 rfl (lv_at hl 4 rfl) ?_
        refine k_i (va_runV (As := []) (rest := []) ⟨hx, hb, hml, hown, hts⟩ (c_X6_thrown l G u565 T T9 3 o ex ad hw2) (cwV 0 hts gL_law_X6_thrown rfl rfl rfl (by decide +kernel) ⟨Nat.le_of_ble_eq_true rfl, Nat.le_of_ble_eq_true rfl⟩) (preV_of hC hS hM gm14 rfl) rfl rfl hl.1 rfl (lv_room (Nat.le_of_ble_eq_true rfl)) dL_law_571 ⟨(by first | omega | (show _ ≤ 601024; omega) | (show _ ≤ 7293034; omega)), (by first | omega | (show _ ≤ 601024; omega) | (show _ ≤ 7293034; omega))⟩) hS (fun r571 u571 H locs hp571 hM hS => ?_)
        have hM : Hm G u565 H := hM
        have hp571 : r571 = 3 := hp571
        subst hp571
        refine lv_iload hx hb dL_law_574 (lv_at hl 1 rfl) ?_
        refine lv_icmp_eq (tgt := 581) hx hb dL_law_576 (by decide) (fun c_576 => ?_) (fun c_576 => False.elim (by revert c_576; decide))
        refine lv_iload hx hb dL_law_581 (lv_at hl 1 rfl) ?_
        refine lv_if_ne (tgt := 598) hx hb dL_law_583 (by decide) (fun c_583 => ?_) (fun c_583 => False.elim (by revert c_583; decide))
        refine lv_goto (tgt := 1326) hx hb dL_law_598 (by decide) ?_
        refine W.widen (k := c0 + 42) (n := s0 + 132) (by omega) (by omega) ?_
        exact K T9 3 o ex ad _ _ _ ls (sm_iv hi hsm) (sm_ix hx9 hsm) (sm_wa hw2 hsm) hM hS (lv_sub hl [2, 3, 4, 5, 6] rfl)
      · exact False.elim (z3.elim (fun q => q y3) (fun q => y4 (by rw [hi.2.2.2.2]; exact q)))
    · subst er
      have go17 : u514 (ad 28 0) = some (.inl (G.2.1 1, 1, .inr (.inl (fun _ => (T.1 5 0).toInt64)))) := hw1.1 28 0 _ rfl
      have gm17 : u514 (ad 14 0) = some (.inr (6, [.int th, .int (T.1 0 0), .ref (ad 15 0), .ref (ad 16 0), .ref (ad 17 0), .ref (ad 18 0), .int (T.1 5 0), .ref (ad 19 0), .ref (ad 20 0), .ref (ad 21 0), .ref (ad 22 0), .ref (ad 23 0), .ref (ad 24 0), .ref (ad 25 0), .ref (ad 26 0), .ref (ad 27 0)])) := hw1.1 14 0 _ rfl
      refine lv_istore (lv' := [(5, .int 0), (0, .ref b), (1, .ref (ad 0 0)), (2, .ref (ad 14 0)), (3, .ref (ad 28 0)), (4, .int x4)]) hx hb dL_law_517 hl (by decide) rfl (fun ls hl => ?_)
      refine lv_aload_n hx hb dL_law_519 rfl (lv_at hl 3 rfl) ?_
      refine lv_aload_n hx hb dL_law_520 rfl (lv_at hl 1 rfl) ?_
      refine lv_iload hx hb dL_law_521 (lv_at hl 5 rfl) ?_
      refine lv_iconst (v := 1) hx hb dL_law_523 (by decide) ?_
      refine lv_iadd hx hb dL_law_524 ?_
      refine va_sld hx hb hX hbl hbA hS h_1 dL_law_525 ?_
      refine lv_aload_n hx hb dL_law_526 rfl (lv_at hl 1 rfl) ?_
      refine lv_iload hx hb dL_law_527 (lv_at hl 5 rfl) ?_
      refine lv_iconst (v := 2) hx hb dL_law_529 (by decide) ?_
      refine lv_iadd hx hb dL_law_530 ?_
      refine va_sld hx hb hX hbl hbA hS h_2 dL_law_531 ?_
      refine lv_aload_n hx hb dL_law_532 rfl (lv_at hl 1 rfl) ?_
      refine lv_iload hx hb dL_law_533 (lv_at hl 5 rfl) ?_
      refine lv_iconst (v := 3) hx hb dL_law_535 (by decide) ?_
      refine lv_iadd hx hb dL_law_536 ?_
      refine va_sld hx hb hX hbl hbA hS h_3 dL_law_537 ?_
      refine lv_if_eq (tgt := 545) hx hb dL_law_538 (by decide) (fun c_538 => ?_) (fun c_538 => False.elim (by exact absurd c_486 c_538))
      refine lv_iconst (v := 0) hx hb dL_law_545 (by decide) ?_
      refine lv_aload_n hx hb dL_law_546 rfl (lv_at hl 1 rfl) ?_
      refine lv_iload hx hb dL_law_547 (lv_at hl 5 rfl) ?_
      refine lv_iconst (v := 4) hx hb dL_law_549 (by decide) ?_
      refine lv_iadd hx hb dL_law_550 ?_
      refine va_sld hx hb hX hbl hbA hS h_4 dL_law_551 ?_
      refine lv_aload_n hx hb dL_law_552 rfl (lv_at hl 1 rfl) ?_
      refine lv_iload hx hb dL_law_553 (lv_at hl 5 rfl) ?_
      refine lv_iconst (v := 5) hx hb dL_law_555 (by decide) ?_
      refine lv_iadd hx hb dL_law_556 ?_
      refine va_sld hx hb hX hbl hbA hS h_5 dL_law_557 ?_
      refine lv_aload_n hx hb dL_law_558 rfl (lv_at hl 1 rfl) ?_
      refine lv_iload hx hb dL_law_559 (lv_at hl 5 rfl) ?_
      refine lv_bipush (v := 6) hx hb dL_law_561 (by decide) ?_
      refine lv_iadd hx hb dL_law_563 ?_
      refine va_sld hx hb hX hbl hbA hS h_6 dL_law_564 ?_
      refine k_i (va_runV (As := [.int (xs (x4 + 1).toNatClampNeg), .int (xs (x4 + 2).toNatClampNeg), .int 0, .int (xs (x4 + 4).toNatClampNeg), .int (xs (x4 + 5).toNatClampNeg), .int (xs (x4 + 6).toNatClampNeg)]) (rest := []) ⟨hx, hb, hml, hown, hts⟩ (c_X6_deal l G u514 (ndS T (xs (x4 + 1).toNatClampNeg) (xs (x4 + 2).toNatClampNeg) (0 : Int32) (xs (x4 + 4).toNatClampNeg) (xs (x4 + 5).toNatClampNeg) (xs (x4 + 6).toNatClampNeg)) T th ((T.1 5 0).toInt64) ex (u2 ad 11 (ndl T) q1) (xs (x4 + 1).toNatClampNeg) (xs (x4 + 2).toNatClampNeg) 0 (xs (x4 + 4).toNatClampNeg) (xs (x4 + 5).toNatClampNeg) (xs (x4 + 6).toNatClampNeg) hw1 hi (Or.inl rfl)) (cwV 6 hts gL_law_X6_deal rfl rfl rfl (by decide +kernel) ⟨Nat.le_of_ble_eq_true rfl, Nat.le_of_ble_eq_true rfl⟩) (preV_of hC hS hM gm17 rfl) rfl rfl hl.1 rfl (lv_room (Nat.le_of_ble_eq_true rfl)) dL_law_565 ⟨(by first | omega | (show _ ≤ 601024; omega) | (show _ ≤ 7293034; omega)), (by first | omega | (show _ ≤ 601024; omega) | (show _ ≤ 7293034; omega))⟩) hS (fun r565 u565 H locs hp565 hM hS => ?_)
      have hM : Hm G u565 H := hM
      rcases hp565 with ⟨y1, hw2⟩ | ⟨y1, y2, hw2⟩ | ⟨y1, y2, y3, T9, hsm, hw2⟩ | ⟨y1, y2, y3, y4, er2, hw2⟩
      · exact False.elim (by first | exact absurd z1 y1 | exact absurd y1 z1)
      · exact False.elim (by first | exact absurd z2 y2 | exact absurd y2 z2)
      · exact False.elim (y3.elim (fun q => q z3) (fun q => z4 (by rw [← hi.2.2.2.2]; exact q)))
      · subst er2
        have hMk : Hm G u565 H := hM
        have go19 : u565 (ad 28 0) = some (.inl (G.2.1 1, 1, .inr (.inl (fun _ => (T.1 5 0).toInt64)))) := hw2.1 28 0 _ rfl
        have gm19 : u565 (ad 14 0) = some (.inr (6, [.int 0, .int ((ndS T (xs (x4 + 1).toNatClampNeg) (xs (x4 + 2).toNatClampNeg) (0 : Int32) (xs (x4 + 4).toNatClampNeg) (xs (x4 + 5).toNatClampNeg) (xs (x4 + 6).toNatClampNeg)).1 0 0), .ref (ad 15 0), .ref (ad 16 0), .ref (ad 17 0), .ref (ad 18 0), .int ((ndS T (xs (x4 + 1).toNatClampNeg) (xs (x4 + 2).toNatClampNeg) (0 : Int32) (xs (x4 + 4).toNatClampNeg) (xs (x4 + 5).toNatClampNeg) (xs (x4 + 6).toNatClampNeg)).1 5 0), .ref (ad 19 0), .ref (ad 20 0), .ref (ad 21 0), .ref (ad 22 0), .ref (ad 23 0), .ref (ad 24 0), .ref (ad 25 0), .ref (ad 26 0), .ref (ad 27 0)])) := hw2.1 14 0 _ rfl
        refine lv_istore (lv' := [(6, .int (T.1 5 0)), (5, .int 0), (0, .ref b), (1, .ref (ad 0 0)), (2, .ref (ad 14 0)), (3, .ref (ad 28 0)), (4, .int x4)]) hx hb dL_law_568 hl (by decide) rfl (fun ls hl => ?_)
        refine lv_aload_n hx hb dL_law_570 rfl (lv_at hl 4 rfl) ?_
        refine k_i (va_runV (As := []) (rest := []) ⟨hx, hb, hml, hown, hts⟩ (c_X6_thrown l G u565 (ndS T (xs (x4 + 1).toNatClampNeg) (xs (x4 + 2).toNatClampNeg) (0 : Int32) (xs (x4 + 4).toNatClampNeg) (xs (x4 + 5).toNatClampNeg) (xs (x4 + 6).toNatClampNeg)) (ndS T (xs (x4 + 1).toNatClampNeg) (xs (x4 + 2).toNatClampNeg) (0 : Int32) (xs (x4 + 4).toNatClampNeg) (xs (x4 + 5).toNatClampNeg) (xs (x4 + 6).toNatClampNeg)) 0 ((T.1 5 0).toInt64) ex (u2 ad 11 (ndl T) q1) hw2) (cwV 0 hts gL_law_X6_thrown rfl rfl rfl (by decide +kernel) ⟨Nat.le_of_ble_eq_true rfl, Nat.le_of_ble_eq_true rfl⟩) (preV_of hC hS hM gm19 rfl) rfl rfl hl.1 rfl (lv_room (Nat.le_of_ble_eq_true rfl)) dL_law_571 ⟨(by first | omega | (show _ ≤ 601024; omega) | (show _ ≤ 7293034; omega)), (by first | omega | (show _ ≤ 601024; omega) | (show _ ≤ 7293034; omega))⟩) hS (fun r571 u571 H locs hp571 hM hS => ?_)
        have hM : Hm G u565 H := hM
        have hp571 : r571 = 0 := hp571
        subst hp571
        refine lv_iload hx hb dL_law_574 (lv_at hl 1 rfl) ?_
        refine lv_icmp_eq (tgt := 581) hx hb dL_law_576 (by decide) (fun c_576 => ?_) (fun c_576 => False.elim (by revert c_576; decide))
        refine lv_iload hx hb dL_law_581 (lv_at hl 1 rfl) ?_
        refine lv_if_ne (tgt := 598) hx hb dL_law_583 (by decide) (fun c_583 => False.elim (by revert c_583; decide)) (fun c_583 => ?_)
        refine lv_aload_n hx hb dL_law_586 rfl (lv_at hl 5 rfl) ?_
        refine lv_iconst (v := 0) hx hb dL_law_587 (by decide) ?_
        refine m_lald (a := (ad 28 0)) hx hb hC hM go19 (vin_of (n := 1) 1 (by decide) (by decide)) dL_law_588 ?_
        refine lv_iload hx hb dL_law_589 (lv_at hl 0 rfl) ?_
        refine lv_i2l hx hb dL_law_591 rfl ?_
        refine W.lcmp hx hb dL_law_592 ?_
        refine lv_if_eq (tgt := 598) hx hb dL_law_593 (by decide) (fun c_593 => ?_) (fun c_593 => False.elim (by exact c_593 ((lg_cmp_eq _ _).mpr rfl)))
        refine lv_goto (tgt := 1326) hx hb dL_law_598 (by decide) ?_
        refine W.widen (k := c0 + 42) (n := s0 + 132) (by omega) (by omega) ?_
        exact K (ndS T (xs (x4 + 1).toNatClampNeg) (xs (x4 + 2).toNatClampNeg) (0 : Int32) (xs (x4 + 4).toNatClampNeg) (xs (x4 + 5).toNatClampNeg) (xs (x4 + 6).toNatClampNeg)) 0 ((T.1 5 0).toInt64) ex (u2 ad 11 (ndl T) q1) _ _ _ ls (iv_nd hi z3 (by decide) z1.1 z1.2 z2.1 z2.2.1 z2.2.2) hx9 (hw2) hM hS (lv_sub hl [2, 3, 4, 5, 6] rfl)
  · refine lv_iconst (v := 1) hx hb dL_law_489 (by decide) ?_
    refine lv_goto (tgt := 494) hx hb dL_law_490 (by decide) ?_
    refine lv_aload_n hx hb dL_law_494 rfl (lv_at hl 0 rfl) ?_
    refine lv_iload hx hb dL_law_495 (lv_at hl 4 rfl) ?_
    refine lv_iconst (v := 4) hx hb dL_law_497 (by decide) ?_
    refine lv_iadd hx hb dL_law_498 ?_
    refine va_sld hx hb hX hbl hbA hS h_4 dL_law_499 ?_
    refine lv_aload_n hx hb dL_law_500 rfl (lv_at hl 0 rfl) ?_
    refine lv_iload hx hb dL_law_501 (lv_at hl 4 rfl) ?_
    refine lv_iconst (v := 5) hx hb dL_law_503 (by decide) ?_
    refine lv_iadd hx hb dL_law_504 ?_
    refine va_sld hx hb hX hbl hbA hS h_5 dL_law_505 ?_
    refine lv_aload_n hx hb dL_law_506 rfl (lv_at hl 0 rfl) ?_
    refine lv_iload hx hb dL_law_507 (lv_at hl 4 rfl) ?_
    refine lv_bipush (v := 6) hx hb dL_law_509 (by decide) ?_
    refine lv_iadd hx hb dL_law_511 ?_
    refine va_sld hx hb hX hbl hbA hS h_6 dL_law_512 ?_
    refine lv_aload_n hx hb dL_law_513 rfl (lv_at hl 3 rfl) ?_
    refine k_i (vx_runSW (As := [.ref (ad 0 0), .int (xs (x4 + 1).toNatClampNeg), .int (xs (x4 + 2).toNatClampNeg), .int 1, .int (xs (x4 + 4).toNatClampNeg), .int (xs (x4 + 5).toNatClampNeg), .int (xs (x4 + 6).toNatClampNeg), .ref (ad 28 0)]) (rest := []) ⟨hx, hb, hml, hown, hts⟩ (c_L_deal hnt l G M T T th o ex ad (xs (x4 + 1).toNatClampNeg) (xs (x4 + 2).toNatClampNeg) 1 (xs (x4 + 4).toNatClampNeg) (xs (x4 + 5).toNatClampNeg) (xs (x4 + 6).toNatClampNeg) hw hi (Or.inr rfl)) (vx_cwSW 8 hts gL_law_L_deal rfl rfl rfl (by decide +kernel) ⟨Nat.le_of_ble_eq_true rfl, Nat.le_of_ble_eq_true rfl⟩) (preS_of hC hS hM) rfl rfl hl.1 rfl (lv_room (Nat.le_of_ble_eq_true rfl)) dL_law_514 ⟨(by first | omega | (show _ ≤ 601024; omega) | (show _ ≤ 7293034; omega)), (by first | omega | (show _ ≤ 601024; omega) | (show _ ≤ 7293034; omega))⟩) hS (fun r514 u514 H locs hp514 hM hS => ?_)
    have hM : Hm G u514 H := hM
    rcases hp514 with ⟨er, z1, hw1⟩ | ⟨er, ⟨z1, z2⟩, hw1⟩ | ⟨er, ⟨z1, z2, z3⟩, hw1⟩ | ⟨er, ⟨z1, z2, z3, z4⟩, q1, hw1⟩
    · subst er
      have go23 : u514 (ad 28 0) = some (.inl (G.2.1 1, 1, .inr (.inl (fun _ => o)))) := hw1.1 28 0 _ rfl
      have gm23 : u514 (ad 14 0) = some (.inr (6, [.int th, .int (T.1 0 0), .ref (ad 15 0), .ref (ad 16 0), .ref (ad 17 0), .ref (ad 18 0), .int (T.1 5 0), .ref (ad 19 0), .ref (ad 20 0), .ref (ad 21 0), .ref (ad 22 0), .ref (ad 23 0), .ref (ad 24 0), .ref (ad 25 0), .ref (ad 26 0), .ref (ad 27 0)])) := hw1.1 14 0 _ rfl
      refine lv_istore (lv' := [(5, .int 1), (0, .ref b), (1, .ref (ad 0 0)), (2, .ref (ad 14 0)), (3, .ref (ad 28 0)), (4, .int x4)]) hx hb dL_law_517 hl (by decide) rfl (fun ls hl => ?_)
      refine lv_aload_n hx hb dL_law_519 rfl (lv_at hl 3 rfl) ?_
      refine lv_aload_n hx hb dL_law_520 rfl (lv_at hl 1 rfl) ?_
      refine lv_iload hx hb dL_law_521 (lv_at hl 5 rfl) ?_
      refine lv_iconst (v := 1) hx hb dL_law_523 (by decide) ?_
      refine lv_iadd hx hb dL_law_524 ?_
      refine va_sld hx hb hX hbl hbA hS h_1 dL_law_525 ?_
      refine lv_aload_n hx hb dL_law_526 rfl (lv_at hl 1 rfl) ?_
      refine lv_iload hx hb dL_law_527 (lv_at hl 5 rfl) ?_
      refine lv_iconst (v := 2) hx hb dL_law_529 (by decide) ?_
      refine lv_iadd hx hb dL_law_530 ?_
      refine va_sld hx hb hX hbl hbA hS h_2 dL_law_531 ?_
      refine lv_aload_n hx hb dL_law_532 rfl (lv_at hl 1 rfl) ?_
      refine lv_iload hx hb dL_law_533 (lv_at hl 5 rfl) ?_
      refine lv_iconst (v := 3) hx hb dL_law_535 (by decide) ?_
      refine lv_iadd hx hb dL_law_536 ?_
      refine va_sld hx hb hX hbl hbA hS h_3 dL_law_537 ?_
      refine lv_if_eq (tgt := 545) hx hb dL_law_538 (by decide) (fun c_538 => False.elim (by exact absurd c_538 c_486)) (fun c_538 => ?_)
      refine lv_iconst (v := 1) hx hb dL_law_541 (by decide) ?_
      refine lv_goto (tgt := 546) hx hb dL_law_542 (by decide) ?_
      refine lv_aload_n hx hb dL_law_546 rfl (lv_at hl 1 rfl) ?_
      refine lv_iload hx hb dL_law_547 (lv_at hl 5 rfl) ?_
      refine lv_iconst (v := 4) hx hb dL_law_549 (by decide) ?_
      refine lv_iadd hx hb dL_law_550 ?_
      refine va_sld hx hb hX hbl hbA hS h_4 dL_law_551 ?_
      refine lv_aload_n hx hb dL_law_552 rfl (lv_at hl 1 rfl) ?_
      refine lv_iload hx hb dL_law_553 (lv_at hl 5 rfl) ?_
      refine lv_iconst (v := 5) hx hb dL_law_555 (by decide) ?_
      refine lv_iadd hx hb dL_law_556 ?_
      refine va_sld hx hb hX hbl hbA hS h_5 dL_law_557 ?_
      refine lv_aload_n hx hb dL_law_558 rfl (lv_at hl 1 rfl) ?_
      refine lv_iload hx hb dL_law_559 (lv_at hl 5 rfl) ?_
      refine lv_bipush (v := 6) hx hb dL_law_561 (by decide) ?_
      refine lv_iadd hx hb dL_law_563 ?_
      refine va_sld hx hb hX hbl hbA hS h_6 dL_law_564 ?_
      refine k_i (va_runV (As := [.int (xs (x4 + 1).toNatClampNeg), .int (xs (x4 + 2).toNatClampNeg), .int 1, .int (xs (x4 + 4).toNatClampNeg), .int (xs (x4 + 5).toNatClampNeg), .int (xs (x4 + 6).toNatClampNeg)]) (rest := []) ⟨hx, hb, hml, hown, hts⟩ (c_X6_deal l G u514 T T th o ex ad (xs (x4 + 1).toNatClampNeg) (xs (x4 + 2).toNatClampNeg) 1 (xs (x4 + 4).toNatClampNeg) (xs (x4 + 5).toNatClampNeg) (xs (x4 + 6).toNatClampNeg) hw1 hi (Or.inr rfl)) (cwV 6 hts gL_law_X6_deal rfl rfl rfl (by decide +kernel) ⟨Nat.le_of_ble_eq_true rfl, Nat.le_of_ble_eq_true rfl⟩) (preV_of hC hS hM gm23 rfl) rfl rfl hl.1 rfl (lv_room (Nat.le_of_ble_eq_true rfl)) dL_law_565 ⟨(by first | omega | (show _ ≤ 601024; omega) | (show _ ≤ 7293034; omega)), (by first | omega | (show _ ≤ 601024; omega) | (show _ ≤ 7293034; omega))⟩) hS (fun r565 u565 H locs hp565 hM hS => ?_)
      have hM : Hm G u565 H := hM
      rcases hp565 with ⟨y1, hw2⟩ | ⟨y1, y2, hw2⟩ | ⟨y1, y2, y3, T9, hsm, hw2⟩ | ⟨y1, y2, y3, y4, er2, hw2⟩
      · have hMk : Hm G u565 H := hM
        have go25 : u565 (ad 28 0) = some (.inl (G.2.1 1, 1, .inr (.inl (fun _ => o)))) := hw2.1 28 0 _ rfl
        have gm25 : u565 (ad 14 0) = some (.inr (6, [.int 1, .int (T.1 0 0), .ref (ad 15 0), .ref (ad 16 0), .ref (ad 17 0), .ref (ad 18 0), .int (T.1 5 0), .ref (ad 19 0), .ref (ad 20 0), .ref (ad 21 0), .ref (ad 22 0), .ref (ad 23 0), .ref (ad 24 0), .ref (ad 25 0), .ref (ad 26 0), .ref (ad 27 0)])) := hw2.1 14 0 _ rfl
        refine lv_istore (lv' := [(6, .int r565), (5, .int 1), (0, .ref b), (1, .ref (ad 0 0)), (2, .ref (ad 14 0)), (3, .ref (ad 28 0)), (4, .int x4)]) hx hb dL_law_568 hl (by decide) rfl (fun ls hl => ?_)
        refine lv_aload_n hx hb dL_law_570 rfl (lv_at hl 4 rfl) ?_
        refine k_i (va_runV (As := []) (rest := []) ⟨hx, hb, hml, hown, hts⟩ (c_X6_thrown l G u565 T T 1 o ex ad hw2) (cwV 0 hts gL_law_X6_thrown rfl rfl rfl (by decide +kernel) ⟨Nat.le_of_ble_eq_true rfl, Nat.le_of_ble_eq_true rfl⟩) (preV_of hC hS hM gm25 rfl) rfl rfl hl.1 rfl (lv_room (Nat.le_of_ble_eq_true rfl)) dL_law_571 ⟨(by first | omega | (show _ ≤ 601024; omega) | (show _ ≤ 7293034; omega)), (by first | omega | (show _ ≤ 601024; omega) | (show _ ≤ 7293034; omega))⟩) hS (fun r571 u571 H locs hp571 hM hS => ?_)
        have hM : Hm G u565 H := hM
        have hp571 : r571 = 1 := hp571
        subst hp571
        refine lv_iload hx hb dL_law_574 (lv_at hl 1 rfl) ?_
        refine lv_icmp_eq (tgt := 581) hx hb dL_law_576 (by decide) (fun c_576 => ?_) (fun c_576 => False.elim (by revert c_576; decide))
        refine lv_iload hx hb dL_law_581 (lv_at hl 1 rfl) ?_
        refine lv_if_ne (tgt := 598) hx hb dL_law_583 (by decide) (fun c_583 => ?_) (fun c_583 => False.elim (by revert c_583; decide))
        refine lv_goto (tgt := 1326) hx hb dL_law_598 (by decide) ?_
        refine W.widen (k := c0 + 42) (n := s0 + 132) (by omega) (by omega) ?_
        exact K T 1 o ex ad _ _ _ ls hi hx9 hw2 hM hS (lv_sub hl [2, 3, 4, 5, 6] rfl)
      · exact False.elim (by first | exact absurd z1 y1 | exact absurd y1 z1)
      · exact False.elim (by first | exact absurd z1 y1 | exact absurd y1 z1)
      · exact False.elim (by first | exact absurd z1 y1 | exact absurd y1 z1)
    · subst er
      have go28 : u514 (ad 28 0) = some (.inl (G.2.1 1, 1, .inr (.inl (fun _ => o)))) := hw1.1 28 0 _ rfl
      have gm28 : u514 (ad 14 0) = some (.inr (6, [.int th, .int (T.1 0 0), .ref (ad 15 0), .ref (ad 16 0), .ref (ad 17 0), .ref (ad 18 0), .int (T.1 5 0), .ref (ad 19 0), .ref (ad 20 0), .ref (ad 21 0), .ref (ad 22 0), .ref (ad 23 0), .ref (ad 24 0), .ref (ad 25 0), .ref (ad 26 0), .ref (ad 27 0)])) := hw1.1 14 0 _ rfl
      refine lv_istore (lv' := [(5, .int 2), (0, .ref b), (1, .ref (ad 0 0)), (2, .ref (ad 14 0)), (3, .ref (ad 28 0)), (4, .int x4)]) hx hb dL_law_517 hl (by decide) rfl (fun ls hl => ?_)
      refine lv_aload_n hx hb dL_law_519 rfl (lv_at hl 3 rfl) ?_
      refine lv_aload_n hx hb dL_law_520 rfl (lv_at hl 1 rfl) ?_
      refine lv_iload hx hb dL_law_521 (lv_at hl 5 rfl) ?_
      refine lv_iconst (v := 1) hx hb dL_law_523 (by decide) ?_
      refine lv_iadd hx hb dL_law_524 ?_
      refine va_sld hx hb hX hbl hbA hS h_1 dL_law_525 ?_
      refine lv_aload_n hx hb dL_law_526 rfl (lv_at hl 1 rfl) ?_
      refine lv_iload hx hb dL_law_527 (lv_at hl 5 rfl) ?_
      refine lv_iconst (v := 2) hx hb dL_law_529 (by decide) ?_
      refine lv_iadd hx hb dL_law_530 ?_
      refine va_sld hx hb hX hbl hbA hS h_2 dL_law_531 ?_
      refine lv_aload_n hx hb dL_law_532 rfl (lv_at hl 1 rfl) ?_
      refine lv_iload hx hb dL_law_533 (lv_at hl 5 rfl) ?_
      refine lv_iconst (v := 3) hx hb dL_law_535 (by decide) ?_
      refine lv_iadd hx hb dL_law_536 ?_
      refine va_sld hx hb hX hbl hbA hS h_3 dL_law_537 ?_
      refine lv_if_eq (tgt := 545) hx hb dL_law_538 (by decide) (fun c_538 => False.elim (by exact absurd c_538 c_486)) (fun c_538 => ?_)
      refine lv_iconst (v := 1) hx hb dL_law_541 (by decide) ?_
      refine lv_goto (tgt := 546) hx hb dL_law_542 (by decide) ?_
      refine lv_aload_n hx hb dL_law_546 rfl (lv_at hl 1 rfl) ?_
      refine lv_iload hx hb dL_law_547 (lv_at hl 5 rfl) ?_
      refine lv_iconst (v := 4) hx hb dL_law_549 (by decide) ?_
      refine lv_iadd hx hb dL_law_550 ?_
      refine va_sld hx hb hX hbl hbA hS h_4 dL_law_551 ?_
      refine lv_aload_n hx hb dL_law_552 rfl (lv_at hl 1 rfl) ?_
      refine lv_iload hx hb dL_law_553 (lv_at hl 5 rfl) ?_
      refine lv_iconst (v := 5) hx hb dL_law_555 (by decide) ?_
      refine lv_iadd hx hb dL_law_556 ?_
      refine va_sld hx hb hX hbl hbA hS h_5 dL_law_557 ?_
      refine lv_aload_n hx hb dL_law_558 rfl (lv_at hl 1 rfl) ?_
      refine lv_iload hx hb dL_law_559 (lv_at hl 5 rfl) ?_
      refine lv_bipush (v := 6) hx hb dL_law_561 (by decide) ?_
      refine lv_iadd hx hb dL_law_563 ?_
      refine va_sld hx hb hX hbl hbA hS h_6 dL_law_564 ?_
      refine k_i (va_runV (As := [.int (xs (x4 + 1).toNatClampNeg), .int (xs (x4 + 2).toNatClampNeg), .int 1, .int (xs (x4 + 4).toNatClampNeg), .int (xs (x4 + 5).toNatClampNeg), .int (xs (x4 + 6).toNatClampNeg)]) (rest := []) ⟨hx, hb, hml, hown, hts⟩ (c_X6_deal l G u514 T T th o ex ad (xs (x4 + 1).toNatClampNeg) (xs (x4 + 2).toNatClampNeg) 1 (xs (x4 + 4).toNatClampNeg) (xs (x4 + 5).toNatClampNeg) (xs (x4 + 6).toNatClampNeg) hw1 hi (Or.inr rfl)) (cwV 6 hts gL_law_X6_deal rfl rfl rfl (by decide +kernel) ⟨Nat.le_of_ble_eq_true rfl, Nat.le_of_ble_eq_true rfl⟩) (preV_of hC hS hM gm28 rfl) rfl rfl hl.1 rfl (lv_room (Nat.le_of_ble_eq_true rfl)) dL_law_565 ⟨(by first | omega | (show _ ≤ 601024; omega) | (show _ ≤ 7293034; omega)), (by first | omega | (show _ ≤ 601024; omega) | (show _ ≤ 7293034; omega))⟩) hS (fun r565 u565 H locs hp565 hM hS => ?_)
      have hM : Hm G u565 H := hM
      rcases hp565 with ⟨y1, hw2⟩ | ⟨y1, y2, hw2⟩ | ⟨y1, y2, y3, T9, hsm, hw2⟩ | ⟨y1, y2, y3, y4, er2, hw2⟩
      · exact False.elim (by first | exact absurd z1 y1 | exact absurd y1 z1)
      · have hMk : Hm G u565 H := hM
        have go30 : u565 (ad 28 0) = some (.inl (G.2.1 1, 1, .inr (.inl (fun _ => o)))) := hw2.1 28 0 _ rfl
        have gm30 : u565 (ad 14 0) = some (.inr (6, [.int 2, .int (T.1 0 0), .ref (ad 15 0), .ref (ad 16 0), .ref (ad 17 0), .ref (ad 18 0), .int (T.1 5 0), .ref (ad 19 0), .ref (ad 20 0), .ref (ad 21 0), .ref (ad 22 0), .ref (ad 23 0), .ref (ad 24 0), .ref (ad 25 0), .ref (ad 26 0), .ref (ad 27 0)])) := hw2.1 14 0 _ rfl
        refine lv_istore (lv' := [(6, .int r565), (5, .int 2), (0, .ref b), (1, .ref (ad 0 0)), (2, .ref (ad 14 0)), (3, .ref (ad 28 0)), (4, .int x4)]) hx hb dL_law_568 hl (by decide) rfl (fun ls hl => ?_)
        refine lv_aload_n hx hb dL_law_570 rfl (lv_at hl 4 rfl) ?_
        refine k_i (va_runV (As := []) (rest := []) ⟨hx, hb, hml, hown, hts⟩ (c_X6_thrown l G u565 T T 2 o ex ad hw2) (cwV 0 hts gL_law_X6_thrown rfl rfl rfl (by decide +kernel) ⟨Nat.le_of_ble_eq_true rfl, Nat.le_of_ble_eq_true rfl⟩) (preV_of hC hS hM gm30 rfl) rfl rfl hl.1 rfl (lv_room (Nat.le_of_ble_eq_true rfl)) dL_law_571 ⟨(by first | omega | (show _ ≤ 601024; omega) | (show _ ≤ 7293034; omega)), (by first | omega | (show _ ≤ 601024; omega) | (show _ ≤ 7293034; omega))⟩) hS (fun r571 u571 H locs hp571 hM hS => ?_)
        have hM : Hm G u565 H := hM
        have hp571 : r571 = 2 := hp571
        subst hp571
        refine lv_iload hx hb dL_law_574 (lv_at hl 1 rfl) ?_
        refine lv_icmp_eq (tgt := 581) hx hb dL_law_576 (by decide) (fun c_576 => ?_) (fun c_576 => False.elim (by revert c_576; decide))
        refine lv_iload hx hb dL_law_581 (lv_at hl 1 rfl) ?_
        refine lv_if_ne (tgt := 598) hx hb dL_law_583 (by decide) (fun c_583 => ?_) (fun c_583 => False.elim (by revert c_583; decide))
        refine lv_goto (tgt := 1326) hx hb dL_law_598 (by decide) ?_
        refine W.widen (k := c0 + 42) (n := s0 + 132) (by omega) (by omega) ?_
        exact K T 2 o ex ad _ _ _ ls hi hx9 hw2 hM hS (lv_sub hl [2, 3, 4, 5, 6] rfl)
      · exact False.elim (by first | exact absurd z2 y2 | exact absurd y2 z2)
      · exact False.elim (by first | exact absurd z2 y2 | exact absurd y2 z2)
    · subst er
      have go33 : u514 (ad 28 0) = some (.inl (G.2.1 1, 1, .inr (.inl (fun _ => o)))) := hw1.1 28 0 _ rfl
      have gm33 : u514 (ad 14 0) = some (.inr (6, [.int th, .int (T.1 0 0), .ref (ad 15 0), .ref (ad 16 0), .ref (ad 17 0), .ref (ad 18 0), .int (T.1 5 0), .ref (ad 19 0), .ref (ad 20 0), .ref (ad 21 0), .ref (ad 22 0), .ref (ad 23 0), .ref (ad 24 0), .ref (ad 25 0), .ref (ad 26 0), .ref (ad 27 0)])) := hw1.1 14 0 _ rfl
      refine lv_istore (lv' := [(5, .int 3), (0, .ref b), (1, .ref (ad 0 0)), (2, .ref (ad 14 0)), (3, .ref (ad 28 0)), (4, .int x4)]) hx hb dL_law_517 hl (by decide) rfl (fun ls hl => ?_)
      refine lv_aload_n hx hb dL_law_519 rfl (lv_at hl 3 rfl) ?_
      refine lv_aload_n hx hb dL_law_520 rfl (lv_at hl 1 rfl) ?_
      refine lv_iload hx hb dL_law_521 (lv_at hl 5 rfl) ?_
      refine lv_iconst (v := 1) hx hb dL_law_523 (by decide) ?_
      refine lv_iadd hx hb dL_law_524 ?_
      refine va_sld hx hb hX hbl hbA hS h_1 dL_law_525 ?_
      refine lv_aload_n hx hb dL_law_526 rfl (lv_at hl 1 rfl) ?_
      refine lv_iload hx hb dL_law_527 (lv_at hl 5 rfl) ?_
      refine lv_iconst (v := 2) hx hb dL_law_529 (by decide) ?_
      refine lv_iadd hx hb dL_law_530 ?_
      refine va_sld hx hb hX hbl hbA hS h_2 dL_law_531 ?_
      refine lv_aload_n hx hb dL_law_532 rfl (lv_at hl 1 rfl) ?_
      refine lv_iload hx hb dL_law_533 (lv_at hl 5 rfl) ?_
      refine lv_iconst (v := 3) hx hb dL_law_535 (by decide) ?_
      refine lv_iadd hx hb dL_law_536 ?_
      refine va_sld hx hb hX hbl hbA hS h_3 dL_law_537 ?_
      refine lv_if_eq (tgt := 545) hx hb dL_law_538 (by decide) (fun c_538 => False.elim (by exact absurd c_538 c_486)) (fun c_538 => ?_)
      refine lv_iconst (v := 1) hx hb dL_law_541 (by decide) ?_
      refine lv_goto (tgt := 546) hx hb dL_law_542 (by decide) ?_
      refine lv_aload_n hx hb dL_law_546 rfl (lv_at hl 1 rfl) ?_
      refine lv_iload hx hb dL_law_547 (lv_at hl 5 rfl) ?_
      refine lv_iconst (v := 4) hx hb dL_law_549 (by decide) ?_
      refine lv_iadd hx hb dL_law_550 ?_
      refine va_sld hx hb hX hbl hbA hS h_4 dL_law_551 ?_
      refine lv_aload_n hx hb dL_law_552 rfl (lv_at hl 1 rfl) ?_
      refine lv_iload hx hb dL_law_553 (lv_at hl 5 rfl) ?_
      refine lv_iconst (v := 5) hx hb dL_law_555 (by decide) ?_
      refine lv_iadd hx hb dL_law_556 ?_
      refine va_sld hx hb hX hbl hbA hS h_5 dL_law_557 ?_
      refine lv_aload_n hx hb dL_law_558 rfl (lv_at hl 1 rfl) ?_
      refine lv_iload hx hb dL_law_559 (lv_at hl 5 rfl) ?_
      refine lv_bipush (v := 6) hx hb dL_law_561 (by decide) ?_
      refine lv_iadd hx hb dL_law_563 ?_
      refine va_sld hx hb hX hbl hbA hS h_6 dL_law_564 ?_
      refine k_i (va_runV (As := [.int (xs (x4 + 1).toNatClampNeg), .int (xs (x4 + 2).toNatClampNeg), .int 1, .int (xs (x4 + 4).toNatClampNeg), .int (xs (x4 + 5).toNatClampNeg), .int (xs (x4 + 6).toNatClampNeg)]) (rest := []) ⟨hx, hb, hml, hown, hts⟩ (c_X6_deal l G u514 T T th o ex ad (xs (x4 + 1).toNatClampNeg) (xs (x4 + 2).toNatClampNeg) 1 (xs (x4 + 4).toNatClampNeg) (xs (x4 + 5).toNatClampNeg) (xs (x4 + 6).toNatClampNeg) hw1 hi (Or.inr rfl)) (cwV 6 hts gL_law_X6_deal rfl rfl rfl (by decide +kernel) ⟨Nat.le_of_ble_eq_true rfl, Nat.le_of_ble_eq_true rfl⟩) (preV_of hC hS hM gm33 rfl) rfl rfl hl.1 rfl (lv_room (Nat.le_of_ble_eq_true rfl)) dL_law_565 ⟨(by first | omega | (show _ ≤ 601024; omega) | (show _ ≤ 7293034; omega)), (by first | omega | (show _ ≤ 601024; omega) | (show _ ≤ 7293034; omega))⟩) hS (fun r565 u565 H locs hp565 hM hS => ?_)
      have hM : Hm G u565 H := hM
      rcases hp565 with ⟨y1, hw2⟩ | ⟨y1, y2, hw2⟩ | ⟨y1, y2, y3, T9, hsm, hw2⟩ | ⟨y1, y2, y3, y4, er2, hw2⟩
      · exact False.elim (by first | exact absurd z1 y1 | exact absurd y1 z1)
      · exact False.elim (by first | exact absurd z2 y2 | exact absurd y2 z2)
      · have hMk : Hm G u565 H := hM
        have go35 : u565 (ad 28 0) = some (.inl (G.2.1 1, 1, .inr (.inl (fun _ => o)))) := hw2.1 28 0 _ rfl
        have gm35 : u565 (ad 14 0) = some (.inr (6, [.int 3, .int (T9.1 0 0), .ref (ad 15 0), .ref (ad 16 0), .ref (ad 17 0), .ref (ad 18 0), .int (T9.1 5 0), .ref (ad 19 0), .ref (ad 20 0), .ref (ad 21 0), .ref (ad 22 0), .ref (ad 23 0), .ref (ad 24 0), .ref (ad 25 0), .ref (ad 26 0), .ref (ad 27 0)])) := hw2.1 14 0 _ rfl
        refine lv_istore (lv' := [(6, .int r565), (5, .int 3), (0, .ref b), (1, .ref (ad 0 0)), (2, .ref (ad 14 0)), (3, .ref (ad 28 0)), (4, .int x4)]) hx hb dL_law_568 hl (by decide) rfl (fun ls hl => ?_)
        refine lv_aload_n hx hb dL_law_570 rfl (lv_at hl 4 rfl) ?_
        refine k_i (va_runV (As := []) (rest := []) ⟨hx, hb, hml, hown, hts⟩ (c_X6_thrown l G u565 T T9 3 o ex ad hw2) (cwV 0 hts gL_law_X6_thrown rfl rfl rfl (by decide +kernel) ⟨Nat.le_of_ble_eq_true rfl, Nat.le_of_ble_eq_true rfl⟩) (preV_of hC hS hM gm35 rfl) rfl rfl hl.1 rfl (lv_room (Nat.le_of_ble_eq_true rfl)) dL_law_571 ⟨(by first | omega | (show _ ≤ 601024; omega) | (show _ ≤ 7293034; omega)), (by first | omega | (show _ ≤ 601024; omega) | (show _ ≤ 7293034; omega))⟩) hS (fun r571 u571 H locs hp571 hM hS => ?_)
        have hM : Hm G u565 H := hM
        have hp571 : r571 = 3 := hp571
        subst hp571
        refine lv_iload hx hb dL_law_574 (lv_at hl 1 rfl) ?_
        refine lv_icmp_eq (tgt := 581) hx hb dL_law_576 (by decide) (fun c_576 => ?_) (fun c_576 => False.elim (by revert c_576; decide))
        refine lv_iload hx hb dL_law_581 (lv_at hl 1 rfl) ?_
        refine lv_if_ne (tgt := 598) hx hb dL_law_583 (by decide) (fun c_583 => ?_) (fun c_583 => False.elim (by revert c_583; decide))
        refine lv_goto (tgt := 1326) hx hb dL_law_598 (by decide) ?_
        refine W.widen (k := c0 + 42) (n := s0 + 132) (by omega) (by omega) ?_
        exact K T9 3 o ex ad _ _ _ ls (sm_iv hi hsm) (sm_ix hx9 hsm) (sm_wa hw2 hsm) hM hS (lv_sub hl [2, 3, 4, 5, 6] rfl)
      · exact False.elim (z3.elim (fun q => q y3) (fun q => y4 (by rw [hi.2.2.2.2]; exact q)))
    · subst er
      have go38 : u514 (ad 28 0) = some (.inl (G.2.1 1, 1, .inr (.inl (fun _ => (T.1 5 0).toInt64)))) := hw1.1 28 0 _ rfl
      have gm38 : u514 (ad 14 0) = some (.inr (6, [.int th, .int (T.1 0 0), .ref (ad 15 0), .ref (ad 16 0), .ref (ad 17 0), .ref (ad 18 0), .int (T.1 5 0), .ref (ad 19 0), .ref (ad 20 0), .ref (ad 21 0), .ref (ad 22 0), .ref (ad 23 0), .ref (ad 24 0), .ref (ad 25 0), .ref (ad 26 0), .ref (ad 27 0)])) := hw1.1 14 0 _ rfl
      refine lv_istore (lv' := [(5, .int 0), (0, .ref b), (1, .ref (ad 0 0)), (2, .ref (ad 14 0)), (3, .ref (ad 28 0)), (4, .int x4)]) hx hb dL_law_517 hl (by decide) rfl (fun ls hl => ?_)
      refine lv_aload_n hx hb dL_law_519 rfl (lv_at hl 3 rfl) ?_
      refine lv_aload_n hx hb dL_law_520 rfl (lv_at hl 1 rfl) ?_
      refine lv_iload hx hb dL_law_521 (lv_at hl 5 rfl) ?_
      refine lv_iconst (v := 1) hx hb dL_law_523 (by decide) ?_
      refine lv_iadd hx hb dL_law_524 ?_
      refine va_sld hx hb hX hbl hbA hS h_1 dL_law_525 ?_
      refine lv_aload_n hx hb dL_law_526 rfl (lv_at hl 1 rfl) ?_
      refine lv_iload hx hb dL_law_527 (lv_at hl 5 rfl) ?_
      refine lv_iconst (v := 2) hx hb dL_law_529 (by decide) ?_
      refine lv_iadd hx hb dL_law_530 ?_
      refine va_sld hx hb hX hbl hbA hS h_2 dL_law_531 ?_
      refine lv_aload_n hx hb dL_law_532 rfl (lv_at hl 1 rfl) ?_
      refine lv_iload hx hb dL_law_533 (lv_at hl 5 rfl) ?_
      refine lv_iconst (v := 3) hx hb dL_law_535 (by decide) ?_
      refine lv_iadd hx hb dL_law_536 ?_
      refine va_sld hx hb hX hbl hbA hS h_3 dL_law_537 ?_
      refine lv_if_eq (tgt := 545) hx hb dL_law_538 (by decide) (fun c_538 => False.elim (by exact absurd c_538 c_486)) (fun c_538 => ?_)
      refine lv_iconst (v := 1) hx hb dL_law_541 (by decide) ?_
      refine lv_goto (tgt := 546) hx hb dL_law_542 (by decide) ?_
      refine lv_aload_n hx hb dL_law_546 rfl (lv_at hl 1 rfl) ?_
      refine lv_iload hx hb dL_law_547 (lv_at hl 5 rfl) ?_
      refine lv_iconst (v := 4) hx hb dL_law_549 (by decide) ?_
      refine lv_iadd hx hb dL_law_550 ?_
      refine va_sld hx hb hX hbl hbA hS h_4 dL_law_551 ?_
      refine lv_aload_n hx hb dL_law_552 rfl (lv_at hl 1 rfl) ?_
      refine lv_iload hx hb dL_law_553 (lv_at hl 5 rfl) ?_
      refine lv_iconst (v := 5) hx hb dL_law_555 (by decide) ?_
      refine lv_iadd hx hb dL_law_556 ?_
      refine va_sld hx hb hX hbl hbA hS h_5 dL_law_557 ?_
      refine lv_aload_n hx hb dL_law_558 rfl (lv_at hl 1 rfl) ?_
      refine lv_iload hx hb dL_law_559 (lv_at hl 5 rfl) ?_
      refine lv_bipush (v := 6) hx hb dL_law_561 (by decide) ?_
      refine lv_iadd hx hb dL_law_563 ?_
      refine va_sld hx hb hX hbl hbA hS h_6 dL_law_564 ?_
      refine k_i (va_runV (As := [.int (xs (x4 + 1).toNatClampNeg), .int (xs (x4 + 2).toNatClampNeg), .int 1, .int (xs (x4 + 4).toNatClampNeg), .int (xs (x4 + 5).toNatClampNeg), .int (xs (x4 + 6).toNatClampNeg)]) (rest := []) ⟨hx, hb, hml, hown, hts⟩ (c_X6_deal l G u514 (ndS T (xs (x4 + 1).toNatClampNeg) (xs (x4 + 2).toNatClampNeg) (1 : Int32) (xs (x4 + 4).toNatClampNeg) (xs (x4 + 5).toNatClampNeg) (xs (x4 + 6).toNatClampNeg)) T th ((T.1 5 0).toInt64) ex (u2 ad 11 (ndl T) q1) (xs (x4 + 1).toNatClampNeg) (xs (x4 + 2).toNatClampNeg) 1 (xs (x4 + 4).toNatClampNeg) (xs (x4 + 5).toNatClampNeg) (xs (x4 + 6).toNatClampNeg) hw1 hi (Or.inr rfl)) (cwV 6 hts gL_law_X6_deal rfl rfl rfl (by decide +kernel) ⟨Nat.le_of_ble_eq_true rfl, Nat.le_of_ble_eq_true rfl⟩) (preV_of hC hS hM gm38 rfl) rfl rfl hl.1 rfl (lv_room (Nat.le_of_ble_eq_true rfl)) dL_law_565 ⟨(by first | omega | (show _ ≤ 601024; omega) | (show _ ≤ 7293034; omega)), (by first | omega | (show _ ≤ 601024; omega) | (show _ ≤ 7293034; omega))⟩) hS (fun r565 u565 H locs hp565 hM hS => ?_)
      have hM : Hm G u565 H := hM
      rcases hp565 with ⟨y1, hw2⟩ | ⟨y1, y2, hw2⟩ | ⟨y1, y2, y3, T9, hsm, hw2⟩ | ⟨y1, y2, y3, y4, er2, hw2⟩
      · exact False.elim (by first | exact absurd z1 y1 | exact absurd y1 z1)
      · exact False.elim (by first | exact absurd z2 y2 | exact absurd y2 z2)
      · exact False.elim (y3.elim (fun q => q z3) (fun q => z4 (by rw [← hi.2.2.2.2]; exact q)))
      · subst er2
        have hMk : Hm G u565 H := hM
        have go40 : u565 (ad 28 0) = some (.inl (G.2.1 1, 1, .inr (.inl (fun _ => (T.1 5 0).toInt64)))) := hw2.1 28 0 _ rfl
        have gm40 : u565 (ad 14 0) = some (.inr (6, [.int 0, .int ((ndS T (xs (x4 + 1).toNatClampNeg) (xs (x4 + 2).toNatClampNeg) (1 : Int32) (xs (x4 + 4).toNatClampNeg) (xs (x4 + 5).toNatClampNeg) (xs (x4 + 6).toNatClampNeg)).1 0 0), .ref (ad 15 0), .ref (ad 16 0), .ref (ad 17 0), .ref (ad 18 0), .int ((ndS T (xs (x4 + 1).toNatClampNeg) (xs (x4 + 2).toNatClampNeg) (1 : Int32) (xs (x4 + 4).toNatClampNeg) (xs (x4 + 5).toNatClampNeg) (xs (x4 + 6).toNatClampNeg)).1 5 0), .ref (ad 19 0), .ref (ad 20 0), .ref (ad 21 0), .ref (ad 22 0), .ref (ad 23 0), .ref (ad 24 0), .ref (ad 25 0), .ref (ad 26 0), .ref (ad 27 0)])) := hw2.1 14 0 _ rfl
        refine lv_istore (lv' := [(6, .int (T.1 5 0)), (5, .int 0), (0, .ref b), (1, .ref (ad 0 0)), (2, .ref (ad 14 0)), (3, .ref (ad 28 0)), (4, .int x4)]) hx hb dL_law_568 hl (by decide) rfl (fun ls hl => ?_)
        refine lv_aload_n hx hb dL_law_570 rfl (lv_at hl 4 rfl) ?_
        refine k_i (va_runV (As := []) (rest := []) ⟨hx, hb, hml, hown, hts⟩ (c_X6_thrown l G u565 (ndS T (xs (x4 + 1).toNatClampNeg) (xs (x4 + 2).toNatClampNeg) (1 : Int32) (xs (x4 + 4).toNatClampNeg) (xs (x4 + 5).toNatClampNeg) (xs (x4 + 6).toNatClampNeg)) (ndS T (xs (x4 + 1).toNatClampNeg) (xs (x4 + 2).toNatClampNeg) (1 : Int32) (xs (x4 + 4).toNatClampNeg) (xs (x4 + 5).toNatClampNeg) (xs (x4 + 6).toNatClampNeg)) 0 ((T.1 5 0).toInt64) ex (u2 ad 11 (ndl T) q1) hw2) (cwV 0 hts gL_law_X6_thrown rfl rfl rfl (by decide +kernel) ⟨Nat.le_of_ble_eq_true rfl, Nat.le_of_ble_eq_true rfl⟩) (preV_of hC hS hM gm40 rfl) rfl rfl hl.1 rfl (lv_room (Nat.le_of_ble_eq_true rfl)) dL_law_571 ⟨(by first | omega | (show _ ≤ 601024; omega) | (show _ ≤ 7293034; omega)), (by first | omega | (show _ ≤ 601024; omega) | (show _ ≤ 7293034; omega))⟩) hS (fun r571 u571 H locs hp571 hM hS => ?_)
        have hM : Hm G u565 H := hM
        have hp571 : r571 = 0 := hp571
        subst hp571
        refine lv_iload hx hb dL_law_574 (lv_at hl 1 rfl) ?_
        refine lv_icmp_eq (tgt := 581) hx hb dL_law_576 (by decide) (fun c_576 => ?_) (fun c_576 => False.elim (by revert c_576; decide))
        refine lv_iload hx hb dL_law_581 (lv_at hl 1 rfl) ?_
        refine lv_if_ne (tgt := 598) hx hb dL_law_583 (by decide) (fun c_583 => False.elim (by revert c_583; decide)) (fun c_583 => ?_)
        refine lv_aload_n hx hb dL_law_586 rfl (lv_at hl 5 rfl) ?_
        refine lv_iconst (v := 0) hx hb dL_law_587 (by decide) ?_
        refine m_lald (a := (ad 28 0)) hx hb hC hM go40 (vin_of (n := 1) 1 (by decide) (by decide)) dL_law_588 ?_
        refine lv_iload hx hb dL_law_589 (lv_at hl 0 rfl) ?_
        refine lv_i2l hx hb dL_law_591 rfl ?_
        refine W.lcmp hx hb dL_law_592 ?_
        refine lv_if_eq (tgt := 598) hx hb dL_law_593 (by decide) (fun c_593 => ?_) (fun c_593 => False.elim (by exact c_593 ((lg_cmp_eq _ _).mpr rfl)))
        refine lv_goto (tgt := 1326) hx hb dL_law_598 (by decide) ?_
        refine W.widen (k := c0 + 42) (n := s0 + 132) (by omega) (by omega) ?_
        exact K (ndS T (xs (x4 + 1).toNatClampNeg) (xs (x4 + 2).toNatClampNeg) (1 : Int32) (xs (x4 + 4).toNatClampNeg) (xs (x4 + 5).toNatClampNeg) (xs (x4 + 6).toNatClampNeg)) 0 ((T.1 5 0).toInt64) ex (u2 ad 11 (ndl T) q1) _ _ _ ls (iv_nd hi z3 (by decide) z1.1 z1.2 z2.1 z2.2.1 z2.2.2) hx9 (hw2) hM hS (lv_sub hl [2, 3, 4, 5, 6] rfl)
set_option maxHeartbeats 4000000 in
set_option maxRecDepth 100000 in
theorem law_6 {p : Program} {l : Launch} (hnt : l.stackTraces = false) {e : Env} {s : State} {m : MethodId} {below : List Frame} {meth : Method} {c : Code} {b L : Nat} {xs : Nat → Int32} (C0 : lw_At p s m meth c b L xs) {G : Gx} {T : Sd} {th : Int32} {o : Int64} {ex : Nat → Option (Nat × Nat)} {ad : Nat → Nat → Nat} {M : Mp} {c0 s0 : Nat} {x4 : Int32} {Q : State → Prop} (k9 : Nat) (hk9 : k9 = 20) (hC : Cx G s) (hG : G.2.2 = s.heap.size) (hi : Iv T) (hx9 : Ix T ex) (hw : WA G T T th o ex ad M) (hc0 : c0 + 42 ≤ 601024) (hs0 : s0 + 132 ≤ 7293034) (h_1 : vp_in (x4 + 1) L) (h_2 : vp_in (x4 + 2) L) (h_3 : vp_in (x4 + 3) L) (h_4 : vp_in (x4 + 4) L) (h_5 : vp_in (x4 + 5) L) (h_6 : vp_in (x4 + 6) L)
    (K : ∀ (T' : Sd) (th' : Int32) (o' : Int64) (ex' : Nat → Option (Nat × Nat)) (ad' : Nat → Nat → Nat) (M' : Mp) (H : Heap) (locs : List Loc) (ls : Array Slot), Iv T' → Ix T' ex' → WA G T' T' th' o' ex' ad' M' → Hm G M' H → va_S (AG G) s.heap H locs → lv_has ls 8 [(0, .ref b), (1, .ref (ad' 0 0)), (2, .ref (ad' 14 0)), (3, .ref (ad' 28 0)), (4, .int x4)] → W p l e room_1 s m #[Value.ref b] below meth c H locs (c0 + 42) (s0 + 132) Q (F0 m 1326 ls [])) (ls : Array Slot) (hl : lv_has ls 8 [(0, .ref b), (1, .ref (ad 0 0)), (2, .ref (ad 14 0)), (3, .ref (ad 28 0)), (4, .int x4)]) (H : Heap) (locs : List Loc) (hM : Hm G M H) (hS : va_S (AG G) s.heap H locs) : W p l e room_1 s m #[Value.ref b] below meth c H locs c0 s0 Q (F0 m 601 ls []) := by
  obtain ⟨hx, hb, hr, hml, hown, hts0, hX, hbl, hlocks, hgv⟩ := id C0
  have hts := fun w h => hts0 w (wsL_law_in w h)
  have hbA : ¬ AG G b := by show ¬ G.2.2 ≤ b; rw [hG]; exact Nat.not_le.mpr hbl
  refine lv_aload_n hx hb dL_law_601 rfl (lv_at hl 1 rfl) ?_
  refine lv_aload_n hx hb dL_law_602 rfl (lv_at hl 0 rfl) ?_
  refine lv_iload hx hb dL_law_603 (lv_at hl 4 rfl) ?_
  refine lv_iconst (v := 1) hx hb dL_law_605 (by decide) ?_
  refine lv_iadd hx hb dL_law_606 ?_
  refine va_sld hx hb hX hbl hbA hS h_1 dL_law_607 ?_
  refine lv_aload_n hx hb dL_law_608 rfl (lv_at hl 0 rfl) ?_
  refine lv_iload hx hb dL_law_609 (lv_at hl 4 rfl) ?_
  refine lv_iconst (v := 2) hx hb dL_law_611 (by decide) ?_
  refine lv_iadd hx hb dL_law_612 ?_
  refine va_sld hx hb hX hbl hbA hS h_2 dL_law_613 ?_
  refine lv_aload_n hx hb dL_law_614 rfl (lv_at hl 3 rfl) ?_
  refine k_i (vx_runSW (As := [.ref (ad 0 0), .int (xs (x4 + 1).toNatClampNeg), .int (xs (x4 + 2).toNatClampNeg), .ref (ad 28 0)]) (rest := []) ⟨hx, hb, hml, hown, hts⟩ (c_L_draw hnt l G M T T th o ex ad (xs (x4 + 1).toNatClampNeg) (xs (x4 + 2).toNatClampNeg) hw hi hx9) (vx_cwSW 4 hts gL_law_L_draw rfl rfl rfl (by decide +kernel) ⟨Nat.le_of_ble_eq_true rfl, Nat.le_of_ble_eq_true rfl⟩) (preS_of hC hS hM) rfl rfl hl.1 rfl (lv_room (Nat.le_of_ble_eq_true rfl)) dL_law_615 ⟨(by first | omega | (show _ ≤ 601024; omega) | (show _ ≤ 7293034; omega)), (by first | omega | (show _ ≤ 601024; omega) | (show _ ≤ 7293034; omega))⟩) hS (fun r615 u615 H locs hp615 hM hS => ?_)
  have hM : Hm G u615 H := hM
  rcases hp615 with ⟨er, z1, hw1⟩ | ⟨er, ⟨z1, z2⟩, hw1⟩ | ⟨er, ⟨z1, z2⟩, ex1, hw1, hx1⟩
  · subst er
    have go1 : u615 (ad 28 0) = some (.inl (G.2.1 1, 1, .inr (.inl (fun _ => o)))) := hw1.1 28 0 _ rfl
    have gm1 : u615 (ad 14 0) = some (.inr (6, [.int th, .int (T.1 0 0), .ref (ad 15 0), .ref (ad 16 0), .ref (ad 17 0), .ref (ad 18 0), .int (T.1 5 0), .ref (ad 19 0), .ref (ad 20 0), .ref (ad 21 0), .ref (ad 22 0), .ref (ad 23 0), .ref (ad 24 0), .ref (ad 25 0), .ref (ad 26 0), .ref (ad 27 0)])) := hw1.1 14 0 _ rfl
    refine lv_istore (lv' := [(5, .int 1), (0, .ref b), (1, .ref (ad 0 0)), (2, .ref (ad 14 0)), (3, .ref (ad 28 0)), (4, .int x4)]) hx hb dL_law_618 hl (by decide) rfl (fun ls hl => ?_)
    refine lv_aload_n hx hb dL_law_620 rfl (lv_at hl 3 rfl) ?_
    refine lv_aload_n hx hb dL_law_621 rfl (lv_at hl 1 rfl) ?_
    refine lv_iload hx hb dL_law_622 (lv_at hl 5 rfl) ?_
    refine lv_iconst (v := 1) hx hb dL_law_624 (by decide) ?_
    refine lv_iadd hx hb dL_law_625 ?_
    refine va_sld hx hb hX hbl hbA hS h_1 dL_law_626 ?_
    refine lv_aload_n hx hb dL_law_627 rfl (lv_at hl 1 rfl) ?_
    refine lv_iload hx hb dL_law_628 (lv_at hl 5 rfl) ?_
    refine lv_iconst (v := 2) hx hb dL_law_630 (by decide) ?_
    refine lv_iadd hx hb dL_law_631 ?_
    refine va_sld hx hb hX hbl hbA hS h_2 dL_law_632 ?_
    refine k_i (va_runV (As := [.int (xs (x4 + 1).toNatClampNeg), .int (xs (x4 + 2).toNatClampNeg)]) (rest := []) ⟨hx, hb, hml, hown, hts⟩ (c_X6_draw l G u615 T T th o ex ad (xs (x4 + 1).toNatClampNeg) (xs (x4 + 2).toNatClampNeg) hw1 hi) (cwV 2 hts gL_law_X6_draw rfl rfl rfl (by decide +kernel) ⟨Nat.le_of_ble_eq_true rfl, Nat.le_of_ble_eq_true rfl⟩) (preV_of hC hS hM gm1 rfl) rfl rfl hl.1 rfl (lv_room (Nat.le_of_ble_eq_true rfl)) dL_law_633 ⟨(by first | omega | (show _ ≤ 601024; omega) | (show _ ≤ 7293034; omega)), (by first | omega | (show _ ≤ 601024; omega) | (show _ ≤ 7293034; omega))⟩) hS (fun r633 u633 H locs hp633 hM hS => ?_)
    have hM : Hm G u633 H := hM
    rcases hp633 with ⟨y1, hw2⟩ | ⟨y1, y2, hw2⟩ | ⟨y1, y2, er2, hw2⟩
    · have hMk : Hm G u633 H := hM
      have go2 : u633 (ad 28 0) = some (.inl (G.2.1 1, 1, .inr (.inl (fun _ => o)))) := hw2.1 28 0 _ rfl
      have gm2 : u633 (ad 14 0) = some (.inr (6, [.int 1, .int (T.1 0 0), .ref (ad 15 0), .ref (ad 16 0), .ref (ad 17 0), .ref (ad 18 0), .int (T.1 5 0), .ref (ad 19 0), .ref (ad 20 0), .ref (ad 21 0), .ref (ad 22 0), .ref (ad 23 0), .ref (ad 24 0), .ref (ad 25 0), .ref (ad 26 0), .ref (ad 27 0)])) := hw2.1 14 0 _ rfl
      refine lv_istore (lv' := [(6, .int r633), (5, .int 1), (0, .ref b), (1, .ref (ad 0 0)), (2, .ref (ad 14 0)), (3, .ref (ad 28 0)), (4, .int x4)]) hx hb dL_law_636 hl (by decide) rfl (fun ls hl => ?_)
      refine lv_aload_n hx hb dL_law_638 rfl (lv_at hl 4 rfl) ?_
      refine k_i (va_runV (As := []) (rest := []) ⟨hx, hb, hml, hown, hts⟩ (c_X6_thrown l G u633 T T 1 o ex ad hw2) (cwV 0 hts gL_law_X6_thrown rfl rfl rfl (by decide +kernel) ⟨Nat.le_of_ble_eq_true rfl, Nat.le_of_ble_eq_true rfl⟩) (preV_of hC hS hM gm2 rfl) rfl rfl hl.1 rfl (lv_room (Nat.le_of_ble_eq_true rfl)) dL_law_639 ⟨(by first | omega | (show _ ≤ 601024; omega) | (show _ ≤ 7293034; omega)), (by first | omega | (show _ ≤ 601024; omega) | (show _ ≤ 7293034; omega))⟩) hS (fun r639 u639 H locs hp639 hM hS => ?_)
      have hM : Hm G u633 H := hM
      have hp639 : r639 = 1 := hp639
      subst hp639
      refine lv_iload hx hb dL_law_642 (lv_at hl 1 rfl) ?_
      refine lv_icmp_eq (tgt := 649) hx hb dL_law_644 (by decide) (fun c_644 => ?_) (fun c_644 => False.elim (by revert c_644; decide))
      refine lv_iload hx hb dL_law_649 (lv_at hl 1 rfl) ?_
      refine lv_if_ne (tgt := 666) hx hb dL_law_651 (by decide) (fun c_651 => ?_) (fun c_651 => False.elim (by revert c_651; decide))
      refine lv_goto (tgt := 1326) hx hb dL_law_666 (by decide) ?_
      refine W.widen (k := c0 + 42) (n := s0 + 132) (by omega) (by omega) ?_
      exact K T 1 o ex ad _ _ _ ls hi hx9 hw2 hM hS (lv_sub hl [2, 3, 4, 5, 6] rfl)
    · exact False.elim (by first | exact absurd z1 y1 | exact absurd y1 z1)
    · exact False.elim (by first | exact absurd z1 y1 | exact absurd y1 z1)
  · subst er
    have go5 : u615 (ad 28 0) = some (.inl (G.2.1 1, 1, .inr (.inl (fun _ => o)))) := hw1.1 28 0 _ rfl
    have gm5 : u615 (ad 14 0) = some (.inr (6, [.int th, .int (T.1 0 0), .ref (ad 15 0), .ref (ad 16 0), .ref (ad 17 0), .ref (ad 18 0), .int (T.1 5 0), .ref (ad 19 0), .ref (ad 20 0), .ref (ad 21 0), .ref (ad 22 0), .ref (ad 23 0), .ref (ad 24 0), .ref (ad 25 0), .ref (ad 26 0), .ref (ad 27 0)])) := hw1.1 14 0 _ rfl
    refine lv_istore (lv' := [(5, .int 2), (0, .ref b), (1, .ref (ad 0 0)), (2, .ref (ad 14 0)), (3, .ref (ad 28 0)), (4, .int x4)]) hx hb dL_law_618 hl (by decide) rfl (fun ls hl => ?_)
    refine lv_aload_n hx hb dL_law_620 rfl (lv_at hl 3 rfl) ?_
    refine lv_aload_n hx hb dL_law_621 rfl (lv_at hl 1 rfl) ?_
    refine lv_iload hx hb dL_law_622 (lv_at hl 5 rfl) ?_
    refine lv_iconst (v := 1) hx hb dL_law_624 (by decide) ?_
    refine lv_iadd hx hb dL_law_625 ?_
    refine va_sld hx hb hX hbl hbA hS h_1 dL_law_626 ?_
    refine lv_aload_n hx hb dL_law_627 rfl (lv_at hl 1 rfl) ?_
    refine lv_iload hx hb dL_law_628 (lv_at hl 5 rfl) ?_
    refine lv_iconst (v := 2) hx hb dL_law_630 (by decide) ?_
    refine lv_iadd hx hb dL_law_631 ?_
    refine va_sld hx hb hX hbl hbA hS h_2 dL_law_632 ?_
    refine k_i (va_runV (As := [.int (xs (x4 + 1).toNatClampNeg), .int (xs (x4 + 2).toNatClampNeg)]) (rest := []) ⟨hx, hb, hml, hown, hts⟩ (c_X6_draw l G u615 T T th o ex ad (xs (x4 + 1).toNatClampNeg) (xs (x4 + 2).toNatClampNeg) hw1 hi) (cwV 2 hts gL_law_X6_draw rfl rfl rfl (by decide +kernel) ⟨Nat.le_of_ble_eq_true rfl, Nat.le_of_ble_eq_true rfl⟩) (preV_of hC hS hM gm5 rfl) rfl rfl hl.1 rfl (lv_room (Nat.le_of_ble_eq_true rfl)) dL_law_633 ⟨(by first | omega | (show _ ≤ 601024; omega) | (show _ ≤ 7293034; omega)), (by first | omega | (show _ ≤ 601024; omega) | (show _ ≤ 7293034; omega))⟩) hS (fun r633 u633 H locs hp633 hM hS => ?_)
    have hM : Hm G u633 H := hM
    rcases hp633 with ⟨y1, hw2⟩ | ⟨y1, y2, hw2⟩ | ⟨y1, y2, er2, hw2⟩
    · exact False.elim (by first | exact absurd z1 y1 | exact absurd y1 z1)
    · have hMk : Hm G u633 H := hM
      have go6 : u633 (ad 28 0) = some (.inl (G.2.1 1, 1, .inr (.inl (fun _ => o)))) := hw2.1 28 0 _ rfl
      have gm6 : u633 (ad 14 0) = some (.inr (6, [.int 2, .int (T.1 0 0), .ref (ad 15 0), .ref (ad 16 0), .ref (ad 17 0), .ref (ad 18 0), .int (T.1 5 0), .ref (ad 19 0), .ref (ad 20 0), .ref (ad 21 0), .ref (ad 22 0), .ref (ad 23 0), .ref (ad 24 0), .ref (ad 25 0), .ref (ad 26 0), .ref (ad 27 0)])) := hw2.1 14 0 _ rfl
      refine lv_istore (lv' := [(6, .int r633), (5, .int 2), (0, .ref b), (1, .ref (ad 0 0)), (2, .ref (ad 14 0)), (3, .ref (ad 28 0)), (4, .int x4)]) hx hb dL_law_636 hl (by decide) rfl (fun ls hl => ?_)
      refine lv_aload_n hx hb dL_law_638 rfl (lv_at hl 4 rfl) ?_
      refine k_i (va_runV (As := []) (rest := []) ⟨hx, hb, hml, hown, hts⟩ (c_X6_thrown l G u633 T T 2 o ex ad hw2) (cwV 0 hts gL_law_X6_thrown rfl rfl rfl (by decide +kernel) ⟨Nat.le_of_ble_eq_true rfl, Nat.le_of_ble_eq_true rfl⟩) (preV_of hC hS hM gm6 rfl) rfl rfl hl.1 rfl (lv_room (Nat.le_of_ble_eq_true rfl)) dL_law_639 ⟨(by first | omega | (show _ ≤ 601024; omega) | (show _ ≤ 7293034; omega)), (by first | omega | (show _ ≤ 601024; omega) | (show _ ≤ 7293034; omega))⟩) hS (fun r639 u639 H locs hp639 hM hS => ?_)
      have hM : Hm G u633 H := hM
      have hp639 : r639 = 2 := hp639
      subst hp639
      refine lv_iload hx hb dL_law_642 (lv_at hl 1 rfl) ?_
      refine lv_icmp_eq (tgt := 649) hx hb dL_law_644 (by decide) (fun c_644 => ?_) (fun c_644 => False.elim (by revert c_644; decide))
      refine lv_iload hx hb dL_law_649 (lv_at hl 1 rfl) ?_
      refine lv_if_ne (tgt := 666) hx hb dL_law_651 (by decide) (fun c_651 => ?_) (fun c_651 => False.elim (by revert c_651; decide))
      refine lv_goto (tgt := 1326) hx hb dL_law_666 (by decide) ?_
      refine W.widen (k := c0 + 42) (n := s0 + 132) (by omega) (by omega) ?_
      exact K T 2 o ex ad _ _ _ ls hi hx9 hw2 hM hS (lv_sub hl [2, 3, 4, 5, 6] rfl)
    · exact False.elim (by first | exact absurd z2 y2 | exact absurd y2 z2)
  · subst er
    have go9 : u615 (ad 28 0) = some (.inl (G.2.1 1, 1, .inr (.inl (fun _ => (drt T ((xs (x4 + 1).toNatClampNeg).toNatClampNeg)).toInt64)))) := hw1.1 28 0 _ rfl
    have gm9 : u615 (ad 14 0) = some (.inr (6, [.int th, .int (T.1 0 0), .ref (ad 15 0), .ref (ad 16 0), .ref (ad 17 0), .ref (ad 18 0), .int (T.1 5 0), .ref (ad 19 0), .ref (ad 20 0), .ref (ad 21 0), .ref (ad 22 0), .ref (ad 23 0), .ref (ad 24 0), .ref (ad 25 0), .ref (ad 26 0), .ref (ad 27 0)])) := hw1.1 14 0 _ rfl
    refine lv_istore (lv' := [(5, .int 0), (0, .ref b), (1, .ref (ad 0 0)), (2, .ref (ad 14 0)), (3, .ref (ad 28 0)), (4, .int x4)]) hx hb dL_law_618 hl (by decide) rfl (fun ls hl => ?_)
    refine lv_aload_n hx hb dL_law_620 rfl (lv_at hl 3 rfl) ?_
    refine lv_aload_n hx hb dL_law_621 rfl (lv_at hl 1 rfl) ?_
    refine lv_iload hx hb dL_law_622 (lv_at hl 5 rfl) ?_
    refine lv_iconst (v := 1) hx hb dL_law_624 (by decide) ?_
    refine lv_iadd hx hb dL_law_625 ?_
    refine va_sld hx hb hX hbl hbA hS h_1 dL_law_626 ?_
    refine lv_aload_n hx hb dL_law_627 rfl (lv_at hl 1 rfl) ?_
    refine lv_iload hx hb dL_law_628 (lv_at hl 5 rfl) ?_
    refine lv_iconst (v := 2) hx hb dL_law_630 (by decide) ?_
    refine lv_iadd hx hb dL_law_631 ?_
    refine va_sld hx hb hX hbl hbA hS h_2 dL_law_632 ?_
    refine k_i (va_runV (As := [.int (xs (x4 + 1).toNatClampNeg), .int (xs (x4 + 2).toNatClampNeg)]) (rest := []) ⟨hx, hb, hml, hown, hts⟩ (c_X6_draw l G u615 (dr3 T ((xs (x4 + 1).toNatClampNeg).toNatClampNeg) (xs (x4 + 2).toNatClampNeg)) T th ((drt T ((xs (x4 + 1).toNatClampNeg).toNatClampNeg)).toInt64) ex1 ad (xs (x4 + 1).toNatClampNeg) (xs (x4 + 2).toNatClampNeg) hw1 hi) (cwV 2 hts gL_law_X6_draw rfl rfl rfl (by decide +kernel) ⟨Nat.le_of_ble_eq_true rfl, Nat.le_of_ble_eq_true rfl⟩) (preV_of hC hS hM gm9 rfl) rfl rfl hl.1 rfl (lv_room (Nat.le_of_ble_eq_true rfl)) dL_law_633 ⟨(by first | omega | (show _ ≤ 601024; omega) | (show _ ≤ 7293034; omega)), (by first | omega | (show _ ≤ 601024; omega) | (show _ ≤ 7293034; omega))⟩) hS (fun r633 u633 H locs hp633 hM hS => ?_)
    have hM : Hm G u633 H := hM
    rcases hp633 with ⟨y1, hw2⟩ | ⟨y1, y2, hw2⟩ | ⟨y1, y2, er2, hw2⟩
    · exact False.elim (by first | exact absurd z1 y1 | exact absurd y1 z1)
    · exact False.elim (by first | exact absurd z2 y2 | exact absurd y2 z2)
    · subst er2
      have hMk : Hm G u633 H := hM
      have go10 : u633 (ad 28 0) = some (.inl (G.2.1 1, 1, .inr (.inl (fun _ => (drt T ((xs (x4 + 1).toNatClampNeg).toNatClampNeg)).toInt64)))) := hw2.1 28 0 _ rfl
      have gm10 : u633 (ad 14 0) = some (.inr (6, [.int 0, .int ((dr3 T ((xs (x4 + 1).toNatClampNeg).toNatClampNeg) (xs (x4 + 2).toNatClampNeg)).1 0 0), .ref (ad 15 0), .ref (ad 16 0), .ref (ad 17 0), .ref (ad 18 0), .int ((dr3 T ((xs (x4 + 1).toNatClampNeg).toNatClampNeg) (xs (x4 + 2).toNatClampNeg)).1 5 0), .ref (ad 19 0), .ref (ad 20 0), .ref (ad 21 0), .ref (ad 22 0), .ref (ad 23 0), .ref (ad 24 0), .ref (ad 25 0), .ref (ad 26 0), .ref (ad 27 0)])) := hw2.1 14 0 _ rfl
      refine lv_istore (lv' := [(6, .int (drt T ((xs (x4 + 1).toNatClampNeg).toNatClampNeg))), (5, .int 0), (0, .ref b), (1, .ref (ad 0 0)), (2, .ref (ad 14 0)), (3, .ref (ad 28 0)), (4, .int x4)]) hx hb dL_law_636 hl (by decide) rfl (fun ls hl => ?_)
      refine lv_aload_n hx hb dL_law_638 rfl (lv_at hl 4 rfl) ?_
      refine k_i (va_runV (As := []) (rest := []) ⟨hx, hb, hml, hown, hts⟩ (c_X6_thrown l G u633 (dr3 T ((xs (x4 + 1).toNatClampNeg).toNatClampNeg) (xs (x4 + 2).toNatClampNeg)) (dr3 T ((xs (x4 + 1).toNatClampNeg).toNatClampNeg) (xs (x4 + 2).toNatClampNeg)) 0 ((drt T ((xs (x4 + 1).toNatClampNeg).toNatClampNeg)).toInt64) ex1 ad hw2) (cwV 0 hts gL_law_X6_thrown rfl rfl rfl (by decide +kernel) ⟨Nat.le_of_ble_eq_true rfl, Nat.le_of_ble_eq_true rfl⟩) (preV_of hC hS hM gm10 rfl) rfl rfl hl.1 rfl (lv_room (Nat.le_of_ble_eq_true rfl)) dL_law_639 ⟨(by first | omega | (show _ ≤ 601024; omega) | (show _ ≤ 7293034; omega)), (by first | omega | (show _ ≤ 601024; omega) | (show _ ≤ 7293034; omega))⟩) hS (fun r639 u639 H locs hp639 hM hS => ?_)
      have hM : Hm G u633 H := hM
      have hp639 : r639 = 0 := hp639
      subst hp639
      refine lv_iload hx hb dL_law_642 (lv_at hl 1 rfl) ?_
      refine lv_icmp_eq (tgt := 649) hx hb dL_law_644 (by decide) (fun c_644 => ?_) (fun c_644 => False.elim (by revert c_644; decide))
      refine lv_iload hx hb dL_law_649 (lv_at hl 1 rfl) ?_
      refine lv_if_ne (tgt := 666) hx hb dL_law_651 (by decide) (fun c_651 => False.elim (by revert c_651; decide)) (fun c_651 => ?_)
      refine lv_aload_n hx hb dL_law_654 rfl (lv_at hl 5 rfl) ?_
      refine lv_iconst (v := 0) hx hb dL_law_655 (by decide) ?_
      refine m_lald (a := (ad 28 0)) hx hb hC hM go10 (vin_of (n := 1) 1 (by decide) (by decide)) dL_law_656 ?_
      refine lv_iload hx hb dL_law_657 (lv_at hl 0 rfl) ?_
      refine lv_i2l hx hb dL_law_659 rfl ?_
      refine W.lcmp hx hb dL_law_660 ?_
      refine lv_if_eq (tgt := 666) hx hb dL_law_661 (by decide) (fun c_661 => ?_) (fun c_661 => False.elim (by exact c_661 ((lg_cmp_eq _ _).mpr rfl)))
      refine lv_goto (tgt := 1326) hx hb dL_law_666 (by decide) ?_
      refine W.widen (k := c0 + 42) (n := s0 + 132) (by omega) (by omega) ?_
      exact K (dr3 T ((xs (x4 + 1).toNatClampNeg).toNatClampNeg) (xs (x4 + 2).toNatClampNeg)) 0 ((drt T ((xs (x4 + 1).toNatClampNeg).toNatClampNeg)).toInt64) ex1 ad _ _ _ ls (iv_dr hi z1.2 z2) hx1 (hw2) hM hS (lv_sub hl [2, 3, 4, 5, 6] rfl)
set_option maxHeartbeats 4000000 in
set_option maxRecDepth 100000 in
theorem law_7 {p : Program} {l : Launch} (hnt : l.stackTraces = false) {e : Env} {s : State} {m : MethodId} {below : List Frame} {meth : Method} {c : Code} {b L : Nat} {xs : Nat → Int32} (C0 : lw_At p s m meth c b L xs) {G : Gx} {T : Sd} {th : Int32} {o : Int64} {ex : Nat → Option (Nat × Nat)} {ad : Nat → Nat → Nat} {M : Mp} {c0 s0 : Nat} {x4 : Int32} {Q : State → Prop} (k9 : Nat) (hk9 : k9 = 20) (hC : Cx G s) (hG : G.2.2 = s.heap.size) (hi : Iv T) (hx9 : Ix T ex) (hw : WA G T T th o ex ad M) (hc0 : c0 + 42 ≤ 601024) (hs0 : s0 + 132 ≤ 7293034) (h_1 : vp_in (x4 + 1) L) (h_2 : vp_in (x4 + 2) L) (h_3 : vp_in (x4 + 3) L) (h_4 : vp_in (x4 + 4) L) (h_5 : vp_in (x4 + 5) L) (h_6 : vp_in (x4 + 6) L)
    (K : ∀ (T' : Sd) (th' : Int32) (o' : Int64) (ex' : Nat → Option (Nat × Nat)) (ad' : Nat → Nat → Nat) (M' : Mp) (H : Heap) (locs : List Loc) (ls : Array Slot), Iv T' → Ix T' ex' → WA G T' T' th' o' ex' ad' M' → Hm G M' H → va_S (AG G) s.heap H locs → lv_has ls 8 [(0, .ref b), (1, .ref (ad' 0 0)), (2, .ref (ad' 14 0)), (3, .ref (ad' 28 0)), (4, .int x4)] → W p l e room_1 s m #[Value.ref b] below meth c H locs (c0 + 42) (s0 + 132) Q (F0 m 1326 ls [])) (ls : Array Slot) (hl : lv_has ls 8 [(0, .ref b), (1, .ref (ad 0 0)), (2, .ref (ad 14 0)), (3, .ref (ad 28 0)), (4, .int x4)]) (H : Heap) (locs : List Loc) (hM : Hm G M H) (hS : va_S (AG G) s.heap H locs) : W p l e room_1 s m #[Value.ref b] below meth c H locs c0 s0 Q (F0 m 669 ls []) := by
  obtain ⟨hx, hb, hr, hml, hown, hts0, hX, hbl, hlocks, hgv⟩ := id C0
  have hts := fun w h => hts0 w (wsL_law_in w h)
  have hbA : ¬ AG G b := by show ¬ G.2.2 ≤ b; rw [hG]; exact Nat.not_le.mpr hbl
  refine lv_aload_n hx hb dL_law_669 rfl (lv_at hl 1 rfl) ?_
  refine lv_aload_n hx hb dL_law_670 rfl (lv_at hl 0 rfl) ?_
  refine lv_iload hx hb dL_law_671 (lv_at hl 4 rfl) ?_
  refine lv_iconst (v := 1) hx hb dL_law_673 (by decide) ?_
  refine lv_iadd hx hb dL_law_674 ?_
  refine va_sld hx hb hX hbl hbA hS h_1 dL_law_675 ?_
  refine lv_aload_n hx hb dL_law_676 rfl (lv_at hl 0 rfl) ?_
  refine lv_iload hx hb dL_law_677 (lv_at hl 4 rfl) ?_
  refine lv_iconst (v := 2) hx hb dL_law_679 (by decide) ?_
  refine lv_iadd hx hb dL_law_680 ?_
  refine va_sld hx hb hX hbl hbA hS h_2 dL_law_681 ?_
  refine lv_aload_n hx hb dL_law_682 rfl (lv_at hl 0 rfl) ?_
  refine lv_iload hx hb dL_law_683 (lv_at hl 4 rfl) ?_
  refine lv_iconst (v := 3) hx hb dL_law_685 (by decide) ?_
  refine lv_iadd hx hb dL_law_686 ?_
  refine va_sld hx hb hX hbl hbA hS h_3 dL_law_687 ?_
  refine lv_if_eq (tgt := 695) hx hb dL_law_688 (by decide) (fun c_688 => ?_) (fun c_688 => ?_)
  · refine lv_iconst (v := 0) hx hb dL_law_695 (by decide) ?_
    refine lv_aload_n hx hb dL_law_696 rfl (lv_at hl 3 rfl) ?_
    refine k_i (vx_runSW (As := [.ref (ad 0 0), .int (xs (x4 + 1).toNatClampNeg), .int (xs (x4 + 2).toNatClampNeg), .int 0, .ref (ad 28 0)]) (rest := []) ⟨hx, hb, hml, hown, hts⟩ (c_L_roll hnt l G M T T th o ex ad (xs (x4 + 1).toNatClampNeg) (xs (x4 + 2).toNatClampNeg) 0 hw hi hx9) (vx_cwSW 5 hts gL_law_L_roll rfl rfl rfl (by decide +kernel) ⟨Nat.le_of_ble_eq_true rfl, Nat.le_of_ble_eq_true rfl⟩) (preS_of hC hS hM) rfl rfl hl.1 rfl (lv_room (Nat.le_of_ble_eq_true rfl)) dL_law_697 ⟨(by first | omega | (show _ ≤ 601024; omega) | (show _ ≤ 7293034; omega)), (by first | omega | (show _ ≤ 601024; omega) | (show _ ≤ 7293034; omega))⟩) hS (fun r697 u697 H locs hp697 hM hS => ?_)
    have hM : Hm G u697 H := hM
    rcases hp697 with ⟨er, z1, hw1⟩ | ⟨er, ⟨z1, z2⟩, hw1⟩ | ⟨er, ⟨z1, z2, z3⟩, hw1⟩ | ⟨er, ⟨z1, z2, z3, z4⟩, ex1, hw1, hx1⟩
    · subst er
      have go2 : u697 (ad 28 0) = some (.inl (G.2.1 1, 1, .inr (.inl (fun _ => o)))) := hw1.1 28 0 _ rfl
      have gm2 : u697 (ad 14 0) = some (.inr (6, [.int th, .int (T.1 0 0), .ref (ad 15 0), .ref (ad 16 0), .ref (ad 17 0), .ref (ad 18 0), .int (T.1 5 0), .ref (ad 19 0), .ref (ad 20 0), .ref (ad 21 0), .ref (ad 22 0), .ref (ad 23 0), .ref (ad 24 0), .ref (ad 25 0), .ref (ad 26 0), .ref (ad 27 0)])) := hw1.1 14 0 _ rfl
      refine lv_istore (lv' := [(5, .int 1), (0, .ref b), (1, .ref (ad 0 0)), (2, .ref (ad 14 0)), (3, .ref (ad 28 0)), (4, .int x4)]) hx hb dL_law_700 hl (by decide) rfl (fun ls hl => ?_)
      refine lv_aload_n hx hb dL_law_702 rfl (lv_at hl 3 rfl) ?_
      refine lv_aload_n hx hb dL_law_703 rfl (lv_at hl 1 rfl) ?_
      refine lv_iload hx hb dL_law_704 (lv_at hl 5 rfl) ?_
      refine lv_iconst (v := 1) hx hb dL_law_706 (by decide) ?_
      refine lv_iadd hx hb dL_law_707 ?_
      refine va_sld hx hb hX hbl hbA hS h_1 dL_law_708 ?_
      refine lv_aload_n hx hb dL_law_709 rfl (lv_at hl 1 rfl) ?_
      refine lv_iload hx hb dL_law_710 (lv_at hl 5 rfl) ?_
      refine lv_iconst (v := 2) hx hb dL_law_712 (by decide) ?_
      refine lv_iadd hx hb dL_law_713 ?_
      refine va_sld hx hb hX hbl hbA hS h_2 dL_law_714 ?_
      refine lv_aload_n hx hb dL_law_715 rfl (lv_at hl 1 rfl) ?_
      refine lv_iload hx hb dL_law_716 (lv_at hl 5 rfl) ?_
      refine lv_iconst (v := 3) hx hb dL_law_718 (by decide) ?_
      refine lv_iadd hx hb dL_law_719 ?_
      refine va_sld hx hb hX hbl hbA hS h_3 dL_law_720 ?_
      refine lv_if_eq (tgt := 728) hx hb dL_law_721 (by decide) (fun c_721 => ?_) (fun c_721 => False.elim (by exact absurd c_688 c_721))
      refine lv_iconst (v := 0) hx hb dL_law_728 (by decide) ?_
      refine k_i (va_runV (As := [.int (xs (x4 + 1).toNatClampNeg), .int (xs (x4 + 2).toNatClampNeg), .int 0]) (rest := []) ⟨hx, hb, hml, hown, hts⟩ (c_X6_roll l G u697 T T th o ex ad (xs (x4 + 1).toNatClampNeg) (xs (x4 + 2).toNatClampNeg) 0 hw1 hi) (cwV 3 hts gL_law_X6_roll rfl rfl rfl (by decide +kernel) ⟨Nat.le_of_ble_eq_true rfl, Nat.le_of_ble_eq_true rfl⟩) (preV_of hC hS hM gm2 rfl) rfl rfl hl.1 rfl (lv_room (Nat.le_of_ble_eq_true rfl)) dL_law_729 ⟨(by first | omega | (show _ ≤ 601024; omega) | (show _ ≤ 7293034; omega)), (by first | omega | (show _ ≤ 601024; omega) | (show _ ≤ 7293034; omega))⟩) hS (fun r729 u729 H locs hp729 hM hS => ?_)
      have hM : Hm G u729 H := hM
      rcases hp729 with ⟨y1, hw2⟩ | ⟨y1, y2, hw2⟩ | ⟨y1, y2, y3, hw2⟩ | ⟨y1, y2, y3, y4, er2, hw2⟩
      · have hMk : Hm G u729 H := hM
        have go4 : u729 (ad 28 0) = some (.inl (G.2.1 1, 1, .inr (.inl (fun _ => o)))) := hw2.1 28 0 _ rfl
        have gm4 : u729 (ad 14 0) = some (.inr (6, [.int 1, .int (T.1 0 0), .ref (ad 15 0), .ref (ad 16 0), .ref (ad 17 0), .ref (ad 18 0), .int (T.1 5 0), .ref (ad 19 0), .ref (ad 20 0), .ref (ad 21 0), .ref (ad 22 0), .ref (ad 23 0), .ref (ad 24 0), .ref (ad 25 0), .ref (ad 26 0), .ref (ad 27 0)])) := hw2.1 14 0 _ rfl
        refine lv_istore (lv' := [(6, .int r729), (5, .int 1), (0, .ref b), (1, .ref (ad 0 0)), (2, .ref (ad 14 0)), (3, .ref (ad 28 0)), (4, .int x4)]) hx hb dL_law_732 hl (by decide) rfl (fun ls hl => ?_)
        refine lv_aload_n hx hb dL_law_734 rfl (lv_at hl 4 rfl) ?_
        refine k_i (va_runV (As := []) (rest := []) ⟨hx, hb, hml, hown, hts⟩ (c_X6_thrown l G u729 T T 1 o ex ad hw2) (cwV 0 hts gL_law_X6_thrown rfl rfl rfl (by decide +kernel) ⟨Nat.le_of_ble_eq_true rfl, Nat.le_of_ble_eq_true rfl⟩) (preV_of hC hS hM gm4 rfl) rfl rfl hl.1 rfl (lv_room (Nat.le_of_ble_eq_true rfl)) dL_law_735 ⟨(by first | omega | (show _ ≤ 601024; omega) | (show _ ≤ 7293034; omega)), (by first | omega | (show _ ≤ 601024; omega) | (show _ ≤ 7293034; omega))⟩) hS (fun r735 u735 H locs hp735 hM hS => ?_)
        have hM : Hm G u729 H := hM
        have hp735 : r735 = 1 := hp735
        subst hp735
        refine lv_iload hx hb dL_law_738 (lv_at hl 1 rfl) ?_
        refine lv_icmp_eq (tgt := 745) hx hb dL_law_740 (by decide) (fun c_740 => ?_) (fun c_740 => False.elim (by revert c_740; decide))
        refine lv_iload hx hb dL_law_745 (lv_at hl 1 rfl) ?_
        refine lv_if_ne (tgt := 762) hx hb dL_law_747 (by decide) (fun c_747 => ?_) (fun c_747 => False.elim (by revert c_747; decide))
        refine lv_goto (tgt := 1326) hx hb dL_law_762 (by decide) ?_
        refine W.widen (k := c0 + 42) (n := s0 + 132) (by omega) (by omega) ?_
        exact K T 1 o ex ad _ _ _ ls hi hx9 hw2 hM hS (lv_sub hl [2, 3, 4, 5, 6] rfl)
      · exact False.elim (by first | exact absurd z1 y1 | exact absurd y1 z1)
      · exact False.elim (by first | exact absurd z1 y1 | exact absurd y1 z1)
      · exact False.elim (by first | exact absurd z1 y1 | exact absurd y1 z1)
    · subst er
      have go7 : u697 (ad 28 0) = some (.inl (G.2.1 1, 1, .inr (.inl (fun _ => o)))) := hw1.1 28 0 _ rfl
      have gm7 : u697 (ad 14 0) = some (.inr (6, [.int th, .int (T.1 0 0), .ref (ad 15 0), .ref (ad 16 0), .ref (ad 17 0), .ref (ad 18 0), .int (T.1 5 0), .ref (ad 19 0), .ref (ad 20 0), .ref (ad 21 0), .ref (ad 22 0), .ref (ad 23 0), .ref (ad 24 0), .ref (ad 25 0), .ref (ad 26 0), .ref (ad 27 0)])) := hw1.1 14 0 _ rfl
      refine lv_istore (lv' := [(5, .int 2), (0, .ref b), (1, .ref (ad 0 0)), (2, .ref (ad 14 0)), (3, .ref (ad 28 0)), (4, .int x4)]) hx hb dL_law_700 hl (by decide) rfl (fun ls hl => ?_)
      refine lv_aload_n hx hb dL_law_702 rfl (lv_at hl 3 rfl) ?_
      refine lv_aload_n hx hb dL_law_703 rfl (lv_at hl 1 rfl) ?_
      refine lv_iload hx hb dL_law_704 (lv_at hl 5 rfl) ?_
      refine lv_iconst (v := 1) hx hb dL_law_706 (by decide) ?_
      refine lv_iadd hx hb dL_law_707 ?_
      refine va_sld hx hb hX hbl hbA hS h_1 dL_law_708 ?_
      refine lv_aload_n hx hb dL_law_709 rfl (lv_at hl 1 rfl) ?_
      refine lv_iload hx hb dL_law_710 (lv_at hl 5 rfl) ?_
      refine lv_iconst (v := 2) hx hb dL_law_712 (by decide) ?_
      refine lv_iadd hx hb dL_law_713 ?_
      refine va_sld hx hb hX hbl hbA hS h_2 dL_law_714 ?_
      refine lv_aload_n hx hb dL_law_715 rfl (lv_at hl 1 rfl) ?_
      refine lv_iload hx hb dL_law_716 (lv_at hl 5 rfl) ?_
      refine lv_iconst (v := 3) hx hb dL_law_718 (by decide) ?_
      refine lv_iadd hx hb dL_law_719 ?_
      refine va_sld hx hb hX hbl hbA hS h_3 dL_law_720 ?_
      refine lv_if_eq (tgt := 728) hx hb dL_law_721 (by decide) (fun c_721 => ?_) (fun c_721 => False.elim (by exact absurd c_688 c_721))
      refine lv_iconst (v := 0) hx hb dL_law_728 (by decide) ?_
      refine k_i (va_runV (As := [.int (xs (x4 + 1).toNatClampNeg), .int (xs (x4 + 2).toNatClampNeg), .int 0]) (rest := []) ⟨hx, hb, hml, hown, hts⟩ (c_X6_roll l G u697 T T th o ex ad (xs (x4 + 1).toNatClampNeg) (xs (x4 + 2).toNatClampNeg) 0 hw1 hi) (cwV 3 hts gL_law_X6_roll rfl rfl rfl (by decide +kernel) ⟨Nat.le_of_ble_eq_true rfl, Nat.le_of_ble_eq_true rfl⟩) (preV_of hC hS hM gm7 rfl) rfl rfl hl.1 rfl (lv_room (Nat.le_of_ble_eq_true rfl)) dL_law_729 ⟨(by first | omega | (show _ ≤ 601024; omega) | (show _ ≤ 7293034; omega)), (by first | omega | (show _ ≤ 601024; omega) | (show _ ≤ 7293034; omega))⟩) hS (fun r729 u729 H locs hp729 hM hS => ?_)
      have hM : Hm G u729 H := hM
      rcases hp729 with ⟨y1, hw2⟩ | ⟨y1, y2, hw2⟩ | ⟨y1, y2, y3, hw2⟩ | ⟨y1, y2, y3, y4, er2, hw2⟩
      · exact False.elim (by first | exact absurd z1 y1 | exact absurd y1 z1)
      · have hMk : Hm G u729 H := hM
        have go9 : u729 (ad 28 0) = some (.inl (G.2.1 1, 1, .inr (.inl (fun _ => o)))) := hw2.1 28 0 _ rfl
        have gm9 : u729 (ad 14 0) = some (.inr (6, [.int 2, .int (T.1 0 0), .ref (ad 15 0), .ref (ad 16 0), .ref (ad 17 0), .ref (ad 18 0), .int (T.1 5 0), .ref (ad 19 0), .ref (ad 20 0), .ref (ad 21 0), .ref (ad 22 0), .ref (ad 23 0), .ref (ad 24 0), .ref (ad 25 0), .ref (ad 26 0), .ref (ad 27 0)])) := hw2.1 14 0 _ rfl
        refine lv_istore (lv' := [(6, .int r729), (5, .int 2), (0, .ref b), (1, .ref (ad 0 0)), (2, .ref (ad 14 0)), (3, .ref (ad 28 0)), (4, .int x4)]) hx hb dL_law_732 hl (by decide) rfl (fun ls hl => ?_)
        refine lv_aload_n hx hb dL_law_734 rfl (lv_at hl 4 rfl) ?_
        refine k_i (va_runV (As := []) (rest := []) ⟨hx, hb, hml, hown, hts⟩ (c_X6_thrown l G u729 T T 2 o ex ad hw2) (cwV 0 hts gL_law_X6_thrown rfl rfl rfl (by decide +kernel) ⟨Nat.le_of_ble_eq_true rfl, Nat.le_of_ble_eq_true rfl⟩) (preV_of hC hS hM gm9 rfl) rfl rfl hl.1 rfl (lv_room (Nat.le_of_ble_eq_true rfl)) dL_law_735 ⟨(by first | omega | (show _ ≤ 601024; omega) | (show _ ≤ 7293034; omega)), (by first | omega | (show _ ≤ 601024; omega) | (show _ ≤ 7293034; omega))⟩) hS (fun r735 u735 H locs hp735 hM hS => ?_)
        have hM : Hm G u729 H := hM
        have hp735 : r735 = 2 := hp735
        subst hp735
        refine lv_iload hx hb dL_law_738 (lv_at hl 1 rfl) ?_
        refine lv_icmp_eq (tgt := 745) hx hb dL_law_740 (by decide) (fun c_740 => ?_) (fun c_740 => False.elim (by revert c_740; decide))
        refine lv_iload hx hb dL_law_745 (lv_at hl 1 rfl) ?_
        refine lv_if_ne (tgt := 762) hx hb dL_law_747 (by decide) (fun c_747 => ?_) (fun c_747 => False.elim (by revert c_747; decide))
        refine lv_goto (tgt := 1326) hx hb dL_law_762 (by decide) ?_
        refine W.widen (k := c0 + 42) (n := s0 + 132) (by omega) (by omega) ?_
        exact K T 2 o ex ad _ _ _ ls hi hx9 hw2 hM hS (lv_sub hl [2, 3, 4, 5, 6] rfl)
      · exact False.elim (by first | exact absurd z2 y2 | exact absurd y2 z2)
      · exact False.elim (by first | exact absurd z2 y2 | exact absurd y2 z2)
    · subst er
      have go12 : u697 (ad 28 0) = some (.inl (G.2.1 1, 1, .inr (.inl (fun _ => o)))) := hw1.1 28 0 _ rfl
      have gm12 : u697 (ad 14 0) = some (.inr (6, [.int th, .int (T.1 0 0), .ref (ad 15 0), .ref (ad 16 0), .ref (ad 17 0), .ref (ad 18 0), .int (T.1 5 0), .ref (ad 19 0), .ref (ad 20 0), .ref (ad 21 0), .ref (ad 22 0), .ref (ad 23 0), .ref (ad 24 0), .ref (ad 25 0), .ref (ad 26 0), .ref (ad 27 0)])) := hw1.1 14 0 _ rfl
      refine lv_istore (lv' := [(5, .int 3), (0, .ref b), (1, .ref (ad 0 0)), (2, .ref (ad 14 0)), (3, .ref (ad 28 0)), (4, .int x4)]) hx hb dL_law_700 hl (by decide) rfl (fun ls hl => ?_)
      refine lv_aload_n hx hb dL_law_702 rfl (lv_at hl 3 rfl) ?_
      refine lv_aload_n hx hb dL_law_703 rfl (lv_at hl 1 rfl) ?_
      refine lv_iload hx hb dL_law_704 (lv_at hl 5 rfl) ?_
      refine lv_iconst (v := 1) hx hb dL_law_706 (by decide) ?_
      refine lv_iadd hx hb dL_law_707 ?_
      refine va_sld hx hb hX hbl hbA hS h_1 dL_law_708 ?_
      refine lv_aload_n hx hb dL_law_709 rfl (lv_at hl 1 rfl) ?_
      refine lv_iload hx hb dL_law_710 (lv_at hl 5 rfl) ?_
      refine lv_iconst (v := 2) hx hb dL_law_712 (by decide) ?_
      refine lv_iadd hx hb dL_law_713 ?_
      refine va_sld hx hb hX hbl hbA hS h_2 dL_law_714 ?_
      refine lv_aload_n hx hb dL_law_715 rfl (lv_at hl 1 rfl) ?_
      refine lv_iload hx hb dL_law_716 (lv_at hl 5 rfl) ?_
      refine lv_iconst (v := 3) hx hb dL_law_718 (by decide) ?_
      refine lv_iadd hx hb dL_law_719 ?_
      refine va_sld hx hb hX hbl hbA hS h_3 dL_law_720 ?_
      refine lv_if_eq (tgt := 728) hx hb dL_law_721 (by decide) (fun c_721 => ?_) (fun c_721 => False.elim (by exact absurd c_688 c_721))
      refine lv_iconst (v := 0) hx hb dL_law_728 (by decide) ?_
      refine k_i (va_runV (As := [.int (xs (x4 + 1).toNatClampNeg), .int (xs (x4 + 2).toNatClampNeg), .int 0]) (rest := []) ⟨hx, hb, hml, hown, hts⟩ (c_X6_roll l G u697 T T th o ex ad (xs (x4 + 1).toNatClampNeg) (xs (x4 + 2).toNatClampNeg) 0 hw1 hi) (cwV 3 hts gL_law_X6_roll rfl rfl rfl (by decide +kernel) ⟨Nat.le_of_ble_eq_true rfl, Nat.le_of_ble_eq_true rfl⟩) (preV_of hC hS hM gm12 rfl) rfl rfl hl.1 rfl (lv_room (Nat.le_of_ble_eq_true rfl)) dL_law_729 ⟨(by first | omega | (show _ ≤ 601024; omega) | (show _ ≤ 7293034; omega)), (by first | omega | (show _ ≤ 601024; omega) | (show _ ≤ 7293034; omega))⟩) hS (fun r729 u729 H locs hp729 hM hS => ?_)
      have hM : Hm G u729 H := hM
      rcases hp729 with ⟨y1, hw2⟩ | ⟨y1, y2, hw2⟩ | ⟨y1, y2, y3, hw2⟩ | ⟨y1, y2, y3, y4, er2, hw2⟩
      · exact False.elim (by first | exact absurd z1 y1 | exact absurd y1 z1)
      · exact False.elim (by first | exact absurd z2 y2 | exact absurd y2 z2)
      · have hMk : Hm G u729 H := hM
        have go14 : u729 (ad 28 0) = some (.inl (G.2.1 1, 1, .inr (.inl (fun _ => o)))) := hw2.1 28 0 _ rfl
        have gm14 : u729 (ad 14 0) = some (.inr (6, [.int 3, .int (T.1 0 0), .ref (ad 15 0), .ref (ad 16 0), .ref (ad 17 0), .ref (ad 18 0), .int (T.1 5 0), .ref (ad 19 0), .ref (ad 20 0), .ref (ad 21 0), .ref (ad 22 0), .ref (ad 23 0), .ref (ad 24 0), .ref (ad 25 0), .ref (ad 26 0), .ref (ad 27 0)])) := hw2.1 14 0 _ rfl
        refine lv_istore (lv' := [(6, .int r729), (5, .int 3), (0, .ref b), (1, .ref (ad 0 0)), (2, .ref (ad 14 0)), (3, .ref (ad 28 0)), (4, .int x4)]) hx hb dL_law_732 hl (by decide) rfl (fun ls hl => ?_)
        refine lv_aload_n hx hb dL_law_734 rfl (lv_at hl 4 rfl) ?_
        refine k_i (va_runV (As := []) (rest := []) ⟨hx, hb, hml, hown, hts⟩ (c_X6_thrown l G u729 T T 3 o ex ad hw2) (cwV 0 hts gL_law_X6_thrown rfl rfl rfl (by decide +kernel) ⟨Nat.le_of_ble_eq_true rfl, Nat.le_of_ble_eq_true rfl⟩) (preV_of hC hS hM gm14 rfl) rfl rfl hl.1 rfl (lv_room (Nat.le_of_ble_eq_true rfl)) dL_law_735 ⟨(by first | omega | (show _ ≤ 601024; omega) | (show _ ≤ 7293034; omega)), (by first | omega | (show _ ≤ 601024; omega) | (show _ ≤ 7293034; omega))⟩) hS (fun r735 u735 H locs hp735 hM hS => ?_)
        have hM : Hm G u729 H := hM
        have hp735 : r735 = 3 := hp735
        subst hp735
        refine lv_iload hx hb dL_law_738 (lv_at hl 1 rfl) ?_
        refine lv_icmp_eq (tgt := 745) hx hb dL_law_740 (by decide) (fun c_740 => ?_) (fun c_740 => False.elim (by revert c_740; decide))
        refine lv_iload hx hb dL_law_745 (lv_at hl 1 rfl) ?_
        refine lv_if_ne (tgt := 762) hx hb dL_law_747 (by decide) (fun c_747 => ?_) (fun c_747 => False.elim (by revert c_747; decide))
        refine lv_goto (tgt := 1326) hx hb dL_law_762 (by decide) ?_
        refine W.widen (k := c0 + 42) (n := s0 + 132) (by omega) (by omega) ?_
        exact K T 3 o ex ad _ _ _ ls hi hx9 hw2 hM hS (lv_sub hl [2, 3, 4, 5, 6] rfl)
      · exact False.elim (z3.elim (fun q => y3 q) (fun q => q y4))
    · subst er
      have go17 : u697 (ad 28 0) = some (.inl (G.2.1 1, 1, .inr (.inl (fun _ => ((if (0 : Int32) = 0 then rlc T ((xs (x4 + 1).toNatClampNeg).toNatClampNeg) (xs (x4 + 2).toNatClampNeg) else rls T ((xs (x4 + 1).toNatClampNeg).toNatClampNeg) (xs (x4 + 2).toNatClampNeg)).1 10 (xs (x4 + 1).toNatClampNeg).toNatClampNeg).toInt64)))) := hw1.1 28 0 _ rfl
      have gm17 : u697 (ad 14 0) = some (.inr (6, [.int th, .int (T.1 0 0), .ref (ad 15 0), .ref (ad 16 0), .ref (ad 17 0), .ref (ad 18 0), .int (T.1 5 0), .ref (ad 19 0), .ref (ad 20 0), .ref (ad 21 0), .ref (ad 22 0), .ref (ad 23 0), .ref (ad 24 0), .ref (ad 25 0), .ref (ad 26 0), .ref (ad 27 0)])) := hw1.1 14 0 _ rfl
      refine lv_istore (lv' := [(5, .int 0), (0, .ref b), (1, .ref (ad 0 0)), (2, .ref (ad 14 0)), (3, .ref (ad 28 0)), (4, .int x4)]) hx hb dL_law_700 hl (by decide) rfl (fun ls hl => ?_)
      refine lv_aload_n hx hb dL_law_702 rfl (lv_at hl 3 rfl) ?_
      refine lv_aload_n hx hb dL_law_703 rfl (lv_at hl 1 rfl) ?_
      refine lv_iload hx hb dL_law_704 (lv_at hl 5 rfl) ?_
      refine lv_iconst (v := 1) hx hb dL_law_706 (by decide) ?_
      refine lv_iadd hx hb dL_law_707 ?_
      refine va_sld hx hb hX hbl hbA hS h_1 dL_law_708 ?_
      refine lv_aload_n hx hb dL_law_709 rfl (lv_at hl 1 rfl) ?_
      refine lv_iload hx hb dL_law_710 (lv_at hl 5 rfl) ?_
      refine lv_iconst (v := 2) hx hb dL_law_712 (by decide) ?_
      refine lv_iadd hx hb dL_law_713 ?_
      refine va_sld hx hb hX hbl hbA hS h_2 dL_law_714 ?_
      refine lv_aload_n hx hb dL_law_715 rfl (lv_at hl 1 rfl) ?_
      refine lv_iload hx hb dL_law_716 (lv_at hl 5 rfl) ?_
      refine lv_iconst (v := 3) hx hb dL_law_718 (by decide) ?_
      refine lv_iadd hx hb dL_law_719 ?_
      refine va_sld hx hb hX hbl hbA hS h_3 dL_law_720 ?_
      refine lv_if_eq (tgt := 728) hx hb dL_law_721 (by decide) (fun c_721 => ?_) (fun c_721 => False.elim (by exact absurd c_688 c_721))
      refine lv_iconst (v := 0) hx hb dL_law_728 (by decide) ?_
      refine k_i (va_runV (As := [.int (xs (x4 + 1).toNatClampNeg), .int (xs (x4 + 2).toNatClampNeg), .int 0]) (rest := []) ⟨hx, hb, hml, hown, hts⟩ (c_X6_roll l G u697 (if (0 : Int32) = 0 then rlc T ((xs (x4 + 1).toNatClampNeg).toNatClampNeg) (xs (x4 + 2).toNatClampNeg) else rls T ((xs (x4 + 1).toNatClampNeg).toNatClampNeg) (xs (x4 + 2).toNatClampNeg)) T th (((if (0 : Int32) = 0 then rlc T ((xs (x4 + 1).toNatClampNeg).toNatClampNeg) (xs (x4 + 2).toNatClampNeg) else rls T ((xs (x4 + 1).toNatClampNeg).toNatClampNeg) (xs (x4 + 2).toNatClampNeg)).1 10 (xs (x4 + 1).toNatClampNeg).toNatClampNeg).toInt64) ex1 ad (xs (x4 + 1).toNatClampNeg) (xs (x4 + 2).toNatClampNeg) 0 hw1 hi) (cwV 3 hts gL_law_X6_roll rfl rfl rfl (by decide +kernel) ⟨Nat.le_of_ble_eq_true rfl, Nat.le_of_ble_eq_true rfl⟩) (preV_of hC hS hM gm17 rfl) rfl rfl hl.1 rfl (lv_room (Nat.le_of_ble_eq_true rfl)) dL_law_729 ⟨(by first | omega | (show _ ≤ 601024; omega) | (show _ ≤ 7293034; omega)), (by first | omega | (show _ ≤ 601024; omega) | (show _ ≤ 7293034; omega))⟩) hS (fun r729 u729 H locs hp729 hM hS => ?_)
      have hM : Hm G u729 H := hM
      rcases hp729 with ⟨y1, hw2⟩ | ⟨y1, y2, hw2⟩ | ⟨y1, y2, y3, hw2⟩ | ⟨y1, y2, y3, y4, er2, hw2⟩
      · exact False.elim (by first | exact absurd z1 y1 | exact absurd y1 z1)
      · exact False.elim (by first | exact absurd z2 y2 | exact absurd y2 z2)
      · exact False.elim (y3.elim (fun q => z3 q) (fun q => q z4))
      · subst er2
        have hMk : Hm G u729 H := hM
        have go19 : u729 (ad 28 0) = some (.inl (G.2.1 1, 1, .inr (.inl (fun _ => ((if (0 : Int32) = 0 then rlc T ((xs (x4 + 1).toNatClampNeg).toNatClampNeg) (xs (x4 + 2).toNatClampNeg) else rls T ((xs (x4 + 1).toNatClampNeg).toNatClampNeg) (xs (x4 + 2).toNatClampNeg)).1 10 (xs (x4 + 1).toNatClampNeg).toNatClampNeg).toInt64)))) := hw2.1 28 0 _ rfl
        have gm19 : u729 (ad 14 0) = some (.inr (6, [.int 0, .int ((if (0 : Int32) = 0 then rlc T ((xs (x4 + 1).toNatClampNeg).toNatClampNeg) (xs (x4 + 2).toNatClampNeg) else rls T ((xs (x4 + 1).toNatClampNeg).toNatClampNeg) (xs (x4 + 2).toNatClampNeg)).1 0 0), .ref (ad 15 0), .ref (ad 16 0), .ref (ad 17 0), .ref (ad 18 0), .int ((if (0 : Int32) = 0 then rlc T ((xs (x4 + 1).toNatClampNeg).toNatClampNeg) (xs (x4 + 2).toNatClampNeg) else rls T ((xs (x4 + 1).toNatClampNeg).toNatClampNeg) (xs (x4 + 2).toNatClampNeg)).1 5 0), .ref (ad 19 0), .ref (ad 20 0), .ref (ad 21 0), .ref (ad 22 0), .ref (ad 23 0), .ref (ad 24 0), .ref (ad 25 0), .ref (ad 26 0), .ref (ad 27 0)])) := hw2.1 14 0 _ rfl
        refine lv_istore (lv' := [(6, .int ((if (0 : Int32) = 0 then rlc T ((xs (x4 + 1).toNatClampNeg).toNatClampNeg) (xs (x4 + 2).toNatClampNeg) else rls T ((xs (x4 + 1).toNatClampNeg).toNatClampNeg) (xs (x4 + 2).toNatClampNeg)).1 10 (xs (x4 + 1).toNatClampNeg).toNatClampNeg)), (5, .int 0), (0, .ref b), (1, .ref (ad 0 0)), (2, .ref (ad 14 0)), (3, .ref (ad 28 0)), (4, .int x4)]) hx hb dL_law_732 hl (by decide) rfl (fun ls hl => ?_)
        refine lv_aload_n hx hb dL_law_734 rfl (lv_at hl 4 rfl) ?_
        refine k_i (va_runV (As := []) (rest := []) ⟨hx, hb, hml, hown, hts⟩ (c_X6_thrown l G u729 (if (0 : Int32) = 0 then rlc T ((xs (x4 + 1).toNatClampNeg).toNatClampNeg) (xs (x4 + 2).toNatClampNeg) else rls T ((xs (x4 + 1).toNatClampNeg).toNatClampNeg) (xs (x4 + 2).toNatClampNeg)) (if (0 : Int32) = 0 then rlc T ((xs (x4 + 1).toNatClampNeg).toNatClampNeg) (xs (x4 + 2).toNatClampNeg) else rls T ((xs (x4 + 1).toNatClampNeg).toNatClampNeg) (xs (x4 + 2).toNatClampNeg)) 0 (((if (0 : Int32) = 0 then rlc T ((xs (x4 + 1).toNatClampNeg).toNatClampNeg) (xs (x4 + 2).toNatClampNeg) else rls T ((xs (x4 + 1).toNatClampNeg).toNatClampNeg) (xs (x4 + 2).toNatClampNeg)).1 10 (xs (x4 + 1).toNatClampNeg).toNatClampNeg).toInt64) ex1 ad hw2) (cwV 0 hts gL_law_X6_thrown rfl rfl rfl (by decide +kernel) ⟨Nat.le_of_ble_eq_true rfl, Nat.le_of_ble_eq_true rfl⟩) (preV_of hC hS hM gm19 rfl) rfl rfl hl.1 rfl (lv_room (Nat.le_of_ble_eq_true rfl)) dL_law_735 ⟨(by first | omega | (show _ ≤ 601024; omega) | (show _ ≤ 7293034; omega)), (by first | omega | (show _ ≤ 601024; omega) | (show _ ≤ 7293034; omega))⟩) hS (fun r735 u735 H locs hp735 hM hS => ?_)
        have hM : Hm G u729 H := hM
        have hp735 : r735 = 0 := hp735
        subst hp735
        refine lv_iload hx hb dL_law_738 (lv_at hl 1 rfl) ?_
        refine lv_icmp_eq (tgt := 745) hx hb dL_law_740 (by decide) (fun c_740 => ?_) (fun c_740 => False.elim (by revert c_740; decide))
        refine lv_iload hx hb dL_law_745 (lv_at hl 1 rfl) ?_
        refine lv_if_ne (tgt := 762) hx hb dL_law_747 (by decide) (fun c_747 => False.elim (by revert c_747; decide)) (fun c_747 => ?_)
        refine lv_aload_n hx hb dL_law_750 rfl (lv_at hl 5 rfl) ?_
        refine lv_iconst (v := 0) hx hb dL_law_751 (by decide) ?_
        refine m_lald (a := (ad 28 0)) hx hb hC hM go19 (vin_of (n := 1) 1 (by decide) (by decide)) dL_law_752 ?_
        refine lv_iload hx hb dL_law_753 (lv_at hl 0 rfl) ?_
        refine lv_i2l hx hb dL_law_755 rfl ?_
        refine W.lcmp hx hb dL_law_756 ?_
        refine lv_if_eq (tgt := 762) hx hb dL_law_757 (by decide) (fun c_757 => ?_) (fun c_757 => False.elim (by exact c_757 ((lg_cmp_eq _ _).mpr rfl)))
        refine lv_goto (tgt := 1326) hx hb dL_law_762 (by decide) ?_
        refine W.widen (k := c0 + 42) (n := s0 + 132) (by omega) (by omega) ?_
        exact K (if (0 : Int32) = 0 then rlc T ((xs (x4 + 1).toNatClampNeg).toNatClampNeg) (xs (x4 + 2).toNatClampNeg) else rls T ((xs (x4 + 1).toNatClampNeg).toNatClampNeg) (xs (x4 + 2).toNatClampNeg)) 0 (((if (0 : Int32) = 0 then rlc T ((xs (x4 + 1).toNatClampNeg).toNatClampNeg) (xs (x4 + 2).toNatClampNeg) else rls T ((xs (x4 + 1).toNatClampNeg).toNatClampNeg) (xs (x4 + 2).toNatClampNeg)).1 10 (xs (x4 + 1).toNatClampNeg).toNatClampNeg).toInt64) ex1 ad _ _ _ ls (iv_roll hi z1.2 z2 z4) hx1 (hw2) hM hS (lv_sub hl [2, 3, 4, 5, 6] rfl)
  · refine lv_iconst (v := 1) hx hb dL_law_691 (by decide) ?_
    refine lv_goto (tgt := 696) hx hb dL_law_692 (by decide) ?_
    refine lv_aload_n hx hb dL_law_696 rfl (lv_at hl 3 rfl) ?_
    refine k_i (vx_runSW (As := [.ref (ad 0 0), .int (xs (x4 + 1).toNatClampNeg), .int (xs (x4 + 2).toNatClampNeg), .int 1, .ref (ad 28 0)]) (rest := []) ⟨hx, hb, hml, hown, hts⟩ (c_L_roll hnt l G M T T th o ex ad (xs (x4 + 1).toNatClampNeg) (xs (x4 + 2).toNatClampNeg) 1 hw hi hx9) (vx_cwSW 5 hts gL_law_L_roll rfl rfl rfl (by decide +kernel) ⟨Nat.le_of_ble_eq_true rfl, Nat.le_of_ble_eq_true rfl⟩) (preS_of hC hS hM) rfl rfl hl.1 rfl (lv_room (Nat.le_of_ble_eq_true rfl)) dL_law_697 ⟨(by first | omega | (show _ ≤ 601024; omega) | (show _ ≤ 7293034; omega)), (by first | omega | (show _ ≤ 601024; omega) | (show _ ≤ 7293034; omega))⟩) hS (fun r697 u697 H locs hp697 hM hS => ?_)
    have hM : Hm G u697 H := hM
    rcases hp697 with ⟨er, z1, hw1⟩ | ⟨er, ⟨z1, z2⟩, hw1⟩ | ⟨er, ⟨z1, z2, z3⟩, hw1⟩ | ⟨er, ⟨z1, z2, z3, z4⟩, ex1, hw1, hx1⟩
    · subst er
      have go23 : u697 (ad 28 0) = some (.inl (G.2.1 1, 1, .inr (.inl (fun _ => o)))) := hw1.1 28 0 _ rfl
      have gm23 : u697 (ad 14 0) = some (.inr (6, [.int th, .int (T.1 0 0), .ref (ad 15 0), .ref (ad 16 0), .ref (ad 17 0), .ref (ad 18 0), .int (T.1 5 0), .ref (ad 19 0), .ref (ad 20 0), .ref (ad 21 0), .ref (ad 22 0), .ref (ad 23 0), .ref (ad 24 0), .ref (ad 25 0), .ref (ad 26 0), .ref (ad 27 0)])) := hw1.1 14 0 _ rfl
      refine lv_istore (lv' := [(5, .int 1), (0, .ref b), (1, .ref (ad 0 0)), (2, .ref (ad 14 0)), (3, .ref (ad 28 0)), (4, .int x4)]) hx hb dL_law_700 hl (by decide) rfl (fun ls hl => ?_)
      refine lv_aload_n hx hb dL_law_702 rfl (lv_at hl 3 rfl) ?_
      refine lv_aload_n hx hb dL_law_703 rfl (lv_at hl 1 rfl) ?_
      refine lv_iload hx hb dL_law_704 (lv_at hl 5 rfl) ?_
      refine lv_iconst (v := 1) hx hb dL_law_706 (by decide) ?_
      refine lv_iadd hx hb dL_law_707 ?_
      refine va_sld hx hb hX hbl hbA hS h_1 dL_law_708 ?_
      refine lv_aload_n hx hb dL_law_709 rfl (lv_at hl 1 rfl) ?_
      refine lv_iload hx hb dL_law_710 (lv_at hl 5 rfl) ?_
      refine lv_iconst (v := 2) hx hb dL_law_712 (by decide) ?_
      refine lv_iadd hx hb dL_law_713 ?_
      refine va_sld hx hb hX hbl hbA hS h_2 dL_law_714 ?_
      refine lv_aload_n hx hb dL_law_715 rfl (lv_at hl 1 rfl) ?_
      refine lv_iload hx hb dL_law_716 (lv_at hl 5 rfl) ?_
      refine lv_iconst (v := 3) hx hb dL_law_718 (by decide) ?_
      refine lv_iadd hx hb dL_law_719 ?_
      refine va_sld hx hb hX hbl hbA hS h_3 dL_law_720 ?_
      refine lv_if_eq (tgt := 728) hx hb dL_law_721 (by decide) (fun c_721 => False.elim (by exact absurd c_721 c_688)) (fun c_721 => ?_)
      refine lv_iconst (v := 1) hx hb dL_law_724 (by decide) ?_
      refine lv_goto (tgt := 729) hx hb dL_law_725 (by decide) ?_
      refine k_i (va_runV (As := [.int (xs (x4 + 1).toNatClampNeg), .int (xs (x4 + 2).toNatClampNeg), .int 1]) (rest := []) ⟨hx, hb, hml, hown, hts⟩ (c_X6_roll l G u697 T T th o ex ad (xs (x4 + 1).toNatClampNeg) (xs (x4 + 2).toNatClampNeg) 1 hw1 hi) (cwV 3 hts gL_law_X6_roll rfl rfl rfl (by decide +kernel) ⟨Nat.le_of_ble_eq_true rfl, Nat.le_of_ble_eq_true rfl⟩) (preV_of hC hS hM gm23 rfl) rfl rfl hl.1 rfl (lv_room (Nat.le_of_ble_eq_true rfl)) dL_law_729 ⟨(by first | omega | (show _ ≤ 601024; omega) | (show _ ≤ 7293034; omega)), (by first | omega | (show _ ≤ 601024; omega) | (show _ ≤ 7293034; omega))⟩) hS (fun r729 u729 H locs hp729 hM hS => ?_)
      have hM : Hm G u729 H := hM
      rcases hp729 with ⟨y1, hw2⟩ | ⟨y1, y2, hw2⟩ | ⟨y1, y2, y3, hw2⟩ | ⟨y1, y2, y3, y4, er2, hw2⟩
      · have hMk : Hm G u729 H := hM
        have go25 : u729 (ad 28 0) = some (.inl (G.2.1 1, 1, .inr (.inl (fun _ => o)))) := hw2.1 28 0 _ rfl
        have gm25 : u729 (ad 14 0) = some (.inr (6, [.int 1, .int (T.1 0 0), .ref (ad 15 0), .ref (ad 16 0), .ref (ad 17 0), .ref (ad 18 0), .int (T.1 5 0), .ref (ad 19 0), .ref (ad 20 0), .ref (ad 21 0), .ref (ad 22 0), .ref (ad 23 0), .ref (ad 24 0), .ref (ad 25 0), .ref (ad 26 0), .ref (ad 27 0)])) := hw2.1 14 0 _ rfl
        refine lv_istore (lv' := [(6, .int r729), (5, .int 1), (0, .ref b), (1, .ref (ad 0 0)), (2, .ref (ad 14 0)), (3, .ref (ad 28 0)), (4, .int x4)]) hx hb dL_law_732 hl (by decide) rfl (fun ls hl => ?_)
        refine lv_aload_n hx hb dL_law_734 rfl (lv_at hl 4 rfl) ?_
        refine k_i (va_runV (As := []) (rest := []) ⟨hx, hb, hml, hown, hts⟩ (c_X6_thrown l G u729 T T 1 o ex ad hw2) (cwV 0 hts gL_law_X6_thrown rfl rfl rfl (by decide +kernel) ⟨Nat.le_of_ble_eq_true rfl, Nat.le_of_ble_eq_true rfl⟩) (preV_of hC hS hM gm25 rfl) rfl rfl hl.1 rfl (lv_room (Nat.le_of_ble_eq_true rfl)) dL_law_735 ⟨(by first | omega | (show _ ≤ 601024; omega) | (show _ ≤ 7293034; omega)), (by first | omega | (show _ ≤ 601024; omega) | (show _ ≤ 7293034; omega))⟩) hS (fun r735 u735 H locs hp735 hM hS => ?_)
        have hM : Hm G u729 H := hM
        have hp735 : r735 = 1 := hp735
        subst hp735
        refine lv_iload hx hb dL_law_738 (lv_at hl 1 rfl) ?_
        refine lv_icmp_eq (tgt := 745) hx hb dL_law_740 (by decide) (fun c_740 => ?_) (fun c_740 => False.elim (by revert c_740; decide))
        refine lv_iload hx hb dL_law_745 (lv_at hl 1 rfl) ?_
        refine lv_if_ne (tgt := 762) hx hb dL_law_747 (by decide) (fun c_747 => ?_) (fun c_747 => False.elim (by revert c_747; decide))
        refine lv_goto (tgt := 1326) hx hb dL_law_762 (by decide) ?_
        refine W.widen (k := c0 + 42) (n := s0 + 132) (by omega) (by omega) ?_
        exact K T 1 o ex ad _ _ _ ls hi hx9 hw2 hM hS (lv_sub hl [2, 3, 4, 5, 6] rfl)
      · exact False.elim (by first | exact absurd z1 y1 | exact absurd y1 z1)
      · exact False.elim (by first | exact absurd z1 y1 | exact absurd y1 z1)
      · exact False.elim (by first | exact absurd z1 y1 | exact absurd y1 z1)
    · subst er
      have go28 : u697 (ad 28 0) = some (.inl (G.2.1 1, 1, .inr (.inl (fun _ => o)))) := hw1.1 28 0 _ rfl
      have gm28 : u697 (ad 14 0) = some (.inr (6, [.int th, .int (T.1 0 0), .ref (ad 15 0), .ref (ad 16 0), .ref (ad 17 0), .ref (ad 18 0), .int (T.1 5 0), .ref (ad 19 0), .ref (ad 20 0), .ref (ad 21 0), .ref (ad 22 0), .ref (ad 23 0), .ref (ad 24 0), .ref (ad 25 0), .ref (ad 26 0), .ref (ad 27 0)])) := hw1.1 14 0 _ rfl
      refine lv_istore (lv' := [(5, .int 2), (0, .ref b), (1, .ref (ad 0 0)), (2, .ref (ad 14 0)), (3, .ref (ad 28 0)), (4, .int x4)]) hx hb dL_law_700 hl (by decide) rfl (fun ls hl => ?_)
      refine lv_aload_n hx hb dL_law_702 rfl (lv_at hl 3 rfl) ?_
      refine lv_aload_n hx hb dL_law_703 rfl (lv_at hl 1 rfl) ?_
      refine lv_iload hx hb dL_law_704 (lv_at hl 5 rfl) ?_
      refine lv_iconst (v := 1) hx hb dL_law_706 (by decide) ?_
      refine lv_iadd hx hb dL_law_707 ?_
      refine va_sld hx hb hX hbl hbA hS h_1 dL_law_708 ?_
      refine lv_aload_n hx hb dL_law_709 rfl (lv_at hl 1 rfl) ?_
      refine lv_iload hx hb dL_law_710 (lv_at hl 5 rfl) ?_
      refine lv_iconst (v := 2) hx hb dL_law_712 (by decide) ?_
      refine lv_iadd hx hb dL_law_713 ?_
      refine va_sld hx hb hX hbl hbA hS h_2 dL_law_714 ?_
      refine lv_aload_n hx hb dL_law_715 rfl (lv_at hl 1 rfl) ?_
      refine lv_iload hx hb dL_law_716 (lv_at hl 5 rfl) ?_
      refine lv_iconst (v := 3) hx hb dL_law_718 (by decide) ?_
      refine lv_iadd hx hb dL_law_719 ?_
      refine va_sld hx hb hX hbl hbA hS h_3 dL_law_720 ?_
      refine lv_if_eq (tgt := 728) hx hb dL_law_721 (by decide) (fun c_721 => False.elim (by exact absurd c_721 c_688)) (fun c_721 => ?_)
      refine lv_iconst (v := 1) hx hb dL_law_724 (by decide) ?_
      refine lv_goto (tgt := 729) hx hb dL_law_725 (by decide) ?_
      refine k_i (va_runV (As := [.int (xs (x4 + 1).toNatClampNeg), .int (xs (x4 + 2).toNatClampNeg), .int 1]) (rest := []) ⟨hx, hb, hml, hown, hts⟩ (c_X6_roll l G u697 T T th o ex ad (xs (x4 + 1).toNatClampNeg) (xs (x4 + 2).toNatClampNeg) 1 hw1 hi) (cwV 3 hts gL_law_X6_roll rfl rfl rfl (by decide +kernel) ⟨Nat.le_of_ble_eq_true rfl, Nat.le_of_ble_eq_true rfl⟩) (preV_of hC hS hM gm28 rfl) rfl rfl hl.1 rfl (lv_room (Nat.le_of_ble_eq_true rfl)) dL_law_729 ⟨(by first | omega | (show _ ≤ 601024; omega) | (show _ ≤ 7293034; omega)), (by first | omega | (show _ ≤ 601024; omega) | (show _ ≤ 7293034; omega))⟩) hS (fun r729 u729 H locs hp729 hM hS => ?_)
      have hM : Hm G u729 H := hM
      rcases hp729 with ⟨y1, hw2⟩ | ⟨y1, y2, hw2⟩ | ⟨y1, y2, y3, hw2⟩ | ⟨y1, y2, y3, y4, er2, hw2⟩
      · exact False.elim (by first | exact absurd z1 y1 | exact absurd y1 z1)
      · have hMk : Hm G u729 H := hM
        have go30 : u729 (ad 28 0) = some (.inl (G.2.1 1, 1, .inr (.inl (fun _ => o)))) := hw2.1 28 0 _ rfl
        have gm30 : u729 (ad 14 0) = some (.inr (6, [.int 2, .int (T.1 0 0), .ref (ad 15 0), .ref (ad 16 0), .ref (ad 17 0), .ref (ad 18 0), .int (T.1 5 0), .ref (ad 19 0), .ref (ad 20 0), .ref (ad 21 0), .ref (ad 22 0), .ref (ad 23 0), .ref (ad 24 0), .ref (ad 25 0), .ref (ad 26 0), .ref (ad 27 0)])) := hw2.1 14 0 _ rfl
        refine lv_istore (lv' := [(6, .int r729), (5, .int 2), (0, .ref b), (1, .ref (ad 0 0)), (2, .ref (ad 14 0)), (3, .ref (ad 28 0)), (4, .int x4)]) hx hb dL_law_732 hl (by decide) rfl (fun ls hl => ?_)
        refine lv_aload_n hx hb dL_law_734 rfl (lv_at hl 4 rfl) ?_
        refine k_i (va_runV (As := []) (rest := []) ⟨hx, hb, hml, hown, hts⟩ (c_X6_thrown l G u729 T T 2 o ex ad hw2) (cwV 0 hts gL_law_X6_thrown rfl rfl rfl (by decide +kernel) ⟨Nat.le_of_ble_eq_true rfl, Nat.le_of_ble_eq_true rfl⟩) (preV_of hC hS hM gm30 rfl) rfl rfl hl.1 rfl (lv_room (Nat.le_of_ble_eq_true rfl)) dL_law_735 ⟨(by first | omega | (show _ ≤ 601024; omega) | (show _ ≤ 7293034; omega)), (by first | omega | (show _ ≤ 601024; omega) | (show _ ≤ 7293034; omega))⟩) hS (fun r735 u735 H locs hp735 hM hS => ?_)
        have hM : Hm G u729 H := hM
        have hp735 : r735 = 2 := hp735
        subst hp735
        refine lv_iload hx hb dL_law_738 (lv_at hl 1 rfl) ?_
        refine lv_icmp_eq (tgt := 745) hx hb dL_law_740 (by decide) (fun c_740 => ?_) (fun c_740 => False.elim (by revert c_740; decide))
        refine lv_iload hx hb dL_law_745 (lv_at hl 1 rfl) ?_
        refine lv_if_ne (tgt := 762) hx hb dL_law_747 (by decide) (fun c_747 => ?_) (fun c_747 => False.elim (by revert c_747; decide))
        refine lv_goto (tgt := 1326) hx hb dL_law_762 (by decide) ?_
        refine W.widen (k := c0 + 42) (n := s0 + 132) (by omega) (by omega) ?_
        exact K T 2 o ex ad _ _ _ ls hi hx9 hw2 hM hS (lv_sub hl [2, 3, 4, 5, 6] rfl)
      · exact False.elim (by first | exact absurd z2 y2 | exact absurd y2 z2)
      · exact False.elim (by first | exact absurd z2 y2 | exact absurd y2 z2)
    · subst er
      have go33 : u697 (ad 28 0) = some (.inl (G.2.1 1, 1, .inr (.inl (fun _ => o)))) := hw1.1 28 0 _ rfl
      have gm33 : u697 (ad 14 0) = some (.inr (6, [.int th, .int (T.1 0 0), .ref (ad 15 0), .ref (ad 16 0), .ref (ad 17 0), .ref (ad 18 0), .int (T.1 5 0), .ref (ad 19 0), .ref (ad 20 0), .ref (ad 21 0), .ref (ad 22 0), .ref (ad 23 0), .ref (ad 24 0), .ref (ad 25 0), .ref (ad 26 0), .ref (ad 27 0)])) := hw1.1 14 0 _ rfl
      refine lv_istore (lv' := [(5, .int 3), (0, .ref b), (1, .ref (ad 0 0)), (2, .ref (ad 14 0)), (3, .ref (ad 28 0)), (4, .int x4)]) hx hb dL_law_700 hl (by decide) rfl (fun ls hl => ?_)
      refine lv_aload_n hx hb dL_law_702 rfl (lv_at hl 3 rfl) ?_
      refine lv_aload_n hx hb dL_law_703 rfl (lv_at hl 1 rfl) ?_
      refine lv_iload hx hb dL_law_704 (lv_at hl 5 rfl) ?_
      refine lv_iconst (v := 1) hx hb dL_law_706 (by decide) ?_
      refine lv_iadd hx hb dL_law_707 ?_
      refine va_sld hx hb hX hbl hbA hS h_1 dL_law_708 ?_
      refine lv_aload_n hx hb dL_law_709 rfl (lv_at hl 1 rfl) ?_
      refine lv_iload hx hb dL_law_710 (lv_at hl 5 rfl) ?_
      refine lv_iconst (v := 2) hx hb dL_law_712 (by decide) ?_
      refine lv_iadd hx hb dL_law_713 ?_
      refine va_sld hx hb hX hbl hbA hS h_2 dL_law_714 ?_
      refine lv_aload_n hx hb dL_law_715 rfl (lv_at hl 1 rfl) ?_
      refine lv_iload hx hb dL_law_716 (lv_at hl 5 rfl) ?_
      refine lv_iconst (v := 3) hx hb dL_law_718 (by decide) ?_
      refine lv_iadd hx hb dL_law_719 ?_
      refine va_sld hx hb hX hbl hbA hS h_3 dL_law_720 ?_
      refine lv_if_eq (tgt := 728) hx hb dL_law_721 (by decide) (fun c_721 => False.elim (by exact absurd c_721 c_688)) (fun c_721 => ?_)
      refine lv_iconst (v := 1) hx hb dL_law_724 (by decide) ?_
      refine lv_goto (tgt := 729) hx hb dL_law_725 (by decide) ?_
      refine k_i (va_runV (As := [.int (xs (x4 + 1).toNatClampNeg), .int (xs (x4 + 2).toNatClampNeg), .int 1]) (rest := []) ⟨hx, hb, hml, hown, hts⟩ (c_X6_roll l G u697 T T th o ex ad (xs (x4 + 1).toNatClampNeg) (xs (x4 + 2).toNatClampNeg) 1 hw1 hi) (cwV 3 hts gL_law_X6_roll rfl rfl rfl (by decide +kernel) ⟨Nat.le_of_ble_eq_true rfl, Nat.le_of_ble_eq_true rfl⟩) (preV_of hC hS hM gm33 rfl) rfl rfl hl.1 rfl (lv_room (Nat.le_of_ble_eq_true rfl)) dL_law_729 ⟨(by first | omega | (show _ ≤ 601024; omega) | (show _ ≤ 7293034; omega)), (by first | omega | (show _ ≤ 601024; omega) | (show _ ≤ 7293034; omega))⟩) hS (fun r729 u729 H locs hp729 hM hS => ?_)
      have hM : Hm G u729 H := hM
      rcases hp729 with ⟨y1, hw2⟩ | ⟨y1, y2, hw2⟩ | ⟨y1, y2, y3, hw2⟩ | ⟨y1, y2, y3, y4, er2, hw2⟩
      · exact False.elim (by first | exact absurd z1 y1 | exact absurd y1 z1)
      · exact False.elim (by first | exact absurd z2 y2 | exact absurd y2 z2)
      · have hMk : Hm G u729 H := hM
        have go35 : u729 (ad 28 0) = some (.inl (G.2.1 1, 1, .inr (.inl (fun _ => o)))) := hw2.1 28 0 _ rfl
        have gm35 : u729 (ad 14 0) = some (.inr (6, [.int 3, .int (T.1 0 0), .ref (ad 15 0), .ref (ad 16 0), .ref (ad 17 0), .ref (ad 18 0), .int (T.1 5 0), .ref (ad 19 0), .ref (ad 20 0), .ref (ad 21 0), .ref (ad 22 0), .ref (ad 23 0), .ref (ad 24 0), .ref (ad 25 0), .ref (ad 26 0), .ref (ad 27 0)])) := hw2.1 14 0 _ rfl
        refine lv_istore (lv' := [(6, .int r729), (5, .int 3), (0, .ref b), (1, .ref (ad 0 0)), (2, .ref (ad 14 0)), (3, .ref (ad 28 0)), (4, .int x4)]) hx hb dL_law_732 hl (by decide) rfl (fun ls hl => ?_)
        refine lv_aload_n hx hb dL_law_734 rfl (lv_at hl 4 rfl) ?_
        refine k_i (va_runV (As := []) (rest := []) ⟨hx, hb, hml, hown, hts⟩ (c_X6_thrown l G u729 T T 3 o ex ad hw2) (cwV 0 hts gL_law_X6_thrown rfl rfl rfl (by decide +kernel) ⟨Nat.le_of_ble_eq_true rfl, Nat.le_of_ble_eq_true rfl⟩) (preV_of hC hS hM gm35 rfl) rfl rfl hl.1 rfl (lv_room (Nat.le_of_ble_eq_true rfl)) dL_law_735 ⟨(by first | omega | (show _ ≤ 601024; omega) | (show _ ≤ 7293034; omega)), (by first | omega | (show _ ≤ 601024; omega) | (show _ ≤ 7293034; omega))⟩) hS (fun r735 u735 H locs hp735 hM hS => ?_)
        have hM : Hm G u729 H := hM
        have hp735 : r735 = 3 := hp735
        subst hp735
        refine lv_iload hx hb dL_law_738 (lv_at hl 1 rfl) ?_
        refine lv_icmp_eq (tgt := 745) hx hb dL_law_740 (by decide) (fun c_740 => ?_) (fun c_740 => False.elim (by revert c_740; decide))
        refine lv_iload hx hb dL_law_745 (lv_at hl 1 rfl) ?_
        refine lv_if_ne (tgt := 762) hx hb dL_law_747 (by decide) (fun c_747 => ?_) (fun c_747 => False.elim (by revert c_747; decide))
        refine lv_goto (tgt := 1326) hx hb dL_law_762 (by decide) ?_
        refine W.widen (k := c0 + 42) (n := s0 + 132) (by omega) (by omega) ?_
        exact K T 3 o ex ad _ _ _ ls hi hx9 hw2 hM hS (lv_sub hl [2, 3, 4, 5, 6] rfl)
      · exact False.elim (z3.elim (fun q => y3 q) (fun q => q y4))
    · subst er
      have go38 : u697 (ad 28 0) = some (.inl (G.2.1 1, 1, .inr (.inl (fun _ => ((if (1 : Int32) = 0 then rlc T ((xs (x4 + 1).toNatClampNeg).toNatClampNeg) (xs (x4 + 2).toNatClampNeg) else rls T ((xs (x4 + 1).toNatClampNeg).toNatClampNeg) (xs (x4 + 2).toNatClampNeg)).1 10 (xs (x4 + 1).toNatClampNeg).toNatClampNeg).toInt64)))) := hw1.1 28 0 _ rfl
      have gm38 : u697 (ad 14 0) = some (.inr (6, [.int th, .int (T.1 0 0), .ref (ad 15 0), .ref (ad 16 0), .ref (ad 17 0), .ref (ad 18 0), .int (T.1 5 0), .ref (ad 19 0), .ref (ad 20 0), .ref (ad 21 0), .ref (ad 22 0), .ref (ad 23 0), .ref (ad 24 0), .ref (ad 25 0), .ref (ad 26 0), .ref (ad 27 0)])) := hw1.1 14 0 _ rfl
      refine lv_istore (lv' := [(5, .int 0), (0, .ref b), (1, .ref (ad 0 0)), (2, .ref (ad 14 0)), (3, .ref (ad 28 0)), (4, .int x4)]) hx hb dL_law_700 hl (by decide) rfl (fun ls hl => ?_)
      refine lv_aload_n hx hb dL_law_702 rfl (lv_at hl 3 rfl) ?_
      refine lv_aload_n hx hb dL_law_703 rfl (lv_at hl 1 rfl) ?_
      refine lv_iload hx hb dL_law_704 (lv_at hl 5 rfl) ?_
      refine lv_iconst (v := 1) hx hb dL_law_706 (by decide) ?_
      refine lv_iadd hx hb dL_law_707 ?_
      refine va_sld hx hb hX hbl hbA hS h_1 dL_law_708 ?_
      refine lv_aload_n hx hb dL_law_709 rfl (lv_at hl 1 rfl) ?_
      refine lv_iload hx hb dL_law_710 (lv_at hl 5 rfl) ?_
      refine lv_iconst (v := 2) hx hb dL_law_712 (by decide) ?_
      refine lv_iadd hx hb dL_law_713 ?_
      refine va_sld hx hb hX hbl hbA hS h_2 dL_law_714 ?_
      refine lv_aload_n hx hb dL_law_715 rfl (lv_at hl 1 rfl) ?_
      refine lv_iload hx hb dL_law_716 (lv_at hl 5 rfl) ?_
      refine lv_iconst (v := 3) hx hb dL_law_718 (by decide) ?_
      refine lv_iadd hx hb dL_law_719 ?_
      refine va_sld hx hb hX hbl hbA hS h_3 dL_law_720 ?_
      refine lv_if_eq (tgt := 728) hx hb dL_law_721 (by decide) (fun c_721 => False.elim (by exact absurd c_721 c_688)) (fun c_721 => ?_)
      refine lv_iconst (v := 1) hx hb dL_law_724 (by decide) ?_
      refine lv_goto (tgt := 729) hx hb dL_law_725 (by decide) ?_
      refine k_i (va_runV (As := [.int (xs (x4 + 1).toNatClampNeg), .int (xs (x4 + 2).toNatClampNeg), .int 1]) (rest := []) ⟨hx, hb, hml, hown, hts⟩ (c_X6_roll l G u697 (if (1 : Int32) = 0 then rlc T ((xs (x4 + 1).toNatClampNeg).toNatClampNeg) (xs (x4 + 2).toNatClampNeg) else rls T ((xs (x4 + 1).toNatClampNeg).toNatClampNeg) (xs (x4 + 2).toNatClampNeg)) T th (((if (1 : Int32) = 0 then rlc T ((xs (x4 + 1).toNatClampNeg).toNatClampNeg) (xs (x4 + 2).toNatClampNeg) else rls T ((xs (x4 + 1).toNatClampNeg).toNatClampNeg) (xs (x4 + 2).toNatClampNeg)).1 10 (xs (x4 + 1).toNatClampNeg).toNatClampNeg).toInt64) ex1 ad (xs (x4 + 1).toNatClampNeg) (xs (x4 + 2).toNatClampNeg) 1 hw1 hi) (cwV 3 hts gL_law_X6_roll rfl rfl rfl (by decide +kernel) ⟨Nat.le_of_ble_eq_true rfl, Nat.le_of_ble_eq_true rfl⟩) (preV_of hC hS hM gm38 rfl) rfl rfl hl.1 rfl (lv_room (Nat.le_of_ble_eq_true rfl)) dL_law_729 ⟨(by first | omega | (show _ ≤ 601024; omega) | (show _ ≤ 7293034; omega)), (by first | omega | (show _ ≤ 601024; omega) | (show _ ≤ 7293034; omega))⟩) hS (fun r729 u729 H locs hp729 hM hS => ?_)
      have hM : Hm G u729 H := hM
      rcases hp729 with ⟨y1, hw2⟩ | ⟨y1, y2, hw2⟩ | ⟨y1, y2, y3, hw2⟩ | ⟨y1, y2, y3, y4, er2, hw2⟩
      · exact False.elim (by first | exact absurd z1 y1 | exact absurd y1 z1)
      · exact False.elim (by first | exact absurd z2 y2 | exact absurd y2 z2)
      · exact False.elim (y3.elim (fun q => z3 q) (fun q => q z4))
      · subst er2
        have hMk : Hm G u729 H := hM
        have go40 : u729 (ad 28 0) = some (.inl (G.2.1 1, 1, .inr (.inl (fun _ => ((if (1 : Int32) = 0 then rlc T ((xs (x4 + 1).toNatClampNeg).toNatClampNeg) (xs (x4 + 2).toNatClampNeg) else rls T ((xs (x4 + 1).toNatClampNeg).toNatClampNeg) (xs (x4 + 2).toNatClampNeg)).1 10 (xs (x4 + 1).toNatClampNeg).toNatClampNeg).toInt64)))) := hw2.1 28 0 _ rfl
        have gm40 : u729 (ad 14 0) = some (.inr (6, [.int 0, .int ((if (1 : Int32) = 0 then rlc T ((xs (x4 + 1).toNatClampNeg).toNatClampNeg) (xs (x4 + 2).toNatClampNeg) else rls T ((xs (x4 + 1).toNatClampNeg).toNatClampNeg) (xs (x4 + 2).toNatClampNeg)).1 0 0), .ref (ad 15 0), .ref (ad 16 0), .ref (ad 17 0), .ref (ad 18 0), .int ((if (1 : Int32) = 0 then rlc T ((xs (x4 + 1).toNatClampNeg).toNatClampNeg) (xs (x4 + 2).toNatClampNeg) else rls T ((xs (x4 + 1).toNatClampNeg).toNatClampNeg) (xs (x4 + 2).toNatClampNeg)).1 5 0), .ref (ad 19 0), .ref (ad 20 0), .ref (ad 21 0), .ref (ad 22 0), .ref (ad 23 0), .ref (ad 24 0), .ref (ad 25 0), .ref (ad 26 0), .ref (ad 27 0)])) := hw2.1 14 0 _ rfl
        refine lv_istore (lv' := [(6, .int ((if (1 : Int32) = 0 then rlc T ((xs (x4 + 1).toNatClampNeg).toNatClampNeg) (xs (x4 + 2).toNatClampNeg) else rls T ((xs (x4 + 1).toNatClampNeg).toNatClampNeg) (xs (x4 + 2).toNatClampNeg)).1 10 (xs (x4 + 1).toNatClampNeg).toNatClampNeg)), (5, .int 0), (0, .ref b), (1, .ref (ad 0 0)), (2, .ref (ad 14 0)), (3, .ref (ad 28 0)), (4, .int x4)]) hx hb dL_law_732 hl (by decide) rfl (fun ls hl => ?_)
        refine lv_aload_n hx hb dL_law_734 rfl (lv_at hl 4 rfl) ?_
        refine k_i (va_runV (As := []) (rest := []) ⟨hx, hb, hml, hown, hts⟩ (c_X6_thrown l G u729 (if (1 : Int32) = 0 then rlc T ((xs (x4 + 1).toNatClampNeg).toNatClampNeg) (xs (x4 + 2).toNatClampNeg) else rls T ((xs (x4 + 1).toNatClampNeg).toNatClampNeg) (xs (x4 + 2).toNatClampNeg)) (if (1 : Int32) = 0 then rlc T ((xs (x4 + 1).toNatClampNeg).toNatClampNeg) (xs (x4 + 2).toNatClampNeg) else rls T ((xs (x4 + 1).toNatClampNeg).toNatClampNeg) (xs (x4 + 2).toNatClampNeg)) 0 (((if (1 : Int32) = 0 then rlc T ((xs (x4 + 1).toNatClampNeg).toNatClampNeg) (xs (x4 + 2).toNatClampNeg) else rls T ((xs (x4 + 1).toNatClampNeg).toNatClampNeg) (xs (x4 + 2).toNatClampNeg)).1 10 (xs (x4 + 1).toNatClampNeg).toNatClampNeg).toInt64) ex1 ad hw2) (cwV 0 hts gL_law_X6_thrown rfl rfl rfl (by decide +kernel) ⟨Nat.le_of_ble_eq_true rfl, Nat.le_of_ble_eq_true rfl⟩) (preV_of hC hS hM gm40 rfl) rfl rfl hl.1 rfl (lv_room (Nat.le_of_ble_eq_true rfl)) dL_law_735 ⟨(by first | omega | (show _ ≤ 601024; omega) | (show _ ≤ 7293034; omega)), (by first | omega | (show _ ≤ 601024; omega) | (show _ ≤ 7293034; omega))⟩) hS (fun r735 u735 H locs hp735 hM hS => ?_)
        have hM : Hm G u729 H := hM
        have hp735 : r735 = 0 := hp735
        subst hp735
        refine lv_iload hx hb dL_law_738 (lv_at hl 1 rfl) ?_
        refine lv_icmp_eq (tgt := 745) hx hb dL_law_740 (by decide) (fun c_740 => ?_) (fun c_740 => False.elim (by revert c_740; decide))
        refine lv_iload hx hb dL_law_745 (lv_at hl 1 rfl) ?_
        refine lv_if_ne (tgt := 762) hx hb dL_law_747 (by decide) (fun c_747 => False.elim (by revert c_747; decide)) (fun c_747 => ?_)
        refine lv_aload_n hx hb dL_law_750 rfl (lv_at hl 5 rfl) ?_
        refine lv_iconst (v := 0) hx hb dL_law_751 (by decide) ?_
        refine m_lald (a := (ad 28 0)) hx hb hC hM go40 (vin_of (n := 1) 1 (by decide) (by decide)) dL_law_752 ?_
        refine lv_iload hx hb dL_law_753 (lv_at hl 0 rfl) ?_
        refine lv_i2l hx hb dL_law_755 rfl ?_
        refine W.lcmp hx hb dL_law_756 ?_
        refine lv_if_eq (tgt := 762) hx hb dL_law_757 (by decide) (fun c_757 => ?_) (fun c_757 => False.elim (by exact c_757 ((lg_cmp_eq _ _).mpr rfl)))
        refine lv_goto (tgt := 1326) hx hb dL_law_762 (by decide) ?_
        refine W.widen (k := c0 + 42) (n := s0 + 132) (by omega) (by omega) ?_
        exact K (if (1 : Int32) = 0 then rlc T ((xs (x4 + 1).toNatClampNeg).toNatClampNeg) (xs (x4 + 2).toNatClampNeg) else rls T ((xs (x4 + 1).toNatClampNeg).toNatClampNeg) (xs (x4 + 2).toNatClampNeg)) 0 (((if (1 : Int32) = 0 then rlc T ((xs (x4 + 1).toNatClampNeg).toNatClampNeg) (xs (x4 + 2).toNatClampNeg) else rls T ((xs (x4 + 1).toNatClampNeg).toNatClampNeg) (xs (x4 + 2).toNatClampNeg)).1 10 (xs (x4 + 1).toNatClampNeg).toNatClampNeg).toInt64) ex1 ad _ _ _ ls (iv_roll hi z1.2 z2 z4) hx1 (hw2) hM hS (lv_sub hl [2, 3, 4, 5, 6] rfl)
set_option maxHeartbeats 4000000 in
set_option maxRecDepth 100000 in
theorem law_8 {p : Program} {l : Launch} (hnt : l.stackTraces = false) {e : Env} {s : State} {m : MethodId} {below : List Frame} {meth : Method} {c : Code} {b L : Nat} {xs : Nat → Int32} (C0 : lw_At p s m meth c b L xs) {G : Gx} {T : Sd} {th : Int32} {o : Int64} {ex : Nat → Option (Nat × Nat)} {ad : Nat → Nat → Nat} {M : Mp} {c0 s0 : Nat} {x4 : Int32} {Q : State → Prop} (k9 : Nat) (hk9 : k9 = 20) (hC : Cx G s) (hG : G.2.2 = s.heap.size) (hi : Iv T) (hx9 : Ix T ex) (hw : WA G T T th o ex ad M) (hc0 : c0 + 42 ≤ 601024) (hs0 : s0 + 132 ≤ 7293034) (h_1 : vp_in (x4 + 1) L) (h_2 : vp_in (x4 + 2) L) (h_3 : vp_in (x4 + 3) L) (h_4 : vp_in (x4 + 4) L) (h_5 : vp_in (x4 + 5) L) (h_6 : vp_in (x4 + 6) L)
    (K : ∀ (T' : Sd) (th' : Int32) (o' : Int64) (ex' : Nat → Option (Nat × Nat)) (ad' : Nat → Nat → Nat) (M' : Mp) (H : Heap) (locs : List Loc) (ls : Array Slot), Iv T' → Ix T' ex' → WA G T' T' th' o' ex' ad' M' → Hm G M' H → va_S (AG G) s.heap H locs → lv_has ls 8 [(0, .ref b), (1, .ref (ad' 0 0)), (2, .ref (ad' 14 0)), (3, .ref (ad' 28 0)), (4, .int x4)] → W p l e room_1 s m #[Value.ref b] below meth c H locs (c0 + 42) (s0 + 132) Q (F0 m 1326 ls [])) (ls : Array Slot) (hl : lv_has ls 8 [(0, .ref b), (1, .ref (ad 0 0)), (2, .ref (ad 14 0)), (3, .ref (ad 28 0)), (4, .int x4)]) (H : Heap) (locs : List Loc) (hM : Hm G M H) (hS : va_S (AG G) s.heap H locs) : W p l e room_1 s m #[Value.ref b] below meth c H locs c0 s0 Q (F0 m 765 ls []) := by
  obtain ⟨hx, hb, hr, hml, hown, hts0, hX, hbl, hlocks, hgv⟩ := id C0
  have hts := fun w h => hts0 w (wsL_law_in w h)
  have hbA : ¬ AG G b := by show ¬ G.2.2 ≤ b; rw [hG]; exact Nat.not_le.mpr hbl
  refine lv_aload_n hx hb dL_law_765 rfl (lv_at hl 1 rfl) ?_
  refine lv_aload_n hx hb dL_law_766 rfl (lv_at hl 0 rfl) ?_
  refine lv_iload hx hb dL_law_767 (lv_at hl 4 rfl) ?_
  refine lv_iconst (v := 1) hx hb dL_law_769 (by decide) ?_
  refine lv_iadd hx hb dL_law_770 ?_
  refine va_sld hx hb hX hbl hbA hS h_1 dL_law_771 ?_
  refine lv_aload_n hx hb dL_law_772 rfl (lv_at hl 3 rfl) ?_
  refine k_i (vx_runSW (As := [.ref (ad 0 0), .int (xs (x4 + 1).toNatClampNeg), .ref (ad 28 0)]) (rest := []) ⟨hx, hb, hml, hown, hts⟩ (c_L_closeOut hnt l G M T T th o ex ad (xs (x4 + 1).toNatClampNeg) hw hi hx9) (vx_cwSW 3 hts gL_law_L_closeOut rfl rfl rfl (by decide +kernel) ⟨Nat.le_of_ble_eq_true rfl, Nat.le_of_ble_eq_true rfl⟩) (preS_of hC hS hM) rfl rfl hl.1 rfl (lv_room (Nat.le_of_ble_eq_true rfl)) dL_law_773 ⟨(by first | omega | (show _ ≤ 601024; omega) | (show _ ≤ 7293034; omega)), (by first | omega | (show _ ≤ 601024; omega) | (show _ ≤ 7293034; omega))⟩) hS (fun r773 u773 H locs hp773 hM hS => ?_)
  have hM : Hm G u773 H := hM
  rcases hp773 with ⟨er, z1, hw1⟩ | ⟨er, ⟨z1, z2⟩, hw1⟩ | ⟨er, ⟨z1, z2⟩, ex1, hw1, hx1⟩
  · subst er
    have go1 : u773 (ad 28 0) = some (.inl (G.2.1 1, 1, .inr (.inl (fun _ => o)))) := hw1.1 28 0 _ rfl
    have gm1 : u773 (ad 14 0) = some (.inr (6, [.int th, .int (T.1 0 0), .ref (ad 15 0), .ref (ad 16 0), .ref (ad 17 0), .ref (ad 18 0), .int (T.1 5 0), .ref (ad 19 0), .ref (ad 20 0), .ref (ad 21 0), .ref (ad 22 0), .ref (ad 23 0), .ref (ad 24 0), .ref (ad 25 0), .ref (ad 26 0), .ref (ad 27 0)])) := hw1.1 14 0 _ rfl
    refine lv_istore (lv' := [(5, .int 1), (0, .ref b), (1, .ref (ad 0 0)), (2, .ref (ad 14 0)), (3, .ref (ad 28 0)), (4, .int x4)]) hx hb dL_law_776 hl (by decide) rfl (fun ls hl => ?_)
    refine lv_aload_n hx hb dL_law_778 rfl (lv_at hl 3 rfl) ?_
    refine lv_aload_n hx hb dL_law_779 rfl (lv_at hl 1 rfl) ?_
    refine lv_iload hx hb dL_law_780 (lv_at hl 5 rfl) ?_
    refine lv_iconst (v := 1) hx hb dL_law_782 (by decide) ?_
    refine lv_iadd hx hb dL_law_783 ?_
    refine va_sld hx hb hX hbl hbA hS h_1 dL_law_784 ?_
    refine k_l (va_runV (As := [.int (xs (x4 + 1).toNatClampNeg)]) (rest := []) ⟨hx, hb, hml, hown, hts⟩ (c_X6_closeOut l G u773 T T th o ex ad (xs (x4 + 1).toNatClampNeg) hw1 hi) (cwV 1 hts gL_law_X6_closeOut rfl rfl rfl (by decide +kernel) ⟨Nat.le_of_ble_eq_true rfl, Nat.le_of_ble_eq_true rfl⟩) (preV_of hC hS hM gm1 rfl) rfl rfl hl.1 rfl (lv_room (Nat.le_of_ble_eq_true rfl)) dL_law_785 ⟨(by first | omega | (show _ ≤ 601024; omega) | (show _ ≤ 7293034; omega)), (by first | omega | (show _ ≤ 601024; omega) | (show _ ≤ 7293034; omega))⟩) hS (fun r785 u785 H locs hp785 hM hS => ?_)
    have hM : Hm G u785 H := hM
    rcases hp785 with ⟨y1, hw2⟩ | ⟨y1, y2, hw2⟩ | ⟨y1, y2, er2, hw2⟩
    · have hMk : Hm G u785 H := hM
      have go2 : u785 (ad 28 0) = some (.inl (G.2.1 1, 1, .inr (.inl (fun _ => o)))) := hw2.1 28 0 _ rfl
      have gm2 : u785 (ad 14 0) = some (.inr (6, [.int 1, .int (T.1 0 0), .ref (ad 15 0), .ref (ad 16 0), .ref (ad 17 0), .ref (ad 18 0), .int (T.1 5 0), .ref (ad 19 0), .ref (ad 20 0), .ref (ad 21 0), .ref (ad 22 0), .ref (ad 23 0), .ref (ad 24 0), .ref (ad 25 0), .ref (ad 26 0), .ref (ad 27 0)])) := hw2.1 14 0 _ rfl
      refine lv_lstore (lv' := [(6, .long r785), (5, .int 1), (0, .ref b), (1, .ref (ad 0 0)), (2, .ref (ad 14 0)), (3, .ref (ad 28 0)), (4, .int x4)]) hx hb dL_law_788 hl (by decide) rfl (fun ls hl => ?_)
      refine lv_aload_n hx hb dL_law_790 rfl (lv_at hl 4 rfl) ?_
      refine k_i (va_runV (As := []) (rest := []) ⟨hx, hb, hml, hown, hts⟩ (c_X6_thrown l G u785 T T 1 o ex ad hw2) (cwV 0 hts gL_law_X6_thrown rfl rfl rfl (by decide +kernel) ⟨Nat.le_of_ble_eq_true rfl, Nat.le_of_ble_eq_true rfl⟩) (preV_of hC hS hM gm2 rfl) rfl rfl hl.1 rfl (lv_room (Nat.le_of_ble_eq_true rfl)) dL_law_791 ⟨(by first | omega | (show _ ≤ 601024; omega) | (show _ ≤ 7293034; omega)), (by first | omega | (show _ ≤ 601024; omega) | (show _ ≤ 7293034; omega))⟩) hS (fun r791 u791 H locs hp791 hM hS => ?_)
      have hM : Hm G u785 H := hM
      have hp791 : r791 = 1 := hp791
      subst hp791
      refine lv_iload hx hb dL_law_794 (lv_at hl 1 rfl) ?_
      refine lv_icmp_eq (tgt := 801) hx hb dL_law_796 (by decide) (fun c_796 => ?_) (fun c_796 => False.elim (by revert c_796; decide))
      refine lv_iload hx hb dL_law_801 (lv_at hl 1 rfl) ?_
      refine lv_if_ne (tgt := 817) hx hb dL_law_803 (by decide) (fun c_803 => ?_) (fun c_803 => False.elim (by revert c_803; decide))
      refine lv_goto (tgt := 1326) hx hb dL_law_817 (by decide) ?_
      refine W.widen (k := c0 + 42) (n := s0 + 132) (by omega) (by omega) ?_
      exact K T 1 o ex ad _ _ _ ls hi hx9 hw2 hM hS (lv_sub hl [2, 3, 4, 5, 6] rfl)
    · exact False.elim (by first | exact absurd z1 y1 | exact absurd y1 z1)
    · exact False.elim (by first | exact absurd z1 y1 | exact absurd y1 z1)
  · subst er
    have go5 : u773 (ad 28 0) = some (.inl (G.2.1 1, 1, .inr (.inl (fun _ => o)))) := hw1.1 28 0 _ rfl
    have gm5 : u773 (ad 14 0) = some (.inr (6, [.int th, .int (T.1 0 0), .ref (ad 15 0), .ref (ad 16 0), .ref (ad 17 0), .ref (ad 18 0), .int (T.1 5 0), .ref (ad 19 0), .ref (ad 20 0), .ref (ad 21 0), .ref (ad 22 0), .ref (ad 23 0), .ref (ad 24 0), .ref (ad 25 0), .ref (ad 26 0), .ref (ad 27 0)])) := hw1.1 14 0 _ rfl
    refine lv_istore (lv' := [(5, .int 2), (0, .ref b), (1, .ref (ad 0 0)), (2, .ref (ad 14 0)), (3, .ref (ad 28 0)), (4, .int x4)]) hx hb dL_law_776 hl (by decide) rfl (fun ls hl => ?_)
    refine lv_aload_n hx hb dL_law_778 rfl (lv_at hl 3 rfl) ?_
    refine lv_aload_n hx hb dL_law_779 rfl (lv_at hl 1 rfl) ?_
    refine lv_iload hx hb dL_law_780 (lv_at hl 5 rfl) ?_
    refine lv_iconst (v := 1) hx hb dL_law_782 (by decide) ?_
    refine lv_iadd hx hb dL_law_783 ?_
    refine va_sld hx hb hX hbl hbA hS h_1 dL_law_784 ?_
    refine k_l (va_runV (As := [.int (xs (x4 + 1).toNatClampNeg)]) (rest := []) ⟨hx, hb, hml, hown, hts⟩ (c_X6_closeOut l G u773 T T th o ex ad (xs (x4 + 1).toNatClampNeg) hw1 hi) (cwV 1 hts gL_law_X6_closeOut rfl rfl rfl (by decide +kernel) ⟨Nat.le_of_ble_eq_true rfl, Nat.le_of_ble_eq_true rfl⟩) (preV_of hC hS hM gm5 rfl) rfl rfl hl.1 rfl (lv_room (Nat.le_of_ble_eq_true rfl)) dL_law_785 ⟨(by first | omega | (show _ ≤ 601024; omega) | (show _ ≤ 7293034; omega)), (by first | omega | (show _ ≤ 601024; omega) | (show _ ≤ 7293034; omega))⟩) hS (fun r785 u785 H locs hp785 hM hS => ?_)
    have hM : Hm G u785 H := hM
    rcases hp785 with ⟨y1, hw2⟩ | ⟨y1, y2, hw2⟩ | ⟨y1, y2, er2, hw2⟩
    · exact False.elim (by first | exact absurd z1 y1 | exact absurd y1 z1)
    · have hMk : Hm G u785 H := hM
      have go6 : u785 (ad 28 0) = some (.inl (G.2.1 1, 1, .inr (.inl (fun _ => o)))) := hw2.1 28 0 _ rfl
      have gm6 : u785 (ad 14 0) = some (.inr (6, [.int 2, .int (T.1 0 0), .ref (ad 15 0), .ref (ad 16 0), .ref (ad 17 0), .ref (ad 18 0), .int (T.1 5 0), .ref (ad 19 0), .ref (ad 20 0), .ref (ad 21 0), .ref (ad 22 0), .ref (ad 23 0), .ref (ad 24 0), .ref (ad 25 0), .ref (ad 26 0), .ref (ad 27 0)])) := hw2.1 14 0 _ rfl
      refine lv_lstore (lv' := [(6, .long r785), (5, .int 2), (0, .ref b), (1, .ref (ad 0 0)), (2, .ref (ad 14 0)), (3, .ref (ad 28 0)), (4, .int x4)]) hx hb dL_law_788 hl (by decide) rfl (fun ls hl => ?_)
      refine lv_aload_n hx hb dL_law_790 rfl (lv_at hl 4 rfl) ?_
      refine k_i (va_runV (As := []) (rest := []) ⟨hx, hb, hml, hown, hts⟩ (c_X6_thrown l G u785 T T 2 o ex ad hw2) (cwV 0 hts gL_law_X6_thrown rfl rfl rfl (by decide +kernel) ⟨Nat.le_of_ble_eq_true rfl, Nat.le_of_ble_eq_true rfl⟩) (preV_of hC hS hM gm6 rfl) rfl rfl hl.1 rfl (lv_room (Nat.le_of_ble_eq_true rfl)) dL_law_791 ⟨(by first | omega | (show _ ≤ 601024; omega) | (show _ ≤ 7293034; omega)), (by first | omega | (show _ ≤ 601024; omega) | (show _ ≤ 7293034; omega))⟩) hS (fun r791 u791 H locs hp791 hM hS => ?_)
      have hM : Hm G u785 H := hM
      have hp791 : r791 = 2 := hp791
      subst hp791
      refine lv_iload hx hb dL_law_794 (lv_at hl 1 rfl) ?_
      refine lv_icmp_eq (tgt := 801) hx hb dL_law_796 (by decide) (fun c_796 => ?_) (fun c_796 => False.elim (by revert c_796; decide))
      refine lv_iload hx hb dL_law_801 (lv_at hl 1 rfl) ?_
      refine lv_if_ne (tgt := 817) hx hb dL_law_803 (by decide) (fun c_803 => ?_) (fun c_803 => False.elim (by revert c_803; decide))
      refine lv_goto (tgt := 1326) hx hb dL_law_817 (by decide) ?_
      refine W.widen (k := c0 + 42) (n := s0 + 132) (by omega) (by omega) ?_
      exact K T 2 o ex ad _ _ _ ls hi hx9 hw2 hM hS (lv_sub hl [2, 3, 4, 5, 6] rfl)
    · exact False.elim (by first | exact absurd z2 y2 | exact absurd y2 z2)
  · subst er
    have go9 : u773 (ad 28 0) = some (.inl (G.2.1 1, 1, .inr (.inl (fun _ => (mg T ((xs (x4 + 1).toNatClampNeg).toNatClampNeg)))))) := hw1.1 28 0 _ rfl
    have gm9 : u773 (ad 14 0) = some (.inr (6, [.int th, .int (T.1 0 0), .ref (ad 15 0), .ref (ad 16 0), .ref (ad 17 0), .ref (ad 18 0), .int (T.1 5 0), .ref (ad 19 0), .ref (ad 20 0), .ref (ad 21 0), .ref (ad 22 0), .ref (ad 23 0), .ref (ad 24 0), .ref (ad 25 0), .ref (ad 26 0), .ref (ad 27 0)])) := hw1.1 14 0 _ rfl
    refine lv_istore (lv' := [(5, .int 0), (0, .ref b), (1, .ref (ad 0 0)), (2, .ref (ad 14 0)), (3, .ref (ad 28 0)), (4, .int x4)]) hx hb dL_law_776 hl (by decide) rfl (fun ls hl => ?_)
    refine lv_aload_n hx hb dL_law_778 rfl (lv_at hl 3 rfl) ?_
    refine lv_aload_n hx hb dL_law_779 rfl (lv_at hl 1 rfl) ?_
    refine lv_iload hx hb dL_law_780 (lv_at hl 5 rfl) ?_
    refine lv_iconst (v := 1) hx hb dL_law_782 (by decide) ?_
    refine lv_iadd hx hb dL_law_783 ?_
    refine va_sld hx hb hX hbl hbA hS h_1 dL_law_784 ?_
    refine k_l (va_runV (As := [.int (xs (x4 + 1).toNatClampNeg)]) (rest := []) ⟨hx, hb, hml, hown, hts⟩ (c_X6_closeOut l G u773 (edS T ((xs (x4 + 1).toNatClampNeg).toNatClampNeg)) T th (mg T ((xs (x4 + 1).toNatClampNeg).toNatClampNeg)) ex1 ad (xs (x4 + 1).toNatClampNeg) hw1 hi) (cwV 1 hts gL_law_X6_closeOut rfl rfl rfl (by decide +kernel) ⟨Nat.le_of_ble_eq_true rfl, Nat.le_of_ble_eq_true rfl⟩) (preV_of hC hS hM gm9 rfl) rfl rfl hl.1 rfl (lv_room (Nat.le_of_ble_eq_true rfl)) dL_law_785 ⟨(by first | omega | (show _ ≤ 601024; omega) | (show _ ≤ 7293034; omega)), (by first | omega | (show _ ≤ 601024; omega) | (show _ ≤ 7293034; omega))⟩) hS (fun r785 u785 H locs hp785 hM hS => ?_)
    have hM : Hm G u785 H := hM
    rcases hp785 with ⟨y1, hw2⟩ | ⟨y1, y2, hw2⟩ | ⟨y1, y2, er2, hw2⟩
    · exact False.elim (by first | exact absurd z1 y1 | exact absurd y1 z1)
    · exact False.elim (by first | exact absurd z2 y2 | exact absurd y2 z2)
    · subst er2
      have hMk : Hm G u785 H := hM
      have go10 : u785 (ad 28 0) = some (.inl (G.2.1 1, 1, .inr (.inl (fun _ => (mg T ((xs (x4 + 1).toNatClampNeg).toNatClampNeg)))))) := hw2.1 28 0 _ rfl
      have gm10 : u785 (ad 14 0) = some (.inr (6, [.int 0, .int ((edS T ((xs (x4 + 1).toNatClampNeg).toNatClampNeg)).1 0 0), .ref (ad 15 0), .ref (ad 16 0), .ref (ad 17 0), .ref (ad 18 0), .int ((edS T ((xs (x4 + 1).toNatClampNeg).toNatClampNeg)).1 5 0), .ref (ad 19 0), .ref (ad 20 0), .ref (ad 21 0), .ref (ad 22 0), .ref (ad 23 0), .ref (ad 24 0), .ref (ad 25 0), .ref (ad 26 0), .ref (ad 27 0)])) := hw2.1 14 0 _ rfl
      refine lv_lstore (lv' := [(6, .long (mg T ((xs (x4 + 1).toNatClampNeg).toNatClampNeg))), (5, .int 0), (0, .ref b), (1, .ref (ad 0 0)), (2, .ref (ad 14 0)), (3, .ref (ad 28 0)), (4, .int x4)]) hx hb dL_law_788 hl (by decide) rfl (fun ls hl => ?_)
      refine lv_aload_n hx hb dL_law_790 rfl (lv_at hl 4 rfl) ?_
      refine k_i (va_runV (As := []) (rest := []) ⟨hx, hb, hml, hown, hts⟩ (c_X6_thrown l G u785 (edS T ((xs (x4 + 1).toNatClampNeg).toNatClampNeg)) (edS T ((xs (x4 + 1).toNatClampNeg).toNatClampNeg)) 0 (mg T ((xs (x4 + 1).toNatClampNeg).toNatClampNeg)) ex1 ad hw2) (cwV 0 hts gL_law_X6_thrown rfl rfl rfl (by decide +kernel) ⟨Nat.le_of_ble_eq_true rfl, Nat.le_of_ble_eq_true rfl⟩) (preV_of hC hS hM gm10 rfl) rfl rfl hl.1 rfl (lv_room (Nat.le_of_ble_eq_true rfl)) dL_law_791 ⟨(by first | omega | (show _ ≤ 601024; omega) | (show _ ≤ 7293034; omega)), (by first | omega | (show _ ≤ 601024; omega) | (show _ ≤ 7293034; omega))⟩) hS (fun r791 u791 H locs hp791 hM hS => ?_)
      have hM : Hm G u785 H := hM
      have hp791 : r791 = 0 := hp791
      subst hp791
      refine lv_iload hx hb dL_law_794 (lv_at hl 1 rfl) ?_
      refine lv_icmp_eq (tgt := 801) hx hb dL_law_796 (by decide) (fun c_796 => ?_) (fun c_796 => False.elim (by revert c_796; decide))
      refine lv_iload hx hb dL_law_801 (lv_at hl 1 rfl) ?_
      refine lv_if_ne (tgt := 817) hx hb dL_law_803 (by decide) (fun c_803 => False.elim (by revert c_803; decide)) (fun c_803 => ?_)
      refine lv_aload_n hx hb dL_law_806 rfl (lv_at hl 5 rfl) ?_
      refine lv_iconst (v := 0) hx hb dL_law_807 (by decide) ?_
      refine m_lald (a := (ad 28 0)) hx hb hC hM go10 (vin_of (n := 1) 1 (by decide) (by decide)) dL_law_808 ?_
      refine lv_lload hx hb dL_law_809 (lv_at hl 0 rfl) ?_
      refine W.lcmp hx hb dL_law_811 ?_
      refine lv_if_eq (tgt := 817) hx hb dL_law_812 (by decide) (fun c_812 => ?_) (fun c_812 => False.elim (by exact c_812 ((lg_cmp_eq _ _).mpr rfl)))
      refine lv_goto (tgt := 1326) hx hb dL_law_817 (by decide) ?_
      refine W.widen (k := c0 + 42) (n := s0 + 132) (by omega) (by omega) ?_
      exact K (edS T ((xs (x4 + 1).toNatClampNeg).toNatClampNeg)) 0 (mg T ((xs (x4 + 1).toNatClampNeg).toNatClampNeg)) ex1 ad _ _ _ ls (iv_ed hi) hx1 (hw2) hM hS (lv_sub hl [2, 3, 4, 5, 6] rfl)
set_option maxHeartbeats 4000000 in
set_option maxRecDepth 100000 in
theorem law_9 {p : Program} {l : Launch} (hnt : l.stackTraces = false) {e : Env} {s : State} {m : MethodId} {below : List Frame} {meth : Method} {c : Code} {b L : Nat} {xs : Nat → Int32} (C0 : lw_At p s m meth c b L xs) {G : Gx} {T : Sd} {th : Int32} {o : Int64} {ex : Nat → Option (Nat × Nat)} {ad : Nat → Nat → Nat} {M : Mp} {c0 s0 : Nat} {x4 : Int32} {Q : State → Prop} (k9 : Nat) (hk9 : k9 = 20) (hC : Cx G s) (hG : G.2.2 = s.heap.size) (hi : Iv T) (hx9 : Ix T ex) (hw : WA G T T th o ex ad M) (hc0 : c0 + 42 ≤ 601024) (hs0 : s0 + 132 ≤ 7293034) (h_1 : vp_in (x4 + 1) L) (h_2 : vp_in (x4 + 2) L) (h_3 : vp_in (x4 + 3) L) (h_4 : vp_in (x4 + 4) L) (h_5 : vp_in (x4 + 5) L) (h_6 : vp_in (x4 + 6) L)
    (K : ∀ (T' : Sd) (th' : Int32) (o' : Int64) (ex' : Nat → Option (Nat × Nat)) (ad' : Nat → Nat → Nat) (M' : Mp) (H : Heap) (locs : List Loc) (ls : Array Slot), Iv T' → Ix T' ex' → WA G T' T' th' o' ex' ad' M' → Hm G M' H → va_S (AG G) s.heap H locs → lv_has ls 8 [(0, .ref b), (1, .ref (ad' 0 0)), (2, .ref (ad' 14 0)), (3, .ref (ad' 28 0)), (4, .int x4)] → W p l e room_1 s m #[Value.ref b] below meth c H locs (c0 + 42) (s0 + 132) Q (F0 m 1326 ls [])) (ls : Array Slot) (hl : lv_has ls 8 [(0, .ref b), (1, .ref (ad 0 0)), (2, .ref (ad 14 0)), (3, .ref (ad 28 0)), (4, .int x4)]) (H : Heap) (locs : List Loc) (hM : Hm G M H) (hS : va_S (AG G) s.heap H locs) : W p l e room_1 s m #[Value.ref b] below meth c H locs c0 s0 Q (F0 m 820 ls []) := by
  obtain ⟨hx, hb, hr, hml, hown, hts0, hX, hbl, hlocks, hgv⟩ := id C0
  have hts := fun w h => hts0 w (wsL_law_in w h)
  have hbA : ¬ AG G b := by show ¬ G.2.2 ≤ b; rw [hG]; exact Nat.not_le.mpr hbl
  refine lv_aload_n hx hb dL_law_820 rfl (lv_at hl 1 rfl) ?_
  refine lv_aload_n hx hb dL_law_821 rfl (lv_at hl 0 rfl) ?_
  refine lv_iload hx hb dL_law_822 (lv_at hl 4 rfl) ?_
  refine lv_iconst (v := 1) hx hb dL_law_824 (by decide) ?_
  refine lv_iadd hx hb dL_law_825 ?_
  refine va_sld hx hb hX hbl hbA hS h_1 dL_law_826 ?_
  refine lv_aload_n hx hb dL_law_827 rfl (lv_at hl 3 rfl) ?_
  refine k_i (vx_runSW (As := [.ref (ad 0 0), .int (xs (x4 + 1).toNatClampNeg), .ref (ad 28 0)]) (rest := []) ⟨hx, hb, hml, hown, hts⟩ (c_L_left hnt l G M T T th o ex ad (xs (x4 + 1).toNatClampNeg) hw hi) (vx_cwSW 3 hts gL_law_L_left rfl rfl rfl (by decide +kernel) ⟨Nat.le_of_ble_eq_true rfl, Nat.le_of_ble_eq_true rfl⟩) (preS_of hC hS hM) rfl rfl hl.1 rfl (lv_room (Nat.le_of_ble_eq_true rfl)) dL_law_828 ⟨(by first | omega | (show _ ≤ 601024; omega) | (show _ ≤ 7293034; omega)), (by first | omega | (show _ ≤ 601024; omega) | (show _ ≤ 7293034; omega))⟩) hS (fun r828 u828 H locs hp828 hM hS => ?_)
  have hM : Hm G u828 H := hM
  rcases hp828 with ⟨er, z1, hw1⟩ | ⟨er, z1, hw1⟩
  · subst er
    have go1 : u828 (ad 28 0) = some (.inl (G.2.1 1, 1, .inr (.inl (fun _ => o)))) := hw1.1 28 0 _ rfl
    have gm1 : u828 (ad 14 0) = some (.inr (6, [.int th, .int (T.1 0 0), .ref (ad 15 0), .ref (ad 16 0), .ref (ad 17 0), .ref (ad 18 0), .int (T.1 5 0), .ref (ad 19 0), .ref (ad 20 0), .ref (ad 21 0), .ref (ad 22 0), .ref (ad 23 0), .ref (ad 24 0), .ref (ad 25 0), .ref (ad 26 0), .ref (ad 27 0)])) := hw1.1 14 0 _ rfl
    refine lv_istore (lv' := [(5, .int 1), (0, .ref b), (1, .ref (ad 0 0)), (2, .ref (ad 14 0)), (3, .ref (ad 28 0)), (4, .int x4)]) hx hb dL_law_831 hl (by decide) rfl (fun ls hl => ?_)
    refine lv_aload_n hx hb dL_law_833 rfl (lv_at hl 3 rfl) ?_
    refine lv_aload_n hx hb dL_law_834 rfl (lv_at hl 1 rfl) ?_
    refine lv_iload hx hb dL_law_835 (lv_at hl 5 rfl) ?_
    refine lv_iconst (v := 1) hx hb dL_law_837 (by decide) ?_
    refine lv_iadd hx hb dL_law_838 ?_
    refine va_sld hx hb hX hbl hbA hS h_1 dL_law_839 ?_
    refine k_i (va_runV (As := [.int (xs (x4 + 1).toNatClampNeg)]) (rest := []) ⟨hx, hb, hml, hown, hts⟩ (c_X6_left l G u828 T T th o ex ad (xs (x4 + 1).toNatClampNeg) hw1 hi) (cwV 1 hts gL_law_X6_left rfl rfl rfl (by decide +kernel) ⟨Nat.le_of_ble_eq_true rfl, Nat.le_of_ble_eq_true rfl⟩) (preV_of hC hS hM gm1 rfl) rfl rfl hl.1 rfl (lv_room (Nat.le_of_ble_eq_true rfl)) dL_law_840 ⟨(by first | omega | (show _ ≤ 601024; omega) | (show _ ≤ 7293034; omega)), (by first | omega | (show _ ≤ 601024; omega) | (show _ ≤ 7293034; omega))⟩) hS (fun r840 u840 H locs hp840 hM hS => ?_)
    have hM : Hm G u840 H := hM
    rcases hp840 with ⟨y1, hw2⟩ | ⟨y1, er2, hw2⟩
    · have hMk : Hm G u840 H := hM
      have go2 : u840 (ad 28 0) = some (.inl (G.2.1 1, 1, .inr (.inl (fun _ => o)))) := hw2.1 28 0 _ rfl
      have gm2 : u840 (ad 14 0) = some (.inr (6, [.int 1, .int (T.1 0 0), .ref (ad 15 0), .ref (ad 16 0), .ref (ad 17 0), .ref (ad 18 0), .int (T.1 5 0), .ref (ad 19 0), .ref (ad 20 0), .ref (ad 21 0), .ref (ad 22 0), .ref (ad 23 0), .ref (ad 24 0), .ref (ad 25 0), .ref (ad 26 0), .ref (ad 27 0)])) := hw2.1 14 0 _ rfl
      refine lv_istore (lv' := [(6, .int r840), (5, .int 1), (0, .ref b), (1, .ref (ad 0 0)), (2, .ref (ad 14 0)), (3, .ref (ad 28 0)), (4, .int x4)]) hx hb dL_law_843 hl (by decide) rfl (fun ls hl => ?_)
      refine lv_aload_n hx hb dL_law_845 rfl (lv_at hl 4 rfl) ?_
      refine k_i (va_runV (As := []) (rest := []) ⟨hx, hb, hml, hown, hts⟩ (c_X6_thrown l G u840 T T 1 o ex ad hw2) (cwV 0 hts gL_law_X6_thrown rfl rfl rfl (by decide +kernel) ⟨Nat.le_of_ble_eq_true rfl, Nat.le_of_ble_eq_true rfl⟩) (preV_of hC hS hM gm2 rfl) rfl rfl hl.1 rfl (lv_room (Nat.le_of_ble_eq_true rfl)) dL_law_846 ⟨(by first | omega | (show _ ≤ 601024; omega) | (show _ ≤ 7293034; omega)), (by first | omega | (show _ ≤ 601024; omega) | (show _ ≤ 7293034; omega))⟩) hS (fun r846 u846 H locs hp846 hM hS => ?_)
      have hM : Hm G u840 H := hM
      have hp846 : r846 = 1 := hp846
      subst hp846
      refine lv_iload hx hb dL_law_849 (lv_at hl 1 rfl) ?_
      refine lv_icmp_eq (tgt := 856) hx hb dL_law_851 (by decide) (fun c_851 => ?_) (fun c_851 => False.elim (by revert c_851; decide))
      refine lv_iload hx hb dL_law_856 (lv_at hl 1 rfl) ?_
      refine lv_if_ne (tgt := 873) hx hb dL_law_858 (by decide) (fun c_858 => ?_) (fun c_858 => False.elim (by revert c_858; decide))
      refine lv_goto (tgt := 1326) hx hb dL_law_873 (by decide) ?_
      refine W.widen (k := c0 + 42) (n := s0 + 132) (by omega) (by omega) ?_
      exact K T 1 o ex ad _ _ _ ls hi hx9 hw2 hM hS (lv_sub hl [2, 3, 4, 5, 6] rfl)
    · exact False.elim (by first | exact absurd z1 y1 | exact absurd y1 z1)
  · subst er
    have go5 : u828 (ad 28 0) = some (.inl (G.2.1 1, 1, .inr (.inl (fun _ => (T.1 9 (xs (x4 + 1).toNatClampNeg).toNatClampNeg).toInt64)))) := hw1.1 28 0 _ rfl
    have gm5 : u828 (ad 14 0) = some (.inr (6, [.int th, .int (T.1 0 0), .ref (ad 15 0), .ref (ad 16 0), .ref (ad 17 0), .ref (ad 18 0), .int (T.1 5 0), .ref (ad 19 0), .ref (ad 20 0), .ref (ad 21 0), .ref (ad 22 0), .ref (ad 23 0), .ref (ad 24 0), .ref (ad 25 0), .ref (ad 26 0), .ref (ad 27 0)])) := hw1.1 14 0 _ rfl
    refine lv_istore (lv' := [(5, .int 0), (0, .ref b), (1, .ref (ad 0 0)), (2, .ref (ad 14 0)), (3, .ref (ad 28 0)), (4, .int x4)]) hx hb dL_law_831 hl (by decide) rfl (fun ls hl => ?_)
    refine lv_aload_n hx hb dL_law_833 rfl (lv_at hl 3 rfl) ?_
    refine lv_aload_n hx hb dL_law_834 rfl (lv_at hl 1 rfl) ?_
    refine lv_iload hx hb dL_law_835 (lv_at hl 5 rfl) ?_
    refine lv_iconst (v := 1) hx hb dL_law_837 (by decide) ?_
    refine lv_iadd hx hb dL_law_838 ?_
    refine va_sld hx hb hX hbl hbA hS h_1 dL_law_839 ?_
    refine k_i (va_runV (As := [.int (xs (x4 + 1).toNatClampNeg)]) (rest := []) ⟨hx, hb, hml, hown, hts⟩ (c_X6_left l G u828 T T th ((T.1 9 (xs (x4 + 1).toNatClampNeg).toNatClampNeg).toInt64) ex ad (xs (x4 + 1).toNatClampNeg) hw1 hi) (cwV 1 hts gL_law_X6_left rfl rfl rfl (by decide +kernel) ⟨Nat.le_of_ble_eq_true rfl, Nat.le_of_ble_eq_true rfl⟩) (preV_of hC hS hM gm5 rfl) rfl rfl hl.1 rfl (lv_room (Nat.le_of_ble_eq_true rfl)) dL_law_840 ⟨(by first | omega | (show _ ≤ 601024; omega) | (show _ ≤ 7293034; omega)), (by first | omega | (show _ ≤ 601024; omega) | (show _ ≤ 7293034; omega))⟩) hS (fun r840 u840 H locs hp840 hM hS => ?_)
    have hM : Hm G u840 H := hM
    rcases hp840 with ⟨y1, hw2⟩ | ⟨y1, er2, hw2⟩
    · exact False.elim (by first | exact absurd z1 y1 | exact absurd y1 z1)
    · subst er2
      have hMk : Hm G u840 H := hM
      have go6 : u840 (ad 28 0) = some (.inl (G.2.1 1, 1, .inr (.inl (fun _ => (T.1 9 (xs (x4 + 1).toNatClampNeg).toNatClampNeg).toInt64)))) := hw2.1 28 0 _ rfl
      have gm6 : u840 (ad 14 0) = some (.inr (6, [.int 0, .int (T.1 0 0), .ref (ad 15 0), .ref (ad 16 0), .ref (ad 17 0), .ref (ad 18 0), .int (T.1 5 0), .ref (ad 19 0), .ref (ad 20 0), .ref (ad 21 0), .ref (ad 22 0), .ref (ad 23 0), .ref (ad 24 0), .ref (ad 25 0), .ref (ad 26 0), .ref (ad 27 0)])) := hw2.1 14 0 _ rfl
      refine lv_istore (lv' := [(6, .int (T.1 9 (xs (x4 + 1).toNatClampNeg).toNatClampNeg)), (5, .int 0), (0, .ref b), (1, .ref (ad 0 0)), (2, .ref (ad 14 0)), (3, .ref (ad 28 0)), (4, .int x4)]) hx hb dL_law_843 hl (by decide) rfl (fun ls hl => ?_)
      refine lv_aload_n hx hb dL_law_845 rfl (lv_at hl 4 rfl) ?_
      refine k_i (va_runV (As := []) (rest := []) ⟨hx, hb, hml, hown, hts⟩ (c_X6_thrown l G u840 T T 0 ((T.1 9 (xs (x4 + 1).toNatClampNeg).toNatClampNeg).toInt64) ex ad hw2) (cwV 0 hts gL_law_X6_thrown rfl rfl rfl (by decide +kernel) ⟨Nat.le_of_ble_eq_true rfl, Nat.le_of_ble_eq_true rfl⟩) (preV_of hC hS hM gm6 rfl) rfl rfl hl.1 rfl (lv_room (Nat.le_of_ble_eq_true rfl)) dL_law_846 ⟨(by first | omega | (show _ ≤ 601024; omega) | (show _ ≤ 7293034; omega)), (by first | omega | (show _ ≤ 601024; omega) | (show _ ≤ 7293034; omega))⟩) hS (fun r846 u846 H locs hp846 hM hS => ?_)
      have hM : Hm G u840 H := hM
      have hp846 : r846 = 0 := hp846
      subst hp846
      refine lv_iload hx hb dL_law_849 (lv_at hl 1 rfl) ?_
      refine lv_icmp_eq (tgt := 856) hx hb dL_law_851 (by decide) (fun c_851 => ?_) (fun c_851 => False.elim (by revert c_851; decide))
      refine lv_iload hx hb dL_law_856 (lv_at hl 1 rfl) ?_
      refine lv_if_ne (tgt := 873) hx hb dL_law_858 (by decide) (fun c_858 => False.elim (by revert c_858; decide)) (fun c_858 => ?_)
      refine lv_aload_n hx hb dL_law_861 rfl (lv_at hl 5 rfl) ?_
      refine lv_iconst (v := 0) hx hb dL_law_862 (by decide) ?_
      refine m_lald (a := (ad 28 0)) hx hb hC hM go6 (vin_of (n := 1) 1 (by decide) (by decide)) dL_law_863 ?_
      refine lv_iload hx hb dL_law_864 (lv_at hl 0 rfl) ?_
      refine lv_i2l hx hb dL_law_866 rfl ?_
      refine W.lcmp hx hb dL_law_867 ?_
      refine lv_if_eq (tgt := 873) hx hb dL_law_868 (by decide) (fun c_868 => ?_) (fun c_868 => False.elim (by exact c_868 ((lg_cmp_eq _ _).mpr rfl)))
      refine lv_goto (tgt := 1326) hx hb dL_law_873 (by decide) ?_
      refine W.widen (k := c0 + 42) (n := s0 + 132) (by omega) (by omega) ?_
      exact K T 0 ((T.1 9 (xs (x4 + 1).toNatClampNeg).toNatClampNeg).toInt64) ex ad _ _ _ ls hi hx9 (hw2) hM hS (lv_sub hl [2, 3, 4, 5, 6] rfl)
set_option maxHeartbeats 4000000 in
set_option maxRecDepth 100000 in
theorem law_10 {p : Program} {l : Launch} (hnt : l.stackTraces = false) {e : Env} {s : State} {m : MethodId} {below : List Frame} {meth : Method} {c : Code} {b L : Nat} {xs : Nat → Int32} (C0 : lw_At p s m meth c b L xs) {G : Gx} {T : Sd} {th : Int32} {o : Int64} {ex : Nat → Option (Nat × Nat)} {ad : Nat → Nat → Nat} {M : Mp} {c0 s0 : Nat} {x4 : Int32} {Q : State → Prop} (k9 : Nat) (hk9 : k9 = 20) (hC : Cx G s) (hG : G.2.2 = s.heap.size) (hi : Iv T) (hx9 : Ix T ex) (hw : WA G T T th o ex ad M) (hc0 : c0 + 42 ≤ 601024) (hs0 : s0 + 132 ≤ 7293034) (h_1 : vp_in (x4 + 1) L) (h_2 : vp_in (x4 + 2) L) (h_3 : vp_in (x4 + 3) L) (h_4 : vp_in (x4 + 4) L) (h_5 : vp_in (x4 + 5) L) (h_6 : vp_in (x4 + 6) L)
    (K : ∀ (T' : Sd) (th' : Int32) (o' : Int64) (ex' : Nat → Option (Nat × Nat)) (ad' : Nat → Nat → Nat) (M' : Mp) (H : Heap) (locs : List Loc) (ls : Array Slot), Iv T' → Ix T' ex' → WA G T' T' th' o' ex' ad' M' → Hm G M' H → va_S (AG G) s.heap H locs → lv_has ls 8 [(0, .ref b), (1, .ref (ad' 0 0)), (2, .ref (ad' 14 0)), (3, .ref (ad' 28 0)), (4, .int x4)] → W p l e room_1 s m #[Value.ref b] below meth c H locs (c0 + 42) (s0 + 132) Q (F0 m 1326 ls [])) (ls : Array Slot) (hl : lv_has ls 8 [(0, .ref b), (1, .ref (ad 0 0)), (2, .ref (ad 14 0)), (3, .ref (ad 28 0)), (4, .int x4)]) (H : Heap) (locs : List Loc) (hM : Hm G M H) (hS : va_S (AG G) s.heap H locs) : W p l e room_1 s m #[Value.ref b] below meth c H locs c0 s0 Q (F0 m 876 ls []) := by
  obtain ⟨hx, hb, hr, hml, hown, hts0, hX, hbl, hlocks, hgv⟩ := id C0
  have hts := fun w h => hts0 w (wsL_law_in w h)
  have hbA : ¬ AG G b := by show ¬ G.2.2 ≤ b; rw [hG]; exact Nat.not_le.mpr hbl
  refine lv_aload_n hx hb dL_law_876 rfl (lv_at hl 1 rfl) ?_
  refine lv_aload_n hx hb dL_law_877 rfl (lv_at hl 0 rfl) ?_
  refine lv_iload hx hb dL_law_878 (lv_at hl 4 rfl) ?_
  refine lv_iconst (v := 1) hx hb dL_law_880 (by decide) ?_
  refine lv_iadd hx hb dL_law_881 ?_
  refine va_sld hx hb hX hbl hbA hS h_1 dL_law_882 ?_
  refine lv_aload_n hx hb dL_law_883 rfl (lv_at hl 3 rfl) ?_
  refine k_i (vx_runSW (As := [.ref (ad 0 0), .int (xs (x4 + 1).toNatClampNeg), .ref (ad 28 0)]) (rest := []) ⟨hx, hb, hml, hown, hts⟩ (c_L_rate hnt l G M T T th o ex ad (xs (x4 + 1).toNatClampNeg) hw hi) (vx_cwSW 3 hts gL_law_L_rate rfl rfl rfl (by decide +kernel) ⟨Nat.le_of_ble_eq_true rfl, Nat.le_of_ble_eq_true rfl⟩) (preS_of hC hS hM) rfl rfl hl.1 rfl (lv_room (Nat.le_of_ble_eq_true rfl)) dL_law_884 ⟨(by first | omega | (show _ ≤ 601024; omega) | (show _ ≤ 7293034; omega)), (by first | omega | (show _ ≤ 601024; omega) | (show _ ≤ 7293034; omega))⟩) hS (fun r884 u884 H locs hp884 hM hS => ?_)
  have hM : Hm G u884 H := hM
  rcases hp884 with ⟨er, z1, hw1⟩ | ⟨er, z1, hw1⟩
  · subst er
    have go1 : u884 (ad 28 0) = some (.inl (G.2.1 1, 1, .inr (.inl (fun _ => o)))) := hw1.1 28 0 _ rfl
    have gm1 : u884 (ad 14 0) = some (.inr (6, [.int th, .int (T.1 0 0), .ref (ad 15 0), .ref (ad 16 0), .ref (ad 17 0), .ref (ad 18 0), .int (T.1 5 0), .ref (ad 19 0), .ref (ad 20 0), .ref (ad 21 0), .ref (ad 22 0), .ref (ad 23 0), .ref (ad 24 0), .ref (ad 25 0), .ref (ad 26 0), .ref (ad 27 0)])) := hw1.1 14 0 _ rfl
    refine lv_istore (lv' := [(5, .int 1), (0, .ref b), (1, .ref (ad 0 0)), (2, .ref (ad 14 0)), (3, .ref (ad 28 0)), (4, .int x4)]) hx hb dL_law_887 hl (by decide) rfl (fun ls hl => ?_)
    refine lv_aload_n hx hb dL_law_889 rfl (lv_at hl 3 rfl) ?_
    refine lv_aload_n hx hb dL_law_890 rfl (lv_at hl 1 rfl) ?_
    refine lv_iload hx hb dL_law_891 (lv_at hl 5 rfl) ?_
    refine lv_iconst (v := 1) hx hb dL_law_893 (by decide) ?_
    refine lv_iadd hx hb dL_law_894 ?_
    refine va_sld hx hb hX hbl hbA hS h_1 dL_law_895 ?_
    refine k_i (va_runV (As := [.int (xs (x4 + 1).toNatClampNeg)]) (rest := []) ⟨hx, hb, hml, hown, hts⟩ (c_X6_rate l G u884 T T th o ex ad (xs (x4 + 1).toNatClampNeg) hw1 hi) (cwV 1 hts gL_law_X6_rate rfl rfl rfl (by decide +kernel) ⟨Nat.le_of_ble_eq_true rfl, Nat.le_of_ble_eq_true rfl⟩) (preV_of hC hS hM gm1 rfl) rfl rfl hl.1 rfl (lv_room (Nat.le_of_ble_eq_true rfl)) dL_law_896 ⟨(by first | omega | (show _ ≤ 601024; omega) | (show _ ≤ 7293034; omega)), (by first | omega | (show _ ≤ 601024; omega) | (show _ ≤ 7293034; omega))⟩) hS (fun r896 u896 H locs hp896 hM hS => ?_)
    have hM : Hm G u896 H := hM
    rcases hp896 with ⟨y1, hw2⟩ | ⟨y1, er2, hw2⟩
    · have hMk : Hm G u896 H := hM
      have go2 : u896 (ad 28 0) = some (.inl (G.2.1 1, 1, .inr (.inl (fun _ => o)))) := hw2.1 28 0 _ rfl
      have gm2 : u896 (ad 14 0) = some (.inr (6, [.int 1, .int (T.1 0 0), .ref (ad 15 0), .ref (ad 16 0), .ref (ad 17 0), .ref (ad 18 0), .int (T.1 5 0), .ref (ad 19 0), .ref (ad 20 0), .ref (ad 21 0), .ref (ad 22 0), .ref (ad 23 0), .ref (ad 24 0), .ref (ad 25 0), .ref (ad 26 0), .ref (ad 27 0)])) := hw2.1 14 0 _ rfl
      refine lv_istore (lv' := [(6, .int r896), (5, .int 1), (0, .ref b), (1, .ref (ad 0 0)), (2, .ref (ad 14 0)), (3, .ref (ad 28 0)), (4, .int x4)]) hx hb dL_law_899 hl (by decide) rfl (fun ls hl => ?_)
      refine lv_aload_n hx hb dL_law_901 rfl (lv_at hl 4 rfl) ?_
      refine k_i (va_runV (As := []) (rest := []) ⟨hx, hb, hml, hown, hts⟩ (c_X6_thrown l G u896 T T 1 o ex ad hw2) (cwV 0 hts gL_law_X6_thrown rfl rfl rfl (by decide +kernel) ⟨Nat.le_of_ble_eq_true rfl, Nat.le_of_ble_eq_true rfl⟩) (preV_of hC hS hM gm2 rfl) rfl rfl hl.1 rfl (lv_room (Nat.le_of_ble_eq_true rfl)) dL_law_902 ⟨(by first | omega | (show _ ≤ 601024; omega) | (show _ ≤ 7293034; omega)), (by first | omega | (show _ ≤ 601024; omega) | (show _ ≤ 7293034; omega))⟩) hS (fun r902 u902 H locs hp902 hM hS => ?_)
      have hM : Hm G u896 H := hM
      have hp902 : r902 = 1 := hp902
      subst hp902
      refine lv_iload hx hb dL_law_905 (lv_at hl 1 rfl) ?_
      refine lv_icmp_eq (tgt := 912) hx hb dL_law_907 (by decide) (fun c_907 => ?_) (fun c_907 => False.elim (by revert c_907; decide))
      refine lv_iload hx hb dL_law_912 (lv_at hl 1 rfl) ?_
      refine lv_if_ne (tgt := 929) hx hb dL_law_914 (by decide) (fun c_914 => ?_) (fun c_914 => False.elim (by revert c_914; decide))
      refine lv_goto (tgt := 1326) hx hb dL_law_929 (by decide) ?_
      refine W.widen (k := c0 + 42) (n := s0 + 132) (by omega) (by omega) ?_
      exact K T 1 o ex ad _ _ _ ls hi hx9 hw2 hM hS (lv_sub hl [2, 3, 4, 5, 6] rfl)
    · exact False.elim (by first | exact absurd z1 y1 | exact absurd y1 z1)
  · subst er
    have go5 : u884 (ad 28 0) = some (.inl (G.2.1 1, 1, .inr (.inl (fun _ => (T.1 10 (xs (x4 + 1).toNatClampNeg).toNatClampNeg).toInt64)))) := hw1.1 28 0 _ rfl
    have gm5 : u884 (ad 14 0) = some (.inr (6, [.int th, .int (T.1 0 0), .ref (ad 15 0), .ref (ad 16 0), .ref (ad 17 0), .ref (ad 18 0), .int (T.1 5 0), .ref (ad 19 0), .ref (ad 20 0), .ref (ad 21 0), .ref (ad 22 0), .ref (ad 23 0), .ref (ad 24 0), .ref (ad 25 0), .ref (ad 26 0), .ref (ad 27 0)])) := hw1.1 14 0 _ rfl
    refine lv_istore (lv' := [(5, .int 0), (0, .ref b), (1, .ref (ad 0 0)), (2, .ref (ad 14 0)), (3, .ref (ad 28 0)), (4, .int x4)]) hx hb dL_law_887 hl (by decide) rfl (fun ls hl => ?_)
    refine lv_aload_n hx hb dL_law_889 rfl (lv_at hl 3 rfl) ?_
    refine lv_aload_n hx hb dL_law_890 rfl (lv_at hl 1 rfl) ?_
    refine lv_iload hx hb dL_law_891 (lv_at hl 5 rfl) ?_
    refine lv_iconst (v := 1) hx hb dL_law_893 (by decide) ?_
    refine lv_iadd hx hb dL_law_894 ?_
    refine va_sld hx hb hX hbl hbA hS h_1 dL_law_895 ?_
    refine k_i (va_runV (As := [.int (xs (x4 + 1).toNatClampNeg)]) (rest := []) ⟨hx, hb, hml, hown, hts⟩ (c_X6_rate l G u884 T T th ((T.1 10 (xs (x4 + 1).toNatClampNeg).toNatClampNeg).toInt64) ex ad (xs (x4 + 1).toNatClampNeg) hw1 hi) (cwV 1 hts gL_law_X6_rate rfl rfl rfl (by decide +kernel) ⟨Nat.le_of_ble_eq_true rfl, Nat.le_of_ble_eq_true rfl⟩) (preV_of hC hS hM gm5 rfl) rfl rfl hl.1 rfl (lv_room (Nat.le_of_ble_eq_true rfl)) dL_law_896 ⟨(by first | omega | (show _ ≤ 601024; omega) | (show _ ≤ 7293034; omega)), (by first | omega | (show _ ≤ 601024; omega) | (show _ ≤ 7293034; omega))⟩) hS (fun r896 u896 H locs hp896 hM hS => ?_)
    have hM : Hm G u896 H := hM
    rcases hp896 with ⟨y1, hw2⟩ | ⟨y1, er2, hw2⟩
    · exact False.elim (by first | exact absurd z1 y1 | exact absurd y1 z1)
    · subst er2
      have hMk : Hm G u896 H := hM
      have go6 : u896 (ad 28 0) = some (.inl (G.2.1 1, 1, .inr (.inl (fun _ => (T.1 10 (xs (x4 + 1).toNatClampNeg).toNatClampNeg).toInt64)))) := hw2.1 28 0 _ rfl
      have gm6 : u896 (ad 14 0) = some (.inr (6, [.int 0, .int (T.1 0 0), .ref (ad 15 0), .ref (ad 16 0), .ref (ad 17 0), .ref (ad 18 0), .int (T.1 5 0), .ref (ad 19 0), .ref (ad 20 0), .ref (ad 21 0), .ref (ad 22 0), .ref (ad 23 0), .ref (ad 24 0), .ref (ad 25 0), .ref (ad 26 0), .ref (ad 27 0)])) := hw2.1 14 0 _ rfl
      refine lv_istore (lv' := [(6, .int (T.1 10 (xs (x4 + 1).toNatClampNeg).toNatClampNeg)), (5, .int 0), (0, .ref b), (1, .ref (ad 0 0)), (2, .ref (ad 14 0)), (3, .ref (ad 28 0)), (4, .int x4)]) hx hb dL_law_899 hl (by decide) rfl (fun ls hl => ?_)
      refine lv_aload_n hx hb dL_law_901 rfl (lv_at hl 4 rfl) ?_
      refine k_i (va_runV (As := []) (rest := []) ⟨hx, hb, hml, hown, hts⟩ (c_X6_thrown l G u896 T T 0 ((T.1 10 (xs (x4 + 1).toNatClampNeg).toNatClampNeg).toInt64) ex ad hw2) (cwV 0 hts gL_law_X6_thrown rfl rfl rfl (by decide +kernel) ⟨Nat.le_of_ble_eq_true rfl, Nat.le_of_ble_eq_true rfl⟩) (preV_of hC hS hM gm6 rfl) rfl rfl hl.1 rfl (lv_room (Nat.le_of_ble_eq_true rfl)) dL_law_902 ⟨(by first | omega | (show _ ≤ 601024; omega) | (show _ ≤ 7293034; omega)), (by first | omega | (show _ ≤ 601024; omega) | (show _ ≤ 7293034; omega))⟩) hS (fun r902 u902 H locs hp902 hM hS => ?_)
      have hM : Hm G u896 H := hM
      have hp902 : r902 = 0 := hp902
      subst hp902
      refine lv_iload hx hb dL_law_905 (lv_at hl 1 rfl) ?_
      refine lv_icmp_eq (tgt := 912) hx hb dL_law_907 (by decide) (fun c_907 => ?_) (fun c_907 => False.elim (by revert c_907; decide))
      refine lv_iload hx hb dL_law_912 (lv_at hl 1 rfl) ?_
      refine lv_if_ne (tgt := 929) hx hb dL_law_914 (by decide) (fun c_914 => False.elim (by revert c_914; decide)) (fun c_914 => ?_)
      refine lv_aload_n hx hb dL_law_917 rfl (lv_at hl 5 rfl) ?_
      refine lv_iconst (v := 0) hx hb dL_law_918 (by decide) ?_
      refine m_lald (a := (ad 28 0)) hx hb hC hM go6 (vin_of (n := 1) 1 (by decide) (by decide)) dL_law_919 ?_
      refine lv_iload hx hb dL_law_920 (lv_at hl 0 rfl) ?_
      refine lv_i2l hx hb dL_law_922 rfl ?_
      refine W.lcmp hx hb dL_law_923 ?_
      refine lv_if_eq (tgt := 929) hx hb dL_law_924 (by decide) (fun c_924 => ?_) (fun c_924 => False.elim (by exact c_924 ((lg_cmp_eq _ _).mpr rfl)))
      refine lv_goto (tgt := 1326) hx hb dL_law_929 (by decide) ?_
      refine W.widen (k := c0 + 42) (n := s0 + 132) (by omega) (by omega) ?_
      exact K T 0 ((T.1 10 (xs (x4 + 1).toNatClampNeg).toNatClampNeg).toInt64) ex ad _ _ _ ls hi hx9 (hw2) hM hS (lv_sub hl [2, 3, 4, 5, 6] rfl)
set_option maxHeartbeats 4000000 in
set_option maxRecDepth 100000 in
theorem law_11 {p : Program} {l : Launch} (hnt : l.stackTraces = false) {e : Env} {s : State} {m : MethodId} {below : List Frame} {meth : Method} {c : Code} {b L : Nat} {xs : Nat → Int32} (C0 : lw_At p s m meth c b L xs) {G : Gx} {T : Sd} {th : Int32} {o : Int64} {ex : Nat → Option (Nat × Nat)} {ad : Nat → Nat → Nat} {M : Mp} {c0 s0 : Nat} {x4 : Int32} {Q : State → Prop} (k9 : Nat) (hk9 : k9 = 20) (hC : Cx G s) (hG : G.2.2 = s.heap.size) (hi : Iv T) (hx9 : Ix T ex) (hw : WA G T T th o ex ad M) (hc0 : c0 + 42 ≤ 601024) (hs0 : s0 + 132 ≤ 7293034) (h_1 : vp_in (x4 + 1) L) (h_2 : vp_in (x4 + 2) L) (h_3 : vp_in (x4 + 3) L) (h_4 : vp_in (x4 + 4) L) (h_5 : vp_in (x4 + 5) L) (h_6 : vp_in (x4 + 6) L)
    (K : ∀ (T' : Sd) (th' : Int32) (o' : Int64) (ex' : Nat → Option (Nat × Nat)) (ad' : Nat → Nat → Nat) (M' : Mp) (H : Heap) (locs : List Loc) (ls : Array Slot), Iv T' → Ix T' ex' → WA G T' T' th' o' ex' ad' M' → Hm G M' H → va_S (AG G) s.heap H locs → lv_has ls 8 [(0, .ref b), (1, .ref (ad' 0 0)), (2, .ref (ad' 14 0)), (3, .ref (ad' 28 0)), (4, .int x4)] → W p l e room_1 s m #[Value.ref b] below meth c H locs (c0 + 42) (s0 + 132) Q (F0 m 1326 ls [])) (ls : Array Slot) (hl : lv_has ls 8 [(0, .ref b), (1, .ref (ad 0 0)), (2, .ref (ad 14 0)), (3, .ref (ad 28 0)), (4, .int x4)]) (H : Heap) (locs : List Loc) (hM : Hm G M H) (hS : va_S (AG G) s.heap H locs) : W p l e room_1 s m #[Value.ref b] below meth c H locs c0 s0 Q (F0 m 932 ls []) := by
  obtain ⟨hx, hb, hr, hml, hown, hts0, hX, hbl, hlocks, hgv⟩ := id C0
  have hts := fun w h => hts0 w (wsL_law_in w h)
  have hbA : ¬ AG G b := by show ¬ G.2.2 ≤ b; rw [hG]; exact Nat.not_le.mpr hbl
  refine lv_aload_n hx hb dL_law_932 rfl (lv_at hl 1 rfl) ?_
  refine lv_aload_n hx hb dL_law_933 rfl (lv_at hl 0 rfl) ?_
  refine lv_iload hx hb dL_law_934 (lv_at hl 4 rfl) ?_
  refine lv_iconst (v := 1) hx hb dL_law_936 (by decide) ?_
  refine lv_iadd hx hb dL_law_937 ?_
  refine va_sld hx hb hX hbl hbA hS h_1 dL_law_938 ?_
  refine lv_aload_n hx hb dL_law_939 rfl (lv_at hl 3 rfl) ?_
  refine k_i (vx_runSW (As := [.ref (ad 0 0), .int (xs (x4 + 1).toNatClampNeg), .ref (ad 28 0)]) (rest := []) ⟨hx, hb, hml, hown, hts⟩ (c_L_window hnt l G M T T th o ex ad (xs (x4 + 1).toNatClampNeg) hw hi) (vx_cwSW 3 hts gL_law_L_window rfl rfl rfl (by decide +kernel) ⟨Nat.le_of_ble_eq_true rfl, Nat.le_of_ble_eq_true rfl⟩) (preS_of hC hS hM) rfl rfl hl.1 rfl (lv_room (Nat.le_of_ble_eq_true rfl)) dL_law_940 ⟨(by first | omega | (show _ ≤ 601024; omega) | (show _ ≤ 7293034; omega)), (by first | omega | (show _ ≤ 601024; omega) | (show _ ≤ 7293034; omega))⟩) hS (fun r940 u940 H locs hp940 hM hS => ?_)
  have hM : Hm G u940 H := hM
  rcases hp940 with ⟨er, z1, hw1⟩ | ⟨er, z1, hw1⟩
  · subst er
    have go1 : u940 (ad 28 0) = some (.inl (G.2.1 1, 1, .inr (.inl (fun _ => o)))) := hw1.1 28 0 _ rfl
    have gm1 : u940 (ad 14 0) = some (.inr (6, [.int th, .int (T.1 0 0), .ref (ad 15 0), .ref (ad 16 0), .ref (ad 17 0), .ref (ad 18 0), .int (T.1 5 0), .ref (ad 19 0), .ref (ad 20 0), .ref (ad 21 0), .ref (ad 22 0), .ref (ad 23 0), .ref (ad 24 0), .ref (ad 25 0), .ref (ad 26 0), .ref (ad 27 0)])) := hw1.1 14 0 _ rfl
    refine lv_istore (lv' := [(5, .int 1), (0, .ref b), (1, .ref (ad 0 0)), (2, .ref (ad 14 0)), (3, .ref (ad 28 0)), (4, .int x4)]) hx hb dL_law_943 hl (by decide) rfl (fun ls hl => ?_)
    refine lv_aload_n hx hb dL_law_945 rfl (lv_at hl 3 rfl) ?_
    refine lv_aload_n hx hb dL_law_946 rfl (lv_at hl 1 rfl) ?_
    refine lv_iload hx hb dL_law_947 (lv_at hl 5 rfl) ?_
    refine lv_iconst (v := 1) hx hb dL_law_949 (by decide) ?_
    refine lv_iadd hx hb dL_law_950 ?_
    refine va_sld hx hb hX hbl hbA hS h_1 dL_law_951 ?_
    refine k_i (va_runV (As := [.int (xs (x4 + 1).toNatClampNeg)]) (rest := []) ⟨hx, hb, hml, hown, hts⟩ (c_X6_window l G u940 T T th o ex ad (xs (x4 + 1).toNatClampNeg) hw1 hi) (cwV 1 hts gL_law_X6_window rfl rfl rfl (by decide +kernel) ⟨Nat.le_of_ble_eq_true rfl, Nat.le_of_ble_eq_true rfl⟩) (preV_of hC hS hM gm1 rfl) rfl rfl hl.1 rfl (lv_room (Nat.le_of_ble_eq_true rfl)) dL_law_952 ⟨(by first | omega | (show _ ≤ 601024; omega) | (show _ ≤ 7293034; omega)), (by first | omega | (show _ ≤ 601024; omega) | (show _ ≤ 7293034; omega))⟩) hS (fun r952 u952 H locs hp952 hM hS => ?_)
    have hM : Hm G u952 H := hM
    rcases hp952 with ⟨y1, hw2⟩ | ⟨y1, er2, hw2⟩
    · have hMk : Hm G u952 H := hM
      have go2 : u952 (ad 28 0) = some (.inl (G.2.1 1, 1, .inr (.inl (fun _ => o)))) := hw2.1 28 0 _ rfl
      have gm2 : u952 (ad 14 0) = some (.inr (6, [.int 1, .int (T.1 0 0), .ref (ad 15 0), .ref (ad 16 0), .ref (ad 17 0), .ref (ad 18 0), .int (T.1 5 0), .ref (ad 19 0), .ref (ad 20 0), .ref (ad 21 0), .ref (ad 22 0), .ref (ad 23 0), .ref (ad 24 0), .ref (ad 25 0), .ref (ad 26 0), .ref (ad 27 0)])) := hw2.1 14 0 _ rfl
      refine lv_istore (lv' := [(6, .int r952), (5, .int 1), (0, .ref b), (1, .ref (ad 0 0)), (2, .ref (ad 14 0)), (3, .ref (ad 28 0)), (4, .int x4)]) hx hb dL_law_955 hl (by decide) rfl (fun ls hl => ?_)
      refine lv_aload_n hx hb dL_law_957 rfl (lv_at hl 4 rfl) ?_
      refine k_i (va_runV (As := []) (rest := []) ⟨hx, hb, hml, hown, hts⟩ (c_X6_thrown l G u952 T T 1 o ex ad hw2) (cwV 0 hts gL_law_X6_thrown rfl rfl rfl (by decide +kernel) ⟨Nat.le_of_ble_eq_true rfl, Nat.le_of_ble_eq_true rfl⟩) (preV_of hC hS hM gm2 rfl) rfl rfl hl.1 rfl (lv_room (Nat.le_of_ble_eq_true rfl)) dL_law_958 ⟨(by first | omega | (show _ ≤ 601024; omega) | (show _ ≤ 7293034; omega)), (by first | omega | (show _ ≤ 601024; omega) | (show _ ≤ 7293034; omega))⟩) hS (fun r958 u958 H locs hp958 hM hS => ?_)
      have hM : Hm G u952 H := hM
      have hp958 : r958 = 1 := hp958
      subst hp958
      refine lv_iload hx hb dL_law_961 (lv_at hl 1 rfl) ?_
      refine lv_icmp_eq (tgt := 968) hx hb dL_law_963 (by decide) (fun c_963 => ?_) (fun c_963 => False.elim (by revert c_963; decide))
      refine lv_iload hx hb dL_law_968 (lv_at hl 1 rfl) ?_
      refine lv_if_ne (tgt := 985) hx hb dL_law_970 (by decide) (fun c_970 => ?_) (fun c_970 => False.elim (by revert c_970; decide))
      refine lv_goto (tgt := 1326) hx hb dL_law_985 (by decide) ?_
      refine W.widen (k := c0 + 42) (n := s0 + 132) (by omega) (by omega) ?_
      exact K T 1 o ex ad _ _ _ ls hi hx9 hw2 hM hS (lv_sub hl [2, 3, 4, 5, 6] rfl)
    · exact False.elim (by first | exact absurd z1 y1 | exact absurd y1 z1)
  · subst er
    have go5 : u940 (ad 28 0) = some (.inl (G.2.1 1, 1, .inr (.inl (fun _ => (10000 * T.1 11 (xs (x4 + 1).toNatClampNeg).toNatClampNeg + T.1 12 (xs (x4 + 1).toNatClampNeg).toNatClampNeg).toInt64)))) := hw1.1 28 0 _ rfl
    have gm5 : u940 (ad 14 0) = some (.inr (6, [.int th, .int (T.1 0 0), .ref (ad 15 0), .ref (ad 16 0), .ref (ad 17 0), .ref (ad 18 0), .int (T.1 5 0), .ref (ad 19 0), .ref (ad 20 0), .ref (ad 21 0), .ref (ad 22 0), .ref (ad 23 0), .ref (ad 24 0), .ref (ad 25 0), .ref (ad 26 0), .ref (ad 27 0)])) := hw1.1 14 0 _ rfl
    refine lv_istore (lv' := [(5, .int 0), (0, .ref b), (1, .ref (ad 0 0)), (2, .ref (ad 14 0)), (3, .ref (ad 28 0)), (4, .int x4)]) hx hb dL_law_943 hl (by decide) rfl (fun ls hl => ?_)
    refine lv_aload_n hx hb dL_law_945 rfl (lv_at hl 3 rfl) ?_
    refine lv_aload_n hx hb dL_law_946 rfl (lv_at hl 1 rfl) ?_
    refine lv_iload hx hb dL_law_947 (lv_at hl 5 rfl) ?_
    refine lv_iconst (v := 1) hx hb dL_law_949 (by decide) ?_
    refine lv_iadd hx hb dL_law_950 ?_
    refine va_sld hx hb hX hbl hbA hS h_1 dL_law_951 ?_
    refine k_i (va_runV (As := [.int (xs (x4 + 1).toNatClampNeg)]) (rest := []) ⟨hx, hb, hml, hown, hts⟩ (c_X6_window l G u940 T T th ((10000 * T.1 11 (xs (x4 + 1).toNatClampNeg).toNatClampNeg + T.1 12 (xs (x4 + 1).toNatClampNeg).toNatClampNeg).toInt64) ex ad (xs (x4 + 1).toNatClampNeg) hw1 hi) (cwV 1 hts gL_law_X6_window rfl rfl rfl (by decide +kernel) ⟨Nat.le_of_ble_eq_true rfl, Nat.le_of_ble_eq_true rfl⟩) (preV_of hC hS hM gm5 rfl) rfl rfl hl.1 rfl (lv_room (Nat.le_of_ble_eq_true rfl)) dL_law_952 ⟨(by first | omega | (show _ ≤ 601024; omega) | (show _ ≤ 7293034; omega)), (by first | omega | (show _ ≤ 601024; omega) | (show _ ≤ 7293034; omega))⟩) hS (fun r952 u952 H locs hp952 hM hS => ?_)
    have hM : Hm G u952 H := hM
    rcases hp952 with ⟨y1, hw2⟩ | ⟨y1, er2, hw2⟩
    · exact False.elim (by first | exact absurd z1 y1 | exact absurd y1 z1)
    · subst er2
      have hMk : Hm G u952 H := hM
      have go6 : u952 (ad 28 0) = some (.inl (G.2.1 1, 1, .inr (.inl (fun _ => (10000 * T.1 11 (xs (x4 + 1).toNatClampNeg).toNatClampNeg + T.1 12 (xs (x4 + 1).toNatClampNeg).toNatClampNeg).toInt64)))) := hw2.1 28 0 _ rfl
      have gm6 : u952 (ad 14 0) = some (.inr (6, [.int 0, .int (T.1 0 0), .ref (ad 15 0), .ref (ad 16 0), .ref (ad 17 0), .ref (ad 18 0), .int (T.1 5 0), .ref (ad 19 0), .ref (ad 20 0), .ref (ad 21 0), .ref (ad 22 0), .ref (ad 23 0), .ref (ad 24 0), .ref (ad 25 0), .ref (ad 26 0), .ref (ad 27 0)])) := hw2.1 14 0 _ rfl
      refine lv_istore (lv' := [(6, .int (10000 * T.1 11 (xs (x4 + 1).toNatClampNeg).toNatClampNeg + T.1 12 (xs (x4 + 1).toNatClampNeg).toNatClampNeg)), (5, .int 0), (0, .ref b), (1, .ref (ad 0 0)), (2, .ref (ad 14 0)), (3, .ref (ad 28 0)), (4, .int x4)]) hx hb dL_law_955 hl (by decide) rfl (fun ls hl => ?_)
      refine lv_aload_n hx hb dL_law_957 rfl (lv_at hl 4 rfl) ?_
      refine k_i (va_runV (As := []) (rest := []) ⟨hx, hb, hml, hown, hts⟩ (c_X6_thrown l G u952 T T 0 ((10000 * T.1 11 (xs (x4 + 1).toNatClampNeg).toNatClampNeg + T.1 12 (xs (x4 + 1).toNatClampNeg).toNatClampNeg).toInt64) ex ad hw2) (cwV 0 hts gL_law_X6_thrown rfl rfl rfl (by decide +kernel) ⟨Nat.le_of_ble_eq_true rfl, Nat.le_of_ble_eq_true rfl⟩) (preV_of hC hS hM gm6 rfl) rfl rfl hl.1 rfl (lv_room (Nat.le_of_ble_eq_true rfl)) dL_law_958 ⟨(by first | omega | (show _ ≤ 601024; omega) | (show _ ≤ 7293034; omega)), (by first | omega | (show _ ≤ 601024; omega) | (show _ ≤ 7293034; omega))⟩) hS (fun r958 u958 H locs hp958 hM hS => ?_)
      have hM : Hm G u952 H := hM
      have hp958 : r958 = 0 := hp958
      subst hp958
      refine lv_iload hx hb dL_law_961 (lv_at hl 1 rfl) ?_
      refine lv_icmp_eq (tgt := 968) hx hb dL_law_963 (by decide) (fun c_963 => ?_) (fun c_963 => False.elim (by revert c_963; decide))
      refine lv_iload hx hb dL_law_968 (lv_at hl 1 rfl) ?_
      refine lv_if_ne (tgt := 985) hx hb dL_law_970 (by decide) (fun c_970 => False.elim (by revert c_970; decide)) (fun c_970 => ?_)
      refine lv_aload_n hx hb dL_law_973 rfl (lv_at hl 5 rfl) ?_
      refine lv_iconst (v := 0) hx hb dL_law_974 (by decide) ?_
      refine m_lald (a := (ad 28 0)) hx hb hC hM go6 (vin_of (n := 1) 1 (by decide) (by decide)) dL_law_975 ?_
      refine lv_iload hx hb dL_law_976 (lv_at hl 0 rfl) ?_
      refine lv_i2l hx hb dL_law_978 rfl ?_
      refine W.lcmp hx hb dL_law_979 ?_
      refine lv_if_eq (tgt := 985) hx hb dL_law_980 (by decide) (fun c_980 => ?_) (fun c_980 => False.elim (by exact c_980 ((lg_cmp_eq _ _).mpr rfl)))
      refine lv_goto (tgt := 1326) hx hb dL_law_985 (by decide) ?_
      refine W.widen (k := c0 + 42) (n := s0 + 132) (by omega) (by omega) ?_
      exact K T 0 ((10000 * T.1 11 (xs (x4 + 1).toNatClampNeg).toNatClampNeg + T.1 12 (xs (x4 + 1).toNatClampNeg).toNatClampNeg).toInt64) ex ad _ _ _ ls hi hx9 (hw2) hM hS (lv_sub hl [2, 3, 4, 5, 6] rfl)
set_option maxHeartbeats 4000000 in
set_option maxRecDepth 100000 in
theorem law_12 {p : Program} {l : Launch} (hnt : l.stackTraces = false) {e : Env} {s : State} {m : MethodId} {below : List Frame} {meth : Method} {c : Code} {b L : Nat} {xs : Nat → Int32} (C0 : lw_At p s m meth c b L xs) {G : Gx} {T : Sd} {th : Int32} {o : Int64} {ex : Nat → Option (Nat × Nat)} {ad : Nat → Nat → Nat} {M : Mp} {c0 s0 : Nat} {x4 : Int32} {Q : State → Prop} (k9 : Nat) (hk9 : k9 = 20) (hC : Cx G s) (hG : G.2.2 = s.heap.size) (hi : Iv T) (hx9 : Ix T ex) (hw : WA G T T th o ex ad M) (hc0 : c0 + 42 ≤ 601024) (hs0 : s0 + 132 ≤ 7293034) (h_1 : vp_in (x4 + 1) L) (h_2 : vp_in (x4 + 2) L) (h_3 : vp_in (x4 + 3) L) (h_4 : vp_in (x4 + 4) L) (h_5 : vp_in (x4 + 5) L) (h_6 : vp_in (x4 + 6) L)
    (K : ∀ (T' : Sd) (th' : Int32) (o' : Int64) (ex' : Nat → Option (Nat × Nat)) (ad' : Nat → Nat → Nat) (M' : Mp) (H : Heap) (locs : List Loc) (ls : Array Slot), Iv T' → Ix T' ex' → WA G T' T' th' o' ex' ad' M' → Hm G M' H → va_S (AG G) s.heap H locs → lv_has ls 8 [(0, .ref b), (1, .ref (ad' 0 0)), (2, .ref (ad' 14 0)), (3, .ref (ad' 28 0)), (4, .int x4)] → W p l e room_1 s m #[Value.ref b] below meth c H locs (c0 + 42) (s0 + 132) Q (F0 m 1326 ls [])) (ls : Array Slot) (hl : lv_has ls 8 [(0, .ref b), (1, .ref (ad 0 0)), (2, .ref (ad 14 0)), (3, .ref (ad 28 0)), (4, .int x4)]) (H : Heap) (locs : List Loc) (hM : Hm G M H) (hS : va_S (AG G) s.heap H locs) : W p l e room_1 s m #[Value.ref b] below meth c H locs c0 s0 Q (F0 m 988 ls []) := by
  obtain ⟨hx, hb, hr, hml, hown, hts0, hX, hbl, hlocks, hgv⟩ := id C0
  have hts := fun w h => hts0 w (wsL_law_in w h)
  have hbA : ¬ AG G b := by show ¬ G.2.2 ≤ b; rw [hG]; exact Nat.not_le.mpr hbl
  refine lv_aload_n hx hb dL_law_988 rfl (lv_at hl 1 rfl) ?_
  refine lv_aload_n hx hb dL_law_989 rfl (lv_at hl 0 rfl) ?_
  refine lv_iload hx hb dL_law_990 (lv_at hl 4 rfl) ?_
  refine lv_iconst (v := 1) hx hb dL_law_992 (by decide) ?_
  refine lv_iadd hx hb dL_law_993 ?_
  refine va_sld hx hb hX hbl hbA hS h_1 dL_law_994 ?_
  refine lv_aload_n hx hb dL_law_995 rfl (lv_at hl 3 rfl) ?_
  refine k_i (vx_runSW (As := [.ref (ad 0 0), .int (xs (x4 + 1).toNatClampNeg), .ref (ad 28 0)]) (rest := []) ⟨hx, hb, hml, hown, hts⟩ (c_L_gain hnt l G M T T th o ex ad (xs (x4 + 1).toNatClampNeg) hw hi) (vx_cwSW 3 hts gL_law_L_gain rfl rfl rfl (by decide +kernel) ⟨Nat.le_of_ble_eq_true rfl, Nat.le_of_ble_eq_true rfl⟩) (preS_of hC hS hM) rfl rfl hl.1 rfl (lv_room (Nat.le_of_ble_eq_true rfl)) dL_law_996 ⟨(by first | omega | (show _ ≤ 601024; omega) | (show _ ≤ 7293034; omega)), (by first | omega | (show _ ≤ 601024; omega) | (show _ ≤ 7293034; omega))⟩) hS (fun r996 u996 H locs hp996 hM hS => ?_)
  have hM : Hm G u996 H := hM
  rcases hp996 with ⟨er, z1, hw1⟩ | ⟨er, z1, hw1⟩
  · subst er
    have go1 : u996 (ad 28 0) = some (.inl (G.2.1 1, 1, .inr (.inl (fun _ => o)))) := hw1.1 28 0 _ rfl
    have gm1 : u996 (ad 14 0) = some (.inr (6, [.int th, .int (T.1 0 0), .ref (ad 15 0), .ref (ad 16 0), .ref (ad 17 0), .ref (ad 18 0), .int (T.1 5 0), .ref (ad 19 0), .ref (ad 20 0), .ref (ad 21 0), .ref (ad 22 0), .ref (ad 23 0), .ref (ad 24 0), .ref (ad 25 0), .ref (ad 26 0), .ref (ad 27 0)])) := hw1.1 14 0 _ rfl
    refine lv_istore (lv' := [(5, .int 1), (0, .ref b), (1, .ref (ad 0 0)), (2, .ref (ad 14 0)), (3, .ref (ad 28 0)), (4, .int x4)]) hx hb dL_law_999 hl (by decide) rfl (fun ls hl => ?_)
    refine lv_aload_n hx hb dL_law_1001 rfl (lv_at hl 3 rfl) ?_
    refine lv_aload_n hx hb dL_law_1002 rfl (lv_at hl 1 rfl) ?_
    refine lv_iload hx hb dL_law_1003 (lv_at hl 5 rfl) ?_
    refine lv_iconst (v := 1) hx hb dL_law_1005 (by decide) ?_
    refine lv_iadd hx hb dL_law_1006 ?_
    refine va_sld hx hb hX hbl hbA hS h_1 dL_law_1007 ?_
    refine k_l (va_runV (As := [.int (xs (x4 + 1).toNatClampNeg)]) (rest := []) ⟨hx, hb, hml, hown, hts⟩ (c_X6_gain l G u996 T T th o ex ad (xs (x4 + 1).toNatClampNeg) hw1 hi) (cwV 1 hts gL_law_X6_gain rfl rfl rfl (by decide +kernel) ⟨Nat.le_of_ble_eq_true rfl, Nat.le_of_ble_eq_true rfl⟩) (preV_of hC hS hM gm1 rfl) rfl rfl hl.1 rfl (lv_room (Nat.le_of_ble_eq_true rfl)) dL_law_1008 ⟨(by first | omega | (show _ ≤ 601024; omega) | (show _ ≤ 7293034; omega)), (by first | omega | (show _ ≤ 601024; omega) | (show _ ≤ 7293034; omega))⟩) hS (fun r1008 u1008 H locs hp1008 hM hS => ?_)
    have hM : Hm G u1008 H := hM
    rcases hp1008 with ⟨y1, hw2⟩ | ⟨y1, er2, hw2⟩
    · have hMk : Hm G u1008 H := hM
      have go2 : u1008 (ad 28 0) = some (.inl (G.2.1 1, 1, .inr (.inl (fun _ => o)))) := hw2.1 28 0 _ rfl
      have gm2 : u1008 (ad 14 0) = some (.inr (6, [.int 1, .int (T.1 0 0), .ref (ad 15 0), .ref (ad 16 0), .ref (ad 17 0), .ref (ad 18 0), .int (T.1 5 0), .ref (ad 19 0), .ref (ad 20 0), .ref (ad 21 0), .ref (ad 22 0), .ref (ad 23 0), .ref (ad 24 0), .ref (ad 25 0), .ref (ad 26 0), .ref (ad 27 0)])) := hw2.1 14 0 _ rfl
      refine lv_lstore (lv' := [(6, .long r1008), (5, .int 1), (0, .ref b), (1, .ref (ad 0 0)), (2, .ref (ad 14 0)), (3, .ref (ad 28 0)), (4, .int x4)]) hx hb dL_law_1011 hl (by decide) rfl (fun ls hl => ?_)
      refine lv_aload_n hx hb dL_law_1013 rfl (lv_at hl 4 rfl) ?_
      refine k_i (va_runV (As := []) (rest := []) ⟨hx, hb, hml, hown, hts⟩ (c_X6_thrown l G u1008 T T 1 o ex ad hw2) (cwV 0 hts gL_law_X6_thrown rfl rfl rfl (by decide +kernel) ⟨Nat.le_of_ble_eq_true rfl, Nat.le_of_ble_eq_true rfl⟩) (preV_of hC hS hM gm2 rfl) rfl rfl hl.1 rfl (lv_room (Nat.le_of_ble_eq_true rfl)) dL_law_1014 ⟨(by first | omega | (show _ ≤ 601024; omega) | (show _ ≤ 7293034; omega)), (by first | omega | (show _ ≤ 601024; omega) | (show _ ≤ 7293034; omega))⟩) hS (fun r1014 u1014 H locs hp1014 hM hS => ?_)
      have hM : Hm G u1008 H := hM
      have hp1014 : r1014 = 1 := hp1014
      subst hp1014
      refine lv_iload hx hb dL_law_1017 (lv_at hl 1 rfl) ?_
      refine lv_icmp_eq (tgt := 1024) hx hb dL_law_1019 (by decide) (fun c_1019 => ?_) (fun c_1019 => False.elim (by revert c_1019; decide))
      refine lv_iload hx hb dL_law_1024 (lv_at hl 1 rfl) ?_
      refine lv_if_ne (tgt := 1040) hx hb dL_law_1026 (by decide) (fun c_1026 => ?_) (fun c_1026 => False.elim (by revert c_1026; decide))
      refine lv_goto (tgt := 1326) hx hb dL_law_1040 (by decide) ?_
      refine W.widen (k := c0 + 42) (n := s0 + 132) (by omega) (by omega) ?_
      exact K T 1 o ex ad _ _ _ ls hi hx9 hw2 hM hS (lv_sub hl [2, 3, 4, 5, 6] rfl)
    · exact False.elim (by first | exact absurd z1 y1 | exact absurd y1 z1)
  · subst er
    have go5 : u996 (ad 28 0) = some (.inl (G.2.1 1, 1, .inr (.inl (fun _ => (mg T (xs (x4 + 1).toNatClampNeg).toNatClampNeg))))) := hw1.1 28 0 _ rfl
    have gm5 : u996 (ad 14 0) = some (.inr (6, [.int th, .int (T.1 0 0), .ref (ad 15 0), .ref (ad 16 0), .ref (ad 17 0), .ref (ad 18 0), .int (T.1 5 0), .ref (ad 19 0), .ref (ad 20 0), .ref (ad 21 0), .ref (ad 22 0), .ref (ad 23 0), .ref (ad 24 0), .ref (ad 25 0), .ref (ad 26 0), .ref (ad 27 0)])) := hw1.1 14 0 _ rfl
    refine lv_istore (lv' := [(5, .int 0), (0, .ref b), (1, .ref (ad 0 0)), (2, .ref (ad 14 0)), (3, .ref (ad 28 0)), (4, .int x4)]) hx hb dL_law_999 hl (by decide) rfl (fun ls hl => ?_)
    refine lv_aload_n hx hb dL_law_1001 rfl (lv_at hl 3 rfl) ?_
    refine lv_aload_n hx hb dL_law_1002 rfl (lv_at hl 1 rfl) ?_
    refine lv_iload hx hb dL_law_1003 (lv_at hl 5 rfl) ?_
    refine lv_iconst (v := 1) hx hb dL_law_1005 (by decide) ?_
    refine lv_iadd hx hb dL_law_1006 ?_
    refine va_sld hx hb hX hbl hbA hS h_1 dL_law_1007 ?_
    refine k_l (va_runV (As := [.int (xs (x4 + 1).toNatClampNeg)]) (rest := []) ⟨hx, hb, hml, hown, hts⟩ (c_X6_gain l G u996 T T th (mg T (xs (x4 + 1).toNatClampNeg).toNatClampNeg) ex ad (xs (x4 + 1).toNatClampNeg) hw1 hi) (cwV 1 hts gL_law_X6_gain rfl rfl rfl (by decide +kernel) ⟨Nat.le_of_ble_eq_true rfl, Nat.le_of_ble_eq_true rfl⟩) (preV_of hC hS hM gm5 rfl) rfl rfl hl.1 rfl (lv_room (Nat.le_of_ble_eq_true rfl)) dL_law_1008 ⟨(by first | omega | (show _ ≤ 601024; omega) | (show _ ≤ 7293034; omega)), (by first | omega | (show _ ≤ 601024; omega) | (show _ ≤ 7293034; omega))⟩) hS (fun r1008 u1008 H locs hp1008 hM hS => ?_)
    have hM : Hm G u1008 H := hM
    rcases hp1008 with ⟨y1, hw2⟩ | ⟨y1, er2, hw2⟩
    · exact False.elim (by first | exact absurd z1 y1 | exact absurd y1 z1)
    · subst er2
      have hMk : Hm G u1008 H := hM
      have go6 : u1008 (ad 28 0) = some (.inl (G.2.1 1, 1, .inr (.inl (fun _ => (mg T (xs (x4 + 1).toNatClampNeg).toNatClampNeg))))) := hw2.1 28 0 _ rfl
      have gm6 : u1008 (ad 14 0) = some (.inr (6, [.int 0, .int (T.1 0 0), .ref (ad 15 0), .ref (ad 16 0), .ref (ad 17 0), .ref (ad 18 0), .int (T.1 5 0), .ref (ad 19 0), .ref (ad 20 0), .ref (ad 21 0), .ref (ad 22 0), .ref (ad 23 0), .ref (ad 24 0), .ref (ad 25 0), .ref (ad 26 0), .ref (ad 27 0)])) := hw2.1 14 0 _ rfl
      refine lv_lstore (lv' := [(6, .long (mg T (xs (x4 + 1).toNatClampNeg).toNatClampNeg)), (5, .int 0), (0, .ref b), (1, .ref (ad 0 0)), (2, .ref (ad 14 0)), (3, .ref (ad 28 0)), (4, .int x4)]) hx hb dL_law_1011 hl (by decide) rfl (fun ls hl => ?_)
      refine lv_aload_n hx hb dL_law_1013 rfl (lv_at hl 4 rfl) ?_
      refine k_i (va_runV (As := []) (rest := []) ⟨hx, hb, hml, hown, hts⟩ (c_X6_thrown l G u1008 T T 0 (mg T (xs (x4 + 1).toNatClampNeg).toNatClampNeg) ex ad hw2) (cwV 0 hts gL_law_X6_thrown rfl rfl rfl (by decide +kernel) ⟨Nat.le_of_ble_eq_true rfl, Nat.le_of_ble_eq_true rfl⟩) (preV_of hC hS hM gm6 rfl) rfl rfl hl.1 rfl (lv_room (Nat.le_of_ble_eq_true rfl)) dL_law_1014 ⟨(by first | omega | (show _ ≤ 601024; omega) | (show _ ≤ 7293034; omega)), (by first | omega | (show _ ≤ 601024; omega) | (show _ ≤ 7293034; omega))⟩) hS (fun r1014 u1014 H locs hp1014 hM hS => ?_)
      have hM : Hm G u1008 H := hM
      have hp1014 : r1014 = 0 := hp1014
      subst hp1014
      refine lv_iload hx hb dL_law_1017 (lv_at hl 1 rfl) ?_
      refine lv_icmp_eq (tgt := 1024) hx hb dL_law_1019 (by decide) (fun c_1019 => ?_) (fun c_1019 => False.elim (by revert c_1019; decide))
      refine lv_iload hx hb dL_law_1024 (lv_at hl 1 rfl) ?_
      refine lv_if_ne (tgt := 1040) hx hb dL_law_1026 (by decide) (fun c_1026 => False.elim (by revert c_1026; decide)) (fun c_1026 => ?_)
      refine lv_aload_n hx hb dL_law_1029 rfl (lv_at hl 5 rfl) ?_
      refine lv_iconst (v := 0) hx hb dL_law_1030 (by decide) ?_
      refine m_lald (a := (ad 28 0)) hx hb hC hM go6 (vin_of (n := 1) 1 (by decide) (by decide)) dL_law_1031 ?_
      refine lv_lload hx hb dL_law_1032 (lv_at hl 0 rfl) ?_
      refine W.lcmp hx hb dL_law_1034 ?_
      refine lv_if_eq (tgt := 1040) hx hb dL_law_1035 (by decide) (fun c_1035 => ?_) (fun c_1035 => False.elim (by exact c_1035 ((lg_cmp_eq _ _).mpr rfl)))
      refine lv_goto (tgt := 1326) hx hb dL_law_1040 (by decide) ?_
      refine W.widen (k := c0 + 42) (n := s0 + 132) (by omega) (by omega) ?_
      exact K T 0 (mg T (xs (x4 + 1).toNatClampNeg).toNatClampNeg) ex ad _ _ _ ls hi hx9 (hw2) hM hS (lv_sub hl [2, 3, 4, 5, 6] rfl)
set_option maxHeartbeats 4000000 in
set_option maxRecDepth 100000 in
theorem law_13 {p : Program} {l : Launch} (hnt : l.stackTraces = false) {e : Env} {s : State} {m : MethodId} {below : List Frame} {meth : Method} {c : Code} {b L : Nat} {xs : Nat → Int32} (C0 : lw_At p s m meth c b L xs) {G : Gx} {T : Sd} {th : Int32} {o : Int64} {ex : Nat → Option (Nat × Nat)} {ad : Nat → Nat → Nat} {M : Mp} {c0 s0 : Nat} {x4 : Int32} {Q : State → Prop} (k9 : Nat) (hk9 : k9 = 20) (hC : Cx G s) (hG : G.2.2 = s.heap.size) (hi : Iv T) (hx9 : Ix T ex) (hw : WA G T T th o ex ad M) (hc0 : c0 + 42 ≤ 601024) (hs0 : s0 + 132 ≤ 7293034) (h_1 : vp_in (x4 + 1) L) (h_2 : vp_in (x4 + 2) L) (h_3 : vp_in (x4 + 3) L) (h_4 : vp_in (x4 + 4) L) (h_5 : vp_in (x4 + 5) L) (h_6 : vp_in (x4 + 6) L)
    (K : ∀ (T' : Sd) (th' : Int32) (o' : Int64) (ex' : Nat → Option (Nat × Nat)) (ad' : Nat → Nat → Nat) (M' : Mp) (H : Heap) (locs : List Loc) (ls : Array Slot), Iv T' → Ix T' ex' → WA G T' T' th' o' ex' ad' M' → Hm G M' H → va_S (AG G) s.heap H locs → lv_has ls 8 [(0, .ref b), (1, .ref (ad' 0 0)), (2, .ref (ad' 14 0)), (3, .ref (ad' 28 0)), (4, .int x4)] → W p l e room_1 s m #[Value.ref b] below meth c H locs (c0 + 42) (s0 + 132) Q (F0 m 1326 ls [])) (ls : Array Slot) (hl : lv_has ls 8 [(0, .ref b), (1, .ref (ad 0 0)), (2, .ref (ad 14 0)), (3, .ref (ad 28 0)), (4, .int x4)]) (H : Heap) (locs : List Loc) (hM : Hm G M H) (hS : va_S (AG G) s.heap H locs) : W p l e room_1 s m #[Value.ref b] below meth c H locs c0 s0 Q (F0 m 1043 ls []) := by
  obtain ⟨hx, hb, hr, hml, hown, hts0, hX, hbl, hlocks, hgv⟩ := id C0
  have hts := fun w h => hts0 w (wsL_law_in w h)
  have hbA : ¬ AG G b := by show ¬ G.2.2 ≤ b; rw [hG]; exact Nat.not_le.mpr hbl
  refine lv_aload_n hx hb dL_law_1043 rfl (lv_at hl 1 rfl) ?_
  refine lv_aload_n hx hb dL_law_1044 rfl (lv_at hl 0 rfl) ?_
  refine lv_iload hx hb dL_law_1045 (lv_at hl 4 rfl) ?_
  refine lv_iconst (v := 1) hx hb dL_law_1047 (by decide) ?_
  refine lv_iadd hx hb dL_law_1048 ?_
  refine va_sld hx hb hX hbl hbA hS h_1 dL_law_1049 ?_
  refine lv_aload_n hx hb dL_law_1050 rfl (lv_at hl 3 rfl) ?_
  refine k_i (vx_runSW (As := [.ref (ad 0 0), .int (xs (x4 + 1).toNatClampNeg), .ref (ad 28 0)]) (rest := []) ⟨hx, hb, hml, hown, hts⟩ (c_L_exposure hnt l G M T T th o ex ad (xs (x4 + 1).toNatClampNeg) hw hi) (vx_cwSW 3 hts gL_law_L_exposure rfl rfl rfl (by decide +kernel) ⟨Nat.le_of_ble_eq_true rfl, Nat.le_of_ble_eq_true rfl⟩) (preS_of hC hS hM) rfl rfl hl.1 rfl (lv_room (Nat.le_of_ble_eq_true rfl)) dL_law_1051 ⟨(by first | omega | (show _ ≤ 601024; omega) | (show _ ≤ 7293034; omega)), (by first | omega | (show _ ≤ 601024; omega) | (show _ ≤ 7293034; omega))⟩) hS (fun r1051 u1051 H locs hp1051 hM hS => ?_)
  have hM : Hm G u1051 H := hM
  rcases hp1051 with ⟨er, z1, hw1⟩ | ⟨er, z1, hw1⟩
  · subst er
    have go1 : u1051 (ad 28 0) = some (.inl (G.2.1 1, 1, .inr (.inl (fun _ => o)))) := hw1.1 28 0 _ rfl
    have gm1 : u1051 (ad 14 0) = some (.inr (6, [.int th, .int (T.1 0 0), .ref (ad 15 0), .ref (ad 16 0), .ref (ad 17 0), .ref (ad 18 0), .int (T.1 5 0), .ref (ad 19 0), .ref (ad 20 0), .ref (ad 21 0), .ref (ad 22 0), .ref (ad 23 0), .ref (ad 24 0), .ref (ad 25 0), .ref (ad 26 0), .ref (ad 27 0)])) := hw1.1 14 0 _ rfl
    refine lv_istore (lv' := [(5, .int 1), (0, .ref b), (1, .ref (ad 0 0)), (2, .ref (ad 14 0)), (3, .ref (ad 28 0)), (4, .int x4)]) hx hb dL_law_1054 hl (by decide) rfl (fun ls hl => ?_)
    refine lv_aload_n hx hb dL_law_1056 rfl (lv_at hl 3 rfl) ?_
    refine lv_aload_n hx hb dL_law_1057 rfl (lv_at hl 1 rfl) ?_
    refine lv_iload hx hb dL_law_1058 (lv_at hl 5 rfl) ?_
    refine lv_iconst (v := 1) hx hb dL_law_1060 (by decide) ?_
    refine lv_iadd hx hb dL_law_1061 ?_
    refine va_sld hx hb hX hbl hbA hS h_1 dL_law_1062 ?_
    refine k_l (va_runV (As := [.int (xs (x4 + 1).toNatClampNeg)]) (rest := []) ⟨hx, hb, hml, hown, hts⟩ (c_X6_exposure l G u1051 T T th o ex ad (xs (x4 + 1).toNatClampNeg) hw1 hi) (cwV 1 hts gL_law_X6_exposure rfl rfl rfl (by decide +kernel) ⟨Nat.le_of_ble_eq_true rfl, Nat.le_of_ble_eq_true rfl⟩) (preV_of hC hS hM gm1 rfl) rfl rfl hl.1 rfl (lv_room (Nat.le_of_ble_eq_true rfl)) dL_law_1063 ⟨(by first | omega | (show _ ≤ 601024; omega) | (show _ ≤ 7293034; omega)), (by first | omega | (show _ ≤ 601024; omega) | (show _ ≤ 7293034; omega))⟩) hS (fun r1063 u1063 H locs hp1063 hM hS => ?_)
    have hM : Hm G u1063 H := hM
    rcases hp1063 with ⟨y1, hw2⟩ | ⟨y1, er2, hw2⟩
    · have hMk : Hm G u1063 H := hM
      have go2 : u1063 (ad 28 0) = some (.inl (G.2.1 1, 1, .inr (.inl (fun _ => o)))) := hw2.1 28 0 _ rfl
      have gm2 : u1063 (ad 14 0) = some (.inr (6, [.int 1, .int (T.1 0 0), .ref (ad 15 0), .ref (ad 16 0), .ref (ad 17 0), .ref (ad 18 0), .int (T.1 5 0), .ref (ad 19 0), .ref (ad 20 0), .ref (ad 21 0), .ref (ad 22 0), .ref (ad 23 0), .ref (ad 24 0), .ref (ad 25 0), .ref (ad 26 0), .ref (ad 27 0)])) := hw2.1 14 0 _ rfl
      refine lv_lstore (lv' := [(6, .long r1063), (5, .int 1), (0, .ref b), (1, .ref (ad 0 0)), (2, .ref (ad 14 0)), (3, .ref (ad 28 0)), (4, .int x4)]) hx hb dL_law_1066 hl (by decide) rfl (fun ls hl => ?_)
      refine lv_aload_n hx hb dL_law_1068 rfl (lv_at hl 4 rfl) ?_
      refine k_i (va_runV (As := []) (rest := []) ⟨hx, hb, hml, hown, hts⟩ (c_X6_thrown l G u1063 T T 1 o ex ad hw2) (cwV 0 hts gL_law_X6_thrown rfl rfl rfl (by decide +kernel) ⟨Nat.le_of_ble_eq_true rfl, Nat.le_of_ble_eq_true rfl⟩) (preV_of hC hS hM gm2 rfl) rfl rfl hl.1 rfl (lv_room (Nat.le_of_ble_eq_true rfl)) dL_law_1069 ⟨(by first | omega | (show _ ≤ 601024; omega) | (show _ ≤ 7293034; omega)), (by first | omega | (show _ ≤ 601024; omega) | (show _ ≤ 7293034; omega))⟩) hS (fun r1069 u1069 H locs hp1069 hM hS => ?_)
      have hM : Hm G u1063 H := hM
      have hp1069 : r1069 = 1 := hp1069
      subst hp1069
      refine lv_iload hx hb dL_law_1072 (lv_at hl 1 rfl) ?_
      refine lv_icmp_eq (tgt := 1079) hx hb dL_law_1074 (by decide) (fun c_1074 => ?_) (fun c_1074 => False.elim (by revert c_1074; decide))
      refine lv_iload hx hb dL_law_1079 (lv_at hl 1 rfl) ?_
      refine lv_if_ne (tgt := 1095) hx hb dL_law_1081 (by decide) (fun c_1081 => ?_) (fun c_1081 => False.elim (by revert c_1081; decide))
      refine lv_goto (tgt := 1326) hx hb dL_law_1095 (by decide) ?_
      refine W.widen (k := c0 + 42) (n := s0 + 132) (by omega) (by omega) ?_
      exact K T 1 o ex ad _ _ _ ls hi hx9 hw2 hM hS (lv_sub hl [2, 3, 4, 5, 6] rfl)
    · exact False.elim (by first | exact absurd z1 y1 | exact absurd y1 z1)
  · subst er
    have go5 : u1051 (ad 28 0) = some (.inl (G.2.1 1, 1, .inr (.inl (fun _ => (exs T (xs (x4 + 1).toNatClampNeg).toNatClampNeg))))) := hw1.1 28 0 _ rfl
    have gm5 : u1051 (ad 14 0) = some (.inr (6, [.int th, .int (T.1 0 0), .ref (ad 15 0), .ref (ad 16 0), .ref (ad 17 0), .ref (ad 18 0), .int (T.1 5 0), .ref (ad 19 0), .ref (ad 20 0), .ref (ad 21 0), .ref (ad 22 0), .ref (ad 23 0), .ref (ad 24 0), .ref (ad 25 0), .ref (ad 26 0), .ref (ad 27 0)])) := hw1.1 14 0 _ rfl
    refine lv_istore (lv' := [(5, .int 0), (0, .ref b), (1, .ref (ad 0 0)), (2, .ref (ad 14 0)), (3, .ref (ad 28 0)), (4, .int x4)]) hx hb dL_law_1054 hl (by decide) rfl (fun ls hl => ?_)
    refine lv_aload_n hx hb dL_law_1056 rfl (lv_at hl 3 rfl) ?_
    refine lv_aload_n hx hb dL_law_1057 rfl (lv_at hl 1 rfl) ?_
    refine lv_iload hx hb dL_law_1058 (lv_at hl 5 rfl) ?_
    refine lv_iconst (v := 1) hx hb dL_law_1060 (by decide) ?_
    refine lv_iadd hx hb dL_law_1061 ?_
    refine va_sld hx hb hX hbl hbA hS h_1 dL_law_1062 ?_
    refine k_l (va_runV (As := [.int (xs (x4 + 1).toNatClampNeg)]) (rest := []) ⟨hx, hb, hml, hown, hts⟩ (c_X6_exposure l G u1051 T T th (exs T (xs (x4 + 1).toNatClampNeg).toNatClampNeg) ex ad (xs (x4 + 1).toNatClampNeg) hw1 hi) (cwV 1 hts gL_law_X6_exposure rfl rfl rfl (by decide +kernel) ⟨Nat.le_of_ble_eq_true rfl, Nat.le_of_ble_eq_true rfl⟩) (preV_of hC hS hM gm5 rfl) rfl rfl hl.1 rfl (lv_room (Nat.le_of_ble_eq_true rfl)) dL_law_1063 ⟨(by first | omega | (show _ ≤ 601024; omega) | (show _ ≤ 7293034; omega)), (by first | omega | (show _ ≤ 601024; omega) | (show _ ≤ 7293034; omega))⟩) hS (fun r1063 u1063 H locs hp1063 hM hS => ?_)
    have hM : Hm G u1063 H := hM
    rcases hp1063 with ⟨y1, hw2⟩ | ⟨y1, er2, hw2⟩
    · exact False.elim (by first | exact absurd z1 y1 | exact absurd y1 z1)
    · subst er2
      have hMk : Hm G u1063 H := hM
      have go6 : u1063 (ad 28 0) = some (.inl (G.2.1 1, 1, .inr (.inl (fun _ => (exs T (xs (x4 + 1).toNatClampNeg).toNatClampNeg))))) := hw2.1 28 0 _ rfl
      have gm6 : u1063 (ad 14 0) = some (.inr (6, [.int 0, .int (T.1 0 0), .ref (ad 15 0), .ref (ad 16 0), .ref (ad 17 0), .ref (ad 18 0), .int (T.1 5 0), .ref (ad 19 0), .ref (ad 20 0), .ref (ad 21 0), .ref (ad 22 0), .ref (ad 23 0), .ref (ad 24 0), .ref (ad 25 0), .ref (ad 26 0), .ref (ad 27 0)])) := hw2.1 14 0 _ rfl
      refine lv_lstore (lv' := [(6, .long (exs T (xs (x4 + 1).toNatClampNeg).toNatClampNeg)), (5, .int 0), (0, .ref b), (1, .ref (ad 0 0)), (2, .ref (ad 14 0)), (3, .ref (ad 28 0)), (4, .int x4)]) hx hb dL_law_1066 hl (by decide) rfl (fun ls hl => ?_)
      refine lv_aload_n hx hb dL_law_1068 rfl (lv_at hl 4 rfl) ?_
      refine k_i (va_runV (As := []) (rest := []) ⟨hx, hb, hml, hown, hts⟩ (c_X6_thrown l G u1063 T T 0 (exs T (xs (x4 + 1).toNatClampNeg).toNatClampNeg) ex ad hw2) (cwV 0 hts gL_law_X6_thrown rfl rfl rfl (by decide +kernel) ⟨Nat.le_of_ble_eq_true rfl, Nat.le_of_ble_eq_true rfl⟩) (preV_of hC hS hM gm6 rfl) rfl rfl hl.1 rfl (lv_room (Nat.le_of_ble_eq_true rfl)) dL_law_1069 ⟨(by first | omega | (show _ ≤ 601024; omega) | (show _ ≤ 7293034; omega)), (by first | omega | (show _ ≤ 601024; omega) | (show _ ≤ 7293034; omega))⟩) hS (fun r1069 u1069 H locs hp1069 hM hS => ?_)
      have hM : Hm G u1063 H := hM
      have hp1069 : r1069 = 0 := hp1069
      subst hp1069
      refine lv_iload hx hb dL_law_1072 (lv_at hl 1 rfl) ?_
      refine lv_icmp_eq (tgt := 1079) hx hb dL_law_1074 (by decide) (fun c_1074 => ?_) (fun c_1074 => False.elim (by revert c_1074; decide))
      refine lv_iload hx hb dL_law_1079 (lv_at hl 1 rfl) ?_
      refine lv_if_ne (tgt := 1095) hx hb dL_law_1081 (by decide) (fun c_1081 => False.elim (by revert c_1081; decide)) (fun c_1081 => ?_)
      refine lv_aload_n hx hb dL_law_1084 rfl (lv_at hl 5 rfl) ?_
      refine lv_iconst (v := 0) hx hb dL_law_1085 (by decide) ?_
      refine m_lald (a := (ad 28 0)) hx hb hC hM go6 (vin_of (n := 1) 1 (by decide) (by decide)) dL_law_1086 ?_
      refine lv_lload hx hb dL_law_1087 (lv_at hl 0 rfl) ?_
      refine W.lcmp hx hb dL_law_1089 ?_
      refine lv_if_eq (tgt := 1095) hx hb dL_law_1090 (by decide) (fun c_1090 => ?_) (fun c_1090 => False.elim (by exact c_1090 ((lg_cmp_eq _ _).mpr rfl)))
      refine lv_goto (tgt := 1326) hx hb dL_law_1095 (by decide) ?_
      refine W.widen (k := c0 + 42) (n := s0 + 132) (by omega) (by omega) ?_
      exact K T 0 (exs T (xs (x4 + 1).toNatClampNeg).toNatClampNeg) ex ad _ _ _ ls hi hx9 (hw2) hM hS (lv_sub hl [2, 3, 4, 5, 6] rfl)
set_option maxHeartbeats 4000000 in
set_option maxRecDepth 100000 in
theorem law_15 {p : Program} {l : Launch} (hnt : l.stackTraces = false) {e : Env} {s : State} {m : MethodId} {below : List Frame} {meth : Method} {c : Code} {b L : Nat} {xs : Nat → Int32} (C0 : lw_At p s m meth c b L xs) {G : Gx} {T : Sd} {th : Int32} {o : Int64} {ex : Nat → Option (Nat × Nat)} {ad : Nat → Nat → Nat} {M : Mp} {c0 s0 : Nat} {x4 : Int32} {Q : State → Prop} (k9 : Nat) (hk9 : k9 = 20) (hC : Cx G s) (hG : G.2.2 = s.heap.size) (hi : Iv T) (hx9 : Ix T ex) (hw : WA G T T th o ex ad M) (hc0 : c0 + 42 ≤ 601024) (hs0 : s0 + 132 ≤ 7293034) (h_1 : vp_in (x4 + 1) L) (h_2 : vp_in (x4 + 2) L) (h_3 : vp_in (x4 + 3) L) (h_4 : vp_in (x4 + 4) L) (h_5 : vp_in (x4 + 5) L) (h_6 : vp_in (x4 + 6) L)
    (K : ∀ (T' : Sd) (th' : Int32) (o' : Int64) (ex' : Nat → Option (Nat × Nat)) (ad' : Nat → Nat → Nat) (M' : Mp) (H : Heap) (locs : List Loc) (ls : Array Slot), Iv T' → Ix T' ex' → WA G T' T' th' o' ex' ad' M' → Hm G M' H → va_S (AG G) s.heap H locs → lv_has ls 8 [(0, .ref b), (1, .ref (ad' 0 0)), (2, .ref (ad' 14 0)), (3, .ref (ad' 28 0)), (4, .int x4)] → W p l e room_1 s m #[Value.ref b] below meth c H locs (c0 + 42) (s0 + 132) Q (F0 m 1326 ls [])) (ls : Array Slot) (hl : lv_has ls 8 [(0, .ref b), (1, .ref (ad 0 0)), (2, .ref (ad 14 0)), (3, .ref (ad 28 0)), (4, .int x4)]) (H : Heap) (locs : List Loc) (hM : Hm G M H) (hS : va_S (AG G) s.heap H locs) : W p l e room_1 s m #[Value.ref b] below meth c H locs c0 s0 Q (F0 m 1111 ls []) := by
  obtain ⟨hx, hb, hr, hml, hown, hts0, hX, hbl, hlocks, hgv⟩ := id C0
  have hts := fun w h => hts0 w (wsL_law_in w h)
  have hbA : ¬ AG G b := by show ¬ G.2.2 ≤ b; rw [hG]; exact Nat.not_le.mpr hbl
  refine lv_aload_n hx hb dL_law_1111 rfl (lv_at hl 1 rfl) ?_
  refine lv_aload_n hx hb dL_law_1112 rfl (lv_at hl 0 rfl) ?_
  refine lv_iload hx hb dL_law_1113 (lv_at hl 4 rfl) ?_
  refine lv_iconst (v := 1) hx hb dL_law_1115 (by decide) ?_
  refine lv_iadd hx hb dL_law_1116 ?_
  refine va_sld hx hb hX hbl hbA hS h_1 dL_law_1117 ?_
  refine lv_aload_n hx hb dL_law_1118 rfl (lv_at hl 0 rfl) ?_
  refine lv_iload hx hb dL_law_1119 (lv_at hl 4 rfl) ?_
  refine lv_iconst (v := 2) hx hb dL_law_1121 (by decide) ?_
  refine lv_iadd hx hb dL_law_1122 ?_
  refine va_sld hx hb hX hbl hbA hS h_2 dL_law_1123 ?_
  refine lv_aload_n hx hb dL_law_1124 rfl (lv_at hl 0 rfl) ?_
  refine lv_iload hx hb dL_law_1125 (lv_at hl 4 rfl) ?_
  refine lv_iconst (v := 3) hx hb dL_law_1127 (by decide) ?_
  refine lv_iadd hx hb dL_law_1128 ?_
  refine va_sld hx hb hX hbl hbA hS h_3 dL_law_1129 ?_
  refine lv_aload_n hx hb dL_law_1130 rfl (lv_at hl 3 rfl) ?_
  refine k_i (vx_runSW (As := [.ref (ad 0 0), .int (xs (x4 + 1).toNatClampNeg), .int (xs (x4 + 2).toNatClampNeg), .int (xs (x4 + 3).toNatClampNeg), .ref (ad 28 0)]) (rest := []) ⟨hx, hb, hml, hown, hts⟩ (c_L_due hnt l G M T T th o ex ad (xs (x4 + 1).toNatClampNeg) (xs (x4 + 2).toNatClampNeg) (xs (x4 + 3).toNatClampNeg) hw hi hx9) (vx_cwSW 5 hts gL_law_L_due rfl rfl rfl (by decide +kernel) ⟨Nat.le_of_ble_eq_true rfl, Nat.le_of_ble_eq_true rfl⟩) (preS_of hC hS hM) rfl rfl hl.1 rfl (lv_room (Nat.le_of_ble_eq_true rfl)) dL_law_1131 ⟨(by first | omega | (show _ ≤ 601024; omega) | (show _ ≤ 7293034; omega)), (by first | omega | (show _ ≤ 601024; omega) | (show _ ≤ 7293034; omega))⟩) hS (fun r1131 u1131 H locs hp1131 hM hS => ?_)
  have hM : Hm G u1131 H := hM
  rcases hp1131 with ⟨er, z1, hw1⟩ | ⟨er, ⟨z1, z2⟩, hw1⟩ | ⟨er, ⟨z1, z2, z3⟩, hw1⟩
  · subst er
    have go1 : u1131 (ad 28 0) = some (.inl (G.2.1 1, 1, .inr (.inl (fun _ => o)))) := hw1.1 28 0 _ rfl
    have gm1 : u1131 (ad 14 0) = some (.inr (6, [.int th, .int (T.1 0 0), .ref (ad 15 0), .ref (ad 16 0), .ref (ad 17 0), .ref (ad 18 0), .int (T.1 5 0), .ref (ad 19 0), .ref (ad 20 0), .ref (ad 21 0), .ref (ad 22 0), .ref (ad 23 0), .ref (ad 24 0), .ref (ad 25 0), .ref (ad 26 0), .ref (ad 27 0)])) := hw1.1 14 0 _ rfl
    refine lv_istore (lv' := [(5, .int 1), (0, .ref b), (1, .ref (ad 0 0)), (2, .ref (ad 14 0)), (3, .ref (ad 28 0)), (4, .int x4)]) hx hb dL_law_1134 hl (by decide) rfl (fun ls hl => ?_)
    refine lv_aload_n hx hb dL_law_1136 rfl (lv_at hl 3 rfl) ?_
    refine lv_aload_n hx hb dL_law_1137 rfl (lv_at hl 1 rfl) ?_
    refine lv_iload hx hb dL_law_1138 (lv_at hl 5 rfl) ?_
    refine lv_iconst (v := 1) hx hb dL_law_1140 (by decide) ?_
    refine lv_iadd hx hb dL_law_1141 ?_
    refine va_sld hx hb hX hbl hbA hS h_1 dL_law_1142 ?_
    refine lv_aload_n hx hb dL_law_1143 rfl (lv_at hl 1 rfl) ?_
    refine lv_iload hx hb dL_law_1144 (lv_at hl 5 rfl) ?_
    refine lv_iconst (v := 2) hx hb dL_law_1146 (by decide) ?_
    refine lv_iadd hx hb dL_law_1147 ?_
    refine va_sld hx hb hX hbl hbA hS h_2 dL_law_1148 ?_
    refine lv_aload_n hx hb dL_law_1149 rfl (lv_at hl 1 rfl) ?_
    refine lv_iload hx hb dL_law_1150 (lv_at hl 5 rfl) ?_
    refine lv_iconst (v := 3) hx hb dL_law_1152 (by decide) ?_
    refine lv_iadd hx hb dL_law_1153 ?_
    refine va_sld hx hb hX hbl hbA hS h_3 dL_law_1154 ?_
    refine k_l (va_runV (As := [.int (xs (x4 + 1).toNatClampNeg), .int (xs (x4 + 2).toNatClampNeg), .int (xs (x4 + 3).toNatClampNeg)]) (rest := []) ⟨hx, hb, hml, hown, hts⟩ (c_X6_due l G u1131 T T th o ex ad (xs (x4 + 1).toNatClampNeg) (xs (x4 + 2).toNatClampNeg) (xs (x4 + 3).toNatClampNeg) hw1 hi) (cwV 3 hts gL_law_X6_due rfl rfl rfl (by decide +kernel) ⟨Nat.le_of_ble_eq_true rfl, Nat.le_of_ble_eq_true rfl⟩) (preV_of hC hS hM gm1 rfl) rfl rfl hl.1 rfl (lv_room (Nat.le_of_ble_eq_true rfl)) dL_law_1155 ⟨(by first | omega | (show _ ≤ 601024; omega) | (show _ ≤ 7293034; omega)), (by first | omega | (show _ ≤ 601024; omega) | (show _ ≤ 7293034; omega))⟩) hS (fun r1155 u1155 H locs hp1155 hM hS => ?_)
    have hM : Hm G u1155 H := hM
    rcases hp1155 with ⟨y1, hw2⟩ | ⟨y1, y2, hw2⟩ | ⟨y1, y2, er2, hw2⟩
    · have hMk : Hm G u1155 H := hM
      have go2 : u1155 (ad 28 0) = some (.inl (G.2.1 1, 1, .inr (.inl (fun _ => o)))) := hw2.1 28 0 _ rfl
      have gm2 : u1155 (ad 14 0) = some (.inr (6, [.int 1, .int (T.1 0 0), .ref (ad 15 0), .ref (ad 16 0), .ref (ad 17 0), .ref (ad 18 0), .int (T.1 5 0), .ref (ad 19 0), .ref (ad 20 0), .ref (ad 21 0), .ref (ad 22 0), .ref (ad 23 0), .ref (ad 24 0), .ref (ad 25 0), .ref (ad 26 0), .ref (ad 27 0)])) := hw2.1 14 0 _ rfl
      refine lv_lstore (lv' := [(6, .long r1155), (5, .int 1), (0, .ref b), (1, .ref (ad 0 0)), (2, .ref (ad 14 0)), (3, .ref (ad 28 0)), (4, .int x4)]) hx hb dL_law_1158 hl (by decide) rfl (fun ls hl => ?_)
      refine lv_aload_n hx hb dL_law_1160 rfl (lv_at hl 4 rfl) ?_
      refine k_i (va_runV (As := []) (rest := []) ⟨hx, hb, hml, hown, hts⟩ (c_X6_thrown l G u1155 T T 1 o ex ad hw2) (cwV 0 hts gL_law_X6_thrown rfl rfl rfl (by decide +kernel) ⟨Nat.le_of_ble_eq_true rfl, Nat.le_of_ble_eq_true rfl⟩) (preV_of hC hS hM gm2 rfl) rfl rfl hl.1 rfl (lv_room (Nat.le_of_ble_eq_true rfl)) dL_law_1161 ⟨(by first | omega | (show _ ≤ 601024; omega) | (show _ ≤ 7293034; omega)), (by first | omega | (show _ ≤ 601024; omega) | (show _ ≤ 7293034; omega))⟩) hS (fun r1161 u1161 H locs hp1161 hM hS => ?_)
      have hM : Hm G u1155 H := hM
      have hp1161 : r1161 = 1 := hp1161
      subst hp1161
      refine lv_iload hx hb dL_law_1164 (lv_at hl 1 rfl) ?_
      refine lv_icmp_eq (tgt := 1171) hx hb dL_law_1166 (by decide) (fun c_1166 => ?_) (fun c_1166 => False.elim (by revert c_1166; decide))
      refine lv_iload hx hb dL_law_1171 (lv_at hl 1 rfl) ?_
      refine lv_if_ne (tgt := 1187) hx hb dL_law_1173 (by decide) (fun c_1173 => ?_) (fun c_1173 => False.elim (by revert c_1173; decide))
      refine lv_goto (tgt := 1326) hx hb dL_law_1187 (by decide) ?_
      refine W.widen (k := c0 + 42) (n := s0 + 132) (by omega) (by omega) ?_
      exact K T 1 o ex ad _ _ _ ls hi hx9 hw2 hM hS (lv_sub hl [2, 3, 4, 5, 6] rfl)
    · exact False.elim (by first | exact absurd z1 y1 | exact absurd y1 z1)
    · exact False.elim (by first | exact absurd z1 y1 | exact absurd y1 z1)
  · subst er
    have go5 : u1131 (ad 28 0) = some (.inl (G.2.1 1, 1, .inr (.inl (fun _ => o)))) := hw1.1 28 0 _ rfl
    have gm5 : u1131 (ad 14 0) = some (.inr (6, [.int th, .int (T.1 0 0), .ref (ad 15 0), .ref (ad 16 0), .ref (ad 17 0), .ref (ad 18 0), .int (T.1 5 0), .ref (ad 19 0), .ref (ad 20 0), .ref (ad 21 0), .ref (ad 22 0), .ref (ad 23 0), .ref (ad 24 0), .ref (ad 25 0), .ref (ad 26 0), .ref (ad 27 0)])) := hw1.1 14 0 _ rfl
    refine lv_istore (lv' := [(5, .int 2), (0, .ref b), (1, .ref (ad 0 0)), (2, .ref (ad 14 0)), (3, .ref (ad 28 0)), (4, .int x4)]) hx hb dL_law_1134 hl (by decide) rfl (fun ls hl => ?_)
    refine lv_aload_n hx hb dL_law_1136 rfl (lv_at hl 3 rfl) ?_
    refine lv_aload_n hx hb dL_law_1137 rfl (lv_at hl 1 rfl) ?_
    refine lv_iload hx hb dL_law_1138 (lv_at hl 5 rfl) ?_
    refine lv_iconst (v := 1) hx hb dL_law_1140 (by decide) ?_
    refine lv_iadd hx hb dL_law_1141 ?_
    refine va_sld hx hb hX hbl hbA hS h_1 dL_law_1142 ?_
    refine lv_aload_n hx hb dL_law_1143 rfl (lv_at hl 1 rfl) ?_
    refine lv_iload hx hb dL_law_1144 (lv_at hl 5 rfl) ?_
    refine lv_iconst (v := 2) hx hb dL_law_1146 (by decide) ?_
    refine lv_iadd hx hb dL_law_1147 ?_
    refine va_sld hx hb hX hbl hbA hS h_2 dL_law_1148 ?_
    refine lv_aload_n hx hb dL_law_1149 rfl (lv_at hl 1 rfl) ?_
    refine lv_iload hx hb dL_law_1150 (lv_at hl 5 rfl) ?_
    refine lv_iconst (v := 3) hx hb dL_law_1152 (by decide) ?_
    refine lv_iadd hx hb dL_law_1153 ?_
    refine va_sld hx hb hX hbl hbA hS h_3 dL_law_1154 ?_
    refine k_l (va_runV (As := [.int (xs (x4 + 1).toNatClampNeg), .int (xs (x4 + 2).toNatClampNeg), .int (xs (x4 + 3).toNatClampNeg)]) (rest := []) ⟨hx, hb, hml, hown, hts⟩ (c_X6_due l G u1131 T T th o ex ad (xs (x4 + 1).toNatClampNeg) (xs (x4 + 2).toNatClampNeg) (xs (x4 + 3).toNatClampNeg) hw1 hi) (cwV 3 hts gL_law_X6_due rfl rfl rfl (by decide +kernel) ⟨Nat.le_of_ble_eq_true rfl, Nat.le_of_ble_eq_true rfl⟩) (preV_of hC hS hM gm5 rfl) rfl rfl hl.1 rfl (lv_room (Nat.le_of_ble_eq_true rfl)) dL_law_1155 ⟨(by first | omega | (show _ ≤ 601024; omega) | (show _ ≤ 7293034; omega)), (by first | omega | (show _ ≤ 601024; omega) | (show _ ≤ 7293034; omega))⟩) hS (fun r1155 u1155 H locs hp1155 hM hS => ?_)
    have hM : Hm G u1155 H := hM
    rcases hp1155 with ⟨y1, hw2⟩ | ⟨y1, y2, hw2⟩ | ⟨y1, y2, er2, hw2⟩
    · exact False.elim (by first | exact absurd z1 y1 | exact absurd y1 z1)
    · have hMk : Hm G u1155 H := hM
      have go6 : u1155 (ad 28 0) = some (.inl (G.2.1 1, 1, .inr (.inl (fun _ => o)))) := hw2.1 28 0 _ rfl
      have gm6 : u1155 (ad 14 0) = some (.inr (6, [.int 2, .int (T.1 0 0), .ref (ad 15 0), .ref (ad 16 0), .ref (ad 17 0), .ref (ad 18 0), .int (T.1 5 0), .ref (ad 19 0), .ref (ad 20 0), .ref (ad 21 0), .ref (ad 22 0), .ref (ad 23 0), .ref (ad 24 0), .ref (ad 25 0), .ref (ad 26 0), .ref (ad 27 0)])) := hw2.1 14 0 _ rfl
      refine lv_lstore (lv' := [(6, .long r1155), (5, .int 2), (0, .ref b), (1, .ref (ad 0 0)), (2, .ref (ad 14 0)), (3, .ref (ad 28 0)), (4, .int x4)]) hx hb dL_law_1158 hl (by decide) rfl (fun ls hl => ?_)
      refine lv_aload_n hx hb dL_law_1160 rfl (lv_at hl 4 rfl) ?_
      refine k_i (va_runV (As := []) (rest := []) ⟨hx, hb, hml, hown, hts⟩ (c_X6_thrown l G u1155 T T 2 o ex ad hw2) (cwV 0 hts gL_law_X6_thrown rfl rfl rfl (by decide +kernel) ⟨Nat.le_of_ble_eq_true rfl, Nat.le_of_ble_eq_true rfl⟩) (preV_of hC hS hM gm6 rfl) rfl rfl hl.1 rfl (lv_room (Nat.le_of_ble_eq_true rfl)) dL_law_1161 ⟨(by first | omega | (show _ ≤ 601024; omega) | (show _ ≤ 7293034; omega)), (by first | omega | (show _ ≤ 601024; omega) | (show _ ≤ 7293034; omega))⟩) hS (fun r1161 u1161 H locs hp1161 hM hS => ?_)
      have hM : Hm G u1155 H := hM
      have hp1161 : r1161 = 2 := hp1161
      subst hp1161
      refine lv_iload hx hb dL_law_1164 (lv_at hl 1 rfl) ?_
      refine lv_icmp_eq (tgt := 1171) hx hb dL_law_1166 (by decide) (fun c_1166 => ?_) (fun c_1166 => False.elim (by revert c_1166; decide))
      refine lv_iload hx hb dL_law_1171 (lv_at hl 1 rfl) ?_
      refine lv_if_ne (tgt := 1187) hx hb dL_law_1173 (by decide) (fun c_1173 => ?_) (fun c_1173 => False.elim (by revert c_1173; decide))
      refine lv_goto (tgt := 1326) hx hb dL_law_1187 (by decide) ?_
      refine W.widen (k := c0 + 42) (n := s0 + 132) (by omega) (by omega) ?_
      exact K T 2 o ex ad _ _ _ ls hi hx9 hw2 hM hS (lv_sub hl [2, 3, 4, 5, 6] rfl)
    · exact False.elim (by first | exact absurd z2 y2 | exact absurd y2 z2)
  · subst er
    have go9 : u1131 (ad 28 0) = some (.inl (G.2.1 1, 1, .inr (.inl (fun _ => (T.2 0 (5 * (5 * (T.1 0 0 + (xs (x4 + 3).toNatClampNeg)).toNatClampNeg + (xs (x4 + 1).toNatClampNeg).toNatClampNeg) + (xs (x4 + 2).toNatClampNeg).toNatClampNeg)))))) := hw1.1 28 0 _ rfl
    have gm9 : u1131 (ad 14 0) = some (.inr (6, [.int th, .int (T.1 0 0), .ref (ad 15 0), .ref (ad 16 0), .ref (ad 17 0), .ref (ad 18 0), .int (T.1 5 0), .ref (ad 19 0), .ref (ad 20 0), .ref (ad 21 0), .ref (ad 22 0), .ref (ad 23 0), .ref (ad 24 0), .ref (ad 25 0), .ref (ad 26 0), .ref (ad 27 0)])) := hw1.1 14 0 _ rfl
    refine lv_istore (lv' := [(5, .int 0), (0, .ref b), (1, .ref (ad 0 0)), (2, .ref (ad 14 0)), (3, .ref (ad 28 0)), (4, .int x4)]) hx hb dL_law_1134 hl (by decide) rfl (fun ls hl => ?_)
    refine lv_aload_n hx hb dL_law_1136 rfl (lv_at hl 3 rfl) ?_
    refine lv_aload_n hx hb dL_law_1137 rfl (lv_at hl 1 rfl) ?_
    refine lv_iload hx hb dL_law_1138 (lv_at hl 5 rfl) ?_
    refine lv_iconst (v := 1) hx hb dL_law_1140 (by decide) ?_
    refine lv_iadd hx hb dL_law_1141 ?_
    refine va_sld hx hb hX hbl hbA hS h_1 dL_law_1142 ?_
    refine lv_aload_n hx hb dL_law_1143 rfl (lv_at hl 1 rfl) ?_
    refine lv_iload hx hb dL_law_1144 (lv_at hl 5 rfl) ?_
    refine lv_iconst (v := 2) hx hb dL_law_1146 (by decide) ?_
    refine lv_iadd hx hb dL_law_1147 ?_
    refine va_sld hx hb hX hbl hbA hS h_2 dL_law_1148 ?_
    refine lv_aload_n hx hb dL_law_1149 rfl (lv_at hl 1 rfl) ?_
    refine lv_iload hx hb dL_law_1150 (lv_at hl 5 rfl) ?_
    refine lv_iconst (v := 3) hx hb dL_law_1152 (by decide) ?_
    refine lv_iadd hx hb dL_law_1153 ?_
    refine va_sld hx hb hX hbl hbA hS h_3 dL_law_1154 ?_
    refine k_l (va_runV (As := [.int (xs (x4 + 1).toNatClampNeg), .int (xs (x4 + 2).toNatClampNeg), .int (xs (x4 + 3).toNatClampNeg)]) (rest := []) ⟨hx, hb, hml, hown, hts⟩ (c_X6_due l G u1131 T T th (T.2 0 (5 * (5 * (T.1 0 0 + (xs (x4 + 3).toNatClampNeg)).toNatClampNeg + (xs (x4 + 1).toNatClampNeg).toNatClampNeg) + (xs (x4 + 2).toNatClampNeg).toNatClampNeg)) ex ad (xs (x4 + 1).toNatClampNeg) (xs (x4 + 2).toNatClampNeg) (xs (x4 + 3).toNatClampNeg) hw1 hi) (cwV 3 hts gL_law_X6_due rfl rfl rfl (by decide +kernel) ⟨Nat.le_of_ble_eq_true rfl, Nat.le_of_ble_eq_true rfl⟩) (preV_of hC hS hM gm9 rfl) rfl rfl hl.1 rfl (lv_room (Nat.le_of_ble_eq_true rfl)) dL_law_1155 ⟨(by first | omega | (show _ ≤ 601024; omega) | (show _ ≤ 7293034; omega)), (by first | omega | (show _ ≤ 601024; omega) | (show _ ≤ 7293034; omega))⟩) hS (fun r1155 u1155 H locs hp1155 hM hS => ?_)
    have hM : Hm G u1155 H := hM
    rcases hp1155 with ⟨y1, hw2⟩ | ⟨y1, y2, hw2⟩ | ⟨y1, y2, er2, hw2⟩
    · exact False.elim (by first | exact absurd z1 y1 | exact absurd y1 z1)
    · exact False.elim (y2 ⟨z2, z3⟩)
    · subst er2
      have hMk : Hm G u1155 H := hM
      have go10 : u1155 (ad 28 0) = some (.inl (G.2.1 1, 1, .inr (.inl (fun _ => (T.2 0 (5 * (5 * (T.1 0 0 + (xs (x4 + 3).toNatClampNeg)).toNatClampNeg + (xs (x4 + 1).toNatClampNeg).toNatClampNeg) + (xs (x4 + 2).toNatClampNeg).toNatClampNeg)))))) := hw2.1 28 0 _ rfl
      have gm10 : u1155 (ad 14 0) = some (.inr (6, [.int 0, .int (T.1 0 0), .ref (ad 15 0), .ref (ad 16 0), .ref (ad 17 0), .ref (ad 18 0), .int (T.1 5 0), .ref (ad 19 0), .ref (ad 20 0), .ref (ad 21 0), .ref (ad 22 0), .ref (ad 23 0), .ref (ad 24 0), .ref (ad 25 0), .ref (ad 26 0), .ref (ad 27 0)])) := hw2.1 14 0 _ rfl
      refine lv_lstore (lv' := [(6, .long (T.2 0 (5 * (5 * (T.1 0 0 + (xs (x4 + 3).toNatClampNeg)).toNatClampNeg + (xs (x4 + 1).toNatClampNeg).toNatClampNeg) + (xs (x4 + 2).toNatClampNeg).toNatClampNeg))), (5, .int 0), (0, .ref b), (1, .ref (ad 0 0)), (2, .ref (ad 14 0)), (3, .ref (ad 28 0)), (4, .int x4)]) hx hb dL_law_1158 hl (by decide) rfl (fun ls hl => ?_)
      refine lv_aload_n hx hb dL_law_1160 rfl (lv_at hl 4 rfl) ?_
      refine k_i (va_runV (As := []) (rest := []) ⟨hx, hb, hml, hown, hts⟩ (c_X6_thrown l G u1155 T T 0 (T.2 0 (5 * (5 * (T.1 0 0 + (xs (x4 + 3).toNatClampNeg)).toNatClampNeg + (xs (x4 + 1).toNatClampNeg).toNatClampNeg) + (xs (x4 + 2).toNatClampNeg).toNatClampNeg)) ex ad hw2) (cwV 0 hts gL_law_X6_thrown rfl rfl rfl (by decide +kernel) ⟨Nat.le_of_ble_eq_true rfl, Nat.le_of_ble_eq_true rfl⟩) (preV_of hC hS hM gm10 rfl) rfl rfl hl.1 rfl (lv_room (Nat.le_of_ble_eq_true rfl)) dL_law_1161 ⟨(by first | omega | (show _ ≤ 601024; omega) | (show _ ≤ 7293034; omega)), (by first | omega | (show _ ≤ 601024; omega) | (show _ ≤ 7293034; omega))⟩) hS (fun r1161 u1161 H locs hp1161 hM hS => ?_)
      have hM : Hm G u1155 H := hM
      have hp1161 : r1161 = 0 := hp1161
      subst hp1161
      refine lv_iload hx hb dL_law_1164 (lv_at hl 1 rfl) ?_
      refine lv_icmp_eq (tgt := 1171) hx hb dL_law_1166 (by decide) (fun c_1166 => ?_) (fun c_1166 => False.elim (by revert c_1166; decide))
      refine lv_iload hx hb dL_law_1171 (lv_at hl 1 rfl) ?_
      refine lv_if_ne (tgt := 1187) hx hb dL_law_1173 (by decide) (fun c_1173 => False.elim (by revert c_1173; decide)) (fun c_1173 => ?_)
      refine lv_aload_n hx hb dL_law_1176 rfl (lv_at hl 5 rfl) ?_
      refine lv_iconst (v := 0) hx hb dL_law_1177 (by decide) ?_
      refine m_lald (a := (ad 28 0)) hx hb hC hM go10 (vin_of (n := 1) 1 (by decide) (by decide)) dL_law_1178 ?_
      refine lv_lload hx hb dL_law_1179 (lv_at hl 0 rfl) ?_
      refine W.lcmp hx hb dL_law_1181 ?_
      refine lv_if_eq (tgt := 1187) hx hb dL_law_1182 (by decide) (fun c_1182 => ?_) (fun c_1182 => False.elim (by exact c_1182 ((lg_cmp_eq _ _).mpr rfl)))
      refine lv_goto (tgt := 1326) hx hb dL_law_1187 (by decide) ?_
      refine W.widen (k := c0 + 42) (n := s0 + 132) (by omega) (by omega) ?_
      exact K T 0 (T.2 0 (5 * (5 * (T.1 0 0 + (xs (x4 + 3).toNatClampNeg)).toNatClampNeg + (xs (x4 + 1).toNatClampNeg).toNatClampNeg) + (xs (x4 + 2).toNatClampNeg).toNatClampNeg)) ex ad _ _ _ ls hi hx9 (hw2) hM hS (lv_sub hl [2, 3, 4, 5, 6] rfl)
set_option maxHeartbeats 4000000 in
set_option maxRecDepth 100000 in
theorem law_16 {p : Program} {l : Launch} (hnt : l.stackTraces = false) {e : Env} {s : State} {m : MethodId} {below : List Frame} {meth : Method} {c : Code} {b L : Nat} {xs : Nat → Int32} (C0 : lw_At p s m meth c b L xs) {G : Gx} {T : Sd} {th : Int32} {o : Int64} {ex : Nat → Option (Nat × Nat)} {ad : Nat → Nat → Nat} {M : Mp} {c0 s0 : Nat} {x4 : Int32} {Q : State → Prop} (k9 : Nat) (hk9 : k9 = 20) (hC : Cx G s) (hG : G.2.2 = s.heap.size) (hi : Iv T) (hx9 : Ix T ex) (hw : WA G T T th o ex ad M) (hc0 : c0 + 42 ≤ 601024) (hs0 : s0 + 132 ≤ 7293034) (h_1 : vp_in (x4 + 1) L) (h_2 : vp_in (x4 + 2) L) (h_3 : vp_in (x4 + 3) L) (h_4 : vp_in (x4 + 4) L) (h_5 : vp_in (x4 + 5) L) (h_6 : vp_in (x4 + 6) L)
    (K : ∀ (T' : Sd) (th' : Int32) (o' : Int64) (ex' : Nat → Option (Nat × Nat)) (ad' : Nat → Nat → Nat) (M' : Mp) (H : Heap) (locs : List Loc) (ls : Array Slot), Iv T' → Ix T' ex' → WA G T' T' th' o' ex' ad' M' → Hm G M' H → va_S (AG G) s.heap H locs → lv_has ls 8 [(0, .ref b), (1, .ref (ad' 0 0)), (2, .ref (ad' 14 0)), (3, .ref (ad' 28 0)), (4, .int x4)] → W p l e room_1 s m #[Value.ref b] below meth c H locs (c0 + 42) (s0 + 132) Q (F0 m 1326 ls [])) (ls : Array Slot) (hl : lv_has ls 8 [(0, .ref b), (1, .ref (ad 0 0)), (2, .ref (ad 14 0)), (3, .ref (ad 28 0)), (4, .int x4)]) (H : Heap) (locs : List Loc) (hM : Hm G M H) (hS : va_S (AG G) s.heap H locs) : W p l e room_1 s m #[Value.ref b] below meth c H locs c0 s0 Q (F0 m 1190 ls []) := by
  obtain ⟨hx, hb, hr, hml, hown, hts0, hX, hbl, hlocks, hgv⟩ := id C0
  have hts := fun w h => hts0 w (wsL_law_in w h)
  have hbA : ¬ AG G b := by show ¬ G.2.2 ≤ b; rw [hG]; exact Nat.not_le.mpr hbl
  refine lv_aload_n hx hb dL_law_1190 rfl (lv_at hl 1 rfl) ?_
  refine lv_aload_n hx hb dL_law_1191 rfl (lv_at hl 0 rfl) ?_
  refine lv_iload hx hb dL_law_1192 (lv_at hl 4 rfl) ?_
  refine lv_iconst (v := 1) hx hb dL_law_1194 (by decide) ?_
  refine lv_iadd hx hb dL_law_1195 ?_
  refine va_sld hx hb hX hbl hbA hS h_1 dL_law_1196 ?_
  refine lv_aload_n hx hb dL_law_1197 rfl (lv_at hl 0 rfl) ?_
  refine lv_iload hx hb dL_law_1198 (lv_at hl 4 rfl) ?_
  refine lv_iconst (v := 2) hx hb dL_law_1200 (by decide) ?_
  refine lv_iadd hx hb dL_law_1201 ?_
  refine va_sld hx hb hX hbl hbA hS h_2 dL_law_1202 ?_
  refine lv_aload_n hx hb dL_law_1203 rfl (lv_at hl 3 rfl) ?_
  refine k_i (vx_runSW (As := [.ref (ad 0 0), .int (xs (x4 + 1).toNatClampNeg), .int (xs (x4 + 2).toNatClampNeg), .ref (ad 28 0)]) (rest := []) ⟨hx, hb, hml, hown, hts⟩ (c_L_balance hnt l G M T T th o ex ad (xs (x4 + 1).toNatClampNeg) (xs (x4 + 2).toNatClampNeg) hw hi) (vx_cwSW 4 hts gL_law_L_balance rfl rfl rfl (by decide +kernel) ⟨Nat.le_of_ble_eq_true rfl, Nat.le_of_ble_eq_true rfl⟩) (preS_of hC hS hM) rfl rfl hl.1 rfl (lv_room (Nat.le_of_ble_eq_true rfl)) dL_law_1204 ⟨(by first | omega | (show _ ≤ 601024; omega) | (show _ ≤ 7293034; omega)), (by first | omega | (show _ ≤ 601024; omega) | (show _ ≤ 7293034; omega))⟩) hS (fun r1204 u1204 H locs hp1204 hM hS => ?_)
  have hM : Hm G u1204 H := hM
  rcases hp1204 with ⟨er, z1, hw1⟩ | ⟨er, ⟨z1, z2⟩, hw1⟩ | ⟨er, ⟨z1, z2⟩, hw1⟩
  · subst er
    have go1 : u1204 (ad 28 0) = some (.inl (G.2.1 1, 1, .inr (.inl (fun _ => o)))) := hw1.1 28 0 _ rfl
    have gm1 : u1204 (ad 14 0) = some (.inr (6, [.int th, .int (T.1 0 0), .ref (ad 15 0), .ref (ad 16 0), .ref (ad 17 0), .ref (ad 18 0), .int (T.1 5 0), .ref (ad 19 0), .ref (ad 20 0), .ref (ad 21 0), .ref (ad 22 0), .ref (ad 23 0), .ref (ad 24 0), .ref (ad 25 0), .ref (ad 26 0), .ref (ad 27 0)])) := hw1.1 14 0 _ rfl
    refine lv_istore (lv' := [(5, .int 1), (0, .ref b), (1, .ref (ad 0 0)), (2, .ref (ad 14 0)), (3, .ref (ad 28 0)), (4, .int x4)]) hx hb dL_law_1207 hl (by decide) rfl (fun ls hl => ?_)
    refine lv_aload_n hx hb dL_law_1209 rfl (lv_at hl 3 rfl) ?_
    refine lv_aload_n hx hb dL_law_1210 rfl (lv_at hl 1 rfl) ?_
    refine lv_iload hx hb dL_law_1211 (lv_at hl 5 rfl) ?_
    refine lv_iconst (v := 1) hx hb dL_law_1213 (by decide) ?_
    refine lv_iadd hx hb dL_law_1214 ?_
    refine va_sld hx hb hX hbl hbA hS h_1 dL_law_1215 ?_
    refine lv_aload_n hx hb dL_law_1216 rfl (lv_at hl 1 rfl) ?_
    refine lv_iload hx hb dL_law_1217 (lv_at hl 5 rfl) ?_
    refine lv_iconst (v := 2) hx hb dL_law_1219 (by decide) ?_
    refine lv_iadd hx hb dL_law_1220 ?_
    refine va_sld hx hb hX hbl hbA hS h_2 dL_law_1221 ?_
    refine k_l (va_runV (As := [.int (xs (x4 + 1).toNatClampNeg), .int (xs (x4 + 2).toNatClampNeg)]) (rest := []) ⟨hx, hb, hml, hown, hts⟩ (c_X6_balance l G u1204 T T th o ex ad (xs (x4 + 1).toNatClampNeg) (xs (x4 + 2).toNatClampNeg) hw1) (cwV 2 hts gL_law_X6_balance rfl rfl rfl (by decide +kernel) ⟨Nat.le_of_ble_eq_true rfl, Nat.le_of_ble_eq_true rfl⟩) (preV_of hC hS hM gm1 rfl) rfl rfl hl.1 rfl (lv_room (Nat.le_of_ble_eq_true rfl)) dL_law_1222 ⟨(by first | omega | (show _ ≤ 601024; omega) | (show _ ≤ 7293034; omega)), (by first | omega | (show _ ≤ 601024; omega) | (show _ ≤ 7293034; omega))⟩) hS (fun r1222 u1222 H locs hp1222 hM hS => ?_)
    have hM : Hm G u1222 H := hM
    rcases hp1222 with ⟨y1, hw2⟩ | ⟨y1, y2, hw2⟩ | ⟨y1, y2, er2, hw2⟩
    · have hMk : Hm G u1222 H := hM
      have go2 : u1222 (ad 28 0) = some (.inl (G.2.1 1, 1, .inr (.inl (fun _ => o)))) := hw2.1 28 0 _ rfl
      have gm2 : u1222 (ad 14 0) = some (.inr (6, [.int 1, .int (T.1 0 0), .ref (ad 15 0), .ref (ad 16 0), .ref (ad 17 0), .ref (ad 18 0), .int (T.1 5 0), .ref (ad 19 0), .ref (ad 20 0), .ref (ad 21 0), .ref (ad 22 0), .ref (ad 23 0), .ref (ad 24 0), .ref (ad 25 0), .ref (ad 26 0), .ref (ad 27 0)])) := hw2.1 14 0 _ rfl
      refine lv_lstore (lv' := [(6, .long r1222), (5, .int 1), (0, .ref b), (1, .ref (ad 0 0)), (2, .ref (ad 14 0)), (3, .ref (ad 28 0)), (4, .int x4)]) hx hb dL_law_1225 hl (by decide) rfl (fun ls hl => ?_)
      refine lv_aload_n hx hb dL_law_1227 rfl (lv_at hl 4 rfl) ?_
      refine k_i (va_runV (As := []) (rest := []) ⟨hx, hb, hml, hown, hts⟩ (c_X6_thrown l G u1222 T T 1 o ex ad hw2) (cwV 0 hts gL_law_X6_thrown rfl rfl rfl (by decide +kernel) ⟨Nat.le_of_ble_eq_true rfl, Nat.le_of_ble_eq_true rfl⟩) (preV_of hC hS hM gm2 rfl) rfl rfl hl.1 rfl (lv_room (Nat.le_of_ble_eq_true rfl)) dL_law_1228 ⟨(by first | omega | (show _ ≤ 601024; omega) | (show _ ≤ 7293034; omega)), (by first | omega | (show _ ≤ 601024; omega) | (show _ ≤ 7293034; omega))⟩) hS (fun r1228 u1228 H locs hp1228 hM hS => ?_)
      have hM : Hm G u1222 H := hM
      have hp1228 : r1228 = 1 := hp1228
      subst hp1228
      refine lv_iload hx hb dL_law_1231 (lv_at hl 1 rfl) ?_
      refine lv_icmp_eq (tgt := 1238) hx hb dL_law_1233 (by decide) (fun c_1233 => ?_) (fun c_1233 => False.elim (by revert c_1233; decide))
      refine lv_iload hx hb dL_law_1238 (lv_at hl 1 rfl) ?_
      refine lv_if_ne (tgt := 1254) hx hb dL_law_1240 (by decide) (fun c_1240 => ?_) (fun c_1240 => False.elim (by revert c_1240; decide))
      refine lv_goto (tgt := 1326) hx hb dL_law_1254 (by decide) ?_
      refine W.widen (k := c0 + 42) (n := s0 + 132) (by omega) (by omega) ?_
      exact K T 1 o ex ad _ _ _ ls hi hx9 hw2 hM hS (lv_sub hl [2, 3, 4, 5, 6] rfl)
    · exact False.elim (by first | exact absurd z1 y1 | exact absurd y1 z1)
    · exact False.elim (by first | exact absurd z1 y1 | exact absurd y1 z1)
  · subst er
    have go5 : u1204 (ad 28 0) = some (.inl (G.2.1 1, 1, .inr (.inl (fun _ => o)))) := hw1.1 28 0 _ rfl
    have gm5 : u1204 (ad 14 0) = some (.inr (6, [.int th, .int (T.1 0 0), .ref (ad 15 0), .ref (ad 16 0), .ref (ad 17 0), .ref (ad 18 0), .int (T.1 5 0), .ref (ad 19 0), .ref (ad 20 0), .ref (ad 21 0), .ref (ad 22 0), .ref (ad 23 0), .ref (ad 24 0), .ref (ad 25 0), .ref (ad 26 0), .ref (ad 27 0)])) := hw1.1 14 0 _ rfl
    refine lv_istore (lv' := [(5, .int 2), (0, .ref b), (1, .ref (ad 0 0)), (2, .ref (ad 14 0)), (3, .ref (ad 28 0)), (4, .int x4)]) hx hb dL_law_1207 hl (by decide) rfl (fun ls hl => ?_)
    refine lv_aload_n hx hb dL_law_1209 rfl (lv_at hl 3 rfl) ?_
    refine lv_aload_n hx hb dL_law_1210 rfl (lv_at hl 1 rfl) ?_
    refine lv_iload hx hb dL_law_1211 (lv_at hl 5 rfl) ?_
    refine lv_iconst (v := 1) hx hb dL_law_1213 (by decide) ?_
    refine lv_iadd hx hb dL_law_1214 ?_
    refine va_sld hx hb hX hbl hbA hS h_1 dL_law_1215 ?_
    refine lv_aload_n hx hb dL_law_1216 rfl (lv_at hl 1 rfl) ?_
    refine lv_iload hx hb dL_law_1217 (lv_at hl 5 rfl) ?_
    refine lv_iconst (v := 2) hx hb dL_law_1219 (by decide) ?_
    refine lv_iadd hx hb dL_law_1220 ?_
    refine va_sld hx hb hX hbl hbA hS h_2 dL_law_1221 ?_
    refine k_l (va_runV (As := [.int (xs (x4 + 1).toNatClampNeg), .int (xs (x4 + 2).toNatClampNeg)]) (rest := []) ⟨hx, hb, hml, hown, hts⟩ (c_X6_balance l G u1204 T T th o ex ad (xs (x4 + 1).toNatClampNeg) (xs (x4 + 2).toNatClampNeg) hw1) (cwV 2 hts gL_law_X6_balance rfl rfl rfl (by decide +kernel) ⟨Nat.le_of_ble_eq_true rfl, Nat.le_of_ble_eq_true rfl⟩) (preV_of hC hS hM gm5 rfl) rfl rfl hl.1 rfl (lv_room (Nat.le_of_ble_eq_true rfl)) dL_law_1222 ⟨(by first | omega | (show _ ≤ 601024; omega) | (show _ ≤ 7293034; omega)), (by first | omega | (show _ ≤ 601024; omega) | (show _ ≤ 7293034; omega))⟩) hS (fun r1222 u1222 H locs hp1222 hM hS => ?_)
    have hM : Hm G u1222 H := hM
    rcases hp1222 with ⟨y1, hw2⟩ | ⟨y1, y2, hw2⟩ | ⟨y1, y2, er2, hw2⟩
    · exact False.elim (by first | exact absurd z1 y1 | exact absurd y1 z1)
    · have hMk : Hm G u1222 H := hM
      have go6 : u1222 (ad 28 0) = some (.inl (G.2.1 1, 1, .inr (.inl (fun _ => o)))) := hw2.1 28 0 _ rfl
      have gm6 : u1222 (ad 14 0) = some (.inr (6, [.int 2, .int (T.1 0 0), .ref (ad 15 0), .ref (ad 16 0), .ref (ad 17 0), .ref (ad 18 0), .int (T.1 5 0), .ref (ad 19 0), .ref (ad 20 0), .ref (ad 21 0), .ref (ad 22 0), .ref (ad 23 0), .ref (ad 24 0), .ref (ad 25 0), .ref (ad 26 0), .ref (ad 27 0)])) := hw2.1 14 0 _ rfl
      refine lv_lstore (lv' := [(6, .long r1222), (5, .int 2), (0, .ref b), (1, .ref (ad 0 0)), (2, .ref (ad 14 0)), (3, .ref (ad 28 0)), (4, .int x4)]) hx hb dL_law_1225 hl (by decide) rfl (fun ls hl => ?_)
      refine lv_aload_n hx hb dL_law_1227 rfl (lv_at hl 4 rfl) ?_
      refine k_i (va_runV (As := []) (rest := []) ⟨hx, hb, hml, hown, hts⟩ (c_X6_thrown l G u1222 T T 2 o ex ad hw2) (cwV 0 hts gL_law_X6_thrown rfl rfl rfl (by decide +kernel) ⟨Nat.le_of_ble_eq_true rfl, Nat.le_of_ble_eq_true rfl⟩) (preV_of hC hS hM gm6 rfl) rfl rfl hl.1 rfl (lv_room (Nat.le_of_ble_eq_true rfl)) dL_law_1228 ⟨(by first | omega | (show _ ≤ 601024; omega) | (show _ ≤ 7293034; omega)), (by first | omega | (show _ ≤ 601024; omega) | (show _ ≤ 7293034; omega))⟩) hS (fun r1228 u1228 H locs hp1228 hM hS => ?_)
      have hM : Hm G u1222 H := hM
      have hp1228 : r1228 = 2 := hp1228
      subst hp1228
      refine lv_iload hx hb dL_law_1231 (lv_at hl 1 rfl) ?_
      refine lv_icmp_eq (tgt := 1238) hx hb dL_law_1233 (by decide) (fun c_1233 => ?_) (fun c_1233 => False.elim (by revert c_1233; decide))
      refine lv_iload hx hb dL_law_1238 (lv_at hl 1 rfl) ?_
      refine lv_if_ne (tgt := 1254) hx hb dL_law_1240 (by decide) (fun c_1240 => ?_) (fun c_1240 => False.elim (by revert c_1240; decide))
      refine lv_goto (tgt := 1326) hx hb dL_law_1254 (by decide) ?_
      refine W.widen (k := c0 + 42) (n := s0 + 132) (by omega) (by omega) ?_
      exact K T 2 o ex ad _ _ _ ls hi hx9 hw2 hM hS (lv_sub hl [2, 3, 4, 5, 6] rfl)
    · exact False.elim (by first | exact absurd z2 y2 | exact absurd y2 z2)
  · subst er
    have go9 : u1204 (ad 28 0) = some (.inl (G.2.1 1, 1, .inr (.inl (fun _ => (T.2 1 (5 * (xs (x4 + 1).toNatClampNeg).toNatClampNeg + (xs (x4 + 2).toNatClampNeg).toNatClampNeg)))))) := hw1.1 28 0 _ rfl
    have gm9 : u1204 (ad 14 0) = some (.inr (6, [.int th, .int (T.1 0 0), .ref (ad 15 0), .ref (ad 16 0), .ref (ad 17 0), .ref (ad 18 0), .int (T.1 5 0), .ref (ad 19 0), .ref (ad 20 0), .ref (ad 21 0), .ref (ad 22 0), .ref (ad 23 0), .ref (ad 24 0), .ref (ad 25 0), .ref (ad 26 0), .ref (ad 27 0)])) := hw1.1 14 0 _ rfl
    refine lv_istore (lv' := [(5, .int 0), (0, .ref b), (1, .ref (ad 0 0)), (2, .ref (ad 14 0)), (3, .ref (ad 28 0)), (4, .int x4)]) hx hb dL_law_1207 hl (by decide) rfl (fun ls hl => ?_)
    refine lv_aload_n hx hb dL_law_1209 rfl (lv_at hl 3 rfl) ?_
    refine lv_aload_n hx hb dL_law_1210 rfl (lv_at hl 1 rfl) ?_
    refine lv_iload hx hb dL_law_1211 (lv_at hl 5 rfl) ?_
    refine lv_iconst (v := 1) hx hb dL_law_1213 (by decide) ?_
    refine lv_iadd hx hb dL_law_1214 ?_
    refine va_sld hx hb hX hbl hbA hS h_1 dL_law_1215 ?_
    refine lv_aload_n hx hb dL_law_1216 rfl (lv_at hl 1 rfl) ?_
    refine lv_iload hx hb dL_law_1217 (lv_at hl 5 rfl) ?_
    refine lv_iconst (v := 2) hx hb dL_law_1219 (by decide) ?_
    refine lv_iadd hx hb dL_law_1220 ?_
    refine va_sld hx hb hX hbl hbA hS h_2 dL_law_1221 ?_
    refine k_l (va_runV (As := [.int (xs (x4 + 1).toNatClampNeg), .int (xs (x4 + 2).toNatClampNeg)]) (rest := []) ⟨hx, hb, hml, hown, hts⟩ (c_X6_balance l G u1204 T T th (T.2 1 (5 * (xs (x4 + 1).toNatClampNeg).toNatClampNeg + (xs (x4 + 2).toNatClampNeg).toNatClampNeg)) ex ad (xs (x4 + 1).toNatClampNeg) (xs (x4 + 2).toNatClampNeg) hw1) (cwV 2 hts gL_law_X6_balance rfl rfl rfl (by decide +kernel) ⟨Nat.le_of_ble_eq_true rfl, Nat.le_of_ble_eq_true rfl⟩) (preV_of hC hS hM gm9 rfl) rfl rfl hl.1 rfl (lv_room (Nat.le_of_ble_eq_true rfl)) dL_law_1222 ⟨(by first | omega | (show _ ≤ 601024; omega) | (show _ ≤ 7293034; omega)), (by first | omega | (show _ ≤ 601024; omega) | (show _ ≤ 7293034; omega))⟩) hS (fun r1222 u1222 H locs hp1222 hM hS => ?_)
    have hM : Hm G u1222 H := hM
    rcases hp1222 with ⟨y1, hw2⟩ | ⟨y1, y2, hw2⟩ | ⟨y1, y2, er2, hw2⟩
    · exact False.elim (by first | exact absurd z1 y1 | exact absurd y1 z1)
    · exact False.elim (by first | exact absurd z2 y2 | exact absurd y2 z2)
    · subst er2
      have hMk : Hm G u1222 H := hM
      have go10 : u1222 (ad 28 0) = some (.inl (G.2.1 1, 1, .inr (.inl (fun _ => (T.2 1 (5 * (xs (x4 + 1).toNatClampNeg).toNatClampNeg + (xs (x4 + 2).toNatClampNeg).toNatClampNeg)))))) := hw2.1 28 0 _ rfl
      have gm10 : u1222 (ad 14 0) = some (.inr (6, [.int 0, .int (T.1 0 0), .ref (ad 15 0), .ref (ad 16 0), .ref (ad 17 0), .ref (ad 18 0), .int (T.1 5 0), .ref (ad 19 0), .ref (ad 20 0), .ref (ad 21 0), .ref (ad 22 0), .ref (ad 23 0), .ref (ad 24 0), .ref (ad 25 0), .ref (ad 26 0), .ref (ad 27 0)])) := hw2.1 14 0 _ rfl
      refine lv_lstore (lv' := [(6, .long (T.2 1 (5 * (xs (x4 + 1).toNatClampNeg).toNatClampNeg + (xs (x4 + 2).toNatClampNeg).toNatClampNeg))), (5, .int 0), (0, .ref b), (1, .ref (ad 0 0)), (2, .ref (ad 14 0)), (3, .ref (ad 28 0)), (4, .int x4)]) hx hb dL_law_1225 hl (by decide) rfl (fun ls hl => ?_)
      refine lv_aload_n hx hb dL_law_1227 rfl (lv_at hl 4 rfl) ?_
      refine k_i (va_runV (As := []) (rest := []) ⟨hx, hb, hml, hown, hts⟩ (c_X6_thrown l G u1222 T T 0 (T.2 1 (5 * (xs (x4 + 1).toNatClampNeg).toNatClampNeg + (xs (x4 + 2).toNatClampNeg).toNatClampNeg)) ex ad hw2) (cwV 0 hts gL_law_X6_thrown rfl rfl rfl (by decide +kernel) ⟨Nat.le_of_ble_eq_true rfl, Nat.le_of_ble_eq_true rfl⟩) (preV_of hC hS hM gm10 rfl) rfl rfl hl.1 rfl (lv_room (Nat.le_of_ble_eq_true rfl)) dL_law_1228 ⟨(by first | omega | (show _ ≤ 601024; omega) | (show _ ≤ 7293034; omega)), (by first | omega | (show _ ≤ 601024; omega) | (show _ ≤ 7293034; omega))⟩) hS (fun r1228 u1228 H locs hp1228 hM hS => ?_)
      have hM : Hm G u1222 H := hM
      have hp1228 : r1228 = 0 := hp1228
      subst hp1228
      refine lv_iload hx hb dL_law_1231 (lv_at hl 1 rfl) ?_
      refine lv_icmp_eq (tgt := 1238) hx hb dL_law_1233 (by decide) (fun c_1233 => ?_) (fun c_1233 => False.elim (by revert c_1233; decide))
      refine lv_iload hx hb dL_law_1238 (lv_at hl 1 rfl) ?_
      refine lv_if_ne (tgt := 1254) hx hb dL_law_1240 (by decide) (fun c_1240 => False.elim (by revert c_1240; decide)) (fun c_1240 => ?_)
      refine lv_aload_n hx hb dL_law_1243 rfl (lv_at hl 5 rfl) ?_
      refine lv_iconst (v := 0) hx hb dL_law_1244 (by decide) ?_
      refine m_lald (a := (ad 28 0)) hx hb hC hM go10 (vin_of (n := 1) 1 (by decide) (by decide)) dL_law_1245 ?_
      refine lv_lload hx hb dL_law_1246 (lv_at hl 0 rfl) ?_
      refine W.lcmp hx hb dL_law_1248 ?_
      refine lv_if_eq (tgt := 1254) hx hb dL_law_1249 (by decide) (fun c_1249 => ?_) (fun c_1249 => False.elim (by exact c_1249 ((lg_cmp_eq _ _).mpr rfl)))
      refine lv_goto (tgt := 1326) hx hb dL_law_1254 (by decide) ?_
      refine W.widen (k := c0 + 42) (n := s0 + 132) (by omega) (by omega) ?_
      exact K T 0 (T.2 1 (5 * (xs (x4 + 1).toNatClampNeg).toNatClampNeg + (xs (x4 + 2).toNatClampNeg).toNatClampNeg)) ex ad _ _ _ ls hi hx9 (hw2) hM hS (lv_sub hl [2, 3, 4, 5, 6] rfl)
set_option maxHeartbeats 4000000 in
set_option maxRecDepth 100000 in
theorem law_17 {p : Program} {l : Launch} (hnt : l.stackTraces = false) {e : Env} {s : State} {m : MethodId} {below : List Frame} {meth : Method} {c : Code} {b L : Nat} {xs : Nat → Int32} (C0 : lw_At p s m meth c b L xs) {G : Gx} {T : Sd} {th : Int32} {o : Int64} {ex : Nat → Option (Nat × Nat)} {ad : Nat → Nat → Nat} {M : Mp} {c0 s0 : Nat} {x4 : Int32} {Q : State → Prop} (k9 : Nat) (hk9 : k9 = 20) (hC : Cx G s) (hG : G.2.2 = s.heap.size) (hi : Iv T) (hx9 : Ix T ex) (hw : WA G T T th o ex ad M) (hc0 : c0 + 42 ≤ 601024) (hs0 : s0 + 132 ≤ 7293034) (h_1 : vp_in (x4 + 1) L) (h_2 : vp_in (x4 + 2) L) (h_3 : vp_in (x4 + 3) L) (h_4 : vp_in (x4 + 4) L) (h_5 : vp_in (x4 + 5) L) (h_6 : vp_in (x4 + 6) L)
    (K : ∀ (T' : Sd) (th' : Int32) (o' : Int64) (ex' : Nat → Option (Nat × Nat)) (ad' : Nat → Nat → Nat) (M' : Mp) (H : Heap) (locs : List Loc) (ls : Array Slot), Iv T' → Ix T' ex' → WA G T' T' th' o' ex' ad' M' → Hm G M' H → va_S (AG G) s.heap H locs → lv_has ls 8 [(0, .ref b), (1, .ref (ad' 0 0)), (2, .ref (ad' 14 0)), (3, .ref (ad' 28 0)), (4, .int x4)] → W p l e room_1 s m #[Value.ref b] below meth c H locs (c0 + 42) (s0 + 132) Q (F0 m 1326 ls [])) (ls : Array Slot) (hl : lv_has ls 8 [(0, .ref b), (1, .ref (ad 0 0)), (2, .ref (ad 14 0)), (3, .ref (ad 28 0)), (4, .int x4)]) (H : Heap) (locs : List Loc) (hM : Hm G M H) (hS : va_S (AG G) s.heap H locs) : W p l e room_1 s m #[Value.ref b] below meth c H locs c0 s0 Q (F0 m 1257 ls []) := by
  obtain ⟨hx, hb, hr, hml, hown, hts0, hX, hbl, hlocks, hgv⟩ := id C0
  have hts := fun w h => hts0 w (wsL_law_in w h)
  have hbA : ¬ AG G b := by show ¬ G.2.2 ≤ b; rw [hG]; exact Nat.not_le.mpr hbl
  refine lv_aload_n hx hb dL_law_1257 rfl (lv_at hl 1 rfl) ?_
  refine lv_aload_n hx hb dL_law_1258 rfl (lv_at hl 0 rfl) ?_
  refine lv_iload hx hb dL_law_1259 (lv_at hl 4 rfl) ?_
  refine lv_iconst (v := 1) hx hb dL_law_1261 (by decide) ?_
  refine lv_iadd hx hb dL_law_1262 ?_
  refine va_sld hx hb hX hbl hbA hS h_1 dL_law_1263 ?_
  refine lv_aload_n hx hb dL_law_1264 rfl (lv_at hl 3 rfl) ?_
  refine k_i (vx_runSW (As := [.ref (ad 0 0), .int (xs (x4 + 1).toNatClampNeg), .ref (ad 28 0)]) (rest := []) ⟨hx, hb, hml, hown, hts⟩ (c_L_pass hnt l G M T T th o ex ad k9 hk9 (xs (x4 + 1).toNatClampNeg) hw hi hx9) (vx_cwSW 3 hts gL_law_L_pass rfl rfl rfl (by decide +kernel) ⟨Nat.le_of_ble_eq_true rfl, Nat.le_of_ble_eq_true rfl⟩) (preS_of hC hS hM) rfl rfl hl.1 rfl (lv_room (Nat.le_of_ble_eq_true rfl)) dL_law_1265 ⟨(by first | omega | (show _ ≤ 601024; omega) | (show _ ≤ 7293034; omega)), (by first | omega | (show _ ≤ 601024; omega) | (show _ ≤ 7293034; omega))⟩) hS (fun r1265 u1265 H locs hp1265 hM hS => ?_)
  have hM : Hm G u1265 H := hM
  rcases hp1265 with ⟨er, z1, hw1⟩ | ⟨er, ⟨z1, z2⟩, hw1⟩ | ⟨er, ⟨z1, z2⟩, ex1, hw1, hx1⟩
  · subst er
    have go1 : u1265 (ad 28 0) = some (.inl (G.2.1 1, 1, .inr (.inl (fun _ => o)))) := hw1.1 28 0 _ rfl
    have gm1 : u1265 (ad 14 0) = some (.inr (6, [.int th, .int (T.1 0 0), .ref (ad 15 0), .ref (ad 16 0), .ref (ad 17 0), .ref (ad 18 0), .int (T.1 5 0), .ref (ad 19 0), .ref (ad 20 0), .ref (ad 21 0), .ref (ad 22 0), .ref (ad 23 0), .ref (ad 24 0), .ref (ad 25 0), .ref (ad 26 0), .ref (ad 27 0)])) := hw1.1 14 0 _ rfl
    refine lv_istore (lv' := [(5, .int 1), (0, .ref b), (1, .ref (ad 0 0)), (2, .ref (ad 14 0)), (3, .ref (ad 28 0)), (4, .int x4)]) hx hb dL_law_1268 hl (by decide) rfl (fun ls hl => ?_)
    refine lv_aload_n hx hb dL_law_1270 rfl (lv_at hl 3 rfl) ?_
    refine lv_aload_n hx hb dL_law_1271 rfl (lv_at hl 1 rfl) ?_
    refine lv_iload hx hb dL_law_1272 (lv_at hl 5 rfl) ?_
    refine lv_iconst (v := 1) hx hb dL_law_1274 (by decide) ?_
    refine lv_iadd hx hb dL_law_1275 ?_
    refine va_sld hx hb hX hbl hbA hS h_1 dL_law_1276 ?_
    refine k_i (va_runV (As := [.int (xs (x4 + 1).toNatClampNeg)]) (rest := []) ⟨hx, hb, hml, hown, hts⟩ (c_X6_pass l G u1265 T T th o ex ad k9 hk9 (xs (x4 + 1).toNatClampNeg) hw1 hi) (cwV 1 hts gL_law_X6_pass rfl rfl rfl (by decide +kernel) ⟨Nat.le_of_ble_eq_true rfl, Nat.le_of_ble_eq_true rfl⟩) (preV_of hC hS hM gm1 rfl) rfl rfl hl.1 rfl (lv_room (Nat.le_of_ble_eq_true rfl)) dL_law_1277 ⟨(by first | omega | (show _ ≤ 601024; omega) | (show _ ≤ 7293034; omega)), (by first | omega | (show _ ≤ 601024; omega) | (show _ ≤ 7293034; omega))⟩) hS (fun r1277 u1277 H locs hp1277 hM hS => ?_)
    have hM : Hm G u1277 H := hM
    rcases hp1277 with ⟨y1, hw2⟩ | ⟨y1, y2, hw2⟩ | ⟨y1, y2, er2, hw2⟩
    · have hMk : Hm G u1277 H := hM
      have go2 : u1277 (ad 28 0) = some (.inl (G.2.1 1, 1, .inr (.inl (fun _ => o)))) := hw2.1 28 0 _ rfl
      have gm2 : u1277 (ad 14 0) = some (.inr (6, [.int 1, .int (T.1 0 0), .ref (ad 15 0), .ref (ad 16 0), .ref (ad 17 0), .ref (ad 18 0), .int (T.1 5 0), .ref (ad 19 0), .ref (ad 20 0), .ref (ad 21 0), .ref (ad 22 0), .ref (ad 23 0), .ref (ad 24 0), .ref (ad 25 0), .ref (ad 26 0), .ref (ad 27 0)])) := hw2.1 14 0 _ rfl
      refine lv_istore (lv' := [(6, .int r1277), (5, .int 1), (0, .ref b), (1, .ref (ad 0 0)), (2, .ref (ad 14 0)), (3, .ref (ad 28 0)), (4, .int x4)]) hx hb dL_law_1280 hl (by decide) rfl (fun ls hl => ?_)
      refine lv_aload_n hx hb dL_law_1282 rfl (lv_at hl 4 rfl) ?_
      refine k_i (va_runV (As := []) (rest := []) ⟨hx, hb, hml, hown, hts⟩ (c_X6_thrown l G u1277 T T 1 o ex ad hw2) (cwV 0 hts gL_law_X6_thrown rfl rfl rfl (by decide +kernel) ⟨Nat.le_of_ble_eq_true rfl, Nat.le_of_ble_eq_true rfl⟩) (preV_of hC hS hM gm2 rfl) rfl rfl hl.1 rfl (lv_room (Nat.le_of_ble_eq_true rfl)) dL_law_1283 ⟨(by first | omega | (show _ ≤ 601024; omega) | (show _ ≤ 7293034; omega)), (by first | omega | (show _ ≤ 601024; omega) | (show _ ≤ 7293034; omega))⟩) hS (fun r1283 u1283 H locs hp1283 hM hS => ?_)
      have hM : Hm G u1277 H := hM
      have hp1283 : r1283 = 1 := hp1283
      subst hp1283
      refine lv_iload hx hb dL_law_1286 (lv_at hl 1 rfl) ?_
      refine lv_icmp_eq (tgt := 1293) hx hb dL_law_1288 (by decide) (fun c_1288 => ?_) (fun c_1288 => False.elim (by revert c_1288; decide))
      refine lv_iload hx hb dL_law_1293 (lv_at hl 1 rfl) ?_
      refine lv_if_ne (tgt := 1310) hx hb dL_law_1295 (by decide) (fun c_1295 => ?_) (fun c_1295 => False.elim (by revert c_1295; decide))
      refine lv_goto (tgt := 1326) hx hb dL_law_1310 (by decide) ?_
      refine W.widen (k := c0 + 42) (n := s0 + 132) (by omega) (by omega) ?_
      exact K T 1 o ex ad _ _ _ ls hi hx9 hw2 hM hS (lv_sub hl [2, 3, 4, 5, 6] rfl)
    · exact False.elim (by first | exact absurd z1 y1 | exact absurd y1 z1)
    · exact False.elim (by first | exact absurd z1 y1 | exact absurd y1 z1)
  · subst er
    have go5 : u1265 (ad 28 0) = some (.inl (G.2.1 1, 1, .inr (.inl (fun _ => o)))) := hw1.1 28 0 _ rfl
    have gm5 : u1265 (ad 14 0) = some (.inr (6, [.int th, .int (T.1 0 0), .ref (ad 15 0), .ref (ad 16 0), .ref (ad 17 0), .ref (ad 18 0), .int (T.1 5 0), .ref (ad 19 0), .ref (ad 20 0), .ref (ad 21 0), .ref (ad 22 0), .ref (ad 23 0), .ref (ad 24 0), .ref (ad 25 0), .ref (ad 26 0), .ref (ad 27 0)])) := hw1.1 14 0 _ rfl
    refine lv_istore (lv' := [(5, .int 2), (0, .ref b), (1, .ref (ad 0 0)), (2, .ref (ad 14 0)), (3, .ref (ad 28 0)), (4, .int x4)]) hx hb dL_law_1268 hl (by decide) rfl (fun ls hl => ?_)
    refine lv_aload_n hx hb dL_law_1270 rfl (lv_at hl 3 rfl) ?_
    refine lv_aload_n hx hb dL_law_1271 rfl (lv_at hl 1 rfl) ?_
    refine lv_iload hx hb dL_law_1272 (lv_at hl 5 rfl) ?_
    refine lv_iconst (v := 1) hx hb dL_law_1274 (by decide) ?_
    refine lv_iadd hx hb dL_law_1275 ?_
    refine va_sld hx hb hX hbl hbA hS h_1 dL_law_1276 ?_
    refine k_i (va_runV (As := [.int (xs (x4 + 1).toNatClampNeg)]) (rest := []) ⟨hx, hb, hml, hown, hts⟩ (c_X6_pass l G u1265 T T th o ex ad k9 hk9 (xs (x4 + 1).toNatClampNeg) hw1 hi) (cwV 1 hts gL_law_X6_pass rfl rfl rfl (by decide +kernel) ⟨Nat.le_of_ble_eq_true rfl, Nat.le_of_ble_eq_true rfl⟩) (preV_of hC hS hM gm5 rfl) rfl rfl hl.1 rfl (lv_room (Nat.le_of_ble_eq_true rfl)) dL_law_1277 ⟨(by first | omega | (show _ ≤ 601024; omega) | (show _ ≤ 7293034; omega)), (by first | omega | (show _ ≤ 601024; omega) | (show _ ≤ 7293034; omega))⟩) hS (fun r1277 u1277 H locs hp1277 hM hS => ?_)
    have hM : Hm G u1277 H := hM
    rcases hp1277 with ⟨y1, hw2⟩ | ⟨y1, y2, hw2⟩ | ⟨y1, y2, er2, hw2⟩
    · exact False.elim (by first | exact absurd z1 y1 | exact absurd y1 z1)
    · have hMk : Hm G u1277 H := hM
      have go6 : u1277 (ad 28 0) = some (.inl (G.2.1 1, 1, .inr (.inl (fun _ => o)))) := hw2.1 28 0 _ rfl
      have gm6 : u1277 (ad 14 0) = some (.inr (6, [.int 2, .int (T.1 0 0), .ref (ad 15 0), .ref (ad 16 0), .ref (ad 17 0), .ref (ad 18 0), .int (T.1 5 0), .ref (ad 19 0), .ref (ad 20 0), .ref (ad 21 0), .ref (ad 22 0), .ref (ad 23 0), .ref (ad 24 0), .ref (ad 25 0), .ref (ad 26 0), .ref (ad 27 0)])) := hw2.1 14 0 _ rfl
      refine lv_istore (lv' := [(6, .int r1277), (5, .int 2), (0, .ref b), (1, .ref (ad 0 0)), (2, .ref (ad 14 0)), (3, .ref (ad 28 0)), (4, .int x4)]) hx hb dL_law_1280 hl (by decide) rfl (fun ls hl => ?_)
      refine lv_aload_n hx hb dL_law_1282 rfl (lv_at hl 4 rfl) ?_
      refine k_i (va_runV (As := []) (rest := []) ⟨hx, hb, hml, hown, hts⟩ (c_X6_thrown l G u1277 T T 2 o ex ad hw2) (cwV 0 hts gL_law_X6_thrown rfl rfl rfl (by decide +kernel) ⟨Nat.le_of_ble_eq_true rfl, Nat.le_of_ble_eq_true rfl⟩) (preV_of hC hS hM gm6 rfl) rfl rfl hl.1 rfl (lv_room (Nat.le_of_ble_eq_true rfl)) dL_law_1283 ⟨(by first | omega | (show _ ≤ 601024; omega) | (show _ ≤ 7293034; omega)), (by first | omega | (show _ ≤ 601024; omega) | (show _ ≤ 7293034; omega))⟩) hS (fun r1283 u1283 H locs hp1283 hM hS => ?_)
      have hM : Hm G u1277 H := hM
      have hp1283 : r1283 = 2 := hp1283
      subst hp1283
      refine lv_iload hx hb dL_law_1286 (lv_at hl 1 rfl) ?_
      refine lv_icmp_eq (tgt := 1293) hx hb dL_law_1288 (by decide) (fun c_1288 => ?_) (fun c_1288 => False.elim (by revert c_1288; decide))
      refine lv_iload hx hb dL_law_1293 (lv_at hl 1 rfl) ?_
      refine lv_if_ne (tgt := 1310) hx hb dL_law_1295 (by decide) (fun c_1295 => ?_) (fun c_1295 => False.elim (by revert c_1295; decide))
      refine lv_goto (tgt := 1326) hx hb dL_law_1310 (by decide) ?_
      refine W.widen (k := c0 + 42) (n := s0 + 132) (by omega) (by omega) ?_
      exact K T 2 o ex ad _ _ _ ls hi hx9 hw2 hM hS (lv_sub hl [2, 3, 4, 5, 6] rfl)
    · exact False.elim (by first | exact absurd z2 y2 | exact absurd y2 z2)
  · subst er
    have go9 : u1265 (ad 28 0) = some (.inl (G.2.1 1, 1, .inr (.inl (fun _ => (nI (pn T k9 (xs (x4 + 1).toNatClampNeg).toNatClampNeg)).toInt64)))) := hw1.1 28 0 _ rfl
    have gm9 : u1265 (ad 14 0) = some (.inr (6, [.int th, .int (T.1 0 0), .ref (ad 15 0), .ref (ad 16 0), .ref (ad 17 0), .ref (ad 18 0), .int (T.1 5 0), .ref (ad 19 0), .ref (ad 20 0), .ref (ad 21 0), .ref (ad 22 0), .ref (ad 23 0), .ref (ad 24 0), .ref (ad 25 0), .ref (ad 26 0), .ref (ad 27 0)])) := hw1.1 14 0 _ rfl
    refine lv_istore (lv' := [(5, .int 0), (0, .ref b), (1, .ref (ad 0 0)), (2, .ref (ad 14 0)), (3, .ref (ad 28 0)), (4, .int x4)]) hx hb dL_law_1268 hl (by decide) rfl (fun ls hl => ?_)
    refine lv_aload_n hx hb dL_law_1270 rfl (lv_at hl 3 rfl) ?_
    refine lv_aload_n hx hb dL_law_1271 rfl (lv_at hl 1 rfl) ?_
    refine lv_iload hx hb dL_law_1272 (lv_at hl 5 rfl) ?_
    refine lv_iconst (v := 1) hx hb dL_law_1274 (by decide) ?_
    refine lv_iadd hx hb dL_law_1275 ?_
    refine va_sld hx hb hX hbl hbA hS h_1 dL_law_1276 ?_
    refine k_i (va_runV (As := [.int (xs (x4 + 1).toNatClampNeg)]) (rest := []) ⟨hx, hb, hml, hown, hts⟩ (c_X6_pass l G u1265 (pd T k9 (xs (x4 + 1).toNatClampNeg).toNatClampNeg) T th ((nI (pn T k9 (xs (x4 + 1).toNatClampNeg).toNatClampNeg)).toInt64) ex1 ad k9 hk9 (xs (x4 + 1).toNatClampNeg) hw1 hi) (cwV 1 hts gL_law_X6_pass rfl rfl rfl (by decide +kernel) ⟨Nat.le_of_ble_eq_true rfl, Nat.le_of_ble_eq_true rfl⟩) (preV_of hC hS hM gm9 rfl) rfl rfl hl.1 rfl (lv_room (Nat.le_of_ble_eq_true rfl)) dL_law_1277 ⟨(by first | omega | (show _ ≤ 601024; omega) | (show _ ≤ 7293034; omega)), (by first | omega | (show _ ≤ 601024; omega) | (show _ ≤ 7293034; omega))⟩) hS (fun r1277 u1277 H locs hp1277 hM hS => ?_)
    have hM : Hm G u1277 H := hM
    rcases hp1277 with ⟨y1, hw2⟩ | ⟨y1, y2, hw2⟩ | ⟨y1, y2, er2, hw2⟩
    · exact False.elim (by first | exact absurd z1 y1 | exact absurd y1 z1)
    · exact False.elim (by first | exact absurd z2 y2 | exact absurd y2 z2)
    · subst er2
      have hMk : Hm G u1277 H := hM
      have go10 : u1277 (ad 28 0) = some (.inl (G.2.1 1, 1, .inr (.inl (fun _ => (nI (pn T k9 (xs (x4 + 1).toNatClampNeg).toNatClampNeg)).toInt64)))) := hw2.1 28 0 _ rfl
      have gm10 : u1277 (ad 14 0) = some (.inr (6, [.int 0, .int ((pd T k9 (xs (x4 + 1).toNatClampNeg).toNatClampNeg).1 0 0), .ref (ad 15 0), .ref (ad 16 0), .ref (ad 17 0), .ref (ad 18 0), .int ((pd T k9 (xs (x4 + 1).toNatClampNeg).toNatClampNeg).1 5 0), .ref (ad 19 0), .ref (ad 20 0), .ref (ad 21 0), .ref (ad 22 0), .ref (ad 23 0), .ref (ad 24 0), .ref (ad 25 0), .ref (ad 26 0), .ref (ad 27 0)])) := hw2.1 14 0 _ rfl
      refine lv_istore (lv' := [(6, .int (nI (pn T k9 (xs (x4 + 1).toNatClampNeg).toNatClampNeg))), (5, .int 0), (0, .ref b), (1, .ref (ad 0 0)), (2, .ref (ad 14 0)), (3, .ref (ad 28 0)), (4, .int x4)]) hx hb dL_law_1280 hl (by decide) rfl (fun ls hl => ?_)
      refine lv_aload_n hx hb dL_law_1282 rfl (lv_at hl 4 rfl) ?_
      refine k_i (va_runV (As := []) (rest := []) ⟨hx, hb, hml, hown, hts⟩ (c_X6_thrown l G u1277 (pd T k9 (xs (x4 + 1).toNatClampNeg).toNatClampNeg) (pd T k9 (xs (x4 + 1).toNatClampNeg).toNatClampNeg) 0 ((nI (pn T k9 (xs (x4 + 1).toNatClampNeg).toNatClampNeg)).toInt64) ex1 ad hw2) (cwV 0 hts gL_law_X6_thrown rfl rfl rfl (by decide +kernel) ⟨Nat.le_of_ble_eq_true rfl, Nat.le_of_ble_eq_true rfl⟩) (preV_of hC hS hM gm10 rfl) rfl rfl hl.1 rfl (lv_room (Nat.le_of_ble_eq_true rfl)) dL_law_1283 ⟨(by first | omega | (show _ ≤ 601024; omega) | (show _ ≤ 7293034; omega)), (by first | omega | (show _ ≤ 601024; omega) | (show _ ≤ 7293034; omega))⟩) hS (fun r1283 u1283 H locs hp1283 hM hS => ?_)
      have hM : Hm G u1277 H := hM
      have hp1283 : r1283 = 0 := hp1283
      subst hp1283
      refine lv_iload hx hb dL_law_1286 (lv_at hl 1 rfl) ?_
      refine lv_icmp_eq (tgt := 1293) hx hb dL_law_1288 (by decide) (fun c_1288 => ?_) (fun c_1288 => False.elim (by revert c_1288; decide))
      refine lv_iload hx hb dL_law_1293 (lv_at hl 1 rfl) ?_
      refine lv_if_ne (tgt := 1310) hx hb dL_law_1295 (by decide) (fun c_1295 => False.elim (by revert c_1295; decide)) (fun c_1295 => ?_)
      refine lv_aload_n hx hb dL_law_1298 rfl (lv_at hl 5 rfl) ?_
      refine lv_iconst (v := 0) hx hb dL_law_1299 (by decide) ?_
      refine m_lald (a := (ad 28 0)) hx hb hC hM go10 (vin_of (n := 1) 1 (by decide) (by decide)) dL_law_1300 ?_
      refine lv_iload hx hb dL_law_1301 (lv_at hl 0 rfl) ?_
      refine lv_i2l hx hb dL_law_1303 rfl ?_
      refine W.lcmp hx hb dL_law_1304 ?_
      refine lv_if_eq (tgt := 1310) hx hb dL_law_1305 (by decide) (fun c_1305 => ?_) (fun c_1305 => False.elim (by exact c_1305 ((lg_cmp_eq _ _).mpr rfl)))
      refine lv_goto (tgt := 1326) hx hb dL_law_1310 (by decide) ?_
      refine W.widen (k := c0 + 42) (n := s0 + 132) (by omega) (by omega) ?_
      exact K (pd T k9 (xs (x4 + 1).toNatClampNeg).toNatClampNeg) 0 ((nI (pn T k9 (xs (x4 + 1).toNatClampNeg).toNatClampNeg)).toInt64) ex1 ad _ _ _ ls (iv_pd hi k9 _ (day_le hi z1 z2)) hx1 (hw2) hM hS (lv_sub hl [2, 3, 4, 5, 6] rfl)
