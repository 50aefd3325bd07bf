set_option maxHeartbeats 4000000 in
set_option maxRecDepth 100000 in
theorem c_L_deals {l : Launch} (hnt : l.stackTraces = false) (l' : Launch) (G : Gx) (M : Mp) (S T : Sd) (th : Int32) (o : Int64) (ex : Nat → Option (Nat × Nat)) (ad : Nat → Nat → Nat) (ac yy zz : Int32) (hw : WA G S T th o ex ad M) (hi : Iv S) (hx9 : Ix S ex) (hR : Rel S T) : Met l yL_deals wsL_deals ({ frames := 9, cells := 63, slots := 387, locals := 220 }) (Cv G M [.ref (ad 0 0), .int ac, .int yy, .int zz, .ref (ad 14 0), .ref (ad 15 0), .ref (ad 16 0), .ref (ad 17 0), .ref (ad 18 0), .ref (ad 19 0), .ref (ad 20 0), .ref (ad 22 0)]) (va_Qi (S := Mp) (fun r M2 => r = 1 ∧ Nx G th o ad M2) (Bm G (fun M2 => M2)) (AG G)) (63) (387) (AG G) := by
  refine m_met [.ref (ad 0 0), .int ac, .int yy, .int zz, .ref (ad 14 0), .ref (ad 15 0), .ref (ad 16 0), .ref (ad 17 0), .ref (ad 18 0), .ref (ad 19 0), .ref (ad 20 0), .ref (ad 22 0)] [(0, .ref (ad 0 0)), (1, .int ac), (2, .int yy), (3, .int zz), (4, .ref (ad 14 0)), (5, .ref (ad 15 0)), (6, .ref (ad 16 0)), (7, .ref (ad 17 0)), (8, .ref (ad 18 0)), (9, .ref (ad 19 0)), (10, .ref (ad 20 0)), (11, .ref (ad 22 0))] (by decide) rfl rfl (Nat.le_of_ble_eq_true rfl) ?_
  intro p e s m below meth c ls hx hb hr hml hown hts hlocks hin hC hM hl hS
  have hG1 : T.1 22 1 = nI (ndl S) := hR.1.2.trans (ndl_i hi)
  have hTg := rl_tg hR hi
  have hnd := hi.nd
  have ht9 := tdy_le hi
  refine lv_iload_n hx hb dL_deals_0 rfl (lv_at hl 1 rfl) ?_
  refine lv_iconst (v := 4) hx hb dL_deals_1 (by decide) ?_
  refine lv_icmp_ge (tgt := 516) hx hb dL_deals_2 (by decide) (fun c_2 => ?_) (fun c_2 => ?_)
  · refine lv_iload_n hx hb dL_deals_516 rfl (lv_at hl 2 rfl) ?_
    refine lv_aload hx hb dL_deals_517 (lv_at hl 11 rfl) ?_
    refine lv_iconst (v := 1) hx hb dL_deals_519 (by decide) ?_
    refine k_iald (a := (ad 22 0)) hx hb hC hM (qa22 hw) 1 (ix_lit (rfl : (1 : Int32) = nI 1) (by decide) (by decide)) dL_deals_520 ?_
    rw [hG1]
    refine lv_iconst (v := 1) hx hb dL_deals_521 (by decide) ?_
    refine lv_iadd hx hb dL_deals_522 ?_
    rw [nI_1]
    refine k_i (va_runS (As := [.int yy, .int (nI (ndl S + 1))]) (rest := []) ⟨hx, hb, hml, hown, hts⟩ (c_L_low l G M yy (ndl S + 1) (by omega) (by omega)) (va_cwS 2 hts gL_deals_L_low rfl rfl rfl (by decide +kernel) ⟨Nat.le_of_ble_eq_true rfl, Nat.le_of_ble_eq_true rfl⟩) (preS_of hC hS hM) rfl rfl hl.1 rfl (lv_room (Nat.le_of_ble_eq_true rfl)) dL_deals_523 ⟨Nat.le_of_ble_eq_true rfl, Nat.le_of_ble_eq_true rfl⟩) hS (fun r523 us523 H locs hp523 hM hS => ?_)
    have hM : Hm G M H := hM
    obtain ⟨q523, hq523, e523⟩ := hp523
    subst e523
    refine lv_istore (lv' := [(12, .int (nI q523)), (0, .ref (ad 0 0)), (1, .int ac), (2, .int yy), (3, .int zz), (4, .ref (ad 14 0)), (5, .ref (ad 15 0)), (6, .ref (ad 16 0)), (7, .ref (ad 17 0)), (8, .ref (ad 18 0)), (9, .ref (ad 19 0)), (10, .ref (ad 20 0)), (11, .ref (ad 22 0))]) hx hb dL_deals_526 hl (by decide) rfl (fun ls hl => ?_)
    have j581 : ∀ (j8 : Nat), (j8 ≤ ndl S) → ∀ (ls : Array Slot), lv_has ls 19 [(0, .ref (ad 0 0)), (1, .int ac), (2, .int yy), (3, .int zz), (4, .ref (ad 14 0)), (5, .ref (ad 15 0)), (6, .ref (ad 16 0)), (7, .ref (ad 17 0)), (8, .ref (ad 18 0)), (9, .ref (ad 19 0)), (10, .ref (ad 20 0)), (11, .ref (ad 22 0)), (12, .int (nI j8))] → ∀ (H : Heap) (locs : List Loc), Hm G M H → va_S (AG G) s.heap H locs → W p l e { frames := 9, cells := 63, slots := 387, locals := 220 } s m ([.ref (ad 0 0), .int ac, .int yy, .int zz, .ref (ad 14 0), .ref (ad 15 0), .ref (ad 16 0), .ref (ad 17 0), .ref (ad 18 0), .ref (ad 19 0), .ref (ad 20 0), .ref (ad 22 0)] : List Value).toArray below meth c H locs (0) (0) (MQ below (va_Qi (S := Mp) (fun r M2 => r = 1 ∧ Nx G th o ad M2) (Bm G (fun M2 => M2)) (AG G)) ([.ref (ad 0 0), .int ac, .int yy, .int zz, .ref (ad 14 0), .ref (ad 15 0), .ref (ad 16 0), .ref (ad 17 0), .ref (ad 18 0), .ref (ad 19 0), .ref (ad 20 0), .ref (ad 22 0)] : List Value).toArray s (63) (387) (AG G)) (F0 m 581 ls []) := by
      intro j8 hj8 ls hl H locs hM hS
      refine lv_iload hx hb dL_deals_581 (lv_at hl 12 rfl) ?_
      refine lv_aload hx hb dL_deals_583 (lv_at hl 11 rfl) ?_
      refine lv_iconst (v := 1) hx hb dL_deals_585 (by decide) ?_
      refine k_iald (a := (ad 22 0)) hx hb hC hM (qa22 hw) 1 (ix_lit (rfl : (1 : Int32) = nI 1) (by decide) (by decide)) dL_deals_586 ?_
      rw [hG1]
      refine lv_icmp_ne (tgt := 657) hx hb dL_deals_587 (by decide) (fun c_587 => ?_) (fun c_587 => ?_)
      · have hj : j8 < ndl S := Nat.lt_of_le_of_ne hj8 (fun q => c_587 (by rw [q]))
        obtain ⟨⟨hcu, hcy⟩, -, hT15, hT16, hT17, hT18, hr10, -, hf11⟩ := rl_j hR hj
        obtain ⟨a9, ha9, eS9, eT15⟩ := rl_a hR hi hj
        have hDD : 0 ≤ nI j8 ∧ j8 < ndl S := ⟨nI_pos' (by omega), hj⟩
        refine lv_aload hx hb dL_deals_657 (lv_at hl 4 rfl) ?_
        refine lv_iload hx hb dL_deals_659 (lv_at hl 12 rfl) ?_
        refine k_iald (a := (ad 14 0)) hx hb hC hM (qa14 hw) j8 (ix_lit rfl (by omega) (by decide)) dL_deals_661 ?_
        refine lv_iconst (v := 1) hx hb dL_deals_662 (by decide) ?_
        refine lv_iand hx hb dL_deals_663 ?_
        rw [rl_cu hR hi hj]
        refine lv_istore (lv' := [(13, .int (nI (cus S j8))), (0, .ref (ad 0 0)), (1, .int ac), (2, .int yy), (3, .int zz), (4, .ref (ad 14 0)), (5, .ref (ad 15 0)), (6, .ref (ad 16 0)), (7, .ref (ad 17 0)), (8, .ref (ad 18 0)), (9, .ref (ad 19 0)), (10, .ref (ad 20 0)), (11, .ref (ad 22 0)), (12, .int (nI j8))]) hx hb dL_deals_664 hl (by decide) rfl (fun ls hl => ?_)
        refine lv_aload hx hb dL_deals_666 (lv_at hl 5 rfl) ?_
        refine lv_iload hx hb dL_deals_668 (lv_at hl 13 rfl) ?_
        refine k_iald (a := (ad 14 0)) hx hb hC hM (qa14 hw) j8 (ix_lit rfl (by omega) (by decide)) dL_deals_670 ?_
        refine lv_iconst (v := 1) hx hb dL_deals_671 (by decide) ?_
        refine lv_ishr hx hb dL_deals_672 ?_
        refine lv_iconst (v := 1) hx hb dL_deals_673 (by decide) ?_
        refine lv_iand hx hb dL_deals_674 ?_
        rw [rl_cy hR hi hj]
        refine lv_istore (lv' := [(14, .int (nI (cuy S j8))), (13, .int (nI (cus S j8))), (0, .ref (ad 0 0)), (1, .int ac), (2, .int yy), (3, .int zz), (4, .ref (ad 14 0)), (5, .ref (ad 15 0)), (6, .ref (ad 16 0)), (7, .ref (ad 17 0)), (8, .ref (ad 18 0)), (9, .ref (ad 19 0)), (10, .ref (ad 20 0)), (11, .ref (ad 22 0)), (12, .int (nI j8))]) hx hb dL_deals_675 hl (by decide) rfl (fun ls hl => ?_)
        refine lv_iload_n hx hb dL_deals_677 rfl (lv_at hl 3 rfl) ?_
        refine lv_bipush (v := 9) hx hb dL_deals_678 (by decide) ?_
        refine lv_icmp_ge (tgt := 921) hx hb dL_deals_680 (by decide) (fun c_680 => ?_) (fun c_680 => ?_)
        · refine lv_iload_n hx hb dL_deals_921 rfl (lv_at hl 3 rfl) ?_
          refine lv_bipush (v := 12) hx hb dL_deals_922 (by decide) ?_
          refine lv_icmp_ge (tgt := 1201) hx hb dL_deals_924 (by decide) (fun c_924 => ?_) (fun c_924 => ?_)
          · refine lv_aload hx hb dL_deals_1201 (lv_at hl 7 rfl) ?_
            refine lv_iload hx hb dL_deals_1203 (lv_at hl 14 rfl) ?_
            refine k_iald (a := (ad 15 0)) hx hb hC hM (qa15 hw) j8 (ix_lit rfl (by omega) (by decide)) dL_deals_1205 ?_
            rw [eT15]
            refine lv_if_ne (tgt := 1228) hx hb dL_deals_1206 (by decide) (fun c_1206 => ?_) (fun c_1206 => ?_)
            · refine lv_aload hx hb dL_deals_1228 (lv_at hl 6 rfl) ?_
              refine lv_aload hx hb dL_deals_1230 (lv_at hl 7 rfl) ?_
              refine lv_aload hx hb dL_deals_1232 (lv_at hl 10 rfl) ?_
              refine lv_iload hx hb dL_deals_1234 (lv_at hl 14 rfl) ?_
              refine lv_aload hx hb dL_deals_1236 (lv_at hl 6 rfl) ?_
              refine lv_aload hx hb dL_deals_1238 (lv_at hl 9 rfl) ?_
              refine lv_aload hx hb dL_deals_1240 (lv_at hl 11 rfl) ?_
              refine lv_aload hx hb dL_deals_1242 (lv_at hl 13 rfl) ?_
              refine lv_iload hx hb dL_deals_1244 (lv_at hl 14 rfl) ?_
              refine k_i (va_runS (As := [.ref (ad 14 0), .ref (ad 17 0), .ref (ad 19 0), .ref (ad 22 0), .int (nI j8)]) (rest := [.int (nI j8), .ref (ad 18 0), .ref (ad 15 0), .ref (ad 14 0)]) ⟨hx, hb, hml, hown, hts⟩ (c_L_now l G M S T th o ex ad j8 hw (by omega)) (va_cwS 5 hts gL_deals_L_now rfl rfl rfl (by decide +kernel) ⟨Nat.le_of_ble_eq_true rfl, Nat.le_of_ble_eq_true rfl⟩) (preS_of hC hS hM) rfl rfl hl.1 rfl (lv_room (Nat.le_of_ble_eq_true rfl)) dL_deals_1246 ⟨Nat.le_of_ble_eq_true rfl, Nat.le_of_ble_eq_true rfl⟩) hS (fun r1246 us1246 H locs hp1246 hM hS => ?_)
              have hM : Hm G M H := hM
              have hp1246 : r1246 = nwT T j8 := hp1246
              subst hp1246
              refine k_l (va_runS (As := [.ref (ad 14 0), .ref (ad 15 0), .ref (ad 18 0), .int (nI j8), .int (nwT T j8)]) (rest := []) ⟨hx, hb, hml, hown, hts⟩ (c_L_gains l G M S T th o ex ad j8 (nwT T j8) hw (by omega)) (va_cwS 5 hts gL_deals_L_gains rfl rfl rfl (by decide +kernel) ⟨Nat.le_of_ble_eq_true rfl, Nat.le_of_ble_eq_true rfl⟩) (preS_of hC hS hM) rfl rfl hl.1 rfl (lv_room (Nat.le_of_ble_eq_true rfl)) dL_deals_1249 ⟨Nat.le_of_ble_eq_true rfl, Nat.le_of_ble_eq_true rfl⟩) hS (fun r1249 us1249 H locs hp1249 hM hS => ?_)
              have hM : Hm G M H := hM
              have hp1249 : r1249 = gnT T j8 (nwT T j8) := hp1249
              subst hp1249
              rw [rl_mg hR hi hj]
              refine lv_lstore (lv' := [(15, .long (mg S j8)), (14, .int (nI (cuy S j8))), (13, .int (nI (cus S j8))), (0, .ref (ad 0 0)), (1, .int ac), (2, .int yy), (3, .int zz), (4, .ref (ad 14 0)), (5, .ref (ad 15 0)), (6, .ref (ad 16 0)), (7, .ref (ad 17 0)), (8, .ref (ad 18 0)), (9, .ref (ad 19 0)), (10, .ref (ad 20 0)), (11, .ref (ad 22 0)), (12, .int (nI j8))]) hx hb dL_deals_1252 hl (by decide) rfl (fun ls hl => ?_)
              refine lv_aload hx hb dL_deals_1254 (lv_at hl 13 rfl) ?_
              refine lv_aload hx hb dL_deals_1256 (lv_at hl 14 rfl) ?_
              refine lv_iload hx hb dL_deals_1258 (lv_at hl 2 rfl) ?_
              refine lv_iconst (v := 2) hx hb dL_deals_1260 (by decide) ?_
              refine lv_lload hx hb dL_deals_1261 (lv_at hl 0 rfl) ?_
              refine k_v (va_runS (As := [.ref (ad 20 0), .ref (ad 22 0), .int (nI (cus S j8)), .int 2, .long (mg S j8)]) (rest := []) ⟨hx, hb, hml, hown, hts⟩ (c_L_owe l G M S T th o ex ad (cus S j8) 2 (mg S j8) hw hTg (by omega) (by omega)) (va_cwS 5 hts gL_deals_L_owe rfl rfl rfl (by decide +kernel) ⟨Nat.le_of_ble_eq_true rfl, Nat.le_of_ble_eq_true rfl⟩) (preS_of hC hS hM) rfl rfl hl.1 rfl (lv_room (Nat.le_of_ble_eq_true rfl)) dL_deals_1263 ⟨Nat.le_of_ble_eq_true rfl, Nat.le_of_ble_eq_true rfl⟩) hS (fun us1263 H locs hp1263 hM hS => ?_)
              have hM : Hm G us1263 H := hM
              obtain ⟨Ta1, ea1⟩ : ∃ t : Sd, t = owT T (cus S j8) 2 (mg S j8) := ⟨_, rfl⟩
              rw [← ea1] at hp1263
              refine lv_aload hx hb dL_deals_1266 (lv_at hl 8 rfl) ?_
              refine lv_iload hx hb dL_deals_1268 (lv_at hl 15 rfl) ?_
              refine lv_iconst (v := 0) hx hb dL_deals_1270 (by decide) ?_
              refine k_iast (a := (ad 15 0)) hx hb hC hM hS (qa15 hp1263) j8 (ix_lit rfl (by omega) (by decide)) dL_deals_1271 (fun H locs hM hS => ?_)
              obtain ⟨Ta2, Ma2, ea2, ha2, hM⟩ := qs15 hp1263 hM
              refine lv_aload_n hx hb dL_deals_1272 rfl (lv_at hl 3 rfl) ?_
              refine lv_iload hx hb dL_deals_1273 (lv_at hl 15 rfl) ?_
              refine k_l (vx_runSW (As := [.ref (ad 0 0), .int (nI j8)]) (rest := []) ⟨hx, hb, hml, hown, hts⟩ (c_L_closeOut hnt l G Ma2 S Ta2 th o ex ad (nI j8) ha2 hi hx9) (vx_cwSW 2 hts gL_deals_L_closeOut rfl rfl rfl (by decide +kernel) ⟨Nat.le_of_ble_eq_true rfl, Nat.le_of_ble_eq_true rfl⟩) (preS_of hC hS hM) rfl rfl hl.1 rfl (lv_room (Nat.le_of_ble_eq_true rfl)) dL_deals_1275 ⟨Nat.le_of_ble_eq_true rfl, Nat.le_of_ble_eq_true rfl⟩) hS (fun r1275 us1275 H locs hp1275 hM hS => ?_)
              rw [nI_clamp (show j8 < 2 ^ 31 by omega)] at hp1275
              have hq1275 : r1275 = mg S j8 ∧ ∃ ex2, WA G (edS S j8) Ta2 th o ex2 ad us1275 ∧ Ix (edS S j8) ex2 := by
                rcases hp1275 with h | h | h
                · exact False.elim (absurd hDD h.2.1)
                · exact False.elim (absurd h.2.1.2 (fun q => c_1206 (eS9.symm.trans q)))
                · exact ⟨h.1, h.2.2⟩
              have hM : Hm G us1275 H := hM
              obtain ⟨eq1275, exc1275, hwc1275, hxc1275⟩ := hq1275
              subst eq1275
              refine lv_lload hx hb dL_deals_1278 (lv_at hl 0 rfl) ?_
              refine W.lcmp hx hb dL_deals_1280 ?_
              rw [lg_same]
              refine lv_if_ne (tgt := 1288) hx hb dL_deals_1281 (by decide) (fun c_1281 => False.elim (by revert c_1281; decide)) (fun c_1281 => ?_)
              refine lv_iconst (v := 1) hx hb dL_deals_1284 (by decide) ?_
              refine lv_goto (tgt := 1289) hx hb dL_deals_1285 (by decide) ?_
              exact (r_z hx hb hr hlocks hS (v := 1) (by simp) _ ⟨rfl, (edS S j8), Ta2, exc1275, ad, hwc1275, iv_ed hi, hxc1275, by rw [ea2, ea1]; exact rl_ed hR hi hj, fun _ _ => rfl⟩ hM (Nat.le_of_ble_eq_true rfl) (Nat.le_of_ble_eq_true rfl) dL_deals_1289)
            · refine lv_aload_n hx hb dL_deals_1209 rfl (lv_at hl 2 rfl) ?_
              refine lv_iload hx hb dL_deals_1210 (lv_at hl 14 rfl) ?_
              refine k_l (vx_runSW (As := [.ref (ad 0 0), .int (nI j8)]) (rest := []) ⟨hx, hb, hml, hown, hts⟩ (c_L_closeOut hnt l G M S T th o ex ad (nI j8) hw hi hx9) (vx_cwSW 2 hts gL_deals_L_closeOut rfl rfl rfl (by decide +kernel) ⟨Nat.le_of_ble_eq_true rfl, Nat.le_of_ble_eq_true rfl⟩) (preS_of hC hS hM) rfl rfl hl.1 rfl (lv_room (Nat.le_of_ble_eq_true rfl)) dL_deals_1212 ⟨Nat.le_of_ble_eq_true rfl, Nat.le_of_ble_eq_true rfl⟩) hS (fun r1212 us1212 H locs hp1212 hM hS => ?_)
              rw [nI_clamp (show j8 < 2 ^ 31 by omega)] at hp1212
              have hq1212 : r1212 = (-2000000073) ∧ us1212 = M := by
                rcases hp1212 with h | h | h
                · exact False.elim (absurd hDD h.2.1)
                · exact ⟨h.1, h.2.2⟩
                · exact False.elim (absurd (eS9.trans c_1206) h.2.1.2)
              have hM : Hm G us1212 H := hM
              obtain ⟨eq1212, em1212⟩ := hq1212
              rw [em1212] at hM
              subst eq1212
              refine lv_ldc2 (own := RL) (v := (-2000000073)) hx hb hown (hts (.constantLong RL 53 (-2000000073)) (by decide +kernel)) dL_deals_1215 ?_
              refine W.lcmp hx hb dL_deals_1218 ?_
              rw [lg_same]
              refine lv_if_ne (tgt := 1226) hx hb dL_deals_1219 (by decide) (fun c_1219 => False.elim (by revert c_1219; decide)) (fun c_1219 => ?_)
              refine lv_iconst (v := 1) hx hb dL_deals_1222 (by decide) ?_
              refine lv_goto (tgt := 1227) hx hb dL_deals_1223 (by decide) ?_
              exact (r_z hx hb hr hlocks hS (v := 1) (by simp) _ ⟨rfl, S, T, ex, ad, hw, hi, hx9, hR, fun _ _ => rfl⟩ hM (Nat.le_of_ble_eq_true rfl) (Nat.le_of_ble_eq_true rfl) dL_deals_1227)
          · have j957 : ∀ (q957 : Nat), (1 ≤ q957) → (q957 ≤ 100) → ∀ (ls : Array Slot), lv_has ls 19 [(14, .int (nI (cuy S j8))), (13, .int (nI (cus S j8))), (0, .ref (ad 0 0)), (1, .int ac), (2, .int yy), (3, .int zz), (4, .ref (ad 14 0)), (5, .ref (ad 15 0)), (6, .ref (ad 16 0)), (7, .ref (ad 17 0)), (8, .ref (ad 18 0)), (9, .ref (ad 19 0)), (10, .ref (ad 20 0)), (11, .ref (ad 22 0)), (12, .int (nI j8))] → ∀ (H : Heap) (locs : List Loc), Hm G M H → va_S (AG G) s.heap H locs → W p l e { frames := 9, cells := 63, slots := 387, locals := 220 } s m ([.ref (ad 0 0), .int ac, .int yy, .int zz, .ref (ad 14 0), .ref (ad 15 0), .ref (ad 16 0), .ref (ad 17 0), .ref (ad 18 0), .ref (ad 19 0), .ref (ad 20 0), .ref (ad 22 0)] : List Value).toArray below meth c H locs (0) (0) (MQ below (va_Qi (S := Mp) (fun r M2 => r = 1 ∧ Nx G th o ad M2) (Bm G (fun M2 => M2)) (AG G)) ([.ref (ad 0 0), .int ac, .int yy, .int zz, .ref (ad 14 0), .ref (ad 15 0), .ref (ad 16 0), .ref (ad 17 0), .ref (ad 18 0), .ref (ad 19 0), .ref (ad 20 0), .ref (ad 22 0)] : List Value).toArray s (63) (387) (AG G)) (F0 m 957 ls [.int (nI q957)]) := by
              intro q957 ha957 hb957 ls hl H locs hM hS
              refine lv_istore (lv' := [(15, .int (nI q957)), (14, .int (nI (cuy S j8))), (13, .int (nI (cus S j8))), (0, .ref (ad 0 0)), (1, .int ac), (2, .int yy), (3, .int zz), (4, .ref (ad 14 0)), (5, .ref (ad 15 0)), (6, .ref (ad 16 0)), (7, .ref (ad 17 0)), (8, .ref (ad 18 0)), (9, .ref (ad 19 0)), (10, .ref (ad 20 0)), (11, .ref (ad 22 0)), (12, .int (nI j8))]) hx hb dL_deals_957 hl (by decide) rfl (fun ls hl => ?_)
              have j972 : ∀ (bs : Int32), ∀ (ls : Array Slot), lv_has ls 19 [(15, .int (nI q957)), (14, .int (nI (cuy S j8))), (13, .int (nI (cus S j8))), (0, .ref (ad 0 0)), (1, .int ac), (2, .int yy), (3, .int zz), (4, .ref (ad 14 0)), (5, .ref (ad 15 0)), (6, .ref (ad 16 0)), (7, .ref (ad 17 0)), (8, .ref (ad 18 0)), (9, .ref (ad 19 0)), (10, .ref (ad 20 0)), (11, .ref (ad 22 0)), (12, .int (nI j8))] → ∀ (H : Heap) (locs : List Loc), Hm G M H → va_S (AG G) s.heap H locs → W p l e { frames := 9, cells := 63, slots := 387, locals := 220 } s m ([.ref (ad 0 0), .int ac, .int yy, .int zz, .ref (ad 14 0), .ref (ad 15 0), .ref (ad 16 0), .ref (ad 17 0), .ref (ad 18 0), .ref (ad 19 0), .ref (ad 20 0), .ref (ad 22 0)] : List Value).toArray below meth c H locs (0) (0) (MQ below (va_Qi (S := Mp) (fun r M2 => r = 1 ∧ Nx G th o ad M2) (Bm G (fun M2 => M2)) (AG G)) ([.ref (ad 0 0), .int ac, .int yy, .int zz, .ref (ad 14 0), .ref (ad 15 0), .ref (ad 16 0), .ref (ad 17 0), .ref (ad 18 0), .ref (ad 19 0), .ref (ad 20 0), .ref (ad 22 0)] : List Value).toArray s (63) (387) (AG G)) (F0 m 972 ls [.int bs]) := by
                intro bs  ls hl H locs hM hS
                refine lv_istore (lv' := [(16, .int bs), (15, .int (nI q957)), (14, .int (nI (cuy S j8))), (13, .int (nI (cus S j8))), (0, .ref (ad 0 0)), (1, .int ac), (2, .int yy), (3, .int zz), (4, .ref (ad 14 0)), (5, .ref (ad 15 0)), (6, .ref (ad 16 0)), (7, .ref (ad 17 0)), (8, .ref (ad 18 0)), (9, .ref (ad 19 0)), (10, .ref (ad 20 0)), (11, .ref (ad 22 0)), (12, .int (nI j8))]) hx hb dL_deals_972 hl (by decide) rfl (fun ls hl => ?_)
                refine lv_aload_n hx hb dL_deals_974 rfl (lv_at hl 4 rfl) ?_
                refine lv_iload hx hb dL_deals_975 (lv_at hl 16 rfl) ?_
                refine lv_iconst (v := 0) hx hb dL_deals_977 (by decide) ?_
                refine lv_iload hx hb dL_deals_978 (lv_at hl 0 rfl) ?_
                refine k_i (vx_runSW (As := [.ref (ad 0 0), .int (nI j8), .int 0, .int bs]) (rest := []) ⟨hx, hb, hml, hown, hts⟩ (c_L_roll hnt l G M S T th o ex ad (nI j8) 0 bs hw hi hx9) (vx_cwSW 4 hts gL_deals_L_roll rfl rfl rfl (by decide +kernel) ⟨Nat.le_of_ble_eq_true rfl, Nat.le_of_ble_eq_true rfl⟩) (preS_of hC hS hM) rfl rfl hl.1 rfl (lv_room (Nat.le_of_ble_eq_true rfl)) dL_deals_980 ⟨Nat.le_of_ble_eq_true rfl, Nat.le_of_ble_eq_true rfl⟩) hS (fun r980 us980 H locs hp980 hM hS => ?_)
                rw [nI_clamp (show j8 < 2 ^ 31 by omega)] at hp980
                have hq980 : r980 = (-2000000072) ∧ us980 = M := by
                  rcases hp980 with h | h | h | h
                  · exact False.elim (absurd hDD h.2.1)
                  · exact ⟨h.1, h.2.2⟩
                  · exact False.elim (absurd h.2.1.2.1 (by decide))
                  · exact False.elim (absurd h.2.1.2.1 (by decide))
                have hM : Hm G us980 H := hM
                obtain ⟨eq980, em980⟩ := hq980
                rw [em980] at hM
                subst eq980
                refine lv_ldc (own := RL) (v := (-2000000072)) hx hb hown (hts (.constant RL 19 (-2000000072)) (by decide +kernel)) dL_deals_983 ?_
                refine lv_icmp_ne (tgt := 1003) hx hb dL_deals_985 (by decide) (fun c_985 => False.elim (by revert c_985; decide)) (fun c_985 => ?_)
                refine lv_aload_n hx hb dL_deals_988 rfl (lv_at hl 4 rfl) ?_
                refine lv_iload hx hb dL_deals_989 (lv_at hl 16 rfl) ?_
                refine lv_bipush (v := 101) hx hb dL_deals_991 (by decide) ?_
                refine lv_iload hx hb dL_deals_993 (lv_at hl 0 rfl) ?_
                refine k_i (vx_runSW (As := [.ref (ad 0 0), .int (nI j8), .int 101, .int bs]) (rest := []) ⟨hx, hb, hml, hown, hts⟩ (c_L_roll hnt l G M S T th o ex ad (nI j8) 101 bs hw hi hx9) (vx_cwSW 4 hts gL_deals_L_roll rfl rfl rfl (by decide +kernel) ⟨Nat.le_of_ble_eq_true rfl, Nat.le_of_ble_eq_true rfl⟩) (preS_of hC hS hM) rfl rfl hl.1 rfl (lv_room (Nat.le_of_ble_eq_true rfl)) dL_deals_995 ⟨Nat.le_of_ble_eq_true rfl, Nat.le_of_ble_eq_true rfl⟩) hS (fun r995 us995 H locs hp995 hM hS => ?_)
                rw [nI_clamp (show j8 < 2 ^ 31 by omega)] at hp995
                have hq995 : r995 = (-2000000072) ∧ us995 = M := by
                  rcases hp995 with h | h | h | h
                  · exact False.elim (absurd hDD h.2.1)
                  · exact ⟨h.1, h.2.2⟩
                  · exact False.elim (absurd h.2.1.2.1 (by decide))
                  · exact False.elim (absurd h.2.1.2.1 (by decide))
                have hM : Hm G us995 H := hM
                obtain ⟨eq995, em995⟩ := hq995
                rw [em995] at hM
                subst eq995
                refine lv_ldc (own := RL) (v := (-2000000072)) hx hb hown (hts (.constant RL 19 (-2000000072)) (by decide +kernel)) dL_deals_998 ?_
                refine lv_icmp_eq (tgt := 1005) hx hb dL_deals_1000 (by decide) (fun c_1000 => ?_) (fun c_1000 => False.elim (by revert c_1000; decide))
                refine lv_aload hx hb dL_deals_1005 (lv_at hl 9 rfl) ?_
                refine lv_iload hx hb dL_deals_1007 (lv_at hl 16 rfl) ?_
                refine k_iald (a := (ad 15 0)) hx hb hC hM (qa15 hw) j8 (ix_lit rfl (by omega) (by decide)) dL_deals_1009 ?_
                rw [eT15]
                refine lv_if_eq (tgt := 1032) hx hb dL_deals_1010 (by decide) (fun c_1010 => ?_) (fun c_1010 => ?_)
                · refine lv_aload_n hx hb dL_deals_1032 rfl (lv_at hl 4 rfl) ?_
                  refine lv_iload hx hb dL_deals_1033 (lv_at hl 16 rfl) ?_
                  refine lv_iload hx hb dL_deals_1035 (lv_at hl 1 rfl) ?_
                  refine lv_iload hx hb dL_deals_1037 (lv_at hl 0 rfl) ?_
                  refine k_i (vx_runSW (As := [.ref (ad 0 0), .int (nI j8), .int (nI q957), .int bs]) (rest := []) ⟨hx, hb, hml, hown, hts⟩ (c_L_roll hnt l G M S T th o ex ad (nI j8) (nI q957) bs hw hi hx9) (vx_cwSW 4 hts gL_deals_L_roll rfl rfl rfl (by decide +kernel) ⟨Nat.le_of_ble_eq_true rfl, Nat.le_of_ble_eq_true rfl⟩) (preS_of hC hS hM) rfl rfl hl.1 rfl (lv_room (Nat.le_of_ble_eq_true rfl)) dL_deals_1039 ⟨Nat.le_of_ble_eq_true rfl, Nat.le_of_ble_eq_true rfl⟩) hS (fun r1039 us1039 H locs hp1039 hM hS => ?_)
                  rw [nI_clamp (show j8 < 2 ^ 31 by omega)] at hp1039
                  have hq1039 : r1039 = (-2000000073) ∧ us1039 = M := by
                    rcases hp1039 with h | h | h | h
                    · exact False.elim (absurd hDD h.2.1)
                    · exact False.elim (absurd (rg_n ha957 hb957 (by decide)) h.2.1.2)
                    · exact ⟨h.1, h.2.2⟩
                    · exact False.elim (Or.elim (show S.1 9 j8 = 0 ∨ ¬ S.1 12 j8 + nI q957 - S.1 0 0 ≤ 400 from Or.inl (eS9.trans c_1010)) (fun a => h.2.1.2.2.1 a) (fun a => a h.2.1.2.2.2))
                  have hM : Hm G us1039 H := hM
                  obtain ⟨eq1039, em1039⟩ := hq1039
                  rw [em1039] at hM
                  subst eq1039
                  refine lv_ldc (own := RL) (v := (-2000000073)) hx hb hown (hts (.constant RL 29 (-2000000073)) (by decide +kernel)) dL_deals_1042 ?_
                  refine lv_icmp_ne (tgt := 1051) hx hb dL_deals_1044 (by decide) (fun c_1044 => False.elim (by revert c_1044; decide)) (fun c_1044 => ?_)
                  refine lv_iconst (v := 1) hx hb dL_deals_1047 (by decide) ?_
                  refine lv_goto (tgt := 1052) hx hb dL_deals_1048 (by decide) ?_
                  exact (r_z hx hb hr hlocks hS (v := 1) (by simp) _ ⟨rfl, S, T, ex, ad, hw, hi, hx9, hR, fun _ _ => rfl⟩ hM (Nat.le_of_ble_eq_true rfl) (Nat.le_of_ble_eq_true rfl) dL_deals_1052)
                · refine lv_aload hx hb dL_deals_1013 (lv_at hl 11 rfl) ?_
                  refine lv_iload hx hb dL_deals_1015 (lv_at hl 16 rfl) ?_
                  refine k_iald (a := (ad 17 0)) hx hb hC hM (qa17 hw) j8 (ix_lit rfl (by omega) (by decide)) dL_deals_1017 ?_
                  rw [hT17]
                  refine lv_iload hx hb dL_deals_1018 (lv_at hl 1 rfl) ?_
                  refine lv_iadd hx hb dL_deals_1020 ?_
                  refine lv_aload hx hb dL_deals_1021 (lv_at hl 15 rfl) ?_
                  refine lv_iconst (v := 0) hx hb dL_deals_1023 (by decide) ?_
                  refine k_iald (a := (ad 22 0)) hx hb hC hM (qa22 hw) 0 (ix_lit (rfl : (0 : Int32) = nI 0) (by decide) (by decide)) dL_deals_1024 ?_
                  rw [hR.1.1]
                  refine lv_isub hx hb dL_deals_1025 ?_
                  refine lv_sipush (v := 400) hx hb dL_deals_1026 (by decide) ?_
                  refine lv_icmp_le (tgt := 1053) hx hb dL_deals_1029 (by decide) (fun c_1029 => ?_) (fun c_1029 => ?_)
                  · refine lv_iload hx hb dL_deals_1053 (lv_at hl 0 rfl) ?_
                    refine lv_if_eq (tgt := 1092) hx hb dL_deals_1055 (by decide) (fun c_1055 => ?_) (fun c_1055 => ?_)
                    · refine lv_aload hx hb dL_deals_1092 (lv_at hl 10 rfl) ?_
                      refine lv_iload hx hb dL_deals_1094 (lv_at hl 16 rfl) ?_
                      refine lv_aload hx hb dL_deals_1096 (lv_at hl 11 rfl) ?_
                      refine lv_iload hx hb dL_deals_1098 (lv_at hl 16 rfl) ?_
                      refine k_iald (a := (ad 17 0)) hx hb hC hM (qa17 hw) j8 (ix_lit rfl (by omega) (by decide)) dL_deals_1100 ?_
                      rw [show T.1 17 j8 = (S.1 12 j8) from hT17]
                      refine k_iast (a := (ad 16 0)) hx hb hC hM hS (qa16 hw) j8 (ix_lit rfl (by omega) (by decide)) dL_deals_1101 (fun H locs hM hS => ?_)
                      obtain ⟨Ta3, Ma3, ea3, ha3, hM⟩ := qs16 hw hM
                      refine lv_aload hx hb dL_deals_1102 (lv_at hl 11 rfl) ?_
                      refine lv_iload hx hb dL_deals_1104 (lv_at hl 16 rfl) ?_
                      refine lv_dup2_11 hx hb dL_deals_1106 rfl rfl ?_
                      refine k_iald (a := (ad 17 0)) hx hb hC hM (qa17 ha3) j8 (ix_lit rfl (by omega) (by decide)) dL_deals_1107 ?_
                      rw [show Ta3.1 17 j8 = (S.1 12 j8) from (congrFun ((e1_r ea3 (by decide))) j8).trans hT17]
                      refine lv_iload hx hb dL_deals_1108 (lv_at hl 1 rfl) ?_
                      refine lv_iadd hx hb dL_deals_1110 ?_
                      refine k_iast (a := (ad 17 0)) hx hb hC hM hS (qa17 ha3) j8 (ix_lit rfl (by omega) (by decide)) dL_deals_1111 (fun H locs hM hS => ?_)
                      obtain ⟨Ta4, Ma4, ea4, ha4, hM⟩ := qs17 ha3 hM
                      refine lv_aload hx hb dL_deals_1112 (lv_at hl 12 rfl) ?_
                      refine lv_iload hx hb dL_deals_1114 (lv_at hl 16 rfl) ?_
                      refine lv_iload hx hb dL_deals_1116 (lv_at hl 0 rfl) ?_
                      refine lv_if_eq (tgt := 1137) hx hb dL_deals_1118 (by decide) (fun c_1118 => ?_) (fun c_1118 => False.elim (by exact c_1118 c_1055))
                      refine lv_aload hx hb dL_deals_1137 (lv_at hl 12 rfl) ?_
                      refine lv_iload hx hb dL_deals_1139 (lv_at hl 16 rfl) ?_
                      refine k_iald (a := (ad 18 0)) hx hb hC hM (qa18 ha4) j8 (ix_lit rfl (by omega) (by decide)) dL_deals_1141 ?_
                      rw [show Ta4.1 18 j8 = (S.1 10 j8) from (congrFun ((e1_r ea4 (by decide)).trans ((e1_r ea3 (by decide)))) j8).trans hT18]
                      refine lv_aload hx hb dL_deals_1142 (lv_at hl 13 rfl) ?_
                      refine lv_iconst (v := 2) hx hb dL_deals_1144 (by decide) ?_
                      refine lv_iload hx hb dL_deals_1145 (lv_at hl 2 rfl) ?_
                      refine lv_iadd hx hb dL_deals_1147 ?_
                      refine k_iald (a := (ad 19 0)) hx hb hC hM (qa19 ha4) (2 + (cuy S j8)) (ix_lit (nI_add 2 (cuy S j8)) (by omega) (by decide)) dL_deals_1148 ?_
                      rw [show Ta4.1 19 (2 + (cuy S j8)) = (S.1 2 (cuy S j8)) from (congrFun ((e1_r ea4 (by decide)).trans ((e1_r ea3 (by decide)))) (2 + (cuy S j8))).trans ((hR.2.1 (cuy S j8) hcy).1.2.1)]
                      refine lv_iload hx hb dL_deals_1149 (lv_at hl 1 rfl) ?_
                      refine lv_imul hx hb dL_deals_1151 ?_
                      refine lv_iadd hx hb dL_deals_1152 ?_
                      refine k_iast (a := (ad 18 0)) hx hb hC hM hS (qa18 ha4) j8 (ix_lit rfl (by omega) (by decide)) dL_deals_1153 (fun H locs hM hS => ?_)
                      obtain ⟨Ta5, Ma5, ea5, ha5, hM⟩ := qs18 ha4 hM
                      refine lv_aload hx hb dL_deals_1154 (lv_at hl 12 rfl) ?_
                      refine lv_iload hx hb dL_deals_1156 (lv_at hl 16 rfl) ?_
                      have j1176a : ∀ (v76 : Int32), (v76 = al1 ((S.1 10 j8) + ((S.1 2 (cuy S j8)) * (nI q957)))) → ∀ (ls : Array Slot), lv_has ls 19 [(16, .int bs), (15, .int (nI q957)), (14, .int (nI (cuy S j8))), (13, .int (nI (cus S j8))), (0, .ref (ad 0 0)), (1, .int ac), (2, .int yy), (3, .int zz), (4, .ref (ad 14 0)), (5, .ref (ad 15 0)), (6, .ref (ad 16 0)), (7, .ref (ad 17 0)), (8, .ref (ad 18 0)), (9, .ref (ad 19 0)), (10, .ref (ad 20 0)), (11, .ref (ad 22 0)), (12, .int (nI j8))] → ∀ (H : Heap) (locs : List Loc), Hm G Ma5 H → va_S (AG G) s.heap H locs → W p l e { frames := 9, cells := 63, slots := 387, locals := 220 } s m ([.ref (ad 0 0), .int ac, .int yy, .int zz, .ref (ad 14 0), .ref (ad 15 0), .ref (ad 16 0), .ref (ad 17 0), .ref (ad 18 0), .ref (ad 19 0), .ref (ad 20 0), .ref (ad 22 0)] : List Value).toArray below meth c H locs (10) (48) (MQ below (va_Qi (S := Mp) (fun r M2 => r = 1 ∧ Nx G th o ad M2) (Bm G (fun M2 => M2)) (AG G)) ([.ref (ad 0 0), .int ac, .int yy, .int zz, .ref (ad 14 0), .ref (ad 15 0), .ref (ad 16 0), .ref (ad 17 0), .ref (ad 18 0), .ref (ad 19 0), .ref (ad 20 0), .ref (ad 22 0)] : List Value).toArray s (63) (387) (AG G)) (F0 m 1176 ls [.int v76, .int (nI j8), .ref (ad 18 0)]) := by
                        intro v76 hv76 ls hl H locs hM hS
                        subst hv76
                        refine k_iast (a := (ad 18 0)) hx hb hC hM hS (qa18 ha5) j8 (ix_lit rfl (by omega) (by decide)) dL_deals_1176 (fun H locs hM hS => ?_)
                        obtain ⟨Ta6, Ma6, ea6, ha6, hM⟩ := qs18 ha5 hM
                        refine lv_aload_n hx hb dL_deals_1177 rfl (lv_at hl 4 rfl) ?_
                        refine lv_iload hx hb dL_deals_1178 (lv_at hl 16 rfl) ?_
                        refine lv_iload hx hb dL_deals_1180 (lv_at hl 1 rfl) ?_
                        refine lv_iload hx hb dL_deals_1182 (lv_at hl 0 rfl) ?_
                        refine k_i (vx_runSW (As := [.ref (ad 0 0), .int (nI j8), .int (nI q957), .int bs]) (rest := []) ⟨hx, hb, hml, hown, hts⟩ (c_L_roll hnt l G Ma6 S Ta6 th o ex ad (nI j8) (nI q957) bs ha6 hi hx9) (vx_cwSW 4 hts gL_deals_L_roll rfl rfl rfl (by decide +kernel) ⟨Nat.le_of_ble_eq_true rfl, Nat.le_of_ble_eq_true rfl⟩) (preS_of hC hS hM) rfl rfl hl.1 rfl (lv_room (Nat.le_of_ble_eq_true rfl)) dL_deals_1184 ⟨Nat.le_of_ble_eq_true rfl, Nat.le_of_ble_eq_true rfl⟩) hS (fun r1184 us1184 H locs hp1184 hM hS => ?_)
                        rw [nI_clamp (show j8 < 2 ^ 31 by omega)] at hp1184
                        have hq1184 : r1184 = (if bs = 0 then rlc S (j8) (nI q957) else rls S (j8) (nI q957)).1 10 j8 ∧ ∃ ex2, WA G (if bs = 0 then rlc S (j8) (nI q957) else rls S (j8) (nI q957)) Ta6 th o ex2 ad us1184 ∧ Ix (if bs = 0 then rlc S (j8) (nI q957) else rls S (j8) (nI q957)) ex2 := by
                          rcases hp1184 with h | h | h | h
                          · exact False.elim (absurd hDD h.2.1)
                          · exact False.elim (absurd (rg_n ha957 hb957 (by decide)) h.2.1.2)
                          · exact False.elim (absurd h.2.1.2.2 (fun z => z.elim (fun q => c_1010 (eS9.symm.trans q)) (fun q => q c_1029)))
                          · exact ⟨h.1, h.2.2⟩
                        have hM : Hm G us1184 H := hM
                        obtain ⟨eq1184, exc1184, hwc1184, hxc1184⟩ := hq1184
                        subst eq1184
                        refine lv_aload hx hb dL_deals_1187 (lv_at hl 12 rfl) ?_
                        refine lv_iload hx hb dL_deals_1189 (lv_at hl 16 rfl) ?_
                        refine k_iald (a := (ad 18 0)) hx hb hC hM (qa18 hwc1184) j8 (ix_lit rfl (by omega) (by decide)) dL_deals_1191 ?_
                        rw [show Ta6.1 18 j8 = al1 ((S.1 10 j8) + ((S.1 2 (cuy S j8)) * (nI q957))) from e1_s ea6]
                        refine lv_icmp_ne (tgt := 1199) hx hb dL_deals_1192 (by decide) (fun c_1192 => False.elim (by rw [if_pos c_1055, rlc10] at c_1192; exact c_1192 rfl)) (fun c_1192 => ?_)
                        refine lv_iconst (v := 1) hx hb dL_deals_1195 (by decide) ?_
                        refine lv_goto (tgt := 1200) hx hb dL_deals_1196 (by decide) ?_
                        have hRw : Rel (if bs = 0 then rlc S j8 (nI q957) else rls S j8 (nI q957)) Ta6 := by
                          rw [if_pos c_1055]
                          have h6 := rl_win (S := S) (T := T) (T' := Ta6) (j := j8) (a := S.1 12 j8) (b := S.1 12 j8 + (nI q957)) (r := al1 ((S.1 10 j8) + ((S.1 2 (cuy S j8)) * (nI q957)))) hR (al1_p _) (by have h7 := (hi.2.2.1 j8 hj).2.2.2.2; have h8 := hi.1; omega) ((e1_2 ea6).trans ((e1_2 ea5).trans ((e1_2 ea4).trans ((e1_2 ea3))))) ((e1_r ea6 (by decide)).trans ((e1_r ea5 (by decide)).trans ((e1_r ea4 (by decide)).trans ((e1_r ea3 (by decide)))))) ((e1_r ea6 (by decide)).trans ((e1_r ea5 (by decide)).trans ((e1_r ea4 (by decide)).trans ((e1_r ea3 (by decide)))))) ((e1_r ea6 (by decide)).trans ((e1_r ea5 (by decide)).trans ((e1_r ea4 (by decide)).trans ((e1_r ea3 (by decide)))))) ((e1_r ea6 (by decide)).trans ((e1_r ea5 (by decide)).trans ((e1_r ea4 (by decide)).trans ((e1_r ea3 (by decide)))))) (fun i => by rw [show Ta6.1 16 = Ta3.1 16 from (e1_r ea6 (by decide)).trans ((e1_r ea5 (by decide)).trans ((e1_r ea4 (by decide)))), e1_i ea3]) (fun i => by rw [show Ta6.1 17 = Ta4.1 17 from (e1_r ea6 (by decide)).trans ((e1_r ea5 (by decide))), e1_i ea4, show Ta3.1 17 = T.1 17 from (e1_r ea3 (by decide))]) (fun i => by rw [e1_i ea6, e1_i ea5, show Ta4.1 18 = T.1 18 from (e1_r ea4 (by decide)).trans ((e1_r ea3 (by decide)))]; by_cases q : i = j8; rw [if_pos q, if_pos q]; rw [if_neg q, if_neg q, if_neg q])
                          exact h6
                        exact (r_z hx hb hr hlocks hS (v := 1) (by simp) _ ⟨rfl, (if bs = 0 then rlc S (j8) (nI q957) else rls S (j8) (nI q957)), Ta6, exc1184, ad, hwc1184, iv_roll hi hj (rg_n ha957 hb957 (by decide)) c_1029, hxc1184, hRw, fun _ _ => rfl⟩ hM (Nat.le_of_ble_eq_true rfl) (Nat.le_of_ble_eq_true rfl) dL_deals_1200)
                      refine lv_aload hx hb dL_deals_1158 (lv_at hl 12 rfl) ?_
                      refine lv_iload hx hb dL_deals_1160 (lv_at hl 16 rfl) ?_
                      refine k_iald (a := (ad 18 0)) hx hb hC hM (qa18 ha5) j8 (ix_lit rfl (by omega) (by decide)) dL_deals_1162 ?_
                      rw [show Ta5.1 18 j8 = ((S.1 10 j8) + ((S.1 2 (cuy S j8)) * (nI q957))) from e1_s ea5]
                      refine lv_iconst (v := 1) hx hb dL_deals_1163 (by decide) ?_
                      refine lv_icmp_ge (tgt := 1171) hx hb dL_deals_1164 (by decide) (fun c_1164 => ?_) (fun c_1164 => ?_)
                      · refine lv_aload hx hb dL_deals_1171 (lv_at hl 12 rfl) ?_
                        refine lv_iload hx hb dL_deals_1173 (lv_at hl 16 rfl) ?_
                        refine k_iald (a := (ad 18 0)) hx hb hC hM (qa18 ha5) j8 (ix_lit rfl (by omega) (by decide)) dL_deals_1175 ?_
                        rw [show Ta5.1 18 j8 = ((S.1 10 j8) + ((S.1 2 (cuy S j8)) * (nI q957))) from e1_s ea5]
                        exact j1176a ((S.1 10 j8) + ((S.1 2 (cuy S j8)) * (nI q957))) (al1_ge c_1164) ls (lv_sub hl [0, 1, 2, 3, 4, 5, 6, 7, 8, 9, 10, 11, 12, 13, 14, 15, 16] rfl) _ _ hM hS
                      · refine lv_iconst (v := 1) hx hb dL_deals_1167 (by decide) ?_
                        refine lv_goto (tgt := 1176) hx hb dL_deals_1168 (by decide) ?_
                        exact j1176a 1 (al1_lt c_1164) ls (lv_sub hl [0, 1, 2, 3, 4, 5, 6, 7, 8, 9, 10, 11, 12, 13, 14, 15, 16] rfl) _ _ hM hS
                    · refine lv_aload hx hb dL_deals_1058 (lv_at hl 14 rfl) ?_
                      refine lv_aload hx hb dL_deals_1060 (lv_at hl 15 rfl) ?_
                      refine lv_iload hx hb dL_deals_1062 (lv_at hl 3 rfl) ?_
                      refine lv_iconst (v := 2) hx hb dL_deals_1064 (by decide) ?_
                      refine lv_aload hx hb dL_deals_1065 (lv_at hl 8 rfl) ?_
                      refine lv_aload hx hb dL_deals_1067 (lv_at hl 9 rfl) ?_
                      refine lv_aload hx hb dL_deals_1069 (lv_at hl 12 rfl) ?_
                      refine lv_iload hx hb dL_deals_1071 (lv_at hl 16 rfl) ?_
                      refine lv_aload hx hb dL_deals_1073 (lv_at hl 8 rfl) ?_
                      refine lv_aload hx hb dL_deals_1075 (lv_at hl 11 rfl) ?_
                      refine lv_aload hx hb dL_deals_1077 (lv_at hl 13 rfl) ?_
                      refine lv_aload hx hb dL_deals_1079 (lv_at hl 15 rfl) ?_
                      refine lv_iload hx hb dL_deals_1081 (lv_at hl 16 rfl) ?_
                      refine k_i (va_runS (As := [.ref (ad 14 0), .ref (ad 17 0), .ref (ad 19 0), .ref (ad 22 0), .int (nI j8)]) (rest := [.int (nI j8), .ref (ad 18 0), .ref (ad 15 0), .ref (ad 14 0), .int 2, .int (nI (cus S j8)), .ref (ad 22 0), .ref (ad 20 0)]) ⟨hx, hb, hml, hown, hts⟩ (c_L_now l G M S T th o ex ad j8 hw (by omega)) (va_cwS 5 hts gL_deals_L_now rfl rfl rfl (by decide +kernel) ⟨Nat.le_of_ble_eq_true rfl, Nat.le_of_ble_eq_true rfl⟩) (preS_of hC hS hM) rfl rfl hl.1 rfl (lv_room (Nat.le_of_ble_eq_true rfl)) dL_deals_1083 ⟨Nat.le_of_ble_eq_true rfl, Nat.le_of_ble_eq_true rfl⟩) hS (fun r1083 us1083 H locs hp1083 hM hS => ?_)
                      have hM : Hm G M H := hM
                      have hp1083 : r1083 = nwT T j8 := hp1083
                      subst hp1083
                      refine k_l (va_runS (As := [.ref (ad 14 0), .ref (ad 15 0), .ref (ad 18 0), .int (nI j8), .int (nwT T j8)]) (rest := [.int 2, .int (nI (cus S j8)), .ref (ad 22 0), .ref (ad 20 0)]) ⟨hx, hb, hml, hown, hts⟩ (c_L_gains l G M S T th o ex ad j8 (nwT T j8) hw (by omega)) (va_cwS 5 hts gL_deals_L_gains rfl rfl rfl (by decide +kernel) ⟨Nat.le_of_ble_eq_true rfl, Nat.le_of_ble_eq_true rfl⟩) (preS_of hC hS hM) rfl rfl hl.1 rfl (lv_room (Nat.le_of_ble_eq_true rfl)) dL_deals_1086 ⟨Nat.le_of_ble_eq_true rfl, Nat.le_of_ble_eq_true rfl⟩) hS (fun r1086 us1086 H locs hp1086 hM hS => ?_)
                      have hM : Hm G M H := hM
                      have hp1086 : r1086 = gnT T j8 (nwT T j8) := hp1086
                      subst hp1086
                      rw [rl_mg hR hi hj]
                      refine k_v (va_runS (As := [.ref (ad 20 0), .ref (ad 22 0), .int (nI (cus S j8)), .int 2, .long (mg S j8)]) (rest := []) ⟨hx, hb, hml, hown, hts⟩ (c_L_owe l G M S T th o ex ad (cus S j8) 2 (mg S j8) hw hTg (by omega) (by omega)) (va_cwS 5 hts gL_deals_L_owe rfl rfl rfl (by decide +kernel) ⟨Nat.le_of_ble_eq_true rfl, Nat.le_of_ble_eq_true rfl⟩) (preS_of hC hS hM) rfl rfl hl.1 rfl (lv_room (Nat.le_of_ble_eq_true rfl)) dL_deals_1089 ⟨Nat.le_of_ble_eq_true rfl, Nat.le_of_ble_eq_true rfl⟩) hS (fun us1089 H locs hp1089 hM hS => ?_)
                      have hM : Hm G us1089 H := hM
                      obtain ⟨Ta7, ea7⟩ : ∃ t : Sd, t = owT T (cus S j8) 2 (mg S j8) := ⟨_, rfl⟩
                      rw [← ea7] at hp1089
                      refine lv_aload hx hb dL_deals_1092 (lv_at hl 10 rfl) ?_
                      refine lv_iload hx hb dL_deals_1094 (lv_at hl 16 rfl) ?_
                      refine lv_aload hx hb dL_deals_1096 (lv_at hl 11 rfl) ?_
                      refine lv_iload hx hb dL_deals_1098 (lv_at hl 16 rfl) ?_
                      refine k_iald (a := (ad 17 0)) hx hb hC hM (qa17 hp1089) j8 (ix_lit rfl (by omega) (by decide)) dL_deals_1100 ?_
                      rw [show Ta7.1 17 j8 = (S.1 12 j8) from (congrFun ((congrFun (ow_1 ea7) 17)) j8).trans hT17]
                      refine k_iast (a := (ad 16 0)) hx hb hC hM hS (qa16 hp1089) j8 (ix_lit rfl (by omega) (by decide)) dL_deals_1101 (fun H locs hM hS => ?_)
                      obtain ⟨Ta8, Ma8, ea8, ha8, hM⟩ := qs16 hp1089 hM
                      refine lv_aload hx hb dL_deals_1102 (lv_at hl 11 rfl) ?_
                      refine lv_iload hx hb dL_deals_1104 (lv_at hl 16 rfl) ?_
                      refine lv_dup2_11 hx hb dL_deals_1106 rfl rfl ?_
                      refine k_iald (a := (ad 17 0)) hx hb hC hM (qa17 ha8) j8 (ix_lit rfl (by omega) (by decide)) dL_deals_1107 ?_
                      rw [show Ta8.1 17 j8 = (S.1 12 j8) from (congrFun ((e1_r ea8 (by decide)).trans ((congrFun (ow_1 ea7) 17))) j8).trans hT17]
                      refine lv_iload hx hb dL_deals_1108 (lv_at hl 1 rfl) ?_
                      refine lv_iadd hx hb dL_deals_1110 ?_
                      refine k_iast (a := (ad 17 0)) hx hb hC hM hS (qa17 ha8) j8 (ix_lit rfl (by omega) (by decide)) dL_deals_1111 (fun H locs hM hS => ?_)
                      obtain ⟨Ta9, Ma9, ea9, ha9, hM⟩ := qs17 ha8 hM
                      refine lv_aload hx hb dL_deals_1112 (lv_at hl 12 rfl) ?_
                      refine lv_iload hx hb dL_deals_1114 (lv_at hl 16 rfl) ?_
                      refine lv_iload hx hb dL_deals_1116 (lv_at hl 0 rfl) ?_
                      refine lv_if_eq (tgt := 1137) hx hb dL_deals_1118 (by decide) (fun c_1118 => False.elim (by exact c_1055 c_1118)) (fun c_1118 => ?_)
                      refine lv_aload hx hb dL_deals_1121 (lv_at hl 8 rfl) ?_
                      refine lv_aload hx hb dL_deals_1123 (lv_at hl 11 rfl) ?_
                      refine lv_aload hx hb dL_deals_1125 (lv_at hl 13 rfl) ?_
                      refine lv_aload hx hb dL_deals_1127 (lv_at hl 15 rfl) ?_
                      refine lv_iload hx hb dL_deals_1129 (lv_at hl 16 rfl) ?_
                      refine k_i (va_runS (As := [.ref (ad 14 0), .ref (ad 17 0), .ref (ad 19 0), .ref (ad 22 0), .int (nI j8)]) (rest := [.int (nI j8), .ref (ad 18 0)]) ⟨hx, hb, hml, hown, hts⟩ (c_L_now l G Ma9 S Ta9 th o ex ad j8 ha9 (by omega)) (va_cwS 5 hts gL_deals_L_now rfl rfl rfl (by decide +kernel) ⟨Nat.le_of_ble_eq_true rfl, Nat.le_of_ble_eq_true rfl⟩) (preS_of hC hS hM) rfl rfl hl.1 rfl (lv_room (Nat.le_of_ble_eq_true rfl)) dL_deals_1131 ⟨Nat.le_of_ble_eq_true rfl, Nat.le_of_ble_eq_true rfl⟩) hS (fun r1131 us1131 H locs hp1131 hM hS => ?_)
                      have hM : Hm G Ma9 H := hM
                      have hp1131 : r1131 = nwT Ta9 j8 := hp1131
                      subst hp1131
                      rw [nw_gen (v := S.1 12 j8 + nI q957) hR hi hj ((e1_r ea9 (by decide)).trans ((e1_r ea8 (by decide)).trans ((congrFun (ow_1 ea7) 14)))) ((e1_r ea9 (by decide)).trans ((e1_r ea8 (by decide)).trans ((congrFun (ow_1 ea7) 19)))) (e1_s ea9) ((e1_r ea9 (by decide)).trans ((e1_r ea8 (by decide)).trans ((congrFun (ow_1 ea7) 22))))]
                      refine lv_goto (tgt := 1153) hx hb dL_deals_1134 (by decide) ?_
                      refine k_iast (a := (ad 18 0)) hx hb hC hM hS (qa18 ha9) j8 (ix_lit rfl (by omega) (by decide)) dL_deals_1153 (fun H locs hM hS => ?_)
                      obtain ⟨Ta10, Ma10, ea10, ha10, hM⟩ := qs18 ha9 hM
                      refine lv_aload hx hb dL_deals_1154 (lv_at hl 12 rfl) ?_
                      refine lv_iload hx hb dL_deals_1156 (lv_at hl 16 rfl) ?_
                      have j1176a : ∀ (v76 : Int32), (v76 = al1 (al1 (S.1 1 (cuy S j8) + S.1 2 (cuy S j8) * (S.1 12 j8 + nI q957 - S.1 0 0)))) → ∀ (ls : Array Slot), lv_has ls 19 [(16, .int bs), (15, .int (nI q957)), (14, .int (nI (cuy S j8))), (13, .int (nI (cus S j8))), (0, .ref (ad 0 0)), (1, .int ac), (2, .int yy), (3, .int zz), (4, .ref (ad 14 0)), (5, .ref (ad 15 0)), (6, .ref (ad 16 0)), (7, .ref (ad 17 0)), (8, .ref (ad 18 0)), (9, .ref (ad 19 0)), (10, .ref (ad 20 0)), (11, .ref (ad 22 0)), (12, .int (nI j8))] → ∀ (H : Heap) (locs : List Loc), Hm G Ma10 H → va_S (AG G) s.heap H locs → W p l e { frames := 9, cells := 63, slots := 387, locals := 220 } s m ([.ref (ad 0 0), .int ac, .int yy, .int zz, .ref (ad 14 0), .ref (ad 15 0), .ref (ad 16 0), .ref (ad 17 0), .ref (ad 18 0), .ref (ad 19 0), .ref (ad 20 0), .ref (ad 22 0)] : List Value).toArray below meth c H locs (10) (48) (MQ below (va_Qi (S := Mp) (fun r M2 => r = 1 ∧ Nx G th o ad M2) (Bm G (fun M2 => M2)) (AG G)) ([.ref (ad 0 0), .int ac, .int yy, .int zz, .ref (ad 14 0), .ref (ad 15 0), .ref (ad 16 0), .ref (ad 17 0), .ref (ad 18 0), .ref (ad 19 0), .ref (ad 20 0), .ref (ad 22 0)] : List Value).toArray s (63) (387) (AG G)) (F0 m 1176 ls [.int v76, .int (nI j8), .ref (ad 18 0)]) := by
                        intro v76 hv76 ls hl H locs hM hS
                        subst hv76
                        refine k_iast (a := (ad 18 0)) hx hb hC hM hS (qa18 ha10) j8 (ix_lit rfl (by omega) (by decide)) dL_deals_1176 (fun H locs hM hS => ?_)
                        obtain ⟨Ta11, Ma11, ea11, ha11, hM⟩ := qs18 ha10 hM
                        refine lv_aload_n hx hb dL_deals_1177 rfl (lv_at hl 4 rfl) ?_
                        refine lv_iload hx hb dL_deals_1178 (lv_at hl 16 rfl) ?_
                        refine lv_iload hx hb dL_deals_1180 (lv_at hl 1 rfl) ?_
                        refine lv_iload hx hb dL_deals_1182 (lv_at hl 0 rfl) ?_
                        refine k_i (vx_runSW (As := [.ref (ad 0 0), .int (nI j8), .int (nI q957), .int bs]) (rest := []) ⟨hx, hb, hml, hown, hts⟩ (c_L_roll hnt l G Ma11 S Ta11 th o ex ad (nI j8) (nI q957) bs ha11 hi hx9) (vx_cwSW 4 hts gL_deals_L_roll rfl rfl rfl (by decide +kernel) ⟨Nat.le_of_ble_eq_true rfl, Nat.le_of_ble_eq_true rfl⟩) (preS_of hC hS hM) rfl rfl hl.1 rfl (lv_room (Nat.le_of_ble_eq_true rfl)) dL_deals_1184 ⟨Nat.le_of_ble_eq_true rfl, Nat.le_of_ble_eq_true rfl⟩) hS (fun r1184 us1184 H locs hp1184 hM hS => ?_)
                        rw [nI_clamp (show j8 < 2 ^ 31 by omega)] at hp1184
                        have hq1184 : r1184 = (if bs = 0 then rlc S (j8) (nI q957) else rls S (j8) (nI q957)).1 10 j8 ∧ ∃ ex2, WA G (if bs = 0 then rlc S (j8) (nI q957) else rls S (j8) (nI q957)) Ta11 th o ex2 ad us1184 ∧ Ix (if bs = 0 then rlc S (j8) (nI q957) else rls S (j8) (nI q957)) ex2 := by
                          rcases hp1184 with h | h | h | h
                          · exact False.elim (absurd hDD h.2.1)
                          · exact False.elim (absurd (rg_n ha957 hb957 (by decide)) h.2.1.2)
                          · exact False.elim (absurd h.2.1.2.2 (fun z => z.elim (fun q => c_1010 (eS9.symm.trans q)) (fun q => q c_1029)))
                          · exact ⟨h.1, h.2.2⟩
                        have hM : Hm G us1184 H := hM
                        obtain ⟨eq1184, exc1184, hwc1184, hxc1184⟩ := hq1184
                        subst eq1184
                        refine lv_aload hx hb dL_deals_1187 (lv_at hl 12 rfl) ?_
                        refine lv_iload hx hb dL_deals_1189 (lv_at hl 16 rfl) ?_
                        refine k_iald (a := (ad 18 0)) hx hb hC hM (qa18 hwc1184) j8 (ix_lit rfl (by omega) (by decide)) dL_deals_1191 ?_
                        rw [show Ta11.1 18 j8 = al1 (al1 (S.1 1 (cuy S j8) + S.1 2 (cuy S j8) * (S.1 12 j8 + nI q957 - S.1 0 0))) from e1_s ea11]
                        refine lv_icmp_ne (tgt := 1199) hx hb dL_deals_1192 (by decide) (fun c_1192 => False.elim (by rw [if_neg c_1055, rls10, al1_al1] at c_1192; exact c_1192 rfl)) (fun c_1192 => ?_)
                        refine lv_iconst (v := 1) hx hb dL_deals_1195 (by decide) ?_
                        refine lv_goto (tgt := 1200) hx hb dL_deals_1196 (by decide) ?_
                        have hRw : Rel (if bs = 0 then rlc S j8 (nI q957) else rls S j8 (nI q957)) Ta11 := by
                          rw [if_neg c_1055]
                          have h6 := rl_win (S := bkg S j8) (T := Ta7) (T' := Ta11) (j := j8) (a := S.1 12 j8) (b := S.1 12 j8 + (nI q957)) (r := al1 (al1 (S.1 1 (cuy S j8) + S.1 2 (cuy S j8) * (S.1 12 j8 + nI q957 - S.1 0 0)))) (by rw [ea7]; exact rl_bk hR hi hcu (k := 2) (by decide) (mg S j8)) (al1_p _) (by have h7 := (hi.2.2.1 j8 hj).2.2.2.2; have h8 := hi.1; omega) ((e1_2 ea11).trans ((e1_2 ea10).trans ((e1_2 ea9).trans ((e1_2 ea8))))) ((e1_r ea11 (by decide)).trans ((e1_r ea10 (by decide)).trans ((e1_r ea9 (by decide)).trans ((e1_r ea8 (by decide)))))) ((e1_r ea11 (by decide)).trans ((e1_r ea10 (by decide)).trans ((e1_r ea9 (by decide)).trans ((e1_r ea8 (by decide)))))) ((e1_r ea11 (by decide)).trans ((e1_r ea10 (by decide)).trans ((e1_r ea9 (by decide)).trans ((e1_r ea8 (by decide)))))) ((e1_r ea11 (by decide)).trans ((e1_r ea10 (by decide)).trans ((e1_r ea9 (by decide)).trans ((e1_r ea8 (by decide)))))) (fun i => by rw [show Ta11.1 16 = Ta8.1 16 from (e1_r ea11 (by decide)).trans ((e1_r ea10 (by decide)).trans ((e1_r ea9 (by decide)))), e1_i ea8]) (fun i => by rw [show Ta11.1 17 = Ta9.1 17 from (e1_r ea11 (by decide)).trans ((e1_r ea10 (by decide))), e1_i ea9, show Ta8.1 17 = Ta7.1 17 from (e1_r ea8 (by decide))]) (fun i => by rw [e1_i ea11, e1_i ea10, show Ta9.1 18 = Ta7.1 18 from (e1_r ea9 (by decide)).trans ((e1_r ea8 (by decide)))]; by_cases q : i = j8; rw [if_pos q, if_pos q]; rw [if_neg q, if_neg q, if_neg q])
                          rw [al1_al1] at h6
                          exact h6
                        exact (r_z hx hb hr hlocks hS (v := 1) (by simp) _ ⟨rfl, (if bs = 0 then rlc S (j8) (nI q957) else rls S (j8) (nI q957)), Ta11, exc1184, ad, hwc1184, iv_roll hi hj (rg_n ha957 hb957 (by decide)) c_1029, hxc1184, hRw, fun _ _ => rfl⟩ hM (Nat.le_of_ble_eq_true rfl) (Nat.le_of_ble_eq_true rfl) dL_deals_1200)
                      refine lv_aload hx hb dL_deals_1158 (lv_at hl 12 rfl) ?_
                      refine lv_iload hx hb dL_deals_1160 (lv_at hl 16 rfl) ?_
                      refine k_iald (a := (ad 18 0)) hx hb hC hM (qa18 ha10) j8 (ix_lit rfl (by omega) (by decide)) dL_deals_1162 ?_
                      rw [show Ta10.1 18 j8 = (al1 (S.1 1 (cuy S j8) + S.1 2 (cuy S j8) * (S.1 12 j8 + nI q957 - S.1 0 0))) from e1_s ea10]
                      refine lv_iconst (v := 1) hx hb dL_deals_1163 (by decide) ?_
                      refine lv_icmp_ge (tgt := 1171) hx hb dL_deals_1164 (by decide) (fun c_1164 => ?_) (fun c_1164 => ?_)
                      · refine lv_aload hx hb dL_deals_1171 (lv_at hl 12 rfl) ?_
                        refine lv_iload hx hb dL_deals_1173 (lv_at hl 16 rfl) ?_
                        refine k_iald (a := (ad 18 0)) hx hb hC hM (qa18 ha10) j8 (ix_lit rfl (by omega) (by decide)) dL_deals_1175 ?_
                        rw [show Ta10.1 18 j8 = (al1 (S.1 1 (cuy S j8) + S.1 2 (cuy S j8) * (S.1 12 j8 + nI q957 - S.1 0 0))) from e1_s ea10]
                        exact j1176a (al1 (S.1 1 (cuy S j8) + S.1 2 (cuy S j8) * (S.1 12 j8 + nI q957 - S.1 0 0))) (al1_ge c_1164) ls (lv_sub hl [0, 1, 2, 3, 4, 5, 6, 7, 8, 9, 10, 11, 12, 13, 14, 15, 16] rfl) _ _ hM hS
                      · refine lv_iconst (v := 1) hx hb dL_deals_1167 (by decide) ?_
                        refine lv_goto (tgt := 1176) hx hb dL_deals_1168 (by decide) ?_
                        exact j1176a 1 (al1_lt c_1164) ls (lv_sub hl [0, 1, 2, 3, 4, 5, 6, 7, 8, 9, 10, 11, 12, 13, 14, 15, 16] rfl) _ _ hM hS
                  · refine lv_aload_n hx hb dL_deals_1032 rfl (lv_at hl 4 rfl) ?_
                    refine lv_iload hx hb dL_deals_1033 (lv_at hl 16 rfl) ?_
                    refine lv_iload hx hb dL_deals_1035 (lv_at hl 1 rfl) ?_
                    refine lv_iload hx hb dL_deals_1037 (lv_at hl 0 rfl) ?_
                    refine k_i (vx_runSW (As := [.ref (ad 0 0), .int (nI j8), .int (nI q957), .int bs]) (rest := []) ⟨hx, hb, hml, hown, hts⟩ (c_L_roll hnt l G M S T th o ex ad (nI j8) (nI q957) bs hw hi hx9) (vx_cwSW 4 hts gL_deals_L_roll rfl rfl rfl (by decide +kernel) ⟨Nat.le_of_ble_eq_true rfl, Nat.le_of_ble_eq_true rfl⟩) (preS_of hC hS hM) rfl rfl hl.1 rfl (lv_room (Nat.le_of_ble_eq_true rfl)) dL_deals_1039 ⟨Nat.le_of_ble_eq_true rfl, Nat.le_of_ble_eq_true rfl⟩) hS (fun r1039 us1039 H locs hp1039 hM hS => ?_)
                    rw [nI_clamp (show j8 < 2 ^ 31 by omega)] at hp1039
                    have hq1039 : r1039 = (-2000000073) ∧ us1039 = M := by
                      rcases hp1039 with h | h | h | h
                      · exact False.elim (absurd hDD h.2.1)
                      · exact False.elim (absurd (rg_n ha957 hb957 (by decide)) h.2.1.2)
                      · exact ⟨h.1, h.2.2⟩
                      · exact False.elim (Or.elim (Or.inr c_1029) (fun a => h.2.1.2.2.1 a) (fun a => a h.2.1.2.2.2))
                    have hM : Hm G us1039 H := hM
                    obtain ⟨eq1039, em1039⟩ := hq1039
                    rw [em1039] at hM
                    subst eq1039
                    refine lv_ldc (own := RL) (v := (-2000000073)) hx hb hown (hts (.constant RL 29 (-2000000073)) (by decide +kernel)) dL_deals_1042 ?_
                    refine lv_icmp_ne (tgt := 1051) hx hb dL_deals_1044 (by decide) (fun c_1044 => False.elim (by revert c_1044; decide)) (fun c_1044 => ?_)
                    refine lv_iconst (v := 1) hx hb dL_deals_1047 (by decide) ?_
                    refine lv_goto (tgt := 1052) hx hb dL_deals_1048 (by decide) ?_
                    exact (r_z hx hb hr hlocks hS (v := 1) (by simp) _ ⟨rfl, S, T, ex, ad, hw, hi, hx9, hR, fun _ _ => rfl⟩ hM (Nat.le_of_ble_eq_true rfl) (Nat.le_of_ble_eq_true rfl) dL_deals_1052)
              refine lv_iload_n hx hb dL_deals_959 rfl (lv_at hl 5 rfl) ?_
              refine lv_sipush (v := 384) hx hb dL_deals_960 (by decide) ?_
              refine lv_iand hx hb dL_deals_963 ?_
              refine lv_if_le (tgt := 971) hx hb dL_deals_964 (by decide) (fun c_964 => ?_) (fun c_964 => ?_)
              · refine lv_iconst (v := 0) hx hb dL_deals_971 (by decide) ?_
                exact j972 0 ls (lv_sub hl [0, 1, 2, 3, 4, 5, 6, 7, 8, 9, 10, 11, 12, 13, 14, 15] rfl) _ _ hM hS
              · refine lv_iconst (v := 1) hx hb dL_deals_967 (by decide) ?_
                refine lv_goto (tgt := 972) hx hb dL_deals_968 (by decide) ?_
                exact j972 1 ls (lv_sub hl [0, 1, 2, 3, 4, 5, 6, 7, 8, 9, 10, 11, 12, 13, 14, 15] rfl) _ _ hM hS
            refine lv_iload_n hx hb dL_deals_927 rfl (lv_at hl 5 rfl) ?_
            refine lv_bipush (v := 6) hx hb dL_deals_928 (by decide) ?_
            refine lv_iand hx hb dL_deals_930 ?_
            refine lv_if_ne (tgt := 947) hx hb dL_deals_931 (by decide) (fun c_931 => ?_) (fun c_931 => ?_)
            · refine lv_iconst (v := 1) hx hb dL_deals_947 (by decide) ?_
              refine lv_iload_n hx hb dL_deals_948 rfl (lv_at hl 5 rfl) ?_
              refine lv_iconst (v := 3) hx hb dL_deals_949 (by decide) ?_
              refine lv_ishr hx hb dL_deals_950 ?_
              refine lv_bipush (v := 12) hx hb dL_deals_951 (by decide) ?_
              refine k_i (va_runS (As := [.int (zz >>> ((3 : Int32) &&& 31)), .int 12]) (rest := [.int 1]) ⟨hx, hb, hml, hown, hts⟩ (c_L_low l G M (zz >>> ((3 : Int32) &&& 31)) 12 (by decide) (by decide)) (va_cwS 2 hts gL_deals_L_low rfl rfl rfl (by decide +kernel) ⟨Nat.le_of_ble_eq_true rfl, Nat.le_of_ble_eq_true rfl⟩) (preS_of hC hS hM) rfl rfl hl.1 rfl (lv_room (Nat.le_of_ble_eq_true rfl)) dL_deals_953 ⟨Nat.le_of_ble_eq_true rfl, Nat.le_of_ble_eq_true rfl⟩) hS (fun r953 us953 H locs hp953 hM hS => ?_)
              have hM : Hm G M H := hM
              obtain ⟨q953, hq953, e953⟩ := hp953
              subst e953
              refine lv_iadd hx hb dL_deals_956 ?_
              rw [show (1 : Int32) + nI q953 = nI (1 + q953) from nI_add 1 q953]
              exact j957 (1 + q953) (by omega) (by omega) ls (lv_sub hl [0, 1, 2, 3, 4, 5, 6, 7, 8, 9, 10, 11, 12, 13, 14] rfl) _ _ hM hS
            · refine lv_iconst (v := 1) hx hb dL_deals_934 (by decide) ?_
              refine lv_iload_n hx hb dL_deals_935 rfl (lv_at hl 5 rfl) ?_
              refine lv_iconst (v := 3) hx hb dL_deals_936 (by decide) ?_
              refine lv_ishr hx hb dL_deals_937 ?_
              refine lv_bipush (v := 100) hx hb dL_deals_938 (by decide) ?_
              refine k_i (va_runS (As := [.int (zz >>> ((3 : Int32) &&& 31)), .int 100]) (rest := [.int 1]) ⟨hx, hb, hml, hown, hts⟩ (c_L_low l G M (zz >>> ((3 : Int32) &&& 31)) 100 (by decide) (by decide)) (va_cwS 2 hts gL_deals_L_low rfl rfl rfl (by decide +kernel) ⟨Nat.le_of_ble_eq_true rfl, Nat.le_of_ble_eq_true rfl⟩) (preS_of hC hS hM) rfl rfl hl.1 rfl (lv_room (Nat.le_of_ble_eq_true rfl)) dL_deals_940 ⟨Nat.le_of_ble_eq_true rfl, Nat.le_of_ble_eq_true rfl⟩) hS (fun r940 us940 H locs hp940 hM hS => ?_)
              have hM : Hm G M H := hM
              obtain ⟨q940, hq940, e940⟩ := hp940
              subst e940
              refine lv_iadd hx hb dL_deals_943 ?_
              refine lv_goto (tgt := 957) hx hb dL_deals_944 (by decide) ?_
              rw [show (1 : Int32) + nI q940 = nI (1 + q940) from nI_add 1 q940]
              exact j957 (1 + q940) (by omega) (by omega) ls (lv_sub hl [0, 1, 2, 3, 4, 5, 6, 7, 8, 9, 10, 11, 12, 13, 14] rfl) _ _ hM hS
        · have j740 : ∀ (q740 : Nat), (1 ≤ q740) → (q740 ≤ 1000001) → ∀ (ls : Array Slot), lv_has ls 19 [(14, .int (nI (cuy S j8))), (13, .int (nI (cus S j8))), (0, .ref (ad 0 0)), (1, .int ac), (2, .int yy), (3, .int zz), (4, .ref (ad 14 0)), (5, .ref (ad 15 0)), (6, .ref (ad 16 0)), (7, .ref (ad 17 0)), (8, .ref (ad 18 0)), (9, .ref (ad 19 0)), (10, .ref (ad 20 0)), (11, .ref (ad 22 0)), (12, .int (nI j8))] → ∀ (H : Heap) (locs : List Loc), Hm G M H → va_S (AG G) s.heap H locs → W p l e { frames := 9, cells := 63, slots := 387, locals := 220 } s m ([.ref (ad 0 0), .int ac, .int yy, .int zz, .ref (ad 14 0), .ref (ad 15 0), .ref (ad 16 0), .ref (ad 17 0), .ref (ad 18 0), .ref (ad 19 0), .ref (ad 20 0), .ref (ad 22 0)] : List Value).toArray below meth c H locs (0) (0) (MQ below (va_Qi (S := Mp) (fun r M2 => r = 1 ∧ Nx G th o ad M2) (Bm G (fun M2 => M2)) (AG G)) ([.ref (ad 0 0), .int ac, .int yy, .int zz, .ref (ad 14 0), .ref (ad 15 0), .ref (ad 16 0), .ref (ad 17 0), .ref (ad 18 0), .ref (ad 19 0), .ref (ad 20 0), .ref (ad 22 0)] : List Value).toArray s (63) (387) (AG G)) (F0 m 740 ls [.int (nI q740)]) := by
            intro q740 ha740 hb740 ls hl H locs hM hS
            refine lv_istore (lv' := [(15, .int (nI q740)), (14, .int (nI (cuy S j8))), (13, .int (nI (cus S j8))), (0, .ref (ad 0 0)), (1, .int ac), (2, .int yy), (3, .int zz), (4, .ref (ad 14 0)), (5, .ref (ad 15 0)), (6, .ref (ad 16 0)), (7, .ref (ad 17 0)), (8, .ref (ad 18 0)), (9, .ref (ad 19 0)), (10, .ref (ad 20 0)), (11, .ref (ad 22 0)), (12, .int (nI j8))]) hx hb dL_deals_740 hl (by decide) rfl (fun ls hl => ?_)
            refine lv_aload_n hx hb dL_deals_742 rfl (lv_at hl 3 rfl) ?_
            refine lv_iload hx hb dL_deals_743 (lv_at hl 15 rfl) ?_
            refine lv_iconst (v := 0) hx hb dL_deals_745 (by decide) ?_
            refine k_i (vx_runSW (As := [.ref (ad 0 0), .int (nI j8), .int 0]) (rest := []) ⟨hx, hb, hml, hown, hts⟩ (c_L_draw hnt l G M S T th o ex ad (nI j8) 0 hw hi hx9) (vx_cwSW 3 hts gL_deals_L_draw rfl rfl rfl (by decide +kernel) ⟨Nat.le_of_ble_eq_true rfl, Nat.le_of_ble_eq_true rfl⟩) (preS_of hC hS hM) rfl rfl hl.1 rfl (lv_room (Nat.le_of_ble_eq_true rfl)) dL_deals_746 ⟨Nat.le_of_ble_eq_true rfl, Nat.le_of_ble_eq_true rfl⟩) hS (fun r746 us746 H locs hp746 hM hS => ?_)
            rw [nI_clamp (show j8 < 2 ^ 31 by omega)] at hp746
            have hq746 : r746 = (-2000000072) ∧ us746 = M := by
              rcases hp746 with h | h | h
              · exact False.elim (absurd hDD h.2.1)
              · exact ⟨h.1, h.2.2⟩
              · exact False.elim (absurd h.2.1.2 (fun z => absurd z.1 (by decide)))
            have hM : Hm G us746 H := hM
            obtain ⟨eq746, em746⟩ := hq746
            rw [em746] at hM
            subst eq746
            refine lv_ldc (own := RL) (v := (-2000000072)) hx hb hown (hts (.constant RL 19 (-2000000072)) (by decide +kernel)) dL_deals_749 ?_
            refine lv_icmp_ne (tgt := 764) hx hb dL_deals_751 (by decide) (fun c_751 => False.elim (by revert c_751; decide)) (fun c_751 => ?_)
            refine lv_iload hx hb dL_deals_754 (lv_at hl 0 rfl) ?_
            refine lv_aload hx hb dL_deals_756 (lv_at hl 8 rfl) ?_
            refine lv_iload hx hb dL_deals_758 (lv_at hl 15 rfl) ?_
            refine k_iald (a := (ad 15 0)) hx hb hC hM (qa15 hw) j8 (ix_lit rfl (by omega) (by decide)) dL_deals_760 ?_
            rw [eT15]
            refine lv_icmp_le (tgt := 783) hx hb dL_deals_761 (by decide) (fun c_761 => ?_) (fun c_761 => ?_)
            · have hqa : q740 ≤ a9 := (nI_leI (by omega) (by omega)).mp c_761
              have hxr : 1 ≤ nI q740 ∧ nI q740 ≤ S.1 9 j8 := by rw [eS9]; exact rg_n ha740 hqa (by omega)
              refine lv_aload hx hb dL_deals_783 (lv_at hl 9 rfl) ?_
              refine lv_iload hx hb dL_deals_785 (lv_at hl 15 rfl) ?_
              refine k_iald (a := (ad 16 0)) hx hb hC hM (qa16 hw) j8 (ix_lit rfl (by omega) (by decide)) dL_deals_787 ?_
              rw [hT16]
              refine lv_aload hx hb dL_deals_788 (lv_at hl 14 rfl) ?_
              refine lv_iconst (v := 0) hx hb dL_deals_790 (by decide) ?_
              refine k_iald (a := (ad 22 0)) hx hb hC hM (qa22 hw) 0 (ix_lit (rfl : (0 : Int32) = nI 0) (by decide) (by decide)) dL_deals_791 ?_
              rw [hR.1.1]
              refine lv_isub hx hb dL_deals_792 ?_
              refine lv_istore (lv' := [(16, .int ((S.1 11 j8) - (S.1 0 0))), (15, .int (nI q740)), (14, .int (nI (cuy S j8))), (13, .int (nI (cus S j8))), (0, .ref (ad 0 0)), (1, .int ac), (2, .int yy), (3, .int zz), (4, .ref (ad 14 0)), (5, .ref (ad 15 0)), (6, .ref (ad 16 0)), (7, .ref (ad 17 0)), (8, .ref (ad 18 0)), (9, .ref (ad 19 0)), (10, .ref (ad 20 0)), (11, .ref (ad 22 0)), (12, .int (nI j8))]) hx hb dL_deals_793 hl (by decide) rfl (fun ls hl => ?_)
              have j834 : ∀ (v34 : Int32), (v34 = drt S j8) → ∀ (ls : Array Slot), lv_has ls 19 [(16, .int ((S.1 11 j8) - (S.1 0 0))), (15, .int (nI q740)), (14, .int (nI (cuy S j8))), (13, .int (nI (cus S j8))), (0, .ref (ad 0 0)), (1, .int ac), (2, .int yy), (3, .int zz), (4, .ref (ad 14 0)), (5, .ref (ad 15 0)), (6, .ref (ad 16 0)), (7, .ref (ad 17 0)), (8, .ref (ad 18 0)), (9, .ref (ad 19 0)), (10, .ref (ad 20 0)), (11, .ref (ad 22 0)), (12, .int (nI j8))] → ∀ (H : Heap) (locs : List Loc), Hm G M H → va_S (AG G) s.heap H locs → W p l e { frames := 9, cells := 63, slots := 387, locals := 220 } s m ([.ref (ad 0 0), .int ac, .int yy, .int zz, .ref (ad 14 0), .ref (ad 15 0), .ref (ad 16 0), .ref (ad 17 0), .ref (ad 18 0), .ref (ad 19 0), .ref (ad 20 0), .ref (ad 22 0)] : List Value).toArray below meth c H locs (6) (24) (MQ below (va_Qi (S := Mp) (fun r M2 => r = 1 ∧ Nx G th o ad M2) (Bm G (fun M2 => M2)) (AG G)) ([.ref (ad 0 0), .int ac, .int yy, .int zz, .ref (ad 14 0), .ref (ad 15 0), .ref (ad 16 0), .ref (ad 17 0), .ref (ad 18 0), .ref (ad 19 0), .ref (ad 20 0), .ref (ad 22 0)] : List Value).toArray s (63) (387) (AG G)) (F0 m 834 ls [.int v34]) := by
                intro v34 hv34 ls hl H locs hM hS
                subst hv34
                refine lv_istore (lv' := [(17, .int (drt S j8)), (16, .int ((S.1 11 j8) - (S.1 0 0))), (15, .int (nI q740)), (14, .int (nI (cuy S j8))), (13, .int (nI (cus S j8))), (0, .ref (ad 0 0)), (1, .int ac), (2, .int yy), (3, .int zz), (4, .ref (ad 14 0)), (5, .ref (ad 15 0)), (6, .ref (ad 16 0)), (7, .ref (ad 17 0)), (8, .ref (ad 18 0)), (9, .ref (ad 19 0)), (10, .ref (ad 20 0)), (11, .ref (ad 22 0)), (12, .int (nI j8))]) hx hb dL_deals_834 hl (by decide) rfl (fun ls hl => ?_)
                refine lv_aload hx hb dL_deals_836 (lv_at hl 10 rfl) ?_
                refine lv_iload hx hb dL_deals_838 (lv_at hl 17 rfl) ?_
                refine lv_dup2_11 hx hb dL_deals_840 rfl rfl ?_
                refine k_iald (a := (ad 15 0)) hx hb hC hM (qa15 hw) j8 (ix_lit rfl (by omega) (by decide)) dL_deals_841 ?_
                rw [eT15]
                refine lv_iload hx hb dL_deals_842 (lv_at hl 2 rfl) ?_
                refine lv_isub hx hb dL_deals_844 ?_
                refine k_iast (a := (ad 15 0)) hx hb hC hM hS (qa15 hw) j8 (ix_lit rfl (by omega) (by decide)) dL_deals_845 (fun H locs hM hS => ?_)
                obtain ⟨Ta12, Ma12, ea12, ha12, hM⟩ := qs15 hw hM
                have j860 : ∀ (sg : Int32), ((S.1 8 j8 = 0 ∧ sg = -1) ∨ (¬ S.1 8 j8 = 0 ∧ sg = 1)) → ∀ (ls : Array Slot), lv_has ls 19 [(17, .int (drt S j8)), (16, .int ((S.1 11 j8) - (S.1 0 0))), (15, .int (nI q740)), (14, .int (nI (cuy S j8))), (13, .int (nI (cus S j8))), (0, .ref (ad 0 0)), (1, .int ac), (2, .int yy), (3, .int zz), (4, .ref (ad 14 0)), (5, .ref (ad 15 0)), (6, .ref (ad 16 0)), (7, .ref (ad 17 0)), (8, .ref (ad 18 0)), (9, .ref (ad 19 0)), (10, .ref (ad 20 0)), (11, .ref (ad 22 0)), (12, .int (nI j8))] → ∀ (H : Heap) (locs : List Loc), Hm G Ma12 H → va_S (AG G) s.heap H locs → W p l e { frames := 9, cells := 63, slots := 387, locals := 220 } s m ([.ref (ad 0 0), .int ac, .int yy, .int zz, .ref (ad 14 0), .ref (ad 15 0), .ref (ad 16 0), .ref (ad 17 0), .ref (ad 18 0), .ref (ad 19 0), .ref (ad 20 0), .ref (ad 22 0)] : List Value).toArray below meth c H locs (6) (24) (MQ below (va_Qi (S := Mp) (fun r M2 => r = 1 ∧ Nx G th o ad M2) (Bm G (fun M2 => M2)) (AG G)) ([.ref (ad 0 0), .int ac, .int yy, .int zz, .ref (ad 14 0), .ref (ad 15 0), .ref (ad 16 0), .ref (ad 17 0), .ref (ad 18 0), .ref (ad 19 0), .ref (ad 20 0), .ref (ad 22 0)] : List Value).toArray s (63) (387) (AG G)) (F0 m 860 ls [.int sg]) := by
                  intro sg hsg ls hl H locs hM hS
                  refine lv_istore (lv' := [(18, .int sg), (17, .int (drt S j8)), (16, .int ((S.1 11 j8) - (S.1 0 0))), (15, .int (nI q740)), (14, .int (nI (cuy S j8))), (13, .int (nI (cus S j8))), (0, .ref (ad 0 0)), (1, .int ac), (2, .int yy), (3, .int zz), (4, .ref (ad 14 0)), (5, .ref (ad 15 0)), (6, .ref (ad 16 0)), (7, .ref (ad 17 0)), (8, .ref (ad 18 0)), (9, .ref (ad 19 0)), (10, .ref (ad 20 0)), (11, .ref (ad 22 0)), (12, .int (nI j8))]) hx hb dL_deals_860 hl (by decide) rfl (fun ls hl => ?_)
                  refine lv_aload hx hb dL_deals_862 (lv_at hl 16 rfl) ?_
                  refine lv_aload hx hb dL_deals_864 (lv_at hl 17 rfl) ?_
                  refine lv_iload hx hb dL_deals_866 (lv_at hl 5 rfl) ?_
                  refine lv_iload hx hb dL_deals_868 (lv_at hl 4 rfl) ?_
                  refine lv_iload hx hb dL_deals_870 (lv_at hl 0 rfl) ?_
                  refine lv_iload hx hb dL_deals_872 (lv_at hl 3 rfl) ?_
                  refine lv_imul hx hb dL_deals_874 ?_
                  refine lv_i2l hx hb dL_deals_875 rfl ?_
                  refine k_v (va_runS (As := [.ref (ad 20 0), .ref (ad 22 0), .int (nI (cus S j8)), .int (nI (cuy S j8)), .long (((sg * (nI q740))).toInt64)]) (rest := []) ⟨hx, hb, hml, hown, hts⟩ (c_L_owe l G Ma12 S Ta12 th o ex ad (cus S j8) (cuy S j8) (((sg * (nI q740))).toInt64) ha12 (tg_to hTg ((e1_r ea12 (by decide)))) (by omega) (by omega)) (va_cwS 5 hts gL_deals_L_owe rfl rfl rfl (by decide +kernel) ⟨Nat.le_of_ble_eq_true rfl, Nat.le_of_ble_eq_true rfl⟩) (preS_of hC hS hM) rfl rfl hl.1 rfl (lv_room (Nat.le_of_ble_eq_true rfl)) dL_deals_876 ⟨Nat.le_of_ble_eq_true rfl, Nat.le_of_ble_eq_true rfl⟩) hS (fun us876 H locs hp876 hM hS => ?_)
                  have hM : Hm G us876 H := hM
                  obtain ⟨Ta13, ea13⟩ : ∃ t : Sd, t = owT Ta12 (cus S j8) (cuy S j8) (((sg * (nI q740))).toInt64) := ⟨_, rfl⟩
                  rw [← ea13] at hp876
                  refine lv_aload hx hb dL_deals_879 (lv_at hl 16 rfl) ?_
                  refine lv_aload hx hb dL_deals_881 (lv_at hl 17 rfl) ?_
                  refine lv_iload hx hb dL_deals_883 (lv_at hl 5 rfl) ?_
                  refine lv_iconst (v := 2) hx hb dL_deals_885 (by decide) ?_
                  refine lv_iload hx hb dL_deals_886 (lv_at hl 0 rfl) ?_
                  refine lv_ineg hx hb dL_deals_888 ?_
                  refine lv_i2l hx hb dL_deals_889 rfl ?_
                  refine lv_iload hx hb dL_deals_890 (lv_at hl 3 rfl) ?_
                  refine lv_i2l hx hb dL_deals_892 rfl ?_
                  refine lv_iload hx hb dL_deals_893 (lv_at hl 1 rfl) ?_
                  refine k_l (va_runS (As := [.long (((nI q740)).toInt64), .int (drt S j8)]) (rest := [.long (((-sg)).toInt64), .int 2, .int (nI (cus S j8)), .ref (ad 22 0), .ref (ad 20 0)]) ⟨hx, hb, hml, hown, hts⟩ (c_L_worth l G us876 (((nI q740)).toInt64) (drt S j8)) (va_cwS 2 hts gL_deals_L_worth rfl rfl rfl (by decide +kernel) ⟨Nat.le_of_ble_eq_true rfl, Nat.le_of_ble_eq_true rfl⟩) (preS_of hC hS hM) rfl rfl hl.1 rfl (lv_room (Nat.le_of_ble_eq_true rfl)) dL_deals_895 ⟨Nat.le_of_ble_eq_true rfl, Nat.le_of_ble_eq_true rfl⟩) hS (fun r895 us895 H locs hp895 hM hS => ?_)
                  have hM : Hm G us876 H := hM
                  have hp895 : r895 = hom ((nI q740)) (drt S j8) := hp895
                  subst hp895
                  refine lv_lmul hx hb dL_deals_898 ?_
                  refine k_v (va_runS (As := [.ref (ad 20 0), .ref (ad 22 0), .int (nI (cus S j8)), .int 2, .long ((((-sg)).toInt64) * (hom ((nI q740)) (drt S j8)))]) (rest := []) ⟨hx, hb, hml, hown, hts⟩ (c_L_owe l G us876 S Ta13 th o ex ad (cus S j8) 2 ((((-sg)).toInt64) * (hom ((nI q740)) (drt S j8))) hp876 (tg_to hTg ((congrFun (ow_1 ea13) 22).trans ((e1_r ea12 (by decide))))) (by omega) (by omega)) (va_cwS 5 hts gL_deals_L_owe rfl rfl rfl (by decide +kernel) ⟨Nat.le_of_ble_eq_true rfl, Nat.le_of_ble_eq_true rfl⟩) (preS_of hC hS hM) rfl rfl hl.1 rfl (lv_room (Nat.le_of_ble_eq_true rfl)) dL_deals_899 ⟨Nat.le_of_ble_eq_true rfl, Nat.le_of_ble_eq_true rfl⟩) hS (fun us899 H locs hp899 hM hS => ?_)
                  have hM : Hm G us899 H := hM
                  obtain ⟨Ta14, ea14⟩ : ∃ t : Sd, t = owT Ta13 (cus S j8) 2 ((((-sg)).toInt64) * (hom ((nI q740)) (drt S j8))) := ⟨_, rfl⟩
                  rw [← ea14] at hp899
                  refine lv_aload_n hx hb dL_deals_902 rfl (lv_at hl 6 rfl) ?_
                  refine lv_iload hx hb dL_deals_903 (lv_at hl 18 rfl) ?_
                  refine lv_iload hx hb dL_deals_905 (lv_at hl 3 rfl) ?_
                  refine k_i (vx_runSW (As := [.ref (ad 0 0), .int (nI j8), .int (nI q740)]) (rest := []) ⟨hx, hb, hml, hown, hts⟩ (c_L_draw hnt l G us899 S Ta14 th o ex ad (nI j8) (nI q740) hp899 hi hx9) (vx_cwSW 3 hts gL_deals_L_draw rfl rfl rfl (by decide +kernel) ⟨Nat.le_of_ble_eq_true rfl, Nat.le_of_ble_eq_true rfl⟩) (preS_of hC hS hM) rfl rfl hl.1 rfl (lv_room (Nat.le_of_ble_eq_true rfl)) dL_deals_907 ⟨Nat.le_of_ble_eq_true rfl, Nat.le_of_ble_eq_true rfl⟩) hS (fun r907 us907 H locs hp907 hM hS => ?_)
                  rw [nI_clamp (show j8 < 2 ^ 31 by omega)] at hp907
                  have hq907 : r907 = drt S j8 ∧ ∃ ex2, WA G (dr3 S j8 (nI q740)) Ta14 th o ex2 ad us907 ∧ Ix (dr3 S j8 (nI q740)) ex2 := by
                    rcases hp907 with h | h | h
                    · exact False.elim (absurd hDD h.2.1)
                    · exact False.elim (absurd hxr h.2.1.2)
                    · exact ⟨h.1, h.2.2⟩
                  have hM : Hm G us907 H := hM
                  obtain ⟨eq907, exc907, hwc907, hxc907⟩ := hq907
                  subst eq907
                  refine lv_iload hx hb dL_deals_910 (lv_at hl 1 rfl) ?_
                  refine lv_icmp_ne (tgt := 919) hx hb dL_deals_912 (by decide) (fun c_912 => False.elim (by exact c_912 rfl)) (fun c_912 => ?_)
                  refine lv_iconst (v := 1) hx hb dL_deals_915 (by decide) ?_
                  refine lv_goto (tgt := 920) hx hb dL_deals_916 (by decide) ?_
                  exact (r_z hx hb hr hlocks hS (v := 1) (by simp) _ ⟨rfl, (dr3 S j8 (nI q740)), Ta14, exc907, ad, hwc907, iv_dr hi hj hxr, hxc907, by rw [ea14, ea13, ea12]; exact rl_dr hR hi hj hxr (by rw [eS9]) (sg_1 hsg) (sg_2 hsg), fun _ _ => rfl⟩ hM (Nat.le_of_ble_eq_true rfl) (Nat.le_of_ble_eq_true rfl) dL_deals_920)
                refine lv_aload hx hb dL_deals_846 (lv_at hl 9 rfl) ?_
                refine lv_iload hx hb dL_deals_848 (lv_at hl 17 rfl) ?_
                refine k_iald (a := (ad 14 0)) hx hb hC hM (qa14 ha12) j8 (ix_lit rfl (by omega) (by decide)) dL_deals_850 ?_
                rw [show Ta12.1 14 j8 = (T.1 14 j8) from (congrFun ((e1_r ea12 (by decide))) j8).trans rfl]
                refine lv_iconst (v := 3) hx hb dL_deals_851 (by decide) ?_
                refine lv_icmp_le (tgt := 859) hx hb dL_deals_852 (by decide) (fun c_852 => ?_) (fun c_852 => ?_)
                · refine lv_iconst (v := 1) hx hb dL_deals_859 (by decide) ?_
                  exact j860 1 (Or.inr ⟨fun q => absurd ((rl_sg hR hi hj).mpr q) (Int32.not_lt.mpr c_852), rfl⟩) ls (lv_sub hl [0, 1, 2, 3, 4, 5, 6, 7, 8, 9, 10, 11, 12, 13, 14, 15, 16, 17] rfl) _ _ hM hS
                · refine lv_iconst (v := (-1)) hx hb dL_deals_855 (by decide) ?_
                  refine lv_goto (tgt := 860) hx hb dL_deals_856 (by decide) ?_
                  exact j860 (-1) (Or.inl ⟨(rl_sg hR hi hj).mp (Int32.not_le.mp c_852), rfl⟩) ls (lv_sub hl [0, 1, 2, 3, 4, 5, 6, 7, 8, 9, 10, 11, 12, 13, 14, 15, 16, 17] rfl) _ _ hM hS
              refine lv_aload hx hb dL_deals_795 (lv_at hl 12 rfl) ?_
              refine lv_iload hx hb dL_deals_797 (lv_at hl 16 rfl) ?_
              refine k_iald (a := (ad 18 0)) hx hb hC hM (qa18 hw) j8 (ix_lit rfl (by omega) (by decide)) dL_deals_799 ?_
              rw [hT18]
              refine lv_iload hx hb dL_deals_800 (lv_at hl 0 rfl) ?_
              refine lv_if_le (tgt := 818) hx hb dL_deals_802 (by decide) (fun c_802 => ?_) (fun c_802 => ?_)
              · refine lv_iconst (v := 0) hx hb dL_deals_818 (by decide) ?_
                refine lv_isub hx hb dL_deals_819 ?_
                refine lv_istore (lv' := [(17, .int ((S.1 10 j8) - 0)), (16, .int ((S.1 11 j8) - (S.1 0 0))), (15, .int (nI q740)), (14, .int (nI (cuy S j8))), (13, .int (nI (cus S j8))), (0, .ref (ad 0 0)), (1, .int ac), (2, .int yy), (3, .int zz), (4, .ref (ad 14 0)), (5, .ref (ad 15 0)), (6, .ref (ad 16 0)), (7, .ref (ad 17 0)), (8, .ref (ad 18 0)), (9, .ref (ad 19 0)), (10, .ref (ad 20 0)), (11, .ref (ad 22 0)), (12, .int (nI j8))]) hx hb dL_deals_820 hl (by decide) rfl (fun ls hl => ?_)
                refine lv_iload hx hb dL_deals_822 (lv_at hl 0 rfl) ?_
                refine lv_iconst (v := 1) hx hb dL_deals_824 (by decide) ?_
                refine lv_icmp_ge (tgt := 832) hx hb dL_deals_825 (by decide) (fun c_825 => ?_) (fun c_825 => ?_)
                · refine lv_iload hx hb dL_deals_832 (lv_at hl 0 rfl) ?_
                  exact j834 ((S.1 10 j8) - 0) (by rw [drt_1 hR hi hj c_802, Int32.sub_zero]) ls (lv_sub hl [1, 2, 3, 4, 5, 6, 7, 8, 9, 10, 11, 12, 13, 14, 15, 16, 17] rfl) _ _ hM hS
                · refine lv_iconst (v := 1) hx hb dL_deals_828 (by decide) ?_
                  refine lv_goto (tgt := 834) hx hb dL_deals_829 (by decide) ?_
                  exact j834 1 (False.elim (c_825 (by rw [Int32.sub_zero]; exact Int32.le_iff_toInt_le.mpr hr10))) ls (lv_sub hl [1, 2, 3, 4, 5, 6, 7, 8, 9, 10, 11, 12, 13, 14, 15, 16, 17] rfl) _ _ hM hS
              · refine lv_aload hx hb dL_deals_805 (lv_at hl 13 rfl) ?_
                refine lv_iconst (v := 2) hx hb dL_deals_807 (by decide) ?_
                refine lv_iload hx hb dL_deals_808 (lv_at hl 2 rfl) ?_
                refine lv_iadd hx hb dL_deals_810 ?_
                refine k_iald (a := (ad 19 0)) hx hb hC hM (qa19 hw) (2 + (cuy S j8)) (ix_lit (nI_add 2 (cuy S j8)) (by omega) (by decide)) dL_deals_811 ?_
                rw [(hR.2.1 (cuy S j8) hcy).1.2.1]
                refine lv_iload hx hb dL_deals_812 (lv_at hl 0 rfl) ?_
                refine lv_imul hx hb dL_deals_814 ?_
                refine lv_goto (tgt := 819) hx hb dL_deals_815 (by decide) ?_
                refine lv_isub hx hb dL_deals_819 ?_
                refine lv_istore (lv' := [(17, .int ((S.1 10 j8) - ((S.1 2 (cuy S j8)) * ((S.1 11 j8) - (S.1 0 0))))), (16, .int ((S.1 11 j8) - (S.1 0 0))), (15, .int (nI q740)), (14, .int (nI (cuy S j8))), (13, .int (nI (cus S j8))), (0, .ref (ad 0 0)), (1, .int ac), (2, .int yy), (3, .int zz), (4, .ref (ad 14 0)), (5, .ref (ad 15 0)), (6, .ref (ad 16 0)), (7, .ref (ad 17 0)), (8, .ref (ad 18 0)), (9, .ref (ad 19 0)), (10, .ref (ad 20 0)), (11, .ref (ad 22 0)), (12, .int (nI j8))]) hx hb dL_deals_820 hl (by decide) rfl (fun ls hl => ?_)
                refine lv_iload hx hb dL_deals_822 (lv_at hl 0 rfl) ?_
                refine lv_iconst (v := 1) hx hb dL_deals_824 (by decide) ?_
                refine lv_icmp_ge (tgt := 832) hx hb dL_deals_825 (by decide) (fun c_825 => ?_) (fun c_825 => ?_)
                · refine lv_iload hx hb dL_deals_832 (lv_at hl 0 rfl) ?_
                  exact j834 ((S.1 10 j8) - ((S.1 2 (cuy S j8)) * ((S.1 11 j8) - (S.1 0 0)))) (by rw [drt_2 hR hi hj c_802]; exact al1_ge c_825) ls (lv_sub hl [1, 2, 3, 4, 5, 6, 7, 8, 9, 10, 11, 12, 13, 14, 15, 16, 17] rfl) _ _ hM hS
                · refine lv_iconst (v := 1) hx hb dL_deals_828 (by decide) ?_
                  refine lv_goto (tgt := 834) hx hb dL_deals_829 (by decide) ?_
                  exact j834 1 (by rw [drt_2 hR hi hj c_802]; exact al1_lt c_825) ls (lv_sub hl [1, 2, 3, 4, 5, 6, 7, 8, 9, 10, 11, 12, 13, 14, 15, 16, 17] rfl) _ _ hM hS
            · refine lv_aload_n hx hb dL_deals_764 rfl (lv_at hl 3 rfl) ?_
              refine lv_iload hx hb dL_deals_765 (lv_at hl 15 rfl) ?_
              refine lv_iload hx hb dL_deals_767 (lv_at hl 0 rfl) ?_
              refine k_i (vx_runSW (As := [.ref (ad 0 0), .int (nI j8), .int (nI q740)]) (rest := []) ⟨hx, hb, hml, hown, hts⟩ (c_L_draw hnt l G M S T th o ex ad (nI j8) (nI q740) hw hi hx9) (vx_cwSW 3 hts gL_deals_L_draw rfl rfl rfl (by decide +kernel) ⟨Nat.le_of_ble_eq_true rfl, Nat.le_of_ble_eq_true rfl⟩) (preS_of hC hS hM) rfl rfl hl.1 rfl (lv_room (Nat.le_of_ble_eq_true rfl)) dL_deals_769 ⟨Nat.le_of_ble_eq_true rfl, Nat.le_of_ble_eq_true rfl⟩) hS (fun r769 us769 H locs hp769 hM hS => ?_)
              rw [nI_clamp (show j8 < 2 ^ 31 by omega)] at hp769
              have hq769 : r769 = (-2000000072) ∧ us769 = M := by
                rcases hp769 with h | h | h
                · exact False.elim (absurd hDD h.2.1)
                · exact ⟨h.1, h.2.2⟩
                · exact False.elim (absurd h.2.1.2 (fun z => c_761 (by rw [← eS9]; exact z.2)))
              have hM : Hm G us769 H := hM
              obtain ⟨eq769, em769⟩ := hq769
              rw [em769] at hM
              subst eq769
              refine lv_ldc (own := RL) (v := (-2000000072)) hx hb hown (hts (.constant RL 19 (-2000000072)) (by decide +kernel)) dL_deals_772 ?_
              refine lv_icmp_ne (tgt := 781) hx hb dL_deals_774 (by decide) (fun c_774 => False.elim (by revert c_774; decide)) (fun c_774 => ?_)
              refine lv_iconst (v := 1) hx hb dL_deals_777 (by decide) ?_
              refine lv_goto (tgt := 782) hx hb dL_deals_778 (by decide) ?_
              exact (r_z hx hb hr hlocks hS (v := 1) (by simp) _ ⟨rfl, S, T, ex, ad, hw, hi, hx9, hR, fun _ _ => rfl⟩ hM (Nat.le_of_ble_eq_true rfl) (Nat.le_of_ble_eq_true rfl) dL_deals_782)
          refine lv_aload hx hb dL_deals_683 (lv_at hl 7 rfl) ?_
          refine lv_iload hx hb dL_deals_685 (lv_at hl 14 rfl) ?_
          refine k_iald (a := (ad 15 0)) hx hb hC hM (qa15 hw) j8 (ix_lit rfl (by omega) (by decide)) dL_deals_687 ?_
          rw [eT15]
          refine lv_if_eq (tgt := 698) hx hb dL_deals_688 (by decide) (fun c_688 => ?_) (fun c_688 => ?_)
          · refine lv_aload hx hb dL_deals_698 (lv_at hl 7 rfl) ?_
            refine lv_iload hx hb dL_deals_700 (lv_at hl 14 rfl) ?_
            refine k_iald (a := (ad 15 0)) hx hb hC hM (qa15 hw) j8 (ix_lit rfl (by omega) (by decide)) dL_deals_702 ?_
            rw [eT15]
            refine lv_iconst (v := 1) hx hb dL_deals_703 (by decide) ?_
            refine lv_iadd hx hb dL_deals_704 ?_
            rw [nI_1]
            refine lv_goto (tgt := 740) hx hb dL_deals_705 (by decide) ?_
            exact j740 (a9 + 1) (by omega) (by omega) ls (lv_sub hl [0, 1, 2, 3, 4, 5, 6, 7, 8, 9, 10, 11, 12, 13, 14] rfl) _ _ hM hS
          · refine lv_iload_n hx hb dL_deals_691 rfl (lv_at hl 5 rfl) ?_
            refine lv_bipush (v := 14) hx hb dL_deals_692 (by decide) ?_
            refine lv_iand hx hb dL_deals_694 ?_
            refine lv_if_ne (tgt := 708) hx hb dL_deals_695 (by decide) (fun c_695 => ?_) (fun c_695 => ?_)
            · have hpa : 0 < a9 := Nat.pos_of_ne_zero (fun q => c_688 (by rw [q]; rfl))
              refine lv_iconst (v := 1) hx hb dL_deals_708 (by decide) ?_
              refine lv_iload_n hx hb dL_deals_709 rfl (lv_at hl 5 rfl) ?_
              refine lv_iconst (v := 4) hx hb dL_deals_710 (by decide) ?_
              refine lv_ishr hx hb dL_deals_711 ?_
              refine lv_iload_n hx hb dL_deals_712 rfl (lv_at hl 5 rfl) ?_
              refine lv_bipush (v := 16) hx hb dL_deals_713 (by decide) ?_
              refine lv_iand hx hb dL_deals_715 ?_
              refine lv_if_ne (tgt := 727) hx hb dL_deals_716 (by decide) (fun c_716 => ?_) (fun c_716 => ?_)
              · refine lv_aload hx hb dL_deals_727 (lv_at hl 7 rfl) ?_
                refine lv_iload hx hb dL_deals_729 (lv_at hl 14 rfl) ?_
                refine k_iald (a := (ad 15 0)) hx hb hC hM (qa15 hw) j8 (ix_lit rfl (by omega) (by decide)) dL_deals_731 ?_
                rw [eT15]
                refine lv_iconst (v := 2) hx hb dL_deals_732 (by decide) ?_
                refine lv_idiv hx hb dL_deals_733 (by decide) ?_
                rw [show nI a9 / 2 = nI (a9 / 2) from pk_div (d := 2) (by omega) (by decide) (by decide)]
                refine lv_iconst (v := 1) hx hb dL_deals_734 (by decide) ?_
                refine lv_iadd hx hb dL_deals_735 ?_
                rw [nI_1]
                refine k_i (va_runS (As := [.int (zz >>> ((4 : Int32) &&& 31)), .int (nI (a9 / 2 + 1))]) (rest := [.int 1]) ⟨hx, hb, hml, hown, hts⟩ (c_L_low l G M (zz >>> ((4 : Int32) &&& 31)) (a9 / 2 + 1) (by omega) (by omega)) (va_cwS 2 hts gL_deals_L_low rfl rfl rfl (by decide +kernel) ⟨Nat.le_of_ble_eq_true rfl, Nat.le_of_ble_eq_true rfl⟩) (preS_of hC hS hM) rfl rfl hl.1 rfl (lv_room (Nat.le_of_ble_eq_true rfl)) dL_deals_736 ⟨Nat.le_of_ble_eq_true rfl, Nat.le_of_ble_eq_true rfl⟩) hS (fun r736 us736 H locs hp736 hM hS => ?_)
                have hM : Hm G M H := hM
                obtain ⟨q736, hq736, e736⟩ := hp736
                subst e736
                refine lv_iadd hx hb dL_deals_739 ?_
                rw [show (1 : Int32) + nI q736 = nI (1 + q736) from nI_add 1 q736]
                exact j740 (1 + q736) (by omega) (by omega) ls (lv_sub hl [0, 1, 2, 3, 4, 5, 6, 7, 8, 9, 10, 11, 12, 13, 14] rfl) _ _ hM hS
              · refine lv_aload hx hb dL_deals_719 (lv_at hl 7 rfl) ?_
                refine lv_iload hx hb dL_deals_721 (lv_at hl 14 rfl) ?_
                refine k_iald (a := (ad 15 0)) hx hb hC hM (qa15 hw) j8 (ix_lit rfl (by omega) (by decide)) dL_deals_723 ?_
                rw [eT15]
                refine lv_goto (tgt := 736) hx hb dL_deals_724 (by decide) ?_
                refine k_i (va_runS (As := [.int (zz >>> ((4 : Int32) &&& 31)), .int (nI a9)]) (rest := [.int 1]) ⟨hx, hb, hml, hown, hts⟩ (c_L_low l G M (zz >>> ((4 : Int32) &&& 31)) a9 (by omega) (by omega)) (va_cwS 2 hts gL_deals_L_low rfl rfl rfl (by decide +kernel) ⟨Nat.le_of_ble_eq_true rfl, Nat.le_of_ble_eq_true rfl⟩) (preS_of hC hS hM) rfl rfl hl.1 rfl (lv_room (Nat.le_of_ble_eq_true rfl)) dL_deals_736 ⟨Nat.le_of_ble_eq_true rfl, Nat.le_of_ble_eq_true rfl⟩) hS (fun r736 us736 H locs hp736 hM hS => ?_)
                have hM : Hm G M H := hM
                obtain ⟨q736, hq736, e736⟩ := hp736
                subst e736
                refine lv_iadd hx hb dL_deals_739 ?_
                rw [show (1 : Int32) + nI q736 = nI (1 + q736) from nI_add 1 q736]
                exact j740 (1 + q736) (by omega) (by omega) ls (lv_sub hl [0, 1, 2, 3, 4, 5, 6, 7, 8, 9, 10, 11, 12, 13, 14] rfl) _ _ hM hS
            · refine lv_aload hx hb dL_deals_698 (lv_at hl 7 rfl) ?_
              refine lv_iload hx hb dL_deals_700 (lv_at hl 14 rfl) ?_
              refine k_iald (a := (ad 15 0)) hx hb hC hM (qa15 hw) j8 (ix_lit rfl (by omega) (by decide)) dL_deals_702 ?_
              rw [eT15]
              refine lv_iconst (v := 1) hx hb dL_deals_703 (by decide) ?_
              refine lv_iadd hx hb dL_deals_704 ?_
              rw [nI_1]
              refine lv_goto (tgt := 740) hx hb dL_deals_705 (by decide) ?_
              exact j740 (a9 + 1) (by omega) (by omega) ls (lv_sub hl [0, 1, 2, 3, 4, 5, 6, 7, 8, 9, 10, 11, 12, 13, 14] rfl) _ _ hM hS
      · have ej8 : j8 = ndl S := (nI_eq (by omega) (by omega)).mp c_587
        refine lv_aload_n hx hb dL_deals_590 rfl (lv_at hl 0 rfl) ?_
        refine lv_iload hx hb dL_deals_591 (lv_at hl 12 rfl) ?_
        refine lv_iconst (v := 0) hx hb dL_deals_593 (by decide) ?_
        refine k_i (vx_runSW (As := [.ref (ad 0 0), .int (nI j8), .int 0]) (rest := []) ⟨hx, hb, hml, hown, hts⟩ (c_L_draw hnt l G M S T th o ex ad (nI j8) 0 hw hi hx9) (vx_cwSW 3 hts gL_deals_L_draw rfl rfl rfl (by decide +kernel) ⟨Nat.le_of_ble_eq_true rfl, Nat.le_of_ble_eq_true rfl⟩) (preS_of hC hS hM) rfl rfl hl.1 rfl (lv_room (Nat.le_of_ble_eq_true rfl)) dL_deals_594 ⟨Nat.le_of_ble_eq_true rfl, Nat.le_of_ble_eq_true rfl⟩) hS (fun r594 us594 H locs hp594 hM hS => ?_)
        rw [nI_clamp (show j8 < 2 ^ 31 by omega)] at hp594
        have hq594 : r594 = (-2000000071) ∧ us594 = M := by
          rcases hp594 with h | h | h
          · exact ⟨h.1, h.2.2⟩
          · exact False.elim (absurd h.2.1.1 (fun z => absurd z.2 (by omega)))
          · exact False.elim (absurd h.2.1.1 (fun z => absurd z.2 (by omega)))
        have hM : Hm G us594 H := hM
        obtain ⟨eq594, em594⟩ := hq594
        rw [em594] at hM
        subst eq594
        refine lv_ldc (own := RL) (v := (-2000000071)) hx hb hown (hts (.constant RL 16 (-2000000071)) (by decide +kernel)) dL_deals_597 ?_
        refine lv_icmp_ne (tgt := 655) hx hb dL_deals_599 (by decide) (fun c_599 => False.elim (by revert c_599; decide)) (fun c_599 => ?_)
        refine lv_aload_n hx hb dL_deals_602 rfl (lv_at hl 0 rfl) ?_
        refine lv_iload hx hb dL_deals_603 (lv_at hl 12 rfl) ?_
        refine lv_iconst (v := 0) hx hb dL_deals_605 (by decide) ?_
        refine lv_iconst (v := 1) hx hb dL_deals_606 (by decide) ?_
        refine k_i (vx_runSW (As := [.ref (ad 0 0), .int (nI j8), .int 0, .int 1]) (rest := []) ⟨hx, hb, hml, hown, hts⟩ (c_L_roll hnt l G M S T th o ex ad (nI j8) 0 1 hw hi hx9) (vx_cwSW 4 hts gL_deals_L_roll rfl rfl rfl (by decide +kernel) ⟨Nat.le_of_ble_eq_true rfl, Nat.le_of_ble_eq_true rfl⟩) (preS_of hC hS hM) rfl rfl hl.1 rfl (lv_room (Nat.le_of_ble_eq_true rfl)) dL_deals_607 ⟨Nat.le_of_ble_eq_true rfl, Nat.le_of_ble_eq_true rfl⟩) hS (fun r607 us607 H locs hp607 hM hS => ?_)
        rw [nI_clamp (show j8 < 2 ^ 31 by omega)] at hp607
        have hq607 : r607 = (-2000000071) ∧ us607 = M := by
          rcases hp607 with h | h | h | h
          · exact ⟨h.1, h.2.2⟩
          · exact False.elim (absurd h.2.1.1 (fun z => absurd z.2 (by omega)))
          · exact False.elim (absurd h.2.1.1 (fun z => absurd z.2 (by omega)))
          · exact False.elim (absurd h.2.1.1 (fun z => absurd z.2 (by omega)))
        have hM : Hm G us607 H := hM
        obtain ⟨eq607, em607⟩ := hq607
        rw [em607] at hM
        subst eq607
        refine lv_ldc (own := RL) (v := (-2000000071)) hx hb hown (hts (.constant RL 16 (-2000000071)) (by decide +kernel)) dL_deals_610 ?_
        refine lv_icmp_ne (tgt := 655) hx hb dL_deals_612 (by decide) (fun c_612 => False.elim (by revert c_612; decide)) (fun c_612 => ?_)
        refine lv_aload_n hx hb dL_deals_615 rfl (lv_at hl 0 rfl) ?_
        refine lv_iload hx hb dL_deals_616 (lv_at hl 12 rfl) ?_
        refine k_l (vx_runSW (As := [.ref (ad 0 0), .int (nI j8)]) (rest := []) ⟨hx, hb, hml, hown, hts⟩ (c_L_closeOut hnt l G M S T th o ex ad (nI j8) hw hi hx9) (vx_cwSW 2 hts gL_deals_L_closeOut rfl rfl rfl (by decide +kernel) ⟨Nat.le_of_ble_eq_true rfl, Nat.le_of_ble_eq_true rfl⟩) (preS_of hC hS hM) rfl rfl hl.1 rfl (lv_room (Nat.le_of_ble_eq_true rfl)) dL_deals_618 ⟨Nat.le_of_ble_eq_true rfl, Nat.le_of_ble_eq_true rfl⟩) hS (fun r618 us618 H locs hp618 hM hS => ?_)
        rw [nI_clamp (show j8 < 2 ^ 31 by omega)] at hp618
        have hq618 : r618 = (-2000000071) ∧ us618 = M := by
          rcases hp618 with h | h | h
          · exact ⟨h.1, h.2.2⟩
          · exact False.elim (absurd h.2.1.1 (fun z => absurd z.2 (by omega)))
          · exact False.elim (absurd h.2.1.1 (fun z => absurd z.2 (by omega)))
        have hM : Hm G us618 H := hM
        obtain ⟨eq618, em618⟩ := hq618
        rw [em618] at hM
        subst eq618
        refine lv_ldc2 (own := RL) (v := (-2000000071)) hx hb hown (hts (.constantLong RL 51 (-2000000071)) (by decide +kernel)) dL_deals_621 ?_
        refine W.lcmp hx hb dL_deals_624 ?_
        rw [lg_same]
        refine lv_if_ne (tgt := 655) hx hb dL_deals_625 (by decide) (fun c_625 => False.elim (by revert c_625; decide)) (fun c_625 => ?_)
        refine lv_aload_n hx hb dL_deals_628 rfl (lv_at hl 0 rfl) ?_
        refine lv_iconst (v := (-1)) hx hb dL_deals_629 (by decide) ?_
        refine lv_iconst (v := 1) hx hb dL_deals_630 (by decide) ?_
        refine k_i (vx_runSW (As := [.ref (ad 0 0), .int (-1), .int 1]) (rest := []) ⟨hx, hb, hml, hown, hts⟩ (c_L_draw hnt l G M S T th o ex ad (-1) 1 hw hi hx9) (vx_cwSW 3 hts gL_deals_L_draw rfl rfl rfl (by decide +kernel) ⟨Nat.le_of_ble_eq_true rfl, Nat.le_of_ble_eq_true rfl⟩) (preS_of hC hS hM) rfl rfl hl.1 rfl (lv_room (Nat.le_of_ble_eq_true rfl)) dL_deals_631 ⟨Nat.le_of_ble_eq_true rfl, Nat.le_of_ble_eq_true rfl⟩) hS (fun r631 us631 H locs hp631 hM hS => ?_)
        have hq631 : r631 = (-2000000071) ∧ us631 = M := by
          rcases hp631 with h | h | h
          · exact ⟨h.1, h.2.2⟩
          · exact False.elim (absurd h.2.1.1 (fun z => absurd z.1 (by decide)))
          · exact False.elim (absurd h.2.1.1 (fun z => absurd z.1 (by decide)))
        have hM : Hm G us631 H := hM
        obtain ⟨eq631, em631⟩ := hq631
        rw [em631] at hM
        subst eq631
        refine lv_ldc (own := RL) (v := (-2000000071)) hx hb hown (hts (.constant RL 16 (-2000000071)) (by decide +kernel)) dL_deals_634 ?_
        refine lv_icmp_ne (tgt := 655) hx hb dL_deals_636 (by decide) (fun c_636 => False.elim (by revert c_636; decide)) (fun c_636 => ?_)
        refine lv_aload_n hx hb dL_deals_639 rfl (lv_at hl 0 rfl) ?_
        refine lv_iconst (v := (-1)) hx hb dL_deals_640 (by decide) ?_
        refine lv_iconst (v := 5) hx hb dL_deals_641 (by decide) ?_
        refine lv_iconst (v := 0) hx hb dL_deals_642 (by decide) ?_
        refine k_i (vx_runSW (As := [.ref (ad 0 0), .int (-1), .int 5, .int 0]) (rest := []) ⟨hx, hb, hml, hown, hts⟩ (c_L_roll hnt l G M S T th o ex ad (-1) 5 0 hw hi hx9) (vx_cwSW 4 hts gL_deals_L_roll rfl rfl rfl (by decide +kernel) ⟨Nat.le_of_ble_eq_true rfl, Nat.le_of_ble_eq_true rfl⟩) (preS_of hC hS hM) rfl rfl hl.1 rfl (lv_room (Nat.le_of_ble_eq_true rfl)) dL_deals_643 ⟨Nat.le_of_ble_eq_true rfl, Nat.le_of_ble_eq_true rfl⟩) hS (fun r643 us643 H locs hp643 hM hS => ?_)
        have hq643 : r643 = (-2000000071) ∧ us643 = M := by
          rcases hp643 with h | h | h | h
          · exact ⟨h.1, h.2.2⟩
          · exact False.elim (absurd h.2.1.1 (fun z => absurd z.1 (by decide)))
          · exact False.elim (absurd h.2.1.1 (fun z => absurd z.1 (by decide)))
          · exact False.elim (absurd h.2.1.1 (fun z => absurd z.1 (by decide)))
        have hM : Hm G us643 H := hM
        obtain ⟨eq643, em643⟩ := hq643
        rw [em643] at hM
        subst eq643
        refine lv_ldc (own := RL) (v := (-2000000071)) hx hb hown (hts (.constant RL 16 (-2000000071)) (by decide +kernel)) dL_deals_646 ?_
        refine lv_icmp_ne (tgt := 655) hx hb dL_deals_648 (by decide) (fun c_648 => False.elim (by revert c_648; decide)) (fun c_648 => ?_)
        refine lv_iconst (v := 1) hx hb dL_deals_651 (by decide) ?_
        refine lv_goto (tgt := 656) hx hb dL_deals_652 (by decide) ?_
        exact (r_z hx hb hr hlocks hS (v := 1) (by simp) _ ⟨rfl, S, T, ex, ad, hw, hi, hx9, hR, fun _ _ => rfl⟩ hM (Nat.le_of_ble_eq_true rfl) (Nat.le_of_ble_eq_true rfl) dL_deals_656)
    refine lv_iconst (v := 0) hx hb dL_deals_528 (by decide) ?_
    refine lv_istore (lv' := [(13, .int 0), (12, .int (nI q523)), (0, .ref (ad 0 0)), (1, .int ac), (2, .int yy), (3, .int zz), (4, .ref (ad 14 0)), (5, .ref (ad 15 0)), (6, .ref (ad 16 0)), (7, .ref (ad 17 0)), (8, .ref (ad 18 0)), (9, .ref (ad 19 0)), (10, .ref (ad 20 0)), (11, .ref (ad 22 0))]) hx hb dL_deals_529 hl (by decide) rfl (fun ls hl => ?_)
    have loop : ∀ (n_loop : Nat) (i9 j9 : Nat), (i9 + n_loop = ndl S) → (j9 ≤ ndl S) → ∀ ls : Array Slot, lv_has ls 19 [(0, .ref (ad 0 0)), (1, .int ac), (2, .int yy), (3, .int zz), (4, .ref (ad 14 0)), (5, .ref (ad 15 0)), (6, .ref (ad 16 0)), (7, .ref (ad 17 0)), (8, .ref (ad 18 0)), (9, .ref (ad 19 0)), (10, .ref (ad 20 0)), (11, .ref (ad 22 0)), (12, .int (nI j9)), (13, .int (nI i9))] → ∀ (H : Heap) (locs : List Loc), Hm G M H → va_S (AG G) s.heap H locs → W p l e { frames := 9, cells := 63, slots := 387, locals := 220 } s m ([.ref (ad 0 0), .int ac, .int yy, .int zz, .ref (ad 14 0), .ref (ad 15 0), .ref (ad 16 0), .ref (ad 17 0), .ref (ad 18 0), .ref (ad 19 0), .ref (ad 20 0), .ref (ad 22 0)] : List Value).toArray below meth c H locs (0) (0) (MQ below (va_Qi (S := Mp) (fun r M2 => r = 1 ∧ Nx G th o ad M2) (Bm G (fun M2 => M2)) (AG G)) ([.ref (ad 0 0), .int ac, .int yy, .int zz, .ref (ad 14 0), .ref (ad 15 0), .ref (ad 16 0), .ref (ad 17 0), .ref (ad 18 0), .ref (ad 19 0), .ref (ad 20 0), .ref (ad 22 0)] : List Value).toArray s (63) (387) (AG G)) (F0 m 531 ls []) := by
      intro n_loop
      induction n_loop with
      | zero =>
        intro i9 j9 h9 hj9 ls hl H locs hM hS
        refine lv_iload hx hb dL_deals_531 (lv_at hl 13 rfl) ?_
        refine lv_aload hx hb dL_deals_533 (lv_at hl 11 rfl) ?_
        refine lv_iconst (v := 1) hx hb dL_deals_535 (by decide) ?_
        refine k_iald (a := (ad 22 0)) hx hb hC hM (qa22 hw) 1 (ix_lit (rfl : (1 : Int32) = nI 1) (by decide) (by decide)) dL_deals_536 ?_
        rw [hG1]
        refine lv_icmp_ge (tgt := 581) hx hb dL_deals_537 (by decide) (fun c_537 => ?_) (fun c_537 => False.elim (by exact c_537 (nI_le (a := ndl S) (by omega) (by omega))))
        exact j581 j9 (by omega) ls (lv_sub hl [0, 1, 2, 3, 4, 5, 6, 7, 8, 9, 10, 11, 12] rfl) _ _ hM hS
      | succ n_loop ih_loop =>
        intro i9 j9 h9 hj9 ls hl H locs hM hS
        refine lv_iload hx hb dL_deals_531 (lv_at hl 13 rfl) ?_
        refine lv_aload hx hb dL_deals_533 (lv_at hl 11 rfl) ?_
        refine lv_iconst (v := 1) hx hb dL_deals_535 (by decide) ?_
        refine k_iald (a := (ad 22 0)) hx hb hC hM (qa22 hw) 1 (ix_lit (rfl : (1 : Int32) = nI 1) (by decide) (by decide)) dL_deals_536 ?_
        rw [hG1]
        refine lv_icmp_ge (tgt := 581) hx hb dL_deals_537 (by decide) (fun c_537 => False.elim (by exact nI_ge (a := i9) (b := ndl S) (by omega) (by omega) c_537)) (fun c_537 => ?_)
        refine lv_iload_n hx hb dL_deals_540 rfl (lv_at hl 2 rfl) ?_
        refine lv_bipush (v := 96) hx hb dL_deals_541 (by decide) ?_
        refine lv_iand hx hb dL_deals_543 ?_
        refine lv_if_le (tgt := 581) hx hb dL_deals_544 (by decide) (fun c_544 => ?_) (fun c_544 => ?_)
        · exact j581 j9 (by omega) ls (lv_sub hl [0, 1, 2, 3, 4, 5, 6, 7, 8, 9, 10, 11, 12] rfl) _ _ hM hS
        · refine lv_iload hx hb dL_deals_547 (lv_at hl 12 rfl) ?_
          refine lv_aload hx hb dL_deals_549 (lv_at hl 11 rfl) ?_
          refine lv_iconst (v := 1) hx hb dL_deals_551 (by decide) ?_
          refine k_iald (a := (ad 22 0)) hx hb hC hM (qa22 hw) 1 (ix_lit (rfl : (1 : Int32) = nI 1) (by decide) (by decide)) dL_deals_552 ?_
          rw [hG1]
          refine lv_icmp_eq (tgt := 564) hx hb dL_deals_553 (by decide) (fun c_553 => ?_) (fun c_553 => ?_)
          · refine lv_iload hx hb dL_deals_564 (lv_at hl 12 rfl) ?_
            refine lv_iconst (v := 1) hx hb dL_deals_566 (by decide) ?_
            refine lv_iadd hx hb dL_deals_567 ?_
            rw [nI_1]
            refine lv_aload hx hb dL_deals_568 (lv_at hl 11 rfl) ?_
            refine lv_iconst (v := 1) hx hb dL_deals_570 (by decide) ?_
            refine k_iald (a := (ad 22 0)) hx hb hC hM (qa22 hw) 1 (ix_lit (rfl : (1 : Int32) = nI 1) (by decide) (by decide)) dL_deals_571 ?_
            rw [hG1]
            refine lv_irem hx hb dL_deals_572 (nI_ne0 (by omega) (by omega)) ?_
            rw [pk_rem (a := j9 + 1) (d := ndl S) (by omega) (by omega) (by omega)]
            refine lv_istore (lv' := [(12, .int (nI ((j9 + 1) % ndl S))), (0, .ref (ad 0 0)), (1, .int ac), (2, .int yy), (3, .int zz), (4, .ref (ad 14 0)), (5, .ref (ad 15 0)), (6, .ref (ad 16 0)), (7, .ref (ad 17 0)), (8, .ref (ad 18 0)), (9, .ref (ad 19 0)), (10, .ref (ad 20 0)), (11, .ref (ad 22 0)), (13, .int (nI i9))]) hx hb dL_deals_573 hl (by decide) rfl (fun ls hl => ?_)
            refine lv_iinc (v := ((nI i9) + 1)) (lv' := [(13, .int ((nI i9) + 1)), (12, .int (nI ((j9 + 1) % ndl S))), (0, .ref (ad 0 0)), (1, .int ac), (2, .int yy), (3, .int zz), (4, .ref (ad 14 0)), (5, .ref (ad 15 0)), (6, .ref (ad 16 0)), (7, .ref (ad 17 0)), (8, .ref (ad 18 0)), (9, .ref (ad 19 0)), (10, .ref (ad 20 0)), (11, .ref (ad 22 0))]) hx hb dL_deals_575 hl (k := 13) rfl rfl (by decide) rfl (fun ls hl => ?_)
            refine lv_goto (tgt := 531) hx hb dL_deals_578 (by decide) ?_
            rw [show nI i9 + 1 = nI (i9 + 1) from nI_1 i9] at hl
            exact ih_loop (i9 + 1) ((j9 + 1) % ndl S) (by omega) (Nat.le_of_lt (Nat.mod_lt _ (by omega))) ls (lv_sub hl [2, 3, 4, 5, 6, 7, 8, 9, 10, 11, 12, 13, 1, 0] rfl) _ _ hM hS
          · have hj7 : j9 < ndl S := Nat.lt_of_le_of_ne hj9 (fun q => c_553 (by rw [q]))
            refine lv_aload hx hb dL_deals_556 (lv_at hl 5 rfl) ?_
            refine lv_iload hx hb dL_deals_558 (lv_at hl 12 rfl) ?_
            refine k_iald (a := (ad 15 0)) hx hb hC hM (qa15 hw) j9 (ix_lit rfl (by omega) (by decide)) dL_deals_560 ?_
            refine lv_if_ne (tgt := 581) hx hb dL_deals_561 (by decide) (fun c_561 => ?_) (fun c_561 => ?_)
            · exact j581 j9 (by omega) ls (lv_sub hl [0, 1, 2, 3, 4, 5, 6, 7, 8, 9, 10, 11, 12] rfl) _ _ hM hS
            · refine lv_iload hx hb dL_deals_564 (lv_at hl 12 rfl) ?_
              refine lv_iconst (v := 1) hx hb dL_deals_566 (by decide) ?_
              refine lv_iadd hx hb dL_deals_567 ?_
              rw [nI_1]
              refine lv_aload hx hb dL_deals_568 (lv_at hl 11 rfl) ?_
              refine lv_iconst (v := 1) hx hb dL_deals_570 (by decide) ?_
              refine k_iald (a := (ad 22 0)) hx hb hC hM (qa22 hw) 1 (ix_lit (rfl : (1 : Int32) = nI 1) (by decide) (by decide)) dL_deals_571 ?_
              rw [hG1]
              refine lv_irem hx hb dL_deals_572 (nI_ne0 (by omega) (by omega)) ?_
              rw [pk_rem (a := j9 + 1) (d := ndl S) (by omega) (by omega) (by omega)]
              refine lv_istore (lv' := [(12, .int (nI ((j9 + 1) % ndl S))), (0, .ref (ad 0 0)), (1, .int ac), (2, .int yy), (3, .int zz), (4, .ref (ad 14 0)), (5, .ref (ad 15 0)), (6, .ref (ad 16 0)), (7, .ref (ad 17 0)), (8, .ref (ad 18 0)), (9, .ref (ad 19 0)), (10, .ref (ad 20 0)), (11, .ref (ad 22 0)), (13, .int (nI i9))]) hx hb dL_deals_573 hl (by decide) rfl (fun ls hl => ?_)
              refine lv_iinc (v := ((nI i9) + 1)) (lv' := [(13, .int ((nI i9) + 1)), (12, .int (nI ((j9 + 1) % ndl S))), (0, .ref (ad 0 0)), (1, .int ac), (2, .int yy), (3, .int zz), (4, .ref (ad 14 0)), (5, .ref (ad 15 0)), (6, .ref (ad 16 0)), (7, .ref (ad 17 0)), (8, .ref (ad 18 0)), (9, .ref (ad 19 0)), (10, .ref (ad 20 0)), (11, .ref (ad 22 0))]) hx hb dL_deals_575 hl (k := 13) rfl rfl (by decide) rfl (fun ls hl => ?_)
              refine lv_goto (tgt := 531) hx hb dL_deals_578 (by decide) ?_
              rw [show nI i9 + 1 = nI (i9 + 1) from nI_1 i9] at hl
              exact ih_loop (i9 + 1) ((j9 + 1) % ndl S) (by omega) (Nat.le_of_lt (Nat.mod_lt _ (by omega))) ls (lv_sub hl [2, 3, 4, 5, 6, 7, 8, 9, 10, 11, 12, 13, 1, 0] rfl) _ _ hM hS
    exact loop (ndl S) 0 q523 (by omega) (by omega) ls (lv_sub hl [2, 3, 4, 5, 6, 7, 8, 9, 10, 11, 12, 13, 1, 0] rfl) _ _ hM hS
  · refine lv_iload_n hx hb dL_deals_5 rfl (lv_at hl 2 rfl) ?_
    refine lv_iconst (v := 2) hx hb dL_deals_6 (by decide) ?_
    refine k_i (va_runS (As := [.int yy, .int 2]) (rest := []) ⟨hx, hb, hml, hown, hts⟩ (c_L_low l G M yy 2 (by decide) (by decide)) (va_cwS 2 hts gL_deals_L_low rfl rfl rfl (by decide +kernel) ⟨Nat.le_of_ble_eq_true rfl, Nat.le_of_ble_eq_true rfl⟩) (preS_of hC hS hM) rfl rfl hl.1 rfl (lv_room (Nat.le_of_ble_eq_true rfl)) dL_deals_7 ⟨Nat.le_of_ble_eq_true rfl, Nat.le_of_ble_eq_true rfl⟩) hS (fun r7 us7 H locs hp7 hM hS => ?_)
    have hM : Hm G M H := hM
    obtain ⟨q7, hq7, e7⟩ := hp7
    subst e7
    refine lv_istore (lv' := [(12, .int (nI q7)), (0, .ref (ad 0 0)), (1, .int ac), (2, .int yy), (3, .int zz), (4, .ref (ad 14 0)), (5, .ref (ad 15 0)), (6, .ref (ad 16 0)), (7, .ref (ad 17 0)), (8, .ref (ad 18 0)), (9, .ref (ad 19 0)), (10, .ref (ad 20 0)), (11, .ref (ad 22 0))]) hx hb dL_deals_10 hl (by decide) rfl (fun ls hl => ?_)
    refine lv_iload_n hx hb dL_deals_12 rfl (lv_at hl 3 rfl) ?_
    refine lv_iconst (v := 1) hx hb dL_deals_13 (by decide) ?_
    refine lv_ishr hx hb dL_deals_14 ?_
    refine lv_iconst (v := 2) hx hb dL_deals_15 (by decide) ?_
    refine k_i (va_runS (As := [.int (yy >>> ((1 : Int32) &&& 31)), .int 2]) (rest := []) ⟨hx, hb, hml, hown, hts⟩ (c_L_low l G M (yy >>> ((1 : Int32) &&& 31)) 2 (by decide) (by decide)) (va_cwS 2 hts gL_deals_L_low rfl rfl rfl (by decide +kernel) ⟨Nat.le_of_ble_eq_true rfl, Nat.le_of_ble_eq_true rfl⟩) (preS_of hC hS hM) rfl rfl hl.1 rfl (lv_room (Nat.le_of_ble_eq_true rfl)) dL_deals_16 ⟨Nat.le_of_ble_eq_true rfl, Nat.le_of_ble_eq_true rfl⟩) hS (fun r16 us16 H locs hp16 hM hS => ?_)
    have hM : Hm G M H := hM
    obtain ⟨q16, hq16, e16⟩ := hp16
    subst e16
    refine lv_istore (lv' := [(13, .int (nI q16)), (12, .int (nI q7)), (0, .ref (ad 0 0)), (1, .int ac), (2, .int yy), (3, .int zz), (4, .ref (ad 14 0)), (5, .ref (ad 15 0)), (6, .ref (ad 16 0)), (7, .ref (ad 17 0)), (8, .ref (ad 18 0)), (9, .ref (ad 19 0)), (10, .ref (ad 20 0)), (11, .ref (ad 22 0))]) hx hb dL_deals_19 hl (by decide) rfl (fun ls hl => ?_)
    have j33 : ∀ (bu : Int32), (bu = 0 ∨ bu = 1) → ∀ (ls : Array Slot), lv_has ls 19 [(13, .int (nI q16)), (12, .int (nI q7)), (0, .ref (ad 0 0)), (1, .int ac), (2, .int yy), (3, .int zz), (4, .ref (ad 14 0)), (5, .ref (ad 15 0)), (6, .ref (ad 16 0)), (7, .ref (ad 17 0)), (8, .ref (ad 18 0)), (9, .ref (ad 19 0)), (10, .ref (ad 20 0)), (11, .ref (ad 22 0))] → ∀ (H : Heap) (locs : List Loc), Hm G M H → va_S (AG G) s.heap H locs → W p l e { frames := 9, cells := 63, slots := 387, locals := 220 } s m ([.ref (ad 0 0), .int ac, .int yy, .int zz, .ref (ad 14 0), .ref (ad 15 0), .ref (ad 16 0), .ref (ad 17 0), .ref (ad 18 0), .ref (ad 19 0), .ref (ad 20 0), .ref (ad 22 0)] : List Value).toArray below meth c H locs (0) (0) (MQ below (va_Qi (S := Mp) (fun r M2 => r = 1 ∧ Nx G th o ad M2) (Bm G (fun M2 => M2)) (AG G)) ([.ref (ad 0 0), .int ac, .int yy, .int zz, .ref (ad 14 0), .ref (ad 15 0), .ref (ad 16 0), .ref (ad 17 0), .ref (ad 18 0), .ref (ad 19 0), .ref (ad 20 0), .ref (ad 22 0)] : List Value).toArray s (63) (387) (AG G)) (F0 m 33 ls [.int bu]) := by
      intro bu hbu ls hl H locs hM hS
      refine lv_istore (lv' := [(14, .int bu), (13, .int (nI q16)), (12, .int (nI q7)), (0, .ref (ad 0 0)), (1, .int ac), (2, .int yy), (3, .int zz), (4, .ref (ad 14 0)), (5, .ref (ad 15 0)), (6, .ref (ad 16 0)), (7, .ref (ad 17 0)), (8, .ref (ad 18 0)), (9, .ref (ad 19 0)), (10, .ref (ad 20 0)), (11, .ref (ad 22 0))]) hx hb dL_deals_33 hl (by decide) rfl (fun ls hl => ?_)
      have j66 : ∀ (q66 : Nat), (1 ≤ q66) → (q66 ≤ 1000000) → ∀ (ls : Array Slot), lv_has ls 19 [(14, .int bu), (13, .int (nI q16)), (12, .int (nI q7)), (0, .ref (ad 0 0)), (1, .int ac), (2, .int yy), (3, .int zz), (4, .ref (ad 14 0)), (5, .ref (ad 15 0)), (6, .ref (ad 16 0)), (7, .ref (ad 17 0)), (8, .ref (ad 18 0)), (9, .ref (ad 19 0)), (10, .ref (ad 20 0)), (11, .ref (ad 22 0))] → ∀ (H : Heap) (locs : List Loc), Hm G M H → va_S (AG G) s.heap H locs → W p l e { frames := 9, cells := 63, slots := 387, locals := 220 } s m ([.ref (ad 0 0), .int ac, .int yy, .int zz, .ref (ad 14 0), .ref (ad 15 0), .ref (ad 16 0), .ref (ad 17 0), .ref (ad 18 0), .ref (ad 19 0), .ref (ad 20 0), .ref (ad 22 0)] : List Value).toArray below meth c H locs (0) (0) (MQ below (va_Qi (S := Mp) (fun r M2 => r = 1 ∧ Nx G th o ad M2) (Bm G (fun M2 => M2)) (AG G)) ([.ref (ad 0 0), .int ac, .int yy, .int zz, .ref (ad 14 0), .ref (ad 15 0), .ref (ad 16 0), .ref (ad 17 0), .ref (ad 18 0), .ref (ad 19 0), .ref (ad 20 0), .ref (ad 22 0)] : List Value).toArray s (63) (387) (AG G)) (F0 m 66 ls [.int (nI q66)]) := by
        intro q66 ha66 hb66 ls hl H locs hM hS
        refine lv_istore (lv' := [(15, .int (nI q66)), (14, .int bu), (13, .int (nI q16)), (12, .int (nI q7)), (0, .ref (ad 0 0)), (1, .int ac), (2, .int yy), (3, .int zz), (4, .ref (ad 14 0)), (5, .ref (ad 15 0)), (6, .ref (ad 16 0)), (7, .ref (ad 17 0)), (8, .ref (ad 18 0)), (9, .ref (ad 19 0)), (10, .ref (ad 20 0)), (11, .ref (ad 22 0))]) hx hb dL_deals_66 hl (by decide) rfl (fun ls hl => ?_)
        have j97 : ∀ (q97 : Nat), (q97 ≤ 400) → ∀ (ls : Array Slot), lv_has ls 19 [(15, .int (nI q66)), (14, .int bu), (13, .int (nI q16)), (12, .int (nI q7)), (0, .ref (ad 0 0)), (1, .int ac), (2, .int yy), (3, .int zz), (4, .ref (ad 14 0)), (5, .ref (ad 15 0)), (6, .ref (ad 16 0)), (7, .ref (ad 17 0)), (8, .ref (ad 18 0)), (9, .ref (ad 19 0)), (10, .ref (ad 20 0)), (11, .ref (ad 22 0))] → ∀ (H : Heap) (locs : List Loc), Hm G M H → va_S (AG G) s.heap H locs → W p l e { frames := 9, cells := 63, slots := 387, locals := 220 } s m ([.ref (ad 0 0), .int ac, .int yy, .int zz, .ref (ad 14 0), .ref (ad 15 0), .ref (ad 16 0), .ref (ad 17 0), .ref (ad 18 0), .ref (ad 19 0), .ref (ad 20 0), .ref (ad 22 0)] : List Value).toArray below meth c H locs (0) (0) (MQ below (va_Qi (S := Mp) (fun r M2 => r = 1 ∧ Nx G th o ad M2) (Bm G (fun M2 => M2)) (AG G)) ([.ref (ad 0 0), .int ac, .int yy, .int zz, .ref (ad 14 0), .ref (ad 15 0), .ref (ad 16 0), .ref (ad 17 0), .ref (ad 18 0), .ref (ad 19 0), .ref (ad 20 0), .ref (ad 22 0)] : List Value).toArray s (63) (387) (AG G)) (F0 m 97 ls [.int (nI q97)]) := by
          intro q97 hb97 ls hl H locs hM hS
          refine lv_istore (lv' := [(16, .int (nI q97)), (15, .int (nI q66)), (14, .int bu), (13, .int (nI q16)), (12, .int (nI q7)), (0, .ref (ad 0 0)), (1, .int ac), (2, .int yy), (3, .int zz), (4, .ref (ad 14 0)), (5, .ref (ad 15 0)), (6, .ref (ad 16 0)), (7, .ref (ad 17 0)), (8, .ref (ad 18 0)), (9, .ref (ad 19 0)), (10, .ref (ad 20 0)), (11, .ref (ad 22 0))]) hx hb dL_deals_97 hl (by decide) rfl (fun ls hl => ?_)
          have j124 : ∀ (q124 : Nat), (q97 ≤ q124) → (q124 ≤ 1000) → ∀ (ls : Array Slot), lv_has ls 19 [(16, .int (nI q97)), (15, .int (nI q66)), (14, .int bu), (13, .int (nI q16)), (12, .int (nI q7)), (0, .ref (ad 0 0)), (1, .int ac), (2, .int yy), (3, .int zz), (4, .ref (ad 14 0)), (5, .ref (ad 15 0)), (6, .ref (ad 16 0)), (7, .ref (ad 17 0)), (8, .ref (ad 18 0)), (9, .ref (ad 19 0)), (10, .ref (ad 20 0)), (11, .ref (ad 22 0))] → ∀ (H : Heap) (locs : List Loc), Hm G M H → va_S (AG G) s.heap H locs → W p l e { frames := 9, cells := 63, slots := 387, locals := 220 } s m ([.ref (ad 0 0), .int ac, .int yy, .int zz, .ref (ad 14 0), .ref (ad 15 0), .ref (ad 16 0), .ref (ad 17 0), .ref (ad 18 0), .ref (ad 19 0), .ref (ad 20 0), .ref (ad 22 0)] : List Value).toArray below meth c H locs (0) (0) (MQ below (va_Qi (S := Mp) (fun r M2 => r = 1 ∧ Nx G th o ad M2) (Bm G (fun M2 => M2)) (AG G)) ([.ref (ad 0 0), .int ac, .int yy, .int zz, .ref (ad 14 0), .ref (ad 15 0), .ref (ad 16 0), .ref (ad 17 0), .ref (ad 18 0), .ref (ad 19 0), .ref (ad 20 0), .ref (ad 22 0)] : List Value).toArray s (63) (387) (AG G)) (F0 m 124 ls [.int (nI q124)]) := by
            intro q124 ha124 hb124 ls hl H locs hM hS
            refine lv_istore (lv' := [(17, .int (nI q124)), (16, .int (nI q97)), (15, .int (nI q66)), (14, .int bu), (13, .int (nI q16)), (12, .int (nI q7)), (0, .ref (ad 0 0)), (1, .int ac), (2, .int yy), (3, .int zz), (4, .ref (ad 14 0)), (5, .ref (ad 15 0)), (6, .ref (ad 16 0)), (7, .ref (ad 17 0)), (8, .ref (ad 18 0)), (9, .ref (ad 19 0)), (10, .ref (ad 20 0)), (11, .ref (ad 22 0))]) hx hb dL_deals_124 hl (by decide) rfl (fun ls hl => ?_)
            have j142 : ∀ (q142 : Nat), (q97 ≤ q142) → (q142 ≤ 400) → ∀ (ls : Array Slot), lv_has ls 19 [(17, .int (nI q124)), (16, .int (nI q97)), (15, .int (nI q66)), (14, .int bu), (13, .int (nI q16)), (12, .int (nI q7)), (0, .ref (ad 0 0)), (1, .int ac), (2, .int yy), (3, .int zz), (4, .ref (ad 14 0)), (5, .ref (ad 15 0)), (6, .ref (ad 16 0)), (7, .ref (ad 17 0)), (8, .ref (ad 18 0)), (9, .ref (ad 19 0)), (10, .ref (ad 20 0)), (11, .ref (ad 22 0))] → ∀ (H : Heap) (locs : List Loc), Hm G M H → va_S (AG G) s.heap H locs → W p l e { frames := 9, cells := 63, slots := 387, locals := 220 } s m ([.ref (ad 0 0), .int ac, .int yy, .int zz, .ref (ad 14 0), .ref (ad 15 0), .ref (ad 16 0), .ref (ad 17 0), .ref (ad 18 0), .ref (ad 19 0), .ref (ad 20 0), .ref (ad 22 0)] : List Value).toArray below meth c H locs (0) (0) (MQ below (va_Qi (S := Mp) (fun r M2 => r = 1 ∧ Nx G th o ad M2) (Bm G (fun M2 => M2)) (AG G)) ([.ref (ad 0 0), .int ac, .int yy, .int zz, .ref (ad 14 0), .ref (ad 15 0), .ref (ad 16 0), .ref (ad 17 0), .ref (ad 18 0), .ref (ad 19 0), .ref (ad 20 0), .ref (ad 22 0)] : List Value).toArray s (63) (387) (AG G)) (F0 m 142 ls [.int (nI q142)]) := by
              intro q142 ha142 hb142 ls hl H locs hM hS
              refine lv_istore (lv' := [(17, .int (nI q142)), (16, .int (nI q97)), (15, .int (nI q66)), (14, .int bu), (13, .int (nI q16)), (12, .int (nI q7)), (0, .ref (ad 0 0)), (1, .int ac), (2, .int yy), (3, .int zz), (4, .ref (ad 14 0)), (5, .ref (ad 15 0)), (6, .ref (ad 16 0)), (7, .ref (ad 17 0)), (8, .ref (ad 18 0)), (9, .ref (ad 19 0)), (10, .ref (ad 20 0)), (11, .ref (ad 22 0))]) hx hb dL_deals_142 hl (by decide) rfl (fun ls hl => ?_)
              refine lv_aload_n hx hb dL_deals_144 rfl (lv_at hl 6 rfl) ?_
              refine lv_iconst (v := 5) hx hb dL_deals_145 (by decide) ?_
              refine lv_iconst (v := 0) hx hb dL_deals_146 (by decide) ?_
              refine lv_iload hx hb dL_deals_147 (lv_at hl 3 rfl) ?_
              refine lv_iconst (v := 0) hx hb dL_deals_149 (by decide) ?_
              refine lv_iconst (v := 0) hx hb dL_deals_150 (by decide) ?_
              refine lv_iconst (v := 0) hx hb dL_deals_151 (by decide) ?_
              refine k_i (vx_runSW (As := [.ref (ad 0 0), .int 5, .int 0, .int bu, .int 0, .int 0, .int 0]) (rest := []) ⟨hx, hb, hml, hown, hts⟩ (c_L_deal hnt l G M S T th o ex ad 5 0 bu 0 0 0 hw hi hbu) (vx_cwSW 7 hts gL_deals_L_deal rfl rfl rfl (by decide +kernel) ⟨Nat.le_of_ble_eq_true rfl, Nat.le_of_ble_eq_true rfl⟩) (preS_of hC hS hM) rfl rfl hl.1 rfl (lv_room (Nat.le_of_ble_eq_true rfl)) dL_deals_152 ⟨Nat.le_of_ble_eq_true rfl, Nat.le_of_ble_eq_true rfl⟩) hS (fun r152 us152 H locs hp152 hM hS => ?_)
              have hq152 : r152 = (-2000000071) ∧ us152 = M := by
                rcases hp152 with h | h | h | h
                · exact ⟨h.1, h.2.2⟩
                · exact False.elim (absurd h.2.1.1 (by decide))
                · exact False.elim (absurd h.2.1.1 (by decide))
                · exact False.elim (absurd h.2.1.1 (by decide))
              have hM : Hm G us152 H := hM
              obtain ⟨eq152, em152⟩ := hq152
              rw [em152] at hM
              subst eq152
              refine lv_ldc (own := RL) (v := (-2000000071)) hx hb hown (hts (.constant RL 16 (-2000000071)) (by decide +kernel)) dL_deals_155 ?_
              refine lv_icmp_ne (tgt := 305) hx hb dL_deals_157 (by decide) (fun c_157 => False.elim (by revert c_157; decide)) (fun c_157 => ?_)
              refine lv_aload_n hx hb dL_deals_160 rfl (lv_at hl 6 rfl) ?_
              refine lv_iconst (v := 0) hx hb dL_deals_161 (by decide) ?_
              refine lv_iconst (v := 4) hx hb dL_deals_162 (by decide) ?_
              refine lv_iload hx hb dL_deals_163 (lv_at hl 3 rfl) ?_
              refine lv_iconst (v := 0) hx hb dL_deals_165 (by decide) ?_
              refine lv_iconst (v := 0) hx hb dL_deals_166 (by decide) ?_
              refine lv_iconst (v := 0) hx hb dL_deals_167 (by decide) ?_
              refine k_i (vx_runSW (As := [.ref (ad 0 0), .int 0, .int 4, .int bu, .int 0, .int 0, .int 0]) (rest := []) ⟨hx, hb, hml, hown, hts⟩ (c_L_deal hnt l G M S T th o ex ad 0 4 bu 0 0 0 hw hi hbu) (vx_cwSW 7 hts gL_deals_L_deal rfl rfl rfl (by decide +kernel) ⟨Nat.le_of_ble_eq_true rfl, Nat.le_of_ble_eq_true rfl⟩) (preS_of hC hS hM) rfl rfl hl.1 rfl (lv_room (Nat.le_of_ble_eq_true rfl)) dL_deals_168 ⟨Nat.le_of_ble_eq_true rfl, Nat.le_of_ble_eq_true rfl⟩) hS (fun r168 us168 H locs hp168 hM hS => ?_)
              have hq168 : r168 = (-2000000071) ∧ us168 = M := by
                rcases hp168 with h | h | h | h
                · exact ⟨h.1, h.2.2⟩
                · exact False.elim (absurd h.2.1.1 (by decide))
                · exact False.elim (absurd h.2.1.1 (by decide))
                · exact False.elim (absurd h.2.1.1 (by decide))
              have hM : Hm G us168 H := hM
              obtain ⟨eq168, em168⟩ := hq168
              rw [em168] at hM
              subst eq168
              refine lv_ldc (own := RL) (v := (-2000000071)) hx hb hown (hts (.constant RL 16 (-2000000071)) (by decide +kernel)) dL_deals_171 ?_
              refine lv_icmp_ne (tgt := 305) hx hb dL_deals_173 (by decide) (fun c_173 => False.elim (by revert c_173; decide)) (fun c_173 => ?_)
              refine lv_aload_n hx hb dL_deals_176 rfl (lv_at hl 6 rfl) ?_
              refine lv_iload hx hb dL_deals_177 (lv_at hl 5 rfl) ?_
              refine lv_iload hx hb dL_deals_179 (lv_at hl 4 rfl) ?_
              refine lv_iload hx hb dL_deals_181 (lv_at hl 3 rfl) ?_
              refine lv_iconst (v := 0) hx hb dL_deals_183 (by decide) ?_
              refine lv_iload hx hb dL_deals_184 (lv_at hl 1 rfl) ?_
              refine lv_iload hx hb dL_deals_186 (lv_at hl 0 rfl) ?_
              refine k_i (vx_runSW (As := [.ref (ad 0 0), .int (nI q7), .int (nI q16), .int bu, .int 0, .int (nI q97), .int (nI q142)]) (rest := []) ⟨hx, hb, hml, hown, hts⟩ (c_L_deal hnt l G M S T th o ex ad (nI q7) (nI q16) bu 0 (nI q97) (nI q142) hw hi hbu) (vx_cwSW 7 hts gL_deals_L_deal rfl rfl rfl (by decide +kernel) ⟨Nat.le_of_ble_eq_true rfl, Nat.le_of_ble_eq_true rfl⟩) (preS_of hC hS hM) rfl rfl hl.1 rfl (lv_room (Nat.le_of_ble_eq_true rfl)) dL_deals_188 ⟨Nat.le_of_ble_eq_true rfl, Nat.le_of_ble_eq_true rfl⟩) hS (fun r188 us188 H locs hp188 hM hS => ?_)
              rw [nI_clamp (show q7 < 2 ^ 31 by omega)] at hp188
              have hq188 : r188 = (-2000000072) ∧ us188 = M := by
                rcases hp188 with h | h | h | h
                · exact False.elim (absurd (⟨c2_5 hq7, c2_4 hq16⟩) h.2.1)
                · exact ⟨h.1, h.2.2⟩
                · exact False.elim (absurd h.2.1.2.1 (fun z => absurd z.1.1 (by decide)))
                · exact False.elim (absurd h.2.1.2.1 (fun z => absurd z.1.1 (by decide)))
              have hM : Hm G us188 H := hM
              obtain ⟨eq188, em188⟩ := hq188
              rw [em188] at hM
              subst eq188
              refine lv_ldc (own := RL) (v := (-2000000072)) hx hb hown (hts (.constant RL 19 (-2000000072)) (by decide +kernel)) dL_deals_191 ?_
              refine lv_icmp_ne (tgt := 305) hx hb dL_deals_193 (by decide) (fun c_193 => False.elim (by revert c_193; decide)) (fun c_193 => ?_)
              refine lv_aload_n hx hb dL_deals_196 rfl (lv_at hl 6 rfl) ?_
              refine lv_iload hx hb dL_deals_197 (lv_at hl 5 rfl) ?_
              refine lv_iload hx hb dL_deals_199 (lv_at hl 4 rfl) ?_
              refine lv_iload hx hb dL_deals_201 (lv_at hl 3 rfl) ?_
              refine lv_ldc (own := RL) (v := 1000001) hx hb hown (hts (.constant RL 124 1000001) (by decide +kernel)) dL_deals_203 ?_
              refine lv_iload hx hb dL_deals_205 (lv_at hl 1 rfl) ?_
              refine lv_iload hx hb dL_deals_207 (lv_at hl 0 rfl) ?_
              refine k_i (vx_runSW (As := [.ref (ad 0 0), .int (nI q7), .int (nI q16), .int bu, .int 1000001, .int (nI q97), .int (nI q142)]) (rest := []) ⟨hx, hb, hml, hown, hts⟩ (c_L_deal hnt l G M S T th o ex ad (nI q7) (nI q16) bu 1000001 (nI q97) (nI q142) hw hi hbu) (vx_cwSW 7 hts gL_deals_L_deal rfl rfl rfl (by decide +kernel) ⟨Nat.le_of_ble_eq_true rfl, Nat.le_of_ble_eq_true rfl⟩) (preS_of hC hS hM) rfl rfl hl.1 rfl (lv_room (Nat.le_of_ble_eq_true rfl)) dL_deals_209 ⟨Nat.le_of_ble_eq_true rfl, Nat.le_of_ble_eq_true rfl⟩) hS (fun r209 us209 H locs hp209 hM hS => ?_)
              rw [nI_clamp (show q7 < 2 ^ 31 by omega)] at hp209
              have hq209 : r209 = (-2000000072) ∧ us209 = M := by
                rcases hp209 with h | h | h | h
                · exact False.elim (absurd (⟨c2_5 hq7, c2_4 hq16⟩) h.2.1)
                · exact ⟨h.1, h.2.2⟩
                · exact False.elim (absurd h.2.1.2.1 (fun z => absurd z.1.2 (by decide)))
                · exact False.elim (absurd h.2.1.2.1 (fun z => absurd z.1.2 (by decide)))
              have hM : Hm G us209 H := hM
              obtain ⟨eq209, em209⟩ := hq209
              rw [em209] at hM
              subst eq209
              refine lv_ldc (own := RL) (v := (-2000000072)) hx hb hown (hts (.constant RL 19 (-2000000072)) (by decide +kernel)) dL_deals_212 ?_
              refine lv_icmp_ne (tgt := 305) hx hb dL_deals_214 (by decide) (fun c_214 => False.elim (by revert c_214; decide)) (fun c_214 => ?_)
              refine lv_aload_n hx hb dL_deals_217 rfl (lv_at hl 6 rfl) ?_
              refine lv_iload hx hb dL_deals_218 (lv_at hl 5 rfl) ?_
              refine lv_iload hx hb dL_deals_220 (lv_at hl 4 rfl) ?_
              refine lv_iload hx hb dL_deals_222 (lv_at hl 3 rfl) ?_
              refine lv_iload hx hb dL_deals_224 (lv_at hl 2 rfl) ?_
              refine lv_sipush (v := 401) hx hb dL_deals_226 (by decide) ?_
              refine lv_sipush (v := 401) hx hb dL_deals_229 (by decide) ?_
              refine k_i (vx_runSW (As := [.ref (ad 0 0), .int (nI q7), .int (nI q16), .int bu, .int (nI q66), .int 401, .int 401]) (rest := []) ⟨hx, hb, hml, hown, hts⟩ (c_L_deal hnt l G M S T th o ex ad (nI q7) (nI q16) bu (nI q66) 401 401 hw hi hbu) (vx_cwSW 7 hts gL_deals_L_deal rfl rfl rfl (by decide +kernel) ⟨Nat.le_of_ble_eq_true rfl, Nat.le_of_ble_eq_true rfl⟩) (preS_of hC hS hM) rfl rfl hl.1 rfl (lv_room (Nat.le_of_ble_eq_true rfl)) dL_deals_232 ⟨Nat.le_of_ble_eq_true rfl, Nat.le_of_ble_eq_true rfl⟩) hS (fun r232 us232 H locs hp232 hM hS => ?_)
              rw [nI_clamp (show q7 < 2 ^ 31 by omega)] at hp232
              have hq232 : r232 = (-2000000072) ∧ us232 = M := by
                rcases hp232 with h | h | h | h
                · exact False.elim (absurd (⟨c2_5 hq7, c2_4 hq16⟩) h.2.1)
                · exact ⟨h.1, h.2.2⟩
                · exact False.elim (absurd h.2.1.2.1 (fun z => absurd z.2.1.2 (by decide)))
                · exact False.elim (absurd h.2.1.2.1 (fun z => absurd z.2.1.2 (by decide)))
              have hM : Hm G us232 H := hM
              obtain ⟨eq232, em232⟩ := hq232
              rw [em232] at hM
              subst eq232
              refine lv_ldc (own := RL) (v := (-2000000072)) hx hb hown (hts (.constant RL 19 (-2000000072)) (by decide +kernel)) dL_deals_235 ?_
              refine lv_icmp_ne (tgt := 305) hx hb dL_deals_237 (by decide) (fun c_237 => False.elim (by revert c_237; decide)) (fun c_237 => ?_)
              refine lv_aload_n hx hb dL_deals_240 rfl (lv_at hl 6 rfl) ?_
              refine lv_iload hx hb dL_deals_241 (lv_at hl 5 rfl) ?_
              refine lv_iload hx hb dL_deals_243 (lv_at hl 4 rfl) ?_
              refine lv_iload hx hb dL_deals_245 (lv_at hl 3 rfl) ?_
              refine lv_iload hx hb dL_deals_247 (lv_at hl 2 rfl) ?_
              refine lv_iload hx hb dL_deals_249 (lv_at hl 1 rfl) ?_
              refine lv_iload hx hb dL_deals_251 (lv_at hl 1 rfl) ?_
              refine lv_iconst (v := 1) hx hb dL_deals_253 (by decide) ?_
              refine lv_isub hx hb dL_deals_254 ?_
              refine k_i (vx_runSW (As := [.ref (ad 0 0), .int (nI q7), .int (nI q16), .int bu, .int (nI q66), .int (nI q97), .int ((nI q97) - 1)]) (rest := []) ⟨hx, hb, hml, hown, hts⟩ (c_L_deal hnt l G M S T th o ex ad (nI q7) (nI q16) bu (nI q66) (nI q97) ((nI q97) - 1) hw hi hbu) (vx_cwSW 7 hts gL_deals_L_deal rfl rfl rfl (by decide +kernel) ⟨Nat.le_of_ble_eq_true rfl, Nat.le_of_ble_eq_true rfl⟩) (preS_of hC hS hM) rfl rfl hl.1 rfl (lv_room (Nat.le_of_ble_eq_true rfl)) dL_deals_255 ⟨Nat.le_of_ble_eq_true rfl, Nat.le_of_ble_eq_true rfl⟩) hS (fun r255 us255 H locs hp255 hM hS => ?_)
              rw [nI_clamp (show q7 < 2 ^ 31 by omega)] at hp255
              have hq255 : r255 = (-2000000072) ∧ us255 = M := by
                rcases hp255 with h | h | h | h
                · exact False.elim (absurd (⟨c2_5 hq7, c2_4 hq16⟩) h.2.1)
                · exact ⟨h.1, h.2.2⟩
                · exact False.elim (absurd h.2.1.2.1 (fun z => no_sub1 (by omega) z.2.2.1))
                · exact False.elim (absurd h.2.1.2.1 (fun z => no_sub1 (by omega) z.2.2.1))
              have hM : Hm G us255 H := hM
              obtain ⟨eq255, em255⟩ := hq255
              rw [em255] at hM
              subst eq255
              refine lv_ldc (own := RL) (v := (-2000000072)) hx hb hown (hts (.constant RL 19 (-2000000072)) (by decide +kernel)) dL_deals_258 ?_
              refine lv_icmp_ne (tgt := 305) hx hb dL_deals_260 (by decide) (fun c_260 => False.elim (by revert c_260; decide)) (fun c_260 => ?_)
              refine lv_aload_n hx hb dL_deals_263 rfl (lv_at hl 6 rfl) ?_
              refine lv_iload hx hb dL_deals_264 (lv_at hl 5 rfl) ?_
              refine lv_iload hx hb dL_deals_266 (lv_at hl 4 rfl) ?_
              refine lv_iload hx hb dL_deals_268 (lv_at hl 3 rfl) ?_
              refine lv_iload hx hb dL_deals_270 (lv_at hl 2 rfl) ?_
              refine lv_iconst (v := (-1)) hx hb dL_deals_272 (by decide) ?_
              refine lv_iload hx hb dL_deals_273 (lv_at hl 0 rfl) ?_
              refine k_i (vx_runSW (As := [.ref (ad 0 0), .int (nI q7), .int (nI q16), .int bu, .int (nI q66), .int (-1), .int (nI q142)]) (rest := []) ⟨hx, hb, hml, hown, hts⟩ (c_L_deal hnt l G M S T th o ex ad (nI q7) (nI q16) bu (nI q66) (-1) (nI q142) hw hi hbu) (vx_cwSW 7 hts gL_deals_L_deal rfl rfl rfl (by decide +kernel) ⟨Nat.le_of_ble_eq_true rfl, Nat.le_of_ble_eq_true rfl⟩) (preS_of hC hS hM) rfl rfl hl.1 rfl (lv_room (Nat.le_of_ble_eq_true rfl)) dL_deals_275 ⟨Nat.le_of_ble_eq_true rfl, Nat.le_of_ble_eq_true rfl⟩) hS (fun r275 us275 H locs hp275 hM hS => ?_)
              rw [nI_clamp (show q7 < 2 ^ 31 by omega)] at hp275
              have hq275 : r275 = (-2000000072) ∧ us275 = M := by
                rcases hp275 with h | h | h | h
                · exact False.elim (absurd (⟨c2_5 hq7, c2_4 hq16⟩) h.2.1)
                · exact ⟨h.1, h.2.2⟩
                · exact False.elim (absurd h.2.1.2.1 (fun z => absurd z.2.1.1 (by decide)))
                · exact False.elim (absurd h.2.1.2.1 (fun z => absurd z.2.1.1 (by decide)))
              have hM : Hm G us275 H := hM
              obtain ⟨eq275, em275⟩ := hq275
              rw [em275] at hM
              subst eq275
              refine lv_ldc (own := RL) (v := (-2000000072)) hx hb hown (hts (.constant RL 19 (-2000000072)) (by decide +kernel)) dL_deals_278 ?_
              refine lv_icmp_ne (tgt := 305) hx hb dL_deals_280 (by decide) (fun c_280 => False.elim (by revert c_280; decide)) (fun c_280 => ?_)
              refine lv_aload_n hx hb dL_deals_283 rfl (lv_at hl 6 rfl) ?_
              refine lv_iload hx hb dL_deals_284 (lv_at hl 5 rfl) ?_
              refine lv_iload hx hb dL_deals_286 (lv_at hl 4 rfl) ?_
              refine lv_iload hx hb dL_deals_288 (lv_at hl 3 rfl) ?_
              refine lv_iload hx hb dL_deals_290 (lv_at hl 2 rfl) ?_
              refine lv_iload hx hb dL_deals_292 (lv_at hl 1 rfl) ?_
              refine lv_sipush (v := 401) hx hb dL_deals_294 (by decide) ?_
              refine k_i (vx_runSW (As := [.ref (ad 0 0), .int (nI q7), .int (nI q16), .int bu, .int (nI q66), .int (nI q97), .int 401]) (rest := []) ⟨hx, hb, hml, hown, hts⟩ (c_L_deal hnt l G M S T th o ex ad (nI q7) (nI q16) bu (nI q66) (nI q97) 401 hw hi hbu) (vx_cwSW 7 hts gL_deals_L_deal rfl rfl rfl (by decide +kernel) ⟨Nat.le_of_ble_eq_true rfl, Nat.le_of_ble_eq_true rfl⟩) (preS_of hC hS hM) rfl rfl hl.1 rfl (lv_room (Nat.le_of_ble_eq_true rfl)) dL_deals_297 ⟨Nat.le_of_ble_eq_true rfl, Nat.le_of_ble_eq_true rfl⟩) hS (fun r297 us297 H locs hp297 hM hS => ?_)
              rw [nI_clamp (show q7 < 2 ^ 31 by omega)] at hp297
              have hq297 : r297 = (-2000000072) ∧ us297 = M := by
                rcases hp297 with h | h | h | h
                · exact False.elim (absurd (⟨c2_5 hq7, c2_4 hq16⟩) h.2.1)
                · exact ⟨h.1, h.2.2⟩
                · exact False.elim (absurd h.2.1.2.1 (fun z => absurd z.2.2.2 (by decide)))
                · exact False.elim (absurd h.2.1.2.1 (fun z => absurd z.2.2.2 (by decide)))
              have hM : Hm G us297 H := hM
              obtain ⟨eq297, em297⟩ := hq297
              rw [em297] at hM
              subst eq297
              refine lv_ldc (own := RL) (v := (-2000000072)) hx hb hown (hts (.constant RL 19 (-2000000072)) (by decide +kernel)) dL_deals_300 ?_
              refine lv_icmp_eq (tgt := 307) hx hb dL_deals_302 (by decide) (fun c_302 => ?_) (fun c_302 => False.elim (by revert c_302; decide))
              have hRR : (1 ≤ nI q66 ∧ nI q66 ≤ 1000000) ∧ (0 ≤ nI q97 ∧ nI q97 ≤ 400) ∧ (nI q97 ≤ nI q142 ∧ nI q142 ≤ 400) := ⟨rg_n ha66 hb66 (by decide), rg_n (Nat.zero_le _) hb97 (by decide), rg_n ha142 hb142 (by decide)⟩
              refine lv_aload hx hb dL_deals_307 (lv_at hl 17 rfl) ?_
              refine lv_iconst (v := 1) hx hb dL_deals_309 (by decide) ?_
              refine k_iald (a := (ad 22 0)) hx hb hC hM (qa22 hw) 1 (ix_lit (rfl : (1 : Int32) = nI 1) (by decide) (by decide)) dL_deals_310 ?_
              rw [hG1]
              refine lv_bipush (v := 20) hx hb dL_deals_311 (by decide) ?_
              refine lv_icmp_ne (tgt := 343) hx hb dL_deals_313 (by decide) (fun c_313 => ?_) (fun c_313 => ?_)
              · have h20 : S.1 5 0 < 20 := nd20 hi (fun q => c_313 (by rw [← ndl_i hi]; exact q))
                have hn20 : ndl S < 20 := by
                  have h7 := (Int32.lt_iff_toInt_lt.mp h20)
                  rw [ndl_i hi, nI_toInt (by omega)] at h7
                  have h8 : (20 : Int32).toInt = 20 := rfl
                  omega
                refine lv_aload hx hb dL_deals_343 (lv_at hl 17 rfl) ?_
                refine lv_iconst (v := 1) hx hb dL_deals_345 (by decide) ?_
                refine k_iald (a := (ad 22 0)) hx hb hC hM (qa22 hw) 1 (ix_lit (rfl : (1 : Int32) = nI 1) (by decide) (by decide)) dL_deals_346 ?_
                rw [hG1]
                refine lv_istore (lv' := [(18, .int (nI (ndl S))), (17, .int (nI q142)), (16, .int (nI q97)), (15, .int (nI q66)), (14, .int bu), (13, .int (nI q16)), (12, .int (nI q7)), (0, .ref (ad 0 0)), (1, .int ac), (2, .int yy), (3, .int zz), (4, .ref (ad 14 0)), (5, .ref (ad 15 0)), (6, .ref (ad 16 0)), (7, .ref (ad 17 0)), (8, .ref (ad 18 0)), (9, .ref (ad 19 0)), (10, .ref (ad 20 0)), (11, .ref (ad 22 0))]) hx hb dL_deals_347 hl (by decide) rfl (fun ls hl => ?_)
                refine lv_aload hx hb dL_deals_349 (lv_at hl 11 rfl) ?_
                refine lv_iload hx hb dL_deals_351 (lv_at hl 0 rfl) ?_
                refine lv_iload hx hb dL_deals_353 (lv_at hl 6 rfl) ?_
                refine lv_iconst (v := 2) hx hb dL_deals_355 (by decide) ?_
                refine lv_iload hx hb dL_deals_356 (lv_at hl 5 rfl) ?_
                refine lv_imul hx hb dL_deals_358 ?_
                refine lv_iadd hx hb dL_deals_359 ?_
                have j370 : ∀ (v70 : Int32), (v70 = if bu = 0 then 4 else 0) → ∀ (ls : Array Slot), lv_has ls 19 [(18, .int (nI (ndl S))), (17, .int (nI q142)), (16, .int (nI q97)), (15, .int (nI q66)), (14, .int bu), (13, .int (nI q16)), (12, .int (nI q7)), (0, .ref (ad 0 0)), (1, .int ac), (2, .int yy), (3, .int zz), (4, .ref (ad 14 0)), (5, .ref (ad 15 0)), (6, .ref (ad 16 0)), (7, .ref (ad 17 0)), (8, .ref (ad 18 0)), (9, .ref (ad 19 0)), (10, .ref (ad 20 0)), (11, .ref (ad 22 0))] → ∀ (H : Heap) (locs : List Loc), Hm G M H → va_S (AG G) s.heap H locs → W p l e { frames := 9, cells := 63, slots := 387, locals := 220 } s m ([.ref (ad 0 0), .int ac, .int yy, .int zz, .ref (ad 14 0), .ref (ad 15 0), .ref (ad 16 0), .ref (ad 17 0), .ref (ad 18 0), .ref (ad 19 0), .ref (ad 20 0), .ref (ad 22 0)] : List Value).toArray below meth c H locs (56) (344) (MQ below (va_Qi (S := Mp) (fun r M2 => r = 1 ∧ Nx G th o ad M2) (Bm G (fun M2 => M2)) (AG G)) ([.ref (ad 0 0), .int ac, .int yy, .int zz, .ref (ad 14 0), .ref (ad 15 0), .ref (ad 16 0), .ref (ad 17 0), .ref (ad 18 0), .ref (ad 19 0), .ref (ad 20 0), .ref (ad 22 0)] : List Value).toArray s (63) (387) (AG G)) (F0 m 370 ls [.int v70, .int ((nI q7) + (2 * (nI q16))), .int (nI (ndl S)), .ref (ad 14 0)]) := by
                  intro v70 hv70 ls hl H locs hM hS
                  refine lv_iadd hx hb dL_deals_370 ?_
                  rw [show nI q7 + 2 * nI q16 + v70 = dcd q7 q16 bu from dcd_i hv70]
                  refine k_iast (a := (ad 14 0)) hx hb hC hM hS (qa14 hw) (ndl S) (ix_lit rfl (by omega) (by decide)) dL_deals_371 (fun H locs hM hS => ?_)
                  obtain ⟨Ta15, Ma15, ea15, ha15, hM⟩ := qs14 hw hM
                  refine lv_aload hx hb dL_deals_372 (lv_at hl 12 rfl) ?_
                  refine lv_iload hx hb dL_deals_374 (lv_at hl 0 rfl) ?_
                  refine lv_iload hx hb dL_deals_376 (lv_at hl 3 rfl) ?_
                  refine k_iast (a := (ad 15 0)) hx hb hC hM hS (qa15 ha15) (ndl S) (ix_lit rfl (by omega) (by decide)) dL_deals_378 (fun H locs hM hS => ?_)
                  obtain ⟨Ta16, Ma16, ea16, ha16, hM⟩ := qs15 ha15 hM
                  refine lv_aload hx hb dL_deals_379 (lv_at hl 13 rfl) ?_
                  refine lv_iload hx hb dL_deals_381 (lv_at hl 0 rfl) ?_
                  refine lv_aload hx hb dL_deals_383 (lv_at hl 18 rfl) ?_
                  refine lv_iconst (v := 0) hx hb dL_deals_385 (by decide) ?_
                  refine k_iald (a := (ad 22 0)) hx hb hC hM (qa22 ha16) 0 (ix_lit (rfl : (0 : Int32) = nI 0) (by decide) (by decide)) dL_deals_386 ?_
                  rw [show Ta16.1 22 0 = (S.1 0 0) from (congrFun ((e1_r ea16 (by decide)).trans ((e1_r ea15 (by decide)))) 0).trans hR.1.1]
                  refine lv_iload hx hb dL_deals_387 (lv_at hl 2 rfl) ?_
                  refine lv_iadd hx hb dL_deals_389 ?_
                  refine k_iast (a := (ad 16 0)) hx hb hC hM hS (qa16 ha16) (ndl S) (ix_lit rfl (by omega) (by decide)) dL_deals_390 (fun H locs hM hS => ?_)
                  obtain ⟨Ta17, Ma17, ea17, ha17, hM⟩ := qs16 ha16 hM
                  refine lv_aload hx hb dL_deals_391 (lv_at hl 14 rfl) ?_
                  refine lv_iload hx hb dL_deals_393 (lv_at hl 0 rfl) ?_
                  refine lv_aload hx hb dL_deals_395 (lv_at hl 18 rfl) ?_
                  refine lv_iconst (v := 0) hx hb dL_deals_397 (by decide) ?_
                  refine k_iald (a := (ad 22 0)) hx hb hC hM (qa22 ha17) 0 (ix_lit (rfl : (0 : Int32) = nI 0) (by decide) (by decide)) dL_deals_398 ?_
                  rw [show Ta17.1 22 0 = (S.1 0 0) from (congrFun ((e1_r ea17 (by decide)).trans ((e1_r ea16 (by decide)).trans ((e1_r ea15 (by decide))))) 0).trans hR.1.1]
                  refine lv_iload hx hb dL_deals_399 (lv_at hl 1 rfl) ?_
                  refine lv_iadd hx hb dL_deals_401 ?_
                  refine k_iast (a := (ad 17 0)) hx hb hC hM hS (qa17 ha17) (ndl S) (ix_lit rfl (by omega) (by decide)) dL_deals_402 (fun H locs hM hS => ?_)
                  obtain ⟨Ta18, Ma18, ea18, ha18, hM⟩ := qs17 ha17 hM
                  refine lv_aload hx hb dL_deals_403 (lv_at hl 15 rfl) ?_
                  refine lv_iload hx hb dL_deals_405 (lv_at hl 0 rfl) ?_
                  refine lv_aload hx hb dL_deals_407 (lv_at hl 16 rfl) ?_
                  refine lv_iload hx hb dL_deals_409 (lv_at hl 5 rfl) ?_
                  refine lv_iload hx hb dL_deals_411 (lv_at hl 1 rfl) ?_
                  refine k_i (va_runS (As := [.ref (ad 19 0), .int (nI q16), .int (nI q142)]) (rest := [.int (nI (ndl S)), .ref (ad 18 0)]) ⟨hx, hb, hml, hown, hts⟩ (c_L_forwards l G Ma18 S Ta18 th o ex ad q16 (nI q142) ha18 (by omega)) (va_cwS 3 hts gL_deals_L_forwards rfl rfl rfl (by decide +kernel) ⟨Nat.le_of_ble_eq_true rfl, Nat.le_of_ble_eq_true rfl⟩) (preS_of hC hS hM) rfl rfl hl.1 rfl (lv_room (Nat.le_of_ble_eq_true rfl)) dL_deals_413 ⟨Nat.le_of_ble_eq_true rfl, Nat.le_of_ble_eq_true rfl⟩) hS (fun r413 us413 H locs hp413 hM hS => ?_)
                  have hM : Hm G Ma18 H := hM
                  have hp413 : r413 = fwT Ta18 q16 (nI q142) := hp413
                  subst hp413
                  rw [show fwT Ta18 q16 (nI q142) = nrt S (nI q16) (nI q142) from by unfold fwT nrt; rw [(e1_r ea18 (by decide)).trans ((e1_r ea17 (by decide)).trans ((e1_r ea16 (by decide)).trans ((e1_r ea15 (by decide))))), (hR.2.1 q16 hq16).1.1, (hR.2.1 q16 hq16).1.2.1, nI_clamp (by omega)]]
                  refine k_iast (a := (ad 18 0)) hx hb hC hM hS (qa18 ha18) (ndl S) (ix_lit rfl (by omega) (by decide)) dL_deals_416 (fun H locs hM hS => ?_)
                  obtain ⟨Ta19, Ma19, ea19, ha19, hM⟩ := qs18 ha18 hM
                  refine lv_aload hx hb dL_deals_417 (lv_at hl 18 rfl) ?_
                  refine lv_iconst (v := 1) hx hb dL_deals_419 (by decide) ?_
                  refine lv_dup2_11 hx hb dL_deals_420 rfl rfl ?_
                  refine k_iald (a := (ad 22 0)) hx hb hC hM (qa22 ha19) 1 (ix_lit (rfl : (1 : Int32) = nI 1) (by decide) (by decide)) dL_deals_421 ?_
                  rw [show Ta19.1 22 1 = (S.1 5 0) from (congrFun ((e1_r ea19 (by decide)).trans ((e1_r ea18 (by decide)).trans ((e1_r ea17 (by decide)).trans ((e1_r ea16 (by decide)).trans ((e1_r ea15 (by decide))))))) 1).trans hR.1.2]
                  refine lv_iconst (v := 1) hx hb dL_deals_422 (by decide) ?_
                  refine lv_iadd hx hb dL_deals_423 ?_
                  refine k_iast (a := (ad 22 0)) hx hb hC hM hS (qa22 ha19) 1 (ix_lit (rfl : (1 : Int32) = nI 1) (by decide) (by decide)) dL_deals_424 (fun H locs hM hS => ?_)
                  obtain ⟨Ta20, Ma20, ea20, ha20, hM⟩ := qs22 ha19 hM
                  have hRN : Rel (ndS S (nI q7) (nI q16) bu (nI q66) (nI q97) (nI q142)) Ta20 := rl_nd hR hi h20 hq7 hq16 hbu (by rw [nI_toInt (by omega)]; omega) (by rw [tdy_i hi, nI_add, nI_toInt (by omega)]; omega) ((e1_2 ea20).trans ((e1_2 ea19).trans ((e1_2 ea18).trans ((e1_2 ea17).trans ((e1_2 ea16).trans ((e1_2 ea15))))))) ((e1_r ea20 (by decide)).trans ((e1_r ea19 (by decide)).trans ((e1_r ea18 (by decide)).trans ((e1_r ea17 (by decide)).trans ((e1_r ea16 (by decide)).trans ((e1_r ea15 (by decide)))))))) ((e1_n ea20 (by omega)).trans ((e1_n ea19 (by omega)).trans ((e1_n ea18 (by omega)).trans ((e1_n ea17 (by omega)).trans ((e1_n ea16 (by omega)).trans ((e1_n ea15 (by omega)))))))) (e1_s ea20) ((e1_n ea20 (by omega)).trans ((e1_n ea19 (by omega)).trans ((e1_n ea18 (by omega)).trans ((e1_n ea17 (by omega)).trans ((e1_n ea16 (by omega)).trans ((e1_n ea15 (by omega)))))))) (fun i => by rw [show Ta20.1 14 = Ta15.1 14 from (e1_r ea20 (by decide)).trans ((e1_r ea19 (by decide)).trans ((e1_r ea18 (by decide)).trans ((e1_r ea17 (by decide)).trans ((e1_r ea16 (by decide)))))), e1_i ea15]) (fun i => by rw [show Ta20.1 15 = Ta16.1 15 from (e1_r ea20 (by decide)).trans ((e1_r ea19 (by decide)).trans ((e1_r ea18 (by decide)).trans ((e1_r ea17 (by decide))))), e1_i ea16, show Ta15.1 15 = T.1 15 from (e1_r ea15 (by decide))]) (fun i => by rw [show Ta20.1 16 = Ta17.1 16 from (e1_r ea20 (by decide)).trans ((e1_r ea19 (by decide)).trans ((e1_r ea18 (by decide)))), e1_i ea17, show Ta16.1 16 = T.1 16 from (e1_r ea16 (by decide)).trans ((e1_r ea15 (by decide)))]) (fun i => by rw [show Ta20.1 17 = Ta18.1 17 from (e1_r ea20 (by decide)).trans ((e1_r ea19 (by decide))), e1_i ea18, show Ta17.1 17 = T.1 17 from (e1_r ea17 (by decide)).trans ((e1_r ea16 (by decide)).trans ((e1_r ea15 (by decide))))]) (fun i => by rw [show Ta20.1 18 = Ta19.1 18 from (e1_r ea20 (by decide)), e1_i ea19, show Ta18.1 18 = T.1 18 from (e1_r ea18 (by decide)).trans ((e1_r ea17 (by decide)).trans ((e1_r ea16 (by decide)).trans ((e1_r ea15 (by decide)))))])
                  have hiN : Iv (ndS S (nI q7) (nI q16) bu (nI q66) (nI q97) (nI q142)) := iv_nd hi h20 hbu (c2_5 hq7) (c2_4 hq16) hRR.1 hRR.2.1 hRR.2.2
                  have hnN : ndl (ndS S (nI q7) (nI q16) bu (nI q66) (nI q97) (nI q142)) = ndl S + 1 := nd_n hi h20
                  have heX : exT Ta20 q7 (ndl S + 1) = exw S (nI q7) (nI q16) bu (nI q66) (nI q142) := by
                    rw [← hnN, rl_ex hRN hiN hq7, ← exs_nd (f := nI q97) hi h20, nI_clamp (by omega)]
                  have hcN : Ta20.1 22 1 = nI (ndl S + 1) := by rw [e1_s ea20, ndl_i hi, nI_1]
                  refine lv_aload hx hb dL_deals_425 (lv_at hl 11 rfl) ?_
                  refine lv_aload hx hb dL_deals_427 (lv_at hl 12 rfl) ?_
                  refine lv_aload hx hb dL_deals_429 (lv_at hl 14 rfl) ?_
                  refine lv_aload hx hb dL_deals_431 (lv_at hl 15 rfl) ?_
                  refine lv_aload hx hb dL_deals_433 (lv_at hl 16 rfl) ?_
                  refine lv_aload hx hb dL_deals_435 (lv_at hl 18 rfl) ?_
                  refine lv_iload hx hb dL_deals_437 (lv_at hl 6 rfl) ?_
                  refine k_l (va_runS (As := [.ref (ad 14 0), .ref (ad 15 0), .ref (ad 17 0), .ref (ad 18 0), .ref (ad 19 0), .ref (ad 22 0), .int (nI q7)]) (rest := []) ⟨hx, hb, hml, hown, hts⟩ (c_L_exposes l G Ma20 S Ta20 th o ex ad q7 (ndl S + 1) ha20 hcN (by omega)) (va_cwS 7 hts gL_deals_L_exposes rfl rfl rfl (by decide +kernel) ⟨Nat.le_of_ble_eq_true rfl, Nat.le_of_ble_eq_true rfl⟩) (preS_of hC hS hM) rfl rfl hl.1 rfl (lv_room (Nat.le_of_ble_eq_true rfl)) dL_deals_439 ⟨Nat.le_of_ble_eq_true rfl, Nat.le_of_ble_eq_true rfl⟩) hS (fun r439 us439 H locs hp439 hM hS => ?_)
                  have hM : Hm G Ma20 H := hM
                  have hp439 : r439 = exT Ta20 q7 (ndl S + 1) := hp439
                  subst hp439
                  refine lv_aload hx hb dL_deals_442 (lv_at hl 16 rfl) ?_
                  refine lv_iconst (v := 4) hx hb dL_deals_444 (by decide) ?_
                  refine lv_iload hx hb dL_deals_445 (lv_at hl 6 rfl) ?_
                  refine lv_iadd hx hb dL_deals_447 ?_
                  refine k_iald (a := (ad 19 0)) hx hb hC hM (qa19 ha20) (4 + q7) (ix_lit (nI_add 4 q7) (by omega) (by decide)) dL_deals_448 ?_
                  rw [show Ta20.1 19 (4 + q7) = (S.1 3 q7) from (congrFun ((e1_r ea20 (by decide)).trans ((e1_r ea19 (by decide)).trans ((e1_r ea18 (by decide)).trans ((e1_r ea17 (by decide)).trans ((e1_r ea16 (by decide)).trans ((e1_r ea15 (by decide)))))))) (4 + q7)).trans ((hR.2.1 q7 hq7).1.2.2)]
                  refine lv_i2l hx hb dL_deals_449 rfl ?_
                  refine W.lcmp hx hb dL_deals_450 ?_
                  refine lv_if_le (tgt := 489) hx hb dL_deals_451 (by decide) (fun c_451 => ?_) (fun c_451 => ?_)
                  · refine lv_aload_n hx hb dL_deals_489 rfl (lv_at hl 7 rfl) ?_
                    refine lv_iload hx hb dL_deals_490 (lv_at hl 6 rfl) ?_
                    refine lv_iload hx hb dL_deals_492 (lv_at hl 5 rfl) ?_
                    refine lv_iload hx hb dL_deals_494 (lv_at hl 4 rfl) ?_
                    refine lv_iload hx hb dL_deals_496 (lv_at hl 3 rfl) ?_
                    refine lv_iload hx hb dL_deals_498 (lv_at hl 2 rfl) ?_
                    refine lv_iload hx hb dL_deals_500 (lv_at hl 1 rfl) ?_
                    refine k_i (vx_runSW (As := [.ref (ad 0 0), .int (nI q7), .int (nI q16), .int bu, .int (nI q66), .int (nI q97), .int (nI q142)]) (rest := []) ⟨hx, hb, hml, hown, hts⟩ (c_L_deal hnt l G Ma20 S Ta20 th o ex ad (nI q7) (nI q16) bu (nI q66) (nI q97) (nI q142) ha20 hi hbu) (vx_cwSW 7 hts gL_deals_L_deal rfl rfl rfl (by decide +kernel) ⟨Nat.le_of_ble_eq_true rfl, Nat.le_of_ble_eq_true rfl⟩) (preS_of hC hS hM) rfl rfl hl.1 rfl (lv_room (Nat.le_of_ble_eq_true rfl)) dL_deals_502 ⟨Nat.le_of_ble_eq_true rfl, Nat.le_of_ble_eq_true rfl⟩) hS (fun r502 us502 H locs hp502 hM hS => ?_)
                    rw [nI_clamp (show q7 < 2 ^ 31 by omega)] at hp502
                    have hq502 : r502 = S.1 5 0 ∧ ∃ q, WA G (ndS S (nI q7) (nI q16) bu (nI q66) (nI q97) (nI q142)) Ta20 th o ex (u2 ad 11 (ndl S) q) us502 := by
                      rcases hp502 with h | h | h | h
                      · exact False.elim (absurd (⟨c2_5 hq7, c2_4 hq16⟩) h.2.1)
                      · exact False.elim (absurd hRR h.2.1.2)
                      · exact False.elim (absurd h.2.1.2.2 (fun z => z.elim (fun q => q h20) (fun q => ge_of_cmp c_451 (by rw [heX]; exact q))))
                      · exact ⟨h.1, h.2.2⟩
                    have hM : Hm G us502 H := hM
                    obtain ⟨eq502, qd502, hwc502⟩ := hq502
                    subst eq502
                    refine lv_iload hx hb dL_deals_505 (lv_at hl 0 rfl) ?_
                    refine lv_icmp_ne (tgt := 514) hx hb dL_deals_507 (by decide) (fun c_507 => False.elim (by exact c_507 (ndl_i hi))) (fun c_507 => ?_)
                    refine lv_iconst (v := 1) hx hb dL_deals_510 (by decide) ?_
                    refine lv_goto (tgt := 515) hx hb dL_deals_511 (by decide) ?_
                    exact (r_z hx hb hr hlocks hS (v := 1) (by simp) _ ⟨rfl, (ndS S (nI q7) (nI q16) bu (nI q66) (nI q97) (nI q142)), Ta20, ex, (u2 ad 11 (ndl S) qd502), hwc502, hiN, hx9, hRN, fun k hk => u2r hk⟩ hM (Nat.le_of_ble_eq_true rfl) (Nat.le_of_ble_eq_true rfl) dL_deals_515)
                  · refine lv_aload hx hb dL_deals_454 (lv_at hl 18 rfl) ?_
                    refine lv_iconst (v := 1) hx hb dL_deals_456 (by decide) ?_
                    refine lv_dup2_11 hx hb dL_deals_457 rfl rfl ?_
                    refine k_iald (a := (ad 22 0)) hx hb hC hM (qa22 ha20) 1 (ix_lit (rfl : (1 : Int32) = nI 1) (by decide) (by decide)) dL_deals_458 ?_
                    rw [show Ta20.1 22 1 = S.1 5 0 + 1 from e1_s ea20]
                    refine lv_iconst (v := 1) hx hb dL_deals_459 (by decide) ?_
                    refine lv_isub hx hb dL_deals_460 ?_
                    rw [Int32.add_sub_cancel]
                    refine k_iast (a := (ad 22 0)) hx hb hC hM hS (qa22 ha20) 1 (ix_lit (rfl : (1 : Int32) = nI 1) (by decide) (by decide)) dL_deals_461 (fun H locs hM hS => ?_)
                    obtain ⟨Ta21, Ma21, ea21, ha21, hM⟩ := qs22 ha20 hM
                    refine lv_aload_n hx hb dL_deals_462 rfl (lv_at hl 7 rfl) ?_
                    refine lv_iload hx hb dL_deals_463 (lv_at hl 6 rfl) ?_
                    refine lv_iload hx hb dL_deals_465 (lv_at hl 5 rfl) ?_
                    refine lv_iload hx hb dL_deals_467 (lv_at hl 4 rfl) ?_
                    refine lv_iload hx hb dL_deals_469 (lv_at hl 3 rfl) ?_
                    refine lv_iload hx hb dL_deals_471 (lv_at hl 2 rfl) ?_
                    refine lv_iload hx hb dL_deals_473 (lv_at hl 1 rfl) ?_
                    refine k_i (vx_runSW (As := [.ref (ad 0 0), .int (nI q7), .int (nI q16), .int bu, .int (nI q66), .int (nI q97), .int (nI q142)]) (rest := []) ⟨hx, hb, hml, hown, hts⟩ (c_L_deal hnt l G Ma21 S Ta21 th o ex ad (nI q7) (nI q16) bu (nI q66) (nI q97) (nI q142) ha21 hi hbu) (vx_cwSW 7 hts gL_deals_L_deal rfl rfl rfl (by decide +kernel) ⟨Nat.le_of_ble_eq_true rfl, Nat.le_of_ble_eq_true rfl⟩) (preS_of hC hS hM) rfl rfl hl.1 rfl (lv_room (Nat.le_of_ble_eq_true rfl)) dL_deals_475 ⟨Nat.le_of_ble_eq_true rfl, Nat.le_of_ble_eq_true rfl⟩) hS (fun r475 us475 H locs hp475 hM hS => ?_)
                    rw [nI_clamp (show q7 < 2 ^ 31 by omega)] at hp475
                    have hq475 : r475 = (-2000000073) ∧ us475 = Ma21 := by
                      rcases hp475 with h | h | h | h
                      · exact False.elim (absurd (⟨c2_5 hq7, c2_4 hq16⟩) h.2.1)
                      · exact False.elim (absurd hRR h.2.1.2)
                      · exact ⟨h.1, h.2.2⟩
                      · exact False.elim (Or.elim (show ¬ S.1 5 0 < 20 ∨ (S.1 3 q7).toInt64 < exw S (nI q7) (nI q16) bu (nI q66) (nI q142) from Or.inr (by rw [← heX]; exact lt_of_cmp c_451)) (fun a => a h.2.1.2.2.1) (fun a => h.2.1.2.2.2 a))
                    have hM : Hm G us475 H := hM
                    obtain ⟨eq475, em475⟩ := hq475
                    rw [em475] at hM
                    subst eq475
                    refine lv_ldc (own := RL) (v := (-2000000073)) hx hb hown (hts (.constant RL 29 (-2000000073)) (by decide +kernel)) dL_deals_478 ?_
                    refine lv_icmp_ne (tgt := 487) hx hb dL_deals_480 (by decide) (fun c_480 => False.elim (by revert c_480; decide)) (fun c_480 => ?_)
                    refine lv_iconst (v := 1) hx hb dL_deals_483 (by decide) ?_
                    refine lv_goto (tgt := 488) hx hb dL_deals_484 (by decide) ?_
                    exact (r_z hx hb hr hlocks hS (v := 1) (by simp) _ ⟨rfl, S, Ta21, ex, ad, ha21, hi, hx9, rl_same hR ((e1_2 ea21).trans ((e1_2 ea20).trans ((e1_2 ea19).trans ((e1_2 ea18).trans ((e1_2 ea17).trans ((e1_2 ea16).trans ((e1_2 ea15)))))))) ((e1_r ea21 (by decide)).trans ((e1_r ea20 (by decide)).trans ((e1_r ea19 (by decide)).trans ((e1_r ea18 (by decide)).trans ((e1_r ea17 (by decide)).trans ((e1_r ea16 (by decide)).trans ((e1_r ea15 (by decide))))))))) (fun i hi3 => by rcases (show i = 0 ∨ i = 1 ∨ i = 2 by omega) with rfl | rfl | rfl; exact (e1_n ea21 (by omega)).trans ((e1_n ea20 (by omega)).trans ((e1_n ea19 (by omega)).trans ((e1_n ea18 (by omega)).trans ((e1_n ea17 (by omega)).trans ((e1_n ea16 (by omega)).trans ((e1_n ea15 (by omega)))))))); exact (e1_s ea21).trans hR.1.2.symm; exact (e1_n ea21 (by omega)).trans ((e1_n ea20 (by omega)).trans ((e1_n ea19 (by omega)).trans ((e1_n ea18 (by omega)).trans ((e1_n ea17 (by omega)).trans ((e1_n ea16 (by omega)).trans ((e1_n ea15 (by omega))))))))) (fun k hk1 hk2 i hik => (e1_n ea21 (by omega)).trans ((e1_n ea20 (by omega)).trans ((e1_n ea19 (by omega)).trans ((e1_n ea18 (by omega)).trans ((e1_n ea17 (by omega)).trans ((e1_n ea16 (by omega)).trans ((e1_n ea15 (by omega))))))))), fun _ _ => rfl⟩ hM (Nat.le_of_ble_eq_true rfl) (Nat.le_of_ble_eq_true rfl) dL_deals_488)
                refine lv_iload hx hb dL_deals_360 (lv_at hl 4 rfl) ?_
                refine lv_if_eq (tgt := 369) hx hb dL_deals_362 (by decide) (fun c_362 => ?_) (fun c_362 => ?_)
                · refine lv_iconst (v := 4) hx hb dL_deals_369 (by decide) ?_
                  exact j370 4 (if_pos c_362).symm ls (lv_sub hl [0, 1, 2, 3, 4, 5, 6, 7, 8, 9, 10, 11, 12, 13, 14, 15, 16, 17, 18] rfl) _ _ hM hS
                · refine lv_iconst (v := 0) hx hb dL_deals_365 (by decide) ?_
                  refine lv_goto (tgt := 370) hx hb dL_deals_366 (by decide) ?_
                  exact j370 0 (if_neg c_362).symm ls (lv_sub hl [0, 1, 2, 3, 4, 5, 6, 7, 8, 9, 10, 11, 12, 13, 14, 15, 16, 17, 18] rfl) _ _ hM hS
              · refine lv_aload_n hx hb dL_deals_316 rfl (lv_at hl 6 rfl) ?_
                refine lv_iload hx hb dL_deals_317 (lv_at hl 5 rfl) ?_
                refine lv_iload hx hb dL_deals_319 (lv_at hl 4 rfl) ?_
                refine lv_iload hx hb dL_deals_321 (lv_at hl 3 rfl) ?_
                refine lv_iload hx hb dL_deals_323 (lv_at hl 2 rfl) ?_
                refine lv_iload hx hb dL_deals_325 (lv_at hl 1 rfl) ?_
                refine lv_iload hx hb dL_deals_327 (lv_at hl 0 rfl) ?_
                refine k_i (vx_runSW (As := [.ref (ad 0 0), .int (nI q7), .int (nI q16), .int bu, .int (nI q66), .int (nI q97), .int (nI q142)]) (rest := []) ⟨hx, hb, hml, hown, hts⟩ (c_L_deal hnt l G M S T th o ex ad (nI q7) (nI q16) bu (nI q66) (nI q97) (nI q142) hw hi hbu) (vx_cwSW 7 hts gL_deals_L_deal rfl rfl rfl (by decide +kernel) ⟨Nat.le_of_ble_eq_true rfl, Nat.le_of_ble_eq_true rfl⟩) (preS_of hC hS hM) rfl rfl hl.1 rfl (lv_room (Nat.le_of_ble_eq_true rfl)) dL_deals_329 ⟨Nat.le_of_ble_eq_true rfl, Nat.le_of_ble_eq_true rfl⟩) hS (fun r329 us329 H locs hp329 hM hS => ?_)
                rw [nI_clamp (show q7 < 2 ^ 31 by omega)] at hp329
                have hq329 : r329 = (-2000000073) ∧ us329 = M := by
                  rcases hp329 with h | h | h | h
                  · exact False.elim (absurd (⟨c2_5 hq7, c2_4 hq16⟩) h.2.1)
                  · exact False.elim (absurd hRR h.2.1.2)
                  · exact ⟨h.1, h.2.2⟩
                  · exact False.elim (Or.elim (Or.inl (nd20n ((ndl_i hi).trans c_313))) (fun a => a h.2.1.2.2.1) (fun a => h.2.1.2.2.2 a))
                have hM : Hm G us329 H := hM
                obtain ⟨eq329, em329⟩ := hq329
                rw [em329] at hM
                subst eq329
                refine lv_ldc (own := RL) (v := (-2000000073)) hx hb hown (hts (.constant RL 29 (-2000000073)) (by decide +kernel)) dL_deals_332 ?_
                refine lv_icmp_ne (tgt := 341) hx hb dL_deals_334 (by decide) (fun c_334 => False.elim (by revert c_334; decide)) (fun c_334 => ?_)
                refine lv_iconst (v := 1) hx hb dL_deals_337 (by decide) ?_
                refine lv_goto (tgt := 342) hx hb dL_deals_338 (by decide) ?_
                exact (r_z hx hb hr hlocks hS (v := 1) (by simp) _ ⟨rfl, S, T, ex, ad, hw, hi, hx9, hR, fun _ _ => rfl⟩ hM (Nat.le_of_ble_eq_true rfl) (Nat.le_of_ble_eq_true rfl) dL_deals_342)
            refine lv_iload hx hb dL_deals_126 (lv_at hl 0 rfl) ?_
            refine lv_sipush (v := 400) hx hb dL_deals_128 (by decide) ?_
            refine lv_icmp_le (tgt := 140) hx hb dL_deals_131 (by decide) (fun c_131 => ?_) (fun c_131 => ?_)
            · refine lv_iload hx hb dL_deals_140 (lv_at hl 0 rfl) ?_
              exact j142 q124 ha124 ((nI_leI (b := 400) (by omega) (by decide)).mp c_131) ls (lv_sub hl [0, 1, 2, 3, 4, 5, 6, 7, 8, 9, 10, 11, 12, 13, 14, 15, 16, 17] rfl) _ _ hM hS
            · refine lv_sipush (v := 400) hx hb dL_deals_134 (by decide) ?_
              refine lv_goto (tgt := 142) hx hb dL_deals_137 (by decide) ?_
              exact j142 400 (by omega) (by decide) ls (lv_sub hl [0, 1, 2, 3, 4, 5, 6, 7, 8, 9, 10, 11, 12, 13, 14, 15, 16, 17] rfl) _ _ hM hS
          refine lv_iload_n hx hb dL_deals_99 rfl (lv_at hl 7 rfl) ?_
          refine lv_sipush (v := 24576) hx hb dL_deals_100 (by decide) ?_
          refine lv_iand hx hb dL_deals_103 ?_
          refine lv_if_ne (tgt := 112) hx hb dL_deals_104 (by decide) (fun c_104 => ?_) (fun c_104 => ?_)
          · refine lv_iload hx hb dL_deals_112 (lv_at hl 0 rfl) ?_
            refine lv_iload_n hx hb dL_deals_114 rfl (lv_at hl 7 rfl) ?_
            refine lv_bipush (v := 15) hx hb dL_deals_115 (by decide) ?_
            refine lv_ishr hx hb dL_deals_117 ?_
            refine lv_bipush (v := 25) hx hb dL_deals_118 (by decide) ?_
            refine k_i (va_runS (As := [.int (yy >>> ((15 : Int32) &&& 31)), .int 25]) (rest := [.int (nI q97)]) ⟨hx, hb, hml, hown, hts⟩ (c_L_low l G M (yy >>> ((15 : Int32) &&& 31)) 25 (by decide) (by decide)) (va_cwS 2 hts gL_deals_L_low rfl rfl rfl (by decide +kernel) ⟨Nat.le_of_ble_eq_true rfl, Nat.le_of_ble_eq_true rfl⟩) (preS_of hC hS hM) rfl rfl hl.1 rfl (lv_room (Nat.le_of_ble_eq_true rfl)) dL_deals_120 ⟨Nat.le_of_ble_eq_true rfl, Nat.le_of_ble_eq_true rfl⟩) hS (fun r120 us120 H locs hp120 hM hS => ?_)
            have hM : Hm G M H := hM
            obtain ⟨q120, hq120, e120⟩ := hp120
            subst e120
            refine lv_iadd hx hb dL_deals_123 ?_
            rw [nI_add q97 q120]
            exact j124 (q97 + q120) (by omega) (by omega) ls (lv_sub hl [0, 1, 2, 3, 4, 5, 6, 7, 8, 9, 10, 11, 12, 13, 14, 15, 16] rfl) _ _ hM hS
          · refine lv_iload hx hb dL_deals_107 (lv_at hl 0 rfl) ?_
            refine lv_goto (tgt := 124) hx hb dL_deals_109 (by decide) ?_
            exact j124 q97 (Nat.le_refl _) (by omega) ls (lv_sub hl [0, 1, 2, 3, 4, 5, 6, 7, 8, 9, 10, 11, 12, 13, 14, 15, 16] rfl) _ _ hM hS
        refine lv_iload_n hx hb dL_deals_68 rfl (lv_at hl 6 rfl) ?_
        refine lv_bipush (v := 96) hx hb dL_deals_69 (by decide) ?_
        refine lv_iand hx hb dL_deals_71 ?_
        refine lv_if_ne (tgt := 88) hx hb dL_deals_72 (by decide) (fun c_72 => ?_) (fun c_72 => ?_)
        · refine lv_iload_n hx hb dL_deals_88 rfl (lv_at hl 6 rfl) ?_
          refine lv_bipush (v := 7) hx hb dL_deals_89 (by decide) ?_
          refine lv_ishr hx hb dL_deals_91 ?_
          refine lv_bipush (v := 20) hx hb dL_deals_92 (by decide) ?_
          refine k_i (va_runS (As := [.int (yy >>> ((7 : Int32) &&& 31)), .int 20]) (rest := []) ⟨hx, hb, hml, hown, hts⟩ (c_L_low l G M (yy >>> ((7 : Int32) &&& 31)) 20 (by decide) (by decide)) (va_cwS 2 hts gL_deals_L_low rfl rfl rfl (by decide +kernel) ⟨Nat.le_of_ble_eq_true rfl, Nat.le_of_ble_eq_true rfl⟩) (preS_of hC hS hM) rfl rfl hl.1 rfl (lv_room (Nat.le_of_ble_eq_true rfl)) dL_deals_94 ⟨Nat.le_of_ble_eq_true rfl, Nat.le_of_ble_eq_true rfl⟩) hS (fun r94 us94 H locs hp94 hM hS => ?_)
          have hM : Hm G M H := hM
          obtain ⟨q94, hq94, e94⟩ := hp94
          subst e94
          exact j97 q94 (by omega) ls (lv_sub hl [0, 1, 2, 3, 4, 5, 6, 7, 8, 9, 10, 11, 12, 13, 14, 15] rfl) _ _ hM hS
        · refine lv_iload_n hx hb dL_deals_75 rfl (lv_at hl 6 rfl) ?_
          refine lv_bipush (v := 7) hx hb dL_deals_76 (by decide) ?_
          refine lv_ishr hx hb dL_deals_78 ?_
          refine lv_sipush (v := 401) hx hb dL_deals_79 (by decide) ?_
          refine k_i (va_runS (As := [.int (yy >>> ((7 : Int32) &&& 31)), .int 401]) (rest := []) ⟨hx, hb, hml, hown, hts⟩ (c_L_low l G M (yy >>> ((7 : Int32) &&& 31)) 401 (by decide) (by decide)) (va_cwS 2 hts gL_deals_L_low rfl rfl rfl (by decide +kernel) ⟨Nat.le_of_ble_eq_true rfl, Nat.le_of_ble_eq_true rfl⟩) (preS_of hC hS hM) rfl rfl hl.1 rfl (lv_room (Nat.le_of_ble_eq_true rfl)) dL_deals_82 ⟨Nat.le_of_ble_eq_true rfl, Nat.le_of_ble_eq_true rfl⟩) hS (fun r82 us82 H locs hp82 hM hS => ?_)
          have hM : Hm G M H := hM
          obtain ⟨q82, hq82, e82⟩ := hp82
          subst e82
          refine lv_goto (tgt := 97) hx hb dL_deals_85 (by decide) ?_
          exact j97 q82 (by omega) ls (lv_sub hl [0, 1, 2, 3, 4, 5, 6, 7, 8, 9, 10, 11, 12, 13, 14, 15] rfl) _ _ hM hS
      refine lv_iload_n hx hb dL_deals_35 rfl (lv_at hl 6 rfl) ?_
      refine lv_bipush (v := 6) hx hb dL_deals_36 (by decide) ?_
      refine lv_iand hx hb dL_deals_38 ?_
      refine lv_if_ne (tgt := 55) hx hb dL_deals_39 (by decide) (fun c_39 => ?_) (fun c_39 => ?_)
      · refine lv_iconst (v := 1) hx hb dL_deals_55 (by decide) ?_
        refine lv_iload_n hx hb dL_deals_56 rfl (lv_at hl 6 rfl) ?_
        refine lv_iconst (v := 3) hx hb dL_deals_57 (by decide) ?_
        refine lv_ishr hx hb dL_deals_58 ?_
        refine lv_sipush (v := 20000) hx hb dL_deals_59 (by decide) ?_
        refine k_i (va_runS (As := [.int (zz >>> ((3 : Int32) &&& 31)), .int 20000]) (rest := [.int 1]) ⟨hx, hb, hml, hown, hts⟩ (c_L_low l G M (zz >>> ((3 : Int32) &&& 31)) 20000 (by decide) (by decide)) (va_cwS 2 hts gL_deals_L_low rfl rfl rfl (by decide +kernel) ⟨Nat.le_of_ble_eq_true rfl, Nat.le_of_ble_eq_true rfl⟩) (preS_of hC hS hM) rfl rfl hl.1 rfl (lv_room (Nat.le_of_ble_eq_true rfl)) dL_deals_62 ⟨Nat.le_of_ble_eq_true rfl, Nat.le_of_ble_eq_true rfl⟩) hS (fun r62 us62 H locs hp62 hM hS => ?_)
        have hM : Hm G M H := hM
        obtain ⟨q62, hq62, e62⟩ := hp62
        subst e62
        refine lv_iadd hx hb dL_deals_65 ?_
        rw [show (1 : Int32) + nI q62 = nI (1 + q62) from nI_add 1 q62]
        exact j66 (1 + q62) (by omega) (by omega) ls (lv_sub hl [0, 1, 2, 3, 4, 5, 6, 7, 8, 9, 10, 11, 12, 13, 14] rfl) _ _ hM hS
      · refine lv_iconst (v := 1) hx hb dL_deals_42 (by decide) ?_
        refine lv_iload_n hx hb dL_deals_43 rfl (lv_at hl 6 rfl) ?_
        refine lv_iconst (v := 3) hx hb dL_deals_44 (by decide) ?_
        refine lv_ishr hx hb dL_deals_45 ?_
        refine lv_ldc (own := RL) (v := 1000000) hx hb hown (hts (.constant RL 120 1000000) (by decide +kernel)) dL_deals_46 ?_
        refine k_i (va_runS (As := [.int (zz >>> ((3 : Int32) &&& 31)), .int 1000000]) (rest := [.int 1]) ⟨hx, hb, hml, hown, hts⟩ (c_L_low l G M (zz >>> ((3 : Int32) &&& 31)) 1000000 (by decide) (by decide)) (va_cwS 2 hts gL_deals_L_low rfl rfl rfl (by decide +kernel) ⟨Nat.le_of_ble_eq_true rfl, Nat.le_of_ble_eq_true rfl⟩) (preS_of hC hS hM) rfl rfl hl.1 rfl (lv_room (Nat.le_of_ble_eq_true rfl)) dL_deals_48 ⟨Nat.le_of_ble_eq_true rfl, Nat.le_of_ble_eq_true rfl⟩) hS (fun r48 us48 H locs hp48 hM hS => ?_)
        have hM : Hm G M H := hM
        obtain ⟨q48, hq48, e48⟩ := hp48
        subst e48
        refine lv_iadd hx hb dL_deals_51 ?_
        refine lv_goto (tgt := 66) hx hb dL_deals_52 (by decide) ?_
        rw [show (1 : Int32) + nI q48 = nI (1 + q48) from nI_add 1 q48]
        exact j66 (1 + q48) (by omega) (by omega) ls (lv_sub hl [0, 1, 2, 3, 4, 5, 6, 7, 8, 9, 10, 11, 12, 13, 14] rfl) _ _ hM hS
    refine lv_iload_n hx hb dL_deals_21 rfl (lv_at hl 4 rfl) ?_
    refine lv_bipush (v := 24) hx hb dL_deals_22 (by decide) ?_
    refine lv_iand hx hb dL_deals_24 ?_
    refine lv_if_le (tgt := 32) hx hb dL_deals_25 (by decide) (fun c_25 => ?_) (fun c_25 => ?_)
    · refine lv_iconst (v := 0) hx hb dL_deals_32 (by decide) ?_
      exact j33 0 (Or.inl rfl) ls (lv_sub hl [0, 1, 2, 3, 4, 5, 6, 7, 8, 9, 10, 11, 12, 13] rfl) _ _ hM hS
    · refine lv_iconst (v := 1) hx hb dL_deals_28 (by decide) ?_
      refine lv_goto (tgt := 33) hx hb dL_deals_29 (by decide) ?_
      exact j33 1 (Or.inr rfl) ls (lv_sub hl [0, 1, 2, 3, 4, 5, 6, 7, 8, 9, 10, 11, 12, 13] rfl) _ _ hM hS
