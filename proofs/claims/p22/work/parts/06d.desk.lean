set_option maxHeartbeats 4000000 in
set_option maxRecDepth 100000 in
theorem c_X5_lossOfAll (l : Launch) (G : Gx) (M : Mp) (S T : Sd) (th : Int32) (o : Int64) (ex : Nat → Option (Nat × Nat)) (ad : Nat → Nat → Nat) (c9 : Nat) (sh : Int32) (hw : WA G S T th o ex ad M) (hi : Iv S) (hc : c9 < 5) : Met l yX5_lossOfAll wsX5_lossOfAll ({ frames := 5, cells := 0, slots := 0, locals := 110 }) (Cv G M [.ref (ad 0 0), .ref (ad 6 c9), .int sh]) (va_Ql (S := Unit) (fun r _ => r = la S c9 sh (ndl S)) (Bm G (fun _ => M)) (AG G)) (0) (0) (AG G) := by
  refine m_met [.ref (ad 0 0), .ref (ad 6 c9), .int sh] [(0, .ref (ad 0 0)), (1, .ref (ad 6 c9)), (2, .int sh)] (by decide) rfl rfl (Nat.le_of_ble_eq_true rfl) ?_
  intro p e s m below meth c ls hx hb hr hml hown hts hlocks hin hC hM hl hS
  have f0 : M (ad 0 0) = some (.inr (5, [.ref (ad 1 0), .ref (ad 3 0), .ref (ad 5 0), .ref (ad 10 0), .int (S.1 5 0)])) := hw.1 0 0 _ rfl
  have f1 : M (ad 1 0) = some (.inr (1, [.ref (ad 2 0), .int (S.1 0 0)])) := hw.1 1 0 _ rfl
  have f2 : M (ad 2 0) = some (.inl (G.2.1 2, 1001, .inl (S.1 4))) := hw.1 2 0 _ rfl
  have f3 : M (ad 3 0) = some (.inl (G.2.1 3, 4, .inr (.inr (.inr (.inr (crr ad)))))) := hw.1 3 0 _ rfl
  have f5 : M (ad 5 0) = some (.inl (G.2.1 4, 5, .inr (.inr (.inr (.inr (csr ad)))))) := hw.1 5 0 _ rfl
  have f10 : M (ad 10 0) = some (.inl (G.2.1 6, 20, .inr (.inr (.inr (.inr (dlr S ad)))))) := hw.1 10 0 _ rfl
  refine lv_lconst (v := 0) hx hb dX5_lossOfAll_0 (by decide) ?_
  refine lv_lstore_n (lv' := [(3, .long 0), (0, .ref (ad 0 0)), (1, .ref (ad 6 c9)), (2, .int sh)]) hx hb dX5_lossOfAll_1 rfl hl (by decide) rfl (fun ls hl => ?_)
  refine lv_aload_n hx hb dX5_lossOfAll_2 rfl (lv_at hl 1 rfl) ?_
  refine m_get (ci := 5) (v := .ref (ad 10 0)) (C := RX5) (T := TX5) (N := 5) (a := (ad 0 0)) hx hb hts (by decide +kernel) hown hC hM f0 rfl 3 (by decide) (hts (.fieldLink RX5 34 "Forwardroll" "deals" "[LForwardroll$Deal;") (by decide +kernel)) (fun _ h9 => h9) rfl dX5_lossOfAll_3 ?_
  refine lv_astore (lv' := [(5, .ref (ad 10 0)), (3, .long 0), (0, .ref (ad 0 0)), (1, .ref (ad 6 c9)), (2, .int sh)]) hx hb dX5_lossOfAll_6 hl (by decide) rfl (fun ls hl => ?_)
  refine lv_aload hx hb dX5_lossOfAll_8 (lv_at hl 0 rfl) ?_
  refine m_alen (a := (ad 10 0)) hx hb hC hM 6 rfl f10 (v := 20) rfl dX5_lossOfAll_10 ?_
  refine lv_istore (lv' := [(6, .int 20), (5, .ref (ad 10 0)), (3, .long 0), (0, .ref (ad 0 0)), (1, .ref (ad 6 c9)), (2, .int sh)]) hx hb dX5_lossOfAll_11 hl (by decide) rfl (fun ls hl => ?_)
  refine lv_iconst (v := 0) hx hb dX5_lossOfAll_13 (by decide) ?_
  refine lv_istore (lv' := [(7, .int 0), (6, .int 20), (5, .ref (ad 10 0)), (3, .long 0), (0, .ref (ad 0 0)), (1, .ref (ad 6 c9)), (2, .int sh)]) hx hb dX5_lossOfAll_14 hl (by decide) rfl (fun ls hl => ?_)
  have loop : ∀ (n9 : Nat) (i9 : Nat) (z9 : Int64), i9 + n9 = 20 → z9 = la S c9 sh (min i9 (ndl S)) → ∀ ls : Array Slot, lv_has ls 9 [(0, .ref (ad 0 0)), (1, .ref (ad 6 c9)), (2, .int sh), (3, .long z9), (5, .ref (ad 10 0)), (6, .int 20), (7, .int (nI i9))] → ∀ (H : Heap) (locs : List Loc), Hm G M H → va_S (AG G) s.heap H locs → W p l e { frames := 5, cells := 0, slots := 0, locals := 110 } s m ([.ref (ad 0 0), .ref (ad 6 c9), .int sh] : List Value).toArray below meth c H locs (0) (0) (MQ below (va_Ql (S := Unit) (fun r _ => r = la S c9 sh (ndl S)) (Bm G (fun _ => M)) (AG G)) ([.ref (ad 0 0), .ref (ad 6 c9), .int sh] : List Value).toArray s (0) (0) (AG G)) (F0 m 16 ls []) := by
    intro n9
    induction n9 with
    | zero =>
      intro i9 z9 hn hz ls hl H locs hM hS
      refine lv_iload hx hb dX5_lossOfAll_16 (lv_at hl 6 rfl) ?_
      refine lv_iload hx hb dX5_lossOfAll_18 (lv_at hl 5 rfl) ?_
      refine lv_icmp_ge (tgt := 66) hx hb dX5_lossOfAll_20 (by decide) (fun c_20 => ?_) (fun c_20 => False.elim (by exact c_20 (nI_le (a := 20) (by omega) (by omega))))
      refine lv_lload_n hx hb dX5_lossOfAll_66 rfl (lv_at hl 3 rfl) ?_
      exact (r_l hx hb hr hlocks hS (v := z9) () (by rw [hz, show min i9 (ndl S) = ndl S by have := hi.nd; omega]) hM (Nat.le_of_ble_eq_true rfl) (Nat.le_of_ble_eq_true rfl) dX5_lossOfAll_67)
    | succ n9 ih =>
      intro i9 z9 hn hz ls hl H locs hM hS
      refine lv_iload hx hb dX5_lossOfAll_16 (lv_at hl 6 rfl) ?_
      refine lv_iload hx hb dX5_lossOfAll_18 (lv_at hl 5 rfl) ?_
      refine lv_icmp_ge (tgt := 66) hx hb dX5_lossOfAll_20 (by decide) (fun c_20 => False.elim (by exact nI_ge (a := i9) (b := 20) (by omega) (by omega) c_20)) (fun c_20 => ?_)
      refine lv_aload hx hb dX5_lossOfAll_23 (lv_at hl 4 rfl) ?_
      refine lv_iload hx hb dX5_lossOfAll_25 (lv_at hl 6 rfl) ?_
      refine m_aldq (a := (ad 10 0)) hx hb hC hM 6 rfl f10 (vp_in_nI (n := i9) (by omega) (by omega)) dX5_lossOfAll_27 ?_
      have ei : (nI i9).toNatClampNeg = i9 := nI_clamp (by omega)
      rw [ei]
      by_cases hj : i9 < ndl S
      · rw [show dlr S ad i9 = some (ad 11 i9) from if_pos hj]
        have gd3 : M (ad 11 i9) = some (.inr (4, [.ref (ad 6 (cus S i9)), .ref (ad 4 (cuy S i9)), .int (S.1 8 i9), .int (S.1 9 i9), .int (S.1 10 i9), .int (S.1 11 i9), .int (S.1 12 i9)])) := hw.1 11 _ _ (ct11 (G := G) (S := S) (T := T) (th := th) (o := o) (ex := ex) (ad := ad) hj)
        have gy3 : M (ad 4 (cuy S i9)) = some (.inr (2, [.int (nI (cuy S i9)), .int (S.1 1 (cuy S i9)), .int (S.1 2 (cuy S i9))])) := hw.1 4 _ _ (ct4 (G := G) (S := S) (T := T) (th := th) (o := o) (ex := ex) (ad := ad) (hi.cy hj))
        refine lv_astore (lv' := [(8, .ref (ad 11 i9)), (0, .ref (ad 0 0)), (1, .ref (ad 6 c9)), (2, .int sh), (3, .long z9), (5, .ref (ad 10 0)), (6, .int 20), (7, .int (nI i9))]) hx hb dX5_lossOfAll_28 hl (by decide) rfl (fun ls hl => ?_)
        refine lv_aload hx hb dX5_lossOfAll_30 (lv_at hl 0 rfl) ?_
        refine lv_ifnull hx hb dX5_lossOfAll_32 ?_
        refine lv_aload hx hb dX5_lossOfAll_35 (lv_at hl 0 rfl) ?_
        refine m_getN (host := RX5) (ci := 4) (v := .ref (ad 6 (cus S i9))) (C := RX4) (T := TX4) (N := 7) (a := (ad 11 i9)) hx hb hts (by decide +kernel) hown hC hM gd3 rfl 0 (by decide) (hC.w 6 rfl) (fun _ h9 => h9) rfl dX5_lossOfAll_37 ?_
        refine lv_aload_n hx hb dX5_lossOfAll_40 rfl (lv_at hl 2 rfl) ?_
        refine lv_acmp_ne (rx := some (ad 6 (cus S i9))) (ry := some (ad 6 c9)) (tgt := 60) hx hb dX5_lossOfAll_41 (by decide) (fun c_41 => ?_) (fun c_41 => ?_)
        · refine lv_iinc (v := ((nI i9) + 1)) (lv' := [(7, .int ((nI i9) + 1)), (8, .ref (ad 11 i9)), (0, .ref (ad 0 0)), (1, .ref (ad 6 c9)), (2, .int sh), (3, .long z9), (5, .ref (ad 10 0)), (6, .int 20)]) hx hb dX5_lossOfAll_60 hl (k := 7) rfl rfl (by decide) rfl (fun ls hl => ?_)
          refine lv_goto (tgt := 16) hx hb dX5_lossOfAll_63 (by decide) ?_
          have ez : z9 = la S c9 sh (min (i9 + 1) (ndl S)) := by
            rw [hz, show min (i9 + 1) (ndl S) = i9 + 1 by omega, show min i9 (ndl S) = i9 by omega]
            show _ = (if cus S i9 = c9 then la S c9 sh i9 + ls1 S sh i9 else la S c9 sh i9)
            rw [if_neg (fun z => c_41 (by rw [z]))]
          rw [show nI i9 + 1 = nI (i9 + 1) from nI_1 i9] at hl
          exact ih (i9 + 1) z9 (by omega) ez ls (lv_sub hl [2, 3, 4, 5, 6, 7, 0] rfl) _ _ hM hS
        · refine lv_lload_n hx hb dX5_lossOfAll_44 rfl (lv_at hl 4 rfl) ?_
          refine lv_aload hx hb dX5_lossOfAll_45 (lv_at hl 0 rfl) ?_
          refine lv_aload_n hx hb dX5_lossOfAll_47 rfl (lv_at hl 1 rfl) ?_
          refine m_get (ci := 5) (v := .ref (ad 1 0)) (C := RX5) (T := TX5) (N := 5) (a := (ad 0 0)) hx hb hts (by decide +kernel) hown hC hM f0 rfl 0 (by decide) (hts (.fieldLink RX5 12 "Forwardroll" "calendar" "LForwardroll$Calendar;") (by decide +kernel)) (fun _ h9 => h9) rfl dX5_lossOfAll_48 ?_
          refine m_getN (host := RX5) (ci := 1) (v := .int (S.1 0 0)) (C := RX1) (T := TX1) (N := 2) (a := (ad 1 0)) hx hb hts (by decide +kernel) hown hC hM f1 rfl 1 (by decide) (hC.w 0 rfl) (fun _ h9 => h9) rfl dX5_lossOfAll_51 ?_
          refine lv_iload_n hx hb dX5_lossOfAll_54 rfl (lv_at hl 3 rfl) ?_
          refine k_l (va_runV (As := [.int (S.1 0 0), .int sh]) (rest := [.long z9]) ⟨hx, hb, hml, hown, hts⟩ (c_X4_shiftedLoss l G M (ad 11 i9) (ad 6 (cus S i9)) (ad 4 (cuy S i9)) (S.1 8 i9) (S.1 9 i9) (S.1 10 i9) (S.1 11 i9) (S.1 12 i9) (nI (cuy S i9)) (S.1 1 (cuy S i9)) (S.1 2 (cuy S i9)) (S.1 0 0) sh gd3 gy3) (cwV 2 hts gX5_lossOfAll_X4_shiftedLoss rfl rfl rfl (by decide +kernel) ⟨Nat.le_of_ble_eq_true rfl, Nat.le_of_ble_eq_true rfl⟩) (preV_of hC hS hM gd3 rfl) rfl rfl hl.1 rfl (lv_room (Nat.le_of_ble_eq_true rfl)) dX5_lossOfAll_55 ⟨Nat.le_of_ble_eq_true rfl, Nat.le_of_ble_eq_true rfl⟩) hS (fun r55 u55 H locs hp55 hM hS => ?_)
          have hM : Hm G M H := hM
          have hp55 : r55 = -gn (S.1 8 i9) (S.1 9 i9) (S.1 10 i9) (al1 (al1 ((S.1 1 (cuy S i9)) + (S.1 2 (cuy S i9)) * ((S.1 12 i9) - (S.1 0 0))) * (100 + sh) / 100)) := hp55
          subst hp55
          refine lv_ladd hx hb dX5_lossOfAll_58 ?_
          refine lv_lstore_n (lv' := [(3, .long (z9 + (-gn (S.1 8 i9) (S.1 9 i9) (S.1 10 i9) (al1 (al1 ((S.1 1 (cuy S i9)) + (S.1 2 (cuy S i9)) * ((S.1 12 i9) - (S.1 0 0))) * (100 + sh) / 100))))), (8, .ref (ad 11 i9)), (0, .ref (ad 0 0)), (1, .ref (ad 6 c9)), (2, .int sh), (5, .ref (ad 10 0)), (6, .int 20), (7, .int (nI i9))]) hx hb dX5_lossOfAll_59 rfl hl (by decide) rfl (fun ls hl => ?_)
          refine lv_iinc (v := ((nI i9) + 1)) (lv' := [(7, .int ((nI i9) + 1)), (3, .long (z9 + (-gn (S.1 8 i9) (S.1 9 i9) (S.1 10 i9) (al1 (al1 ((S.1 1 (cuy S i9)) + (S.1 2 (cuy S i9)) * ((S.1 12 i9) - (S.1 0 0))) * (100 + sh) / 100))))), (8, .ref (ad 11 i9)), (0, .ref (ad 0 0)), (1, .ref (ad 6 c9)), (2, .int sh), (5, .ref (ad 10 0)), (6, .int 20)]) hx hb dX5_lossOfAll_60 hl (k := 7) rfl rfl (by decide) rfl (fun ls hl => ?_)
          refine lv_goto (tgt := 16) hx hb dX5_lossOfAll_63 (by decide) ?_
          have ez : (z9 + (-gn (S.1 8 i9) (S.1 9 i9) (S.1 10 i9) (al1 (al1 ((S.1 1 (cuy S i9)) + (S.1 2 (cuy S i9)) * ((S.1 12 i9) - (S.1 0 0))) * (100 + sh) / 100)))) = la S c9 sh (min (i9 + 1) (ndl S)) := by
            rw [hz, show min (i9 + 1) (ndl S) = i9 + 1 by omega, show min i9 (ndl S) = i9 by omega]
            show _ = (if cus S i9 = c9 then la S c9 sh i9 + ls1 S sh i9 else la S c9 sh i9)
            rw [if_pos (hw.2 6 _ 6 _ _ _ (ct6 (hi.cu hj)) (ct6 hc) (Option.some.inj c_41)).2]
            rfl
          rw [show nI i9 + 1 = nI (i9 + 1) from nI_1 i9] at hl
          exact ih (i9 + 1) (z9 + (-gn (S.1 8 i9) (S.1 9 i9) (S.1 10 i9) (al1 (al1 ((S.1 1 (cuy S i9)) + (S.1 2 (cuy S i9)) * ((S.1 12 i9) - (S.1 0 0))) * (100 + sh) / 100)))) (by omega) ez ls (lv_sub hl [3, 4, 5, 1, 6, 7, 0] rfl) _ _ hM hS
      · rw [show dlr S ad i9 = none from if_neg hj]
        refine lv_astoreN (lv' := [(8, .null), (0, .ref (ad 0 0)), (1, .ref (ad 6 c9)), (2, .int sh), (3, .long z9), (5, .ref (ad 10 0)), (6, .int 20), (7, .int (nI i9))]) hx hb dX5_lossOfAll_28 hl (by decide) rfl (fun ls hl => ?_)
        refine lv_aloadN hx hb dX5_lossOfAll_30 (lv_at hl 0 rfl) ?_
        refine lv_ifnullN (tgt := 60) hx hb dX5_lossOfAll_32 (by decide) ?_
        refine lv_iinc (v := ((nI i9) + 1)) (lv' := [(7, .int ((nI i9) + 1)), (8, .null), (0, .ref (ad 0 0)), (1, .ref (ad 6 c9)), (2, .int sh), (3, .long z9), (5, .ref (ad 10 0)), (6, .int 20)]) hx hb dX5_lossOfAll_60 hl (k := 7) rfl rfl (by decide) rfl (fun ls hl => ?_)
        refine lv_goto (tgt := 16) hx hb dX5_lossOfAll_63 (by decide) ?_
        have ez : z9 = la S c9 sh (min (i9 + 1) (ndl S)) := by
          rw [hz, show min (i9 + 1) (ndl S) = min i9 (ndl S) by omega]
        rw [show nI i9 + 1 = nI (i9 + 1) from nI_1 i9] at hl
        exact ih (i9 + 1) z9 (by omega) ez ls (lv_sub hl [2, 3, 4, 5, 6, 7, 0] rfl) _ _ hM hS
  exact loop 20 0 0 rfl (by rw [show min 0 (ndl S) = 0 by omega]; rfl) ls (lv_sub hl [4, 5, 6, 3, 2, 1, 0] rfl) _ _ hM hS
