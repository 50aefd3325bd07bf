theorem nbd_rng (f : Nat → Int32) : ∀ (n : Nat) (d : Int32), 0 < d.toInt → d.toInt ≤ 1001 → d.toInt ≤ (nbd f n d).toInt ∧ (nbd f n d).toInt ≤ 1001
  | 0, d, h1, h2 => ⟨Int.le_refl _, h2⟩
  | n + 1, d, h1, h2 => by
    show d.toInt ≤ (if d < 1001 ∧ bus f d = 0 then nbd f n (d + 1) else d).toInt ∧ (if d < 1001 ∧ bus f d = 0 then nbd f n (d + 1) else d).toInt ≤ 1001
    by_cases h : d < 1001 ∧ bus f d = 0
    · rw [if_pos h]
      have h3 := Int32.lt_iff_toInt_lt.mp h.1
      have h4 : (1001 : Int32).toInt = 1001 := rfl
      have e : (d + 1).toInt = d.toInt + 1 := by
        rw [Int32.toInt_add, show (1 : Int32).toInt = 1 from rfl, show (d.toInt + 1).bmod (2 ^ 32) = d.toInt + 1 from Int.bmod_eq_of_le (by omega) (by omega)]
      have ih := nbd_rng f n (d + 1) (by omega) (by omega)
      omega
    · rw [if_neg h]
      exact ⟨Int.le_refl _, h2⟩
theorem sd_rng {S : Sd} (hi : Iv S) : (S.1 0 0).toInt + 1 ≤ (sd S).toInt ∧ (sd S).toInt ≤ 1001 := by
  have h := hi.1
  have e : (S.1 0 0 + 1).toInt = (S.1 0 0).toInt + 1 := by
    rw [Int32.toInt_add, show (1 : Int32).toInt = 1 from rfl, show ((S.1 0 0).toInt + 1).bmod (2 ^ 32) = (S.1 0 0).toInt + 1 from Int.bmod_eq_of_le (by omega) (by omega)]
  have := nbd_rng (S.1 4) 1002 (S.1 0 0 + 1) (by omega) (by omega)
  unfold sd
  omega
theorem sd_in {S : Sd} (hi : Iv S) : vp_in (sd S) 1002 := by
  have h := sd_rng hi
  have h0 := hi.1
  rw [vp_in_iff]
  omega
/-- the settlement day as a place -/
def sn (S : Sd) : Nat := (sd S).toNatClampNeg
theorem sn_lt {S : Sd} (hi : Iv S) : sn S < 1002 := by
  have h := sd_rng hi
  have h0 := hi.1
  unfold sn
  rw [Int32.toNatClampNeg]
  omega
def exs (S : Sd) (c : Nat) : Int64 := wl (la S c 10 (ndl S)) (la S c (-10) (ndl S))
/-- the loss of a deal that isn't there yet -/
def lsx (S : Sd) (y : Nat) (bu lf ag la9 sh : Int32) : Int64 := -gn bu lf ag (al1 (al1 (S.1 1 y + S.1 2 y * (la9 - S.1 0 0)) * (100 + sh) / 100))
def bkg (S : Sd) (j : Nat) : Sd := bk S (cus S j) 4 (sn S) (mg S j)
def edS (S : Sd) (j : Nat) : Sd := (u2 (bkg S j).1 9 j 0, (bkg S j).2)
def drt (S : Sd) (j : Nat) : Int32 := if S.1 0 0 < S.1 11 j then al1 (S.1 10 j + S.1 2 (cuy S j) * (S.1 0 0 - S.1 11 j)) else S.1 10 j
def dr1 (S : Sd) (j : Nat) (x : Int32) : Sd := bk S (cus S j) (cuy S j) (sn S) (if S.1 8 j = 0 then (-x).toInt64 else x.toInt64)
def dr2 (S : Sd) (j : Nat) (x : Int32) : Sd := bk (dr1 S j x) (cus S j) 4 (sn S) (if S.1 8 j = 0 then hom x (drt S j) else -hom x (drt S j))
def dr3 (S : Sd) (j : Nat) (x : Int32) : Sd := (u2 (dr2 S j x).1 9 j (S.1 9 j - x), (dr2 S j x).2)
/-- rolled, the gain carried -/
def rlc (S : Sd) (j : Nat) (y : Int32) : Sd := (u2 (u2 (u2 S.1 11 j (S.1 12 j)) 12 j (S.1 12 j + y)) 10 j (al1 (S.1 10 j + S.1 2 (cuy S j) * y)), S.2)
/-- rolled, the gain settled -/
def rls (S : Sd) (j : Nat) (y : Int32) : Sd := (u2 (u2 (u2 S.1 11 j (S.1 12 j)) 12 j (S.1 12 j + y)) 10 j (al1 (S.1 1 (cuy S j) + S.1 2 (cuy S j) * (S.1 12 j + y - S.1 0 0))), (bkg S j).2)
theorem cy_in {S : Sd} (hi : Iv S) {j : Nat} (hj : j < ndl S) : vp_in (nI (cuy S j)) 5 := vp_in_nI (by have := hi.cy hj; omega) (by omega)
theorem cy_cl {S : Sd} (hi : Iv S) {j : Nat} (hj : j < ndl S) : (nI (cuy S j)).toNatClampNeg = cuy S j := nI_clamp (by have := hi.cy hj; omega)
set_option maxHeartbeats 4000000 in
set_option maxRecDepth 100000 in
theorem c_X5_exposure {l : Launch} (hnt : l.stackTraces = false) (l' : Launch) (G : Gx) (M : Mp) (S T : Sd) (th : Int32) (o : Int64) (ex : Nat → Option (Nat × Nat)) (ad : Nat → Nat → Nat) (n : Int32) (hw : WA G S T th o ex ad M) (hi : Iv S) : vx_Met l yX5_exposure wsX5_exposure ({ frames := 7, cells := 1, slots := 6, locals := 138 }) (Cv G M [.ref (ad 0 0), .int n]) (va_Ql (S := Unit) (fun r _ => (0 ≤ n ∧ n < 5) ∧ r = exs S n.toNatClampNeg) (Bm G (fun _ => M)) (AG G)) (Xq G M (fun E => E = IO ∧ ¬ (0 ≤ n ∧ n < 5))) (1) (6) (AG G) := by
  refine m_metx [.ref (ad 0 0), .int n] [(0, .ref (ad 0 0)), (1, .int n)] (by decide) rfl rfl (Nat.le_of_ble_eq_true rfl) ?_
  intro p e s m below meth c ls hx hb hr hml hown hts hlocks hin ht hC hM hl hS
  have f0 : M (ad 0 0) = some (.inr (5, [.ref (ad 1 0), .ref (ad 3 0), .ref (ad 5 0), .ref (ad 10 0), .int (S.1 5 0)])) := hw.1 0 0 _ rfl
  have f1 : M (ad 1 0) = some (.inr (1, [.ref (ad 2 0), .int (S.1 0 0)])) := hw.1 1 0 _ rfl
  have f2 : M (ad 2 0) = some (.inl (G.2.1 2, 1001, .inl (S.1 4))) := hw.1 2 0 _ rfl
  have f3 : M (ad 3 0) = some (.inl (G.2.1 3, 4, .inr (.inr (.inr (.inr (crr ad)))))) := hw.1 3 0 _ rfl
  have f5 : M (ad 5 0) = some (.inl (G.2.1 4, 5, .inr (.inr (.inr (.inr (csr ad)))))) := hw.1 5 0 _ rfl
  have f10 : M (ad 10 0) = some (.inl (G.2.1 6, 20, .inr (.inr (.inr (.inr (dlr S ad)))))) := hw.1 10 0 _ rfl
  refine lv_aload_n hx hb dX5_exposure_0 rfl (lv_at hl 0 rfl) ?_
  refine lv_iload_n hx hb dX5_exposure_1 rfl (lv_at hl 1 rfl) ?_
  refine kx_q (vx_runV (As := [.int n]) (rest := []) ⟨hx, hb, hml, hown, hts⟩ (c_X5_customerNumbered hnt l G M S T th o ex ad n hw hi) (cwV 1 hts gX5_exposure_X5_customerNumbered rfl rfl rfl (by decide +kernel) ⟨Nat.le_of_ble_eq_true rfl, Nat.le_of_ble_eq_true rfl⟩) (preV_of hC hS hM f0 rfl) rfl rfl hl.1 rfl (lv_room (Nat.le_of_ble_eq_true rfl)) dX5_exposure_2 ⟨Nat.le_of_ble_eq_true rfl, Nat.le_of_ble_eq_true rfl⟩) hS (fun E ce q9 H locs hE hM hS h1 h2 h3 => ?_) (fun r2 u2 H locs hp2 hM hS => ?_)
  · exact r_out ht hlocks hS hM (hE) h1 h2 h3 (Nat.le_of_ble_eq_true rfl) (Nat.le_of_ble_eq_true rfl)
  have hM : Hm G M H := hM
  obtain ⟨e2, b2⟩ := hp2
  subst e2
  have g2 := hw.1 _ _ _ (ct6 (G := G) (S := S) (T := T) (th := th) (o := o) (ex := ex) (ad := ad) (ix_lt 5 b2 (by decide)))
  have g2_7 := hw.1 _ _ _ (ct7 (G := G) (S := S) (T := T) (th := th) (o := o) (ex := ex) (ad := ad) (ix_lt 5 b2 (by decide)))
  have g2_8 := hw.1 _ _ _ (ct8 (G := G) (S := S) (T := T) (th := th) (o := o) (ex := ex) (ad := ad) (ix_lt 5 b2 (by decide)))
  have g2_9 := hw.1 _ _ _ (ct9 (G := G) (S := S) (T := T) (th := th) (o := o) (ex := ex) (ad := ad) (ix_lt 5 b2 (by decide)))
  refine lv_astore_n (lv' := [(2, .ref (ad 6 (n.toNatClampNeg))), (0, .ref (ad 0 0)), (1, .int n)]) hx hb dX5_exposure_5 rfl hl (by decide) rfl (fun ls hl => ?_)
  refine lv_aload_n hx hb dX5_exposure_6 rfl (lv_at hl 1 rfl) ?_
  refine lv_aload_n hx hb dX5_exposure_7 rfl (lv_at hl 0 rfl) ?_
  refine lv_bipush (v := 10) hx hb dX5_exposure_8 (by decide) ?_
  refine k_l (va_runV (As := [.ref (ad 6 (n.toNatClampNeg)), .int 10]) (rest := []) ⟨hx, hb, hml, hown, hts⟩ (c_X5_lossOfAll l G M S T th o ex ad (n.toNatClampNeg) (10 : Int32) hw hi (ix_lt 5 b2 (by decide))) (cwV 2 hts gX5_exposure_X5_lossOfAll rfl rfl rfl (by decide +kernel) ⟨Nat.le_of_ble_eq_true rfl, Nat.le_of_ble_eq_true rfl⟩) (preV_of hC hS hM f0 rfl) rfl rfl hl.1 rfl (lv_room (Nat.le_of_ble_eq_true rfl)) dX5_exposure_10 ⟨Nat.le_of_ble_eq_true rfl, Nat.le_of_ble_eq_true rfl⟩) hS (fun r10 u10 H locs hp10 hM hS => ?_)
  have hM : Hm G M H := hM
  have hp10 : r10 = la S (n.toNatClampNeg) 10 (ndl S) := hp10
  subst hp10
  refine lv_aload_n hx hb dX5_exposure_13 rfl (lv_at hl 1 rfl) ?_
  refine lv_aload_n hx hb dX5_exposure_14 rfl (lv_at hl 0 rfl) ?_
  refine lv_bipush (v := (-10)) hx hb dX5_exposure_15 (by decide) ?_
  refine k_l (va_runV (As := [.ref (ad 6 (n.toNatClampNeg)), .int (-10)]) (rest := [.long (la S (n.toNatClampNeg) 10 (ndl S))]) ⟨hx, hb, hml, hown, hts⟩ (c_X5_lossOfAll l G M S T th o ex ad (n.toNatClampNeg) (-10) hw hi (ix_lt 5 b2 (by decide))) (cwV 2 hts gX5_exposure_X5_lossOfAll rfl rfl rfl (by decide +kernel) ⟨Nat.le_of_ble_eq_true rfl, Nat.le_of_ble_eq_true rfl⟩) (preV_of hC hS hM f0 rfl) rfl rfl hl.1 rfl (lv_room (Nat.le_of_ble_eq_true rfl)) dX5_exposure_17 ⟨Nat.le_of_ble_eq_true rfl, Nat.le_of_ble_eq_true rfl⟩) hS (fun r17 u17 H locs hp17 hM hS => ?_)
  have hM : Hm G M H := hM
  have hp17 : r17 = la S (n.toNatClampNeg) (-10) (ndl S) := hp17
  subst hp17
  refine k_l (va_runS (As := [.long (la S (n.toNatClampNeg) 10 (ndl S)), .long (la S (n.toNatClampNeg) (-10) (ndl S))]) (rest := []) ⟨hx, hb, hml, hown, hts⟩ (c_X5_worseLoss l G M (la S (n.toNatClampNeg) 10 (ndl S)) (la S (n.toNatClampNeg) (-10) (ndl S))) (va_cwS 2 hts gX5_exposure_X5_worseLoss rfl rfl rfl (by decide +kernel) ⟨Nat.le_of_ble_eq_true rfl, Nat.le_of_ble_eq_true rfl⟩) (preS_of hC hS hM) rfl rfl hl.1 rfl (lv_room (Nat.le_of_ble_eq_true rfl)) dX5_exposure_20 ⟨Nat.le_of_ble_eq_true rfl, Nat.le_of_ble_eq_true rfl⟩) hS (fun r20 u20 H locs hp20 hM hS => ?_)
  have hM : Hm G M H := hM
  have hp20 : r20 = wl (la S (n.toNatClampNeg) 10 (ndl S)) (la S (n.toNatClampNeg) (-10) (ndl S)) := hp20
  subst hp20
  exact vx_ret (r_l hx hb hr hlocks hS (v := wl (la S (n.toNatClampNeg) 10 (ndl S)) (la S (n.toNatClampNeg) (-10) (ndl S))) () ⟨b2, rfl⟩ hM (Nat.le_of_ble_eq_true rfl) (Nat.le_of_ble_eq_true rfl) dX5_exposure_23)
set_option maxHeartbeats 4000000 in
set_option maxRecDepth 100000 in
theorem c_X5_exposureWith (l : Launch) (G : Gx) (M : Mp) (S T : Sd) (th : Int32) (o : Int64) (ex : Nat → Option (Nat × Nat)) (ad : Nat → Nat → Nat) (c9 y9 a9 : Nat) (bu lf ag fi la9 : Int32) (hw : WA G S T th o ex ad M) (hi : Iv S) (hc : c9 < 5) (hy : y9 < 4) (ha : M a9 = some (.inr (4, [.ref (ad 6 c9), .ref (ad 4 y9), .int bu, .int lf, .int ag, .int fi, .int la9]))) : Met l yX5_exposureWith wsX5_exposureWith ({ frames := 6, cells := 0, slots := 0, locals := 138 }) (Cv G M [.ref (ad 0 0), .ref (ad 6 c9), .ref a9]) (va_Ql (S := Unit) (fun r _ => r = wl (la S c9 10 (ndl S) + lsx S y9 bu lf ag la9 (10)) (la S c9 (-10) (ndl S) + lsx S y9 bu lf ag la9 (-10))) (Bm G (fun _ => M)) (AG G)) (0) (0) (AG G) := by
  refine m_met [.ref (ad 0 0), .ref (ad 6 c9), .ref a9] [(0, .ref (ad 0 0)), (1, .ref (ad 6 c9)), (2, .ref a9)] (by decide) rfl rfl (Nat.le_of_ble_eq_true rfl) ?_
  intro p e s m below meth c ls hx hb hr hml hown hts hlocks hin hC hM hl hS
  have f0 : M (ad 0 0) = some (.inr (5, [.ref (ad 1 0), .ref (ad 3 0), .ref (ad 5 0), .ref (ad 10 0), .int (S.1 5 0)])) := hw.1 0 0 _ rfl
  have f1 : M (ad 1 0) = some (.inr (1, [.ref (ad 2 0), .int (S.1 0 0)])) := hw.1 1 0 _ rfl
  have f2 : M (ad 2 0) = some (.inl (G.2.1 2, 1001, .inl (S.1 4))) := hw.1 2 0 _ rfl
  have f3 : M (ad 3 0) = some (.inl (G.2.1 3, 4, .inr (.inr (.inr (.inr (crr ad)))))) := hw.1 3 0 _ rfl
  have f5 : M (ad 5 0) = some (.inl (G.2.1 4, 5, .inr (.inr (.inr (.inr (csr ad)))))) := hw.1 5 0 _ rfl
  have f10 : M (ad 10 0) = some (.inl (G.2.1 6, 20, .inr (.inr (.inr (.inr (dlr S ad)))))) := hw.1 10 0 _ rfl
  have gy : M (ad 4 y9) = some (.inr (2, [.int (nI y9), .int (S.1 1 y9), .int (S.1 2 y9)])) := hw.1 4 _ _ (ct4 hy)
  refine lv_aload_n hx hb dX5_exposureWith_0 rfl (lv_at hl 0 rfl) ?_
  refine m_get (ci := 5) (v := .ref (ad 1 0)) (C := RX5) (T := TX5) (N := 5) (a := (ad 0 0)) hx hb hts (by decide +kernel) hown hC hM f0 rfl 0 (by decide) (hts (.fieldLink RX5 12 "Forwardroll" "calendar" "LForwardroll$Calendar;") (by decide +kernel)) (fun _ h9 => h9) rfl dX5_exposureWith_1 ?_
  refine m_getN (host := RX5) (ci := 1) (v := .int (S.1 0 0)) (C := RX1) (T := TX1) (N := 2) (a := (ad 1 0)) hx hb hts (by decide +kernel) hown hC hM f1 rfl 1 (by decide) (hC.w 0 rfl) (fun _ h9 => h9) rfl dX5_exposureWith_4 ?_
  refine lv_istore_n (lv' := [(3, .int (S.1 0 0)), (0, .ref (ad 0 0)), (1, .ref (ad 6 c9)), (2, .ref a9)]) hx hb dX5_exposureWith_7 rfl hl (by decide) rfl (fun ls hl => ?_)
  refine lv_aload_n hx hb dX5_exposureWith_8 rfl (lv_at hl 1 rfl) ?_
  refine lv_aload_n hx hb dX5_exposureWith_9 rfl (lv_at hl 2 rfl) ?_
  refine lv_bipush (v := 10) hx hb dX5_exposureWith_10 (by decide) ?_
  refine k_l (va_runV (As := [.ref (ad 6 c9), .int 10]) (rest := []) ⟨hx, hb, hml, hown, hts⟩ (c_X5_lossOfAll l G M S T th o ex ad c9 (10 : Int32) hw hi hc) (cwV 2 hts gX5_exposureWith_X5_lossOfAll rfl rfl rfl (by decide +kernel) ⟨Nat.le_of_ble_eq_true rfl, Nat.le_of_ble_eq_true rfl⟩) (preV_of hC hS hM f0 rfl) rfl rfl hl.1 rfl (lv_room (Nat.le_of_ble_eq_true rfl)) dX5_exposureWith_12 ⟨Nat.le_of_ble_eq_true rfl, Nat.le_of_ble_eq_true rfl⟩) hS (fun r12 u12 H locs hp12 hM hS => ?_)
  have hM : Hm G M H := hM
  have hp12 : r12 = la S c9 10 (ndl S) := hp12
  subst hp12
  refine lv_aload_n hx hb dX5_exposureWith_15 rfl (lv_at hl 3 rfl) ?_
  refine lv_iload_n hx hb dX5_exposureWith_16 rfl (lv_at hl 0 rfl) ?_
  refine lv_bipush (v := 10) hx hb dX5_exposureWith_17 (by decide) ?_
  refine k_l (va_runV (As := [.int (S.1 0 0), .int 10]) (rest := [.long (la S c9 10 (ndl S))]) ⟨hx, hb, hml, hown, hts⟩ (c_X4_shiftedLoss l G M a9 (ad 6 c9) (ad 4 y9) bu lf ag fi la9 (nI y9) (S.1 1 y9) (S.1 2 y9) (S.1 0 0) 10 ha gy) (cwV 2 hts gX5_exposureWith_X4_shiftedLoss rfl rfl rfl (by decide +kernel) ⟨Nat.le_of_ble_eq_true rfl, Nat.le_of_ble_eq_true rfl⟩) (preV_of hC hS hM ha rfl) rfl rfl hl.1 rfl (lv_room (Nat.le_of_ble_eq_true rfl)) dX5_exposureWith_19 ⟨Nat.le_of_ble_eq_true rfl, Nat.le_of_ble_eq_true rfl⟩) hS (fun r19 u19 H locs hp19 hM hS => ?_)
  have hM : Hm G M H := hM
  have hp19 : r19 = -gn bu lf ag (al1 (al1 ((S.1 1 y9) + (S.1 2 y9) * (la9 - (S.1 0 0))) * (100 + 10) / 100)) := hp19
  subst hp19
  refine lv_ladd hx hb dX5_exposureWith_22 ?_
  refine lv_aload_n hx hb dX5_exposureWith_23 rfl (lv_at hl 1 rfl) ?_
  refine lv_aload_n hx hb dX5_exposureWith_24 rfl (lv_at hl 2 rfl) ?_
  refine lv_bipush (v := (-10)) hx hb dX5_exposureWith_25 (by decide) ?_
  refine k_l (va_runV (As := [.ref (ad 6 c9), .int (-10)]) (rest := [.long ((la S c9 10 (ndl S)) + (-gn bu lf ag (al1 (al1 ((S.1 1 y9) + (S.1 2 y9) * (la9 - (S.1 0 0))) * (100 + 10) / 100))))]) ⟨hx, hb, hml, hown, hts⟩ (c_X5_lossOfAll l G M S T th o ex ad c9 (-10) hw hi hc) (cwV 2 hts gX5_exposureWith_X5_lossOfAll rfl rfl rfl (by decide +kernel) ⟨Nat.le_of_ble_eq_true rfl, Nat.le_of_ble_eq_true rfl⟩) (preV_of hC hS hM f0 rfl) rfl rfl hl.1 rfl (lv_room (Nat.le_of_ble_eq_true rfl)) dX5_exposureWith_27 ⟨Nat.le_of_ble_eq_true rfl, Nat.le_of_ble_eq_true rfl⟩) hS (fun r27 u27 H locs hp27 hM hS => ?_)
  have hM : Hm G M H := hM
  have hp27 : r27 = la S c9 (-10) (ndl S) := hp27
  subst hp27
  refine lv_aload_n hx hb dX5_exposureWith_30 rfl (lv_at hl 3 rfl) ?_
  refine lv_iload_n hx hb dX5_exposureWith_31 rfl (lv_at hl 0 rfl) ?_
  refine lv_bipush (v := (-10)) hx hb dX5_exposureWith_32 (by decide) ?_
  refine k_l (va_runV (As := [.int (S.1 0 0), .int (-10)]) (rest := [.long (la S c9 (-10) (ndl S)), .long ((la S c9 10 (ndl S)) + (-gn bu lf ag (al1 (al1 ((S.1 1 y9) + (S.1 2 y9) * (la9 - (S.1 0 0))) * (100 + 10) / 100))))]) ⟨hx, hb, hml, hown, hts⟩ (c_X4_shiftedLoss l G M a9 (ad 6 c9) (ad 4 y9) bu lf ag fi la9 (nI y9) (S.1 1 y9) (S.1 2 y9) (S.1 0 0) (-10) ha gy) (cwV 2 hts gX5_exposureWith_X4_shiftedLoss rfl rfl rfl (by decide +kernel) ⟨Nat.le_of_ble_eq_true rfl, Nat.le_of_ble_eq_true rfl⟩) (preV_of hC hS hM ha rfl) rfl rfl hl.1 rfl (lv_room (Nat.le_of_ble_eq_true rfl)) dX5_exposureWith_34 ⟨Nat.le_of_ble_eq_true rfl, Nat.le_of_ble_eq_true rfl⟩) hS (fun r34 u34 H locs hp34 hM hS => ?_)
  have hM : Hm G M H := hM
  have hp34 : r34 = -gn bu lf ag (al1 (al1 ((S.1 1 y9) + (S.1 2 y9) * (la9 - (S.1 0 0))) * (100 + (-10)) / 100)) := hp34
  subst hp34
  refine lv_ladd hx hb dX5_exposureWith_37 ?_
  refine k_l (va_runS (As := [.long ((la S c9 10 (ndl S)) + (-gn bu lf ag (al1 (al1 ((S.1 1 y9) + (S.1 2 y9) * (la9 - (S.1 0 0))) * (100 + 10) / 100)))), .long ((la S c9 (-10) (ndl S)) + (-gn bu lf ag (al1 (al1 ((S.1 1 y9) + (S.1 2 y9) * (la9 - (S.1 0 0))) * (100 + (-10)) / 100))))]) (rest := []) ⟨hx, hb, hml, hown, hts⟩ (c_X5_worseLoss l G M ((la S c9 10 (ndl S)) + (-gn bu lf ag (al1 (al1 ((S.1 1 y9) + (S.1 2 y9) * (la9 - (S.1 0 0))) * (100 + 10) / 100)))) ((la S c9 (-10) (ndl S)) + (-gn bu lf ag (al1 (al1 ((S.1 1 y9) + (S.1 2 y9) * (la9 - (S.1 0 0))) * (100 + (-10)) / 100))))) (va_cwS 2 hts gX5_exposureWith_X5_worseLoss rfl rfl rfl (by decide +kernel) ⟨Nat.le_of_ble_eq_true rfl, Nat.le_of_ble_eq_true rfl⟩) (preS_of hC hS hM) rfl rfl hl.1 rfl (lv_room (Nat.le_of_ble_eq_true rfl)) dX5_exposureWith_38 ⟨Nat.le_of_ble_eq_true rfl, Nat.le_of_ble_eq_true rfl⟩) hS (fun r38 u38 H locs hp38 hM hS => ?_)
  have hM : Hm G M H := hM
  have hp38 : r38 = wl ((la S c9 10 (ndl S)) + (-gn bu lf ag (al1 (al1 ((S.1 1 y9) + (S.1 2 y9) * (la9 - (S.1 0 0))) * (100 + 10) / 100)))) ((la S c9 (-10) (ndl S)) + (-gn bu lf ag (al1 (al1 ((S.1 1 y9) + (S.1 2 y9) * (la9 - (S.1 0 0))) * (100 + (-10)) / 100)))) := hp38
  subst hp38
  exact (r_l hx hb hr hlocks hS (v := wl ((la S c9 10 (ndl S)) + (-gn bu lf ag (al1 (al1 ((S.1 1 y9) + (S.1 2 y9) * (la9 - (S.1 0 0))) * (100 + 10) / 100)))) ((la S c9 (-10) (ndl S)) + (-gn bu lf ag (al1 (al1 ((S.1 1 y9) + (S.1 2 y9) * (la9 - (S.1 0 0))) * (100 + (-10)) / 100))))) () rfl hM (Nat.le_of_ble_eq_true rfl) (Nat.le_of_ble_eq_true rfl) dX5_exposureWith_41)
set_option maxHeartbeats 4000000 in
set_option maxRecDepth 100000 in
theorem c_X5_bookGain (l : Launch) (G : Gx) (M : Mp) (S T : Sd) (th : Int32) (o : Int64) (ex : Nat → Option (Nat × Nat)) (ad : Nat → Nat → Nat) (j9 : Nat)  (hw : WA G S T th o ex ad M) (hi : Iv S) (hx9 : Ix S ex) (hj : j9 < ndl S) : Met l yX5_bookGain wsX5_bookGain ({ frames := 5, cells := 2, slots := 6, locals := 108 }) (Cv G M [.ref (ad 0 0), .ref (ad 11 j9)]) (va_Ql (S := Mp) (fun r M2 => r = mg S j9 ∧ ∃ ex2, WA G (bkg S j9) T th o ex2 ad M2 ∧ Ix (bkg S j9) ex2) (Bm G (fun M2 => M2)) (AG G)) (2) (6) (AG G) := by
  refine m_met [.ref (ad 0 0), .ref (ad 11 j9)] [(0, .ref (ad 0 0)), (1, .ref (ad 11 j9))] (by decide) rfl rfl (Nat.le_of_ble_eq_true rfl) ?_
  intro p e s m below meth c ls hx hb hr hml hown hts hlocks hin hC hM hl hS
  have f0 : M (ad 0 0) = some (.inr (5, [.ref (ad 1 0), .ref (ad 3 0), .ref (ad 5 0), .ref (ad 10 0), .int (S.1 5 0)])) := hw.1 0 0 _ rfl
  have f1 : M (ad 1 0) = some (.inr (1, [.ref (ad 2 0), .int (S.1 0 0)])) := hw.1 1 0 _ rfl
  have f2 : M (ad 2 0) = some (.inl (G.2.1 2, 1001, .inl (S.1 4))) := hw.1 2 0 _ rfl
  have f3 : M (ad 3 0) = some (.inl (G.2.1 3, 4, .inr (.inr (.inr (.inr (crr ad)))))) := hw.1 3 0 _ rfl
  have f5 : M (ad 5 0) = some (.inl (G.2.1 4, 5, .inr (.inr (.inr (.inr (csr ad)))))) := hw.1 5 0 _ rfl
  have f10 : M (ad 10 0) = some (.inl (G.2.1 6, 20, .inr (.inr (.inr (.inr (dlr S ad)))))) := hw.1 10 0 _ rfl
  have gd : M (ad 11 j9) = some (.inr (4, [.ref (ad 6 (cus S j9)), .ref (ad 4 (cuy S j9)), .int (S.1 8 j9), .int (S.1 9 j9), .int (S.1 10 j9), .int (S.1 11 j9), .int (S.1 12 j9)])) := hw.1 11 _ _ (ct11 hj)
  have gy : M (ad 4 (cuy S j9)) = some (.inr (2, [.int (nI (cuy S j9)), .int (S.1 1 (cuy S j9)), .int (S.1 2 (cuy S j9))])) := hw.1 4 _ _ (ct4 (hi.cy hj))
  have gc6 : M (ad 6 (cus S j9)) = some (.inr (3, [.int (S.1 3 (cus S j9)), .ref (ad 7 (cus S j9)), .ref (ad 8 (cus S j9))])) := hw.1 6 _ _ (ct6 (hi.cu hj))
  have gc7 : M (ad 7 (cus S j9)) = some (.inl (G.2.1 5, 1002, .inr (.inr (.inr (.inr (ntr ex ad (cus S j9))))))) := hw.1 7 _ _ (ct7 (hi.cu hj))
  refine lv_aload_n hx hb dX5_bookGain_0 rfl (lv_at hl 1 rfl) ?_
  refine lv_aload_n hx hb dX5_bookGain_1 rfl (lv_at hl 0 rfl) ?_
  refine m_get (ci := 5) (v := .ref (ad 1 0)) (C := RX5) (T := TX5) (N := 5) (a := (ad 0 0)) hx hb hts (by decide +kernel) hown hC hM f0 rfl 0 (by decide) (hts (.fieldLink RX5 12 "Forwardroll" "calendar" "LForwardroll$Calendar;") (by decide +kernel)) (fun _ h9 => h9) rfl dX5_bookGain_2 ?_
  refine m_getN (host := RX5) (ci := 1) (v := .int (S.1 0 0)) (C := RX1) (T := TX1) (N := 2) (a := (ad 1 0)) hx hb hts (by decide +kernel) hown hC hM f1 rfl 1 (by decide) (hC.w 0 rfl) (fun _ h9 => h9) rfl dX5_bookGain_5 ?_
  refine k_l (va_runV (As := [.int (S.1 0 0)]) (rest := []) ⟨hx, hb, hml, hown, hts⟩ (c_X4_marketGain l G M (ad 11 j9) (ad 6 (cus S j9)) (ad 4 (cuy S j9)) (S.1 8 j9) (S.1 9 j9) (S.1 10 j9) (S.1 11 j9) (S.1 12 j9) (nI (cuy S j9)) (S.1 1 (cuy S j9)) (S.1 2 (cuy S j9)) (S.1 0 0) gd gy) (cwV 1 hts gX5_bookGain_X4_marketGain rfl rfl rfl (by decide +kernel) ⟨Nat.le_of_ble_eq_true rfl, Nat.le_of_ble_eq_true rfl⟩) (preV_of hC hS hM gd rfl) rfl rfl hl.1 rfl (lv_room (Nat.le_of_ble_eq_true rfl)) dX5_bookGain_8 ⟨Nat.le_of_ble_eq_true rfl, Nat.le_of_ble_eq_true rfl⟩) hS (fun r8 u8 H locs hp8 hM hS => ?_)
  have hM : Hm G M H := hM
  have hp8 : r8 = gn (S.1 8 j9) (S.1 9 j9) (S.1 10 j9) (al1 ((S.1 1 (cuy S j9)) + (S.1 2 (cuy S j9)) * ((S.1 12 j9) - (S.1 0 0)))) := hp8
  subst hp8
  refine lv_lstore_n (lv' := [(2, .long (gn (S.1 8 j9) (S.1 9 j9) (S.1 10 j9) (al1 ((S.1 1 (cuy S j9)) + (S.1 2 (cuy S j9)) * ((S.1 12 j9) - (S.1 0 0)))))), (0, .ref (ad 0 0)), (1, .ref (ad 11 j9))]) hx hb dX5_bookGain_11 rfl hl (by decide) rfl (fun ls hl => ?_)
  refine lv_aload_n hx hb dX5_bookGain_12 rfl (lv_at hl 2 rfl) ?_
  refine m_getN (host := RX5) (ci := 4) (v := .ref (ad 6 (cus S j9))) (C := RX4) (T := TX4) (N := 7) (a := (ad 11 j9)) hx hb hts (by decide +kernel) hown hC hM gd rfl 0 (by decide) (hC.w 6 rfl) (fun _ h9 => h9) rfl dX5_bookGain_13 ?_
  refine lv_iconst (v := 4) hx hb dX5_bookGain_16 (by decide) ?_
  refine lv_aload_n hx hb dX5_bookGain_17 rfl (lv_at hl 1 rfl) ?_
  refine m_get (ci := 5) (v := .ref (ad 1 0)) (C := RX5) (T := TX5) (N := 5) (a := (ad 0 0)) hx hb hts (by decide +kernel) hown hC hM f0 rfl 0 (by decide) (hts (.fieldLink RX5 12 "Forwardroll" "calendar" "LForwardroll$Calendar;") (by decide +kernel)) (fun _ h9 => h9) rfl dX5_bookGain_18 ?_
  refine k_i (va_runV (As := []) (rest := [.int 4, .ref (ad 6 (cus S j9))]) ⟨hx, hb, hml, hown, hts⟩ (c_X1_nextBusinessDay l G M (ad 1 0) (ad 2 0) (S.1 4) (S.1 0 0) f1 f2 (hto_of hi)) (cwV 0 hts gX5_bookGain_X1_nextBusinessDay rfl rfl rfl (by decide +kernel) ⟨Nat.le_of_ble_eq_true rfl, Nat.le_of_ble_eq_true rfl⟩) (preV_of hC hS hM f1 rfl) rfl rfl hl.1 rfl (lv_room (Nat.le_of_ble_eq_true rfl)) dX5_bookGain_21 ⟨Nat.le_of_ble_eq_true rfl, Nat.le_of_ble_eq_true rfl⟩) hS (fun r21 u21 H locs hp21 hM hS => ?_)
  have hM : Hm G M H := hM
  have hp21 : r21 = nbd (S.1 4) 1002 ((S.1 0 0) + 1) := hp21
  subst hp21
  refine lv_lload_n hx hb dX5_bookGain_24 rfl (lv_at hl 0 rfl) ?_
  refine k_v (va_runV (As := [.int 4, .int (nbd (S.1 4) 1002 ((S.1 0 0) + 1)), .long (gn (S.1 8 j9) (S.1 9 j9) (S.1 10 j9) (al1 ((S.1 1 (cuy S j9)) + (S.1 2 (cuy S j9)) * ((S.1 12 j9) - (S.1 0 0)))))]) (rest := []) ⟨hx, hb, hml, hown, hts⟩ (c_X3_book l G M (ad 6 (cus S j9)) (S.1 3 (cus S j9)) (ad 7 (cus S j9)) (ad 8 (cus S j9)) (ntr ex ad (cus S j9)) 4 (nbd (S.1 4) 1002 ((S.1 0 0) + 1)) (gn (S.1 8 j9) (S.1 9 j9) (S.1 10 j9) (al1 ((S.1 1 (cuy S j9)) + (S.1 2 (cuy S j9)) * ((S.1 12 j9) - (S.1 0 0))))) (adr ex ad 13 (5 * sn S + (cus S j9))) (rw5 (S.2 0) (5 * sn S + (cus S j9))) gc6 gc7 (row_of hw (c := (cus S j9)) (d := sn S)) (vin_of (n := 5) 5 (by decide) (by decide)) (sd_in hi)) (cwV 3 hts gX5_bookGain_X3_book rfl rfl rfl (by decide +kernel) ⟨Nat.le_of_ble_eq_true rfl, Nat.le_of_ble_eq_true rfl⟩) (preV_of hC hS hM gc6 rfl) rfl rfl hl.1 rfl (lv_room (Nat.le_of_ble_eq_true rfl)) dX5_bookGain_25 ⟨Nat.le_of_ble_eq_true rfl, Nat.le_of_ble_eq_true rfl⟩) hS (fun u25 H locs hp25 hM hS => ?_)
  obtain ⟨ex1, hw1, hx1⟩ := w_book (c := (cus S j9)) (k := 4) (d := sn S) hw hx9 (hi.cu hj) (by decide) (sn_lt hi) (gn (S.1 8 j9) (S.1 9 j9) (S.1 10 j9) (al1 ((S.1 1 (cuy S j9)) + (S.1 2 (cuy S j9)) * ((S.1 12 j9) - (S.1 0 0))))) u25 hp25
  obtain ⟨M1, eM1⟩ : ∃ z, z = bkM G M (ntr ex ad (cus S j9)) (ad 7 (cus S j9)) (sn S) 4 (gn (S.1 8 j9) (S.1 9 j9) (S.1 10 j9) (al1 ((S.1 1 (cuy S j9)) + (S.1 2 (cuy S j9)) * ((S.1 12 j9) - (S.1 0 0))))) (adr ex ad 13 (5 * sn S + (cus S j9))) (rw5 (S.2 0) (5 * sn S + (cus S j9))) u25 := ⟨_, rfl⟩
  rw [← eM1] at hw1
  have hM : Hm G M1 H := by rw [eM1]; exact hM
  have f0_1 : M1 (ad 0 0) = some (.inr (5, [.ref (ad 1 0), .ref (ad 3 0), .ref (ad 5 0), .ref (ad 10 0), .int (S.1 5 0)])) := hw1.1 0 0 _ rfl
  have f1_1 : M1 (ad 1 0) = some (.inr (1, [.ref (ad 2 0), .int (S.1 0 0)])) := hw1.1 1 0 _ rfl
  have f2_1 : M1 (ad 2 0) = some (.inl (G.2.1 2, 1001, .inl (S.1 4))) := hw1.1 2 0 _ rfl
  have f3_1 : M1 (ad 3 0) = some (.inl (G.2.1 3, 4, .inr (.inr (.inr (.inr (crr ad)))))) := hw1.1 3 0 _ rfl
  have f5_1 : M1 (ad 5 0) = some (.inl (G.2.1 4, 5, .inr (.inr (.inr (.inr (csr ad)))))) := hw1.1 5 0 _ rfl
  have f10_1 : M1 (ad 10 0) = some (.inl (G.2.1 6, 20, .inr (.inr (.inr (.inr (dlr S ad)))))) := hw1.1 10 0 _ rfl
  have gd2 : M1 (ad 11 j9) = some (.inr (4, [.ref (ad 6 (cus S j9)), .ref (ad 4 (cuy S j9)), .int (S.1 8 j9), .int (S.1 9 j9), .int (S.1 10 j9), .int (S.1 11 j9), .int (S.1 12 j9)])) := hw1.1 11 _ _ (ct11 hj)
  have gy2 : M1 (ad 4 (cuy S j9)) = some (.inr (2, [.int (nI (cuy S j9)), .int (S.1 1 (cuy S j9)), .int (S.1 2 (cuy S j9))])) := hw1.1 4 _ _ (ct4 (hi.cy hj))
  have gc3_6 : M1 (ad 6 (cus S j9)) = some (.inr (3, [.int (S.1 3 (cus S j9)), .ref (ad 7 (cus S j9)), .ref (ad 8 (cus S j9))])) := hw1.1 6 _ _ (ct6 (hi.cu hj))
  have gc3_7 : M1 (ad 7 (cus S j9)) = some (.inl (G.2.1 5, 1002, .inr (.inr (.inr (.inr (ntr ex1 ad (cus S j9))))))) := hw1.1 7 _ _ (ct7 (hi.cu hj))
  refine lv_lload_n hx hb dX5_bookGain_28 rfl (lv_at hl 0 rfl) ?_
  exact (r_l hx hb hr hlocks hS (v := gn (S.1 8 j9) (S.1 9 j9) (S.1 10 j9) (al1 ((S.1 1 (cuy S j9)) + (S.1 2 (cuy S j9)) * ((S.1 12 j9) - (S.1 0 0))))) _ ⟨rfl, ex1, hw1, hx1⟩ hM (Nat.le_of_ble_eq_true rfl) (Nat.le_of_ble_eq_true rfl) dX5_bookGain_29)
set_option maxHeartbeats 4000000 in
set_option maxRecDepth 100000 in
theorem c_X5_closeOut {l : Launch} (hnt : l.stackTraces = false) (l' : Launch) (G : Gx) (M : Mp) (S T : Sd) (th : Int32) (o : Int64) (ex : Nat → Option (Nat × Nat)) (ad : Nat → Nat → Nat) (n : Int32)  (hw : WA G S T th o ex ad M) (hi : Iv S) (hx9 : Ix S ex) : vx_Met l yX5_closeOut wsX5_closeOut ({ frames := 7, cells := 4, slots := 18, locals := 131 }) (Cv G M [.ref (ad 0 0), .int n]) (va_Ql (S := Mp) (fun r M2 => (0 ≤ n ∧ n.toNatClampNeg < ndl S) ∧ ¬ S.1 9 n.toNatClampNeg = 0 ∧ r = mg S n.toNatClampNeg ∧ ∃ ex2, WA G (edS S n.toNatClampNeg) T th o ex2 ad M2 ∧ Ix (edS S n.toNatClampNeg) ex2) (Bm G (fun M2 => M2)) (AG G)) (Xq G M (fun E => (E = IO ∧ ¬ (0 ≤ n ∧ n.toNatClampNeg < ndl S)) ∨ (E = IS ∧ (0 ≤ n ∧ n.toNatClampNeg < ndl S) ∧ S.1 9 n.toNatClampNeg = 0))) (4) (18) (AG G) := by
  refine m_metx [.ref (ad 0 0), .int n] [(0, .ref (ad 0 0)), (1, .int n)] (by decide) rfl rfl (Nat.le_of_ble_eq_true rfl) ?_
  intro p e s m below meth c ls hx hb hr hml hown hts hlocks hin ht hC hM hl hS
  have f0 : M (ad 0 0) = some (.inr (5, [.ref (ad 1 0), .ref (ad 3 0), .ref (ad 5 0), .ref (ad 10 0), .int (S.1 5 0)])) := hw.1 0 0 _ rfl
  have f1 : M (ad 1 0) = some (.inr (1, [.ref (ad 2 0), .int (S.1 0 0)])) := hw.1 1 0 _ rfl
  have f2 : M (ad 2 0) = some (.inl (G.2.1 2, 1001, .inl (S.1 4))) := hw.1 2 0 _ rfl
  have f3 : M (ad 3 0) = some (.inl (G.2.1 3, 4, .inr (.inr (.inr (.inr (crr ad)))))) := hw.1 3 0 _ rfl
  have f5 : M (ad 5 0) = some (.inl (G.2.1 4, 5, .inr (.inr (.inr (.inr (csr ad)))))) := hw.1 5 0 _ rfl
  have f10 : M (ad 10 0) = some (.inl (G.2.1 6, 20, .inr (.inr (.inr (.inr (dlr S ad)))))) := hw.1 10 0 _ rfl
  refine lv_aload_n hx hb dX5_closeOut_0 rfl (lv_at hl 0 rfl) ?_
  refine lv_iload_n hx hb dX5_closeOut_1 rfl (lv_at hl 1 rfl) ?_
  refine kx_q (vx_runV (As := [.int n]) (rest := []) ⟨hx, hb, hml, hown, hts⟩ (c_X5_dealNumbered hnt l G M S T th o ex ad n hw hi) (cwV 1 hts gX5_closeOut_X5_dealNumbered rfl rfl rfl (by decide +kernel) ⟨Nat.le_of_ble_eq_true rfl, Nat.le_of_ble_eq_true rfl⟩) (preV_of hC hS hM f0 rfl) rfl rfl hl.1 rfl (lv_room (Nat.le_of_ble_eq_true rfl)) dX5_closeOut_2 ⟨Nat.le_of_ble_eq_true rfl, Nat.le_of_ble_eq_true rfl⟩) hS (fun E ce q9 H locs hE hM hS h1 h2 h3 => ?_) (fun r2 u2 H locs hp2 hM hS => ?_)
  · exact r_out ht hlocks hS hM (Or.inl hE) h1 h2 h3 (Nat.le_of_ble_eq_true rfl) (Nat.le_of_ble_eq_true rfl)
  have hM : Hm G M H := hM
  obtain ⟨e2, b2⟩ := hp2
  subst e2
  have g2 := hw.1 _ _ _ (ct11 (G := G) (S := S) (T := T) (th := th) (o := o) (ex := ex) (ad := ad) b2.2)
  have y2 := hw.1 _ _ _ (ct4 (G := G) (S := S) (T := T) (th := th) (o := o) (ex := ex) (ad := ad) (hi.cy b2.2))
  have gc1_6 : M (ad 6 (cus S (n.toNatClampNeg))) = some (.inr (3, [.int (S.1 3 (cus S (n.toNatClampNeg))), .ref (ad 7 (cus S (n.toNatClampNeg))), .ref (ad 8 (cus S (n.toNatClampNeg)))])) := hw.1 6 _ _ (ct6 (hi.cu b2.2))
  have gc1_7 : M (ad 7 (cus S (n.toNatClampNeg))) = some (.inl (G.2.1 5, 1002, .inr (.inr (.inr (.inr (ntr ex ad (cus S (n.toNatClampNeg)))))))) := hw.1 7 _ _ (ct7 (hi.cu b2.2))
  refine lv_astore_n (lv' := [(2, .ref (ad 11 (n.toNatClampNeg))), (0, .ref (ad 0 0)), (1, .int n)]) hx hb dX5_closeOut_5 rfl hl (by decide) rfl (fun ls hl => ?_)
  refine lv_aload_n hx hb dX5_closeOut_6 rfl (lv_at hl 0 rfl) ?_
  refine kx_v (vx_runS (As := [.ref (ad 11 (n.toNatClampNeg))]) (rest := []) ⟨hx, hb, hml, hown, hts⟩ (c_X5_requireLeft hnt l G M (ad 11 (n.toNatClampNeg)) (ad 6 (cus S (n.toNatClampNeg))) (ad 4 (cuy S (n.toNatClampNeg))) (S.1 8 (n.toNatClampNeg)) (S.1 9 (n.toNatClampNeg)) (S.1 10 (n.toNatClampNeg)) (S.1 11 (n.toNatClampNeg)) (S.1 12 (n.toNatClampNeg)) g2) (va_cwS 1 hts gX5_closeOut_X5_requireLeft rfl rfl rfl (by decide +kernel) ⟨Nat.le_of_ble_eq_true rfl, Nat.le_of_ble_eq_true rfl⟩) (preS_of hC hS hM) rfl rfl hl.1 rfl (lv_room (Nat.le_of_ble_eq_true rfl)) dX5_closeOut_7 ⟨Nat.le_of_ble_eq_true rfl, Nat.le_of_ble_eq_true rfl⟩) hS (fun E ce q9 H locs hE hM hS h1 h2 h3 => ?_) (fun u7 H locs hp7 hM hS => ?_)
  · exact r_out ht hlocks hS hM (Or.inr ⟨hE.1, b2, hE.2⟩) h1 h2 h3 (Nat.le_of_ble_eq_true rfl) (Nat.le_of_ble_eq_true rfl)
  have hM : Hm G M H := hM
  refine lv_aload_n hx hb dX5_closeOut_10 rfl (lv_at hl 1 rfl) ?_
  refine lv_aload_n hx hb dX5_closeOut_11 rfl (lv_at hl 0 rfl) ?_
  refine k_l (va_runV (As := [.ref (ad 11 (n.toNatClampNeg))]) (rest := []) ⟨hx, hb, hml, hown, hts⟩ (c_X5_bookGain l G M S T th o ex ad (n.toNatClampNeg) hw hi hx9 b2.2) (cwV 1 hts gX5_closeOut_X5_bookGain rfl rfl rfl (by decide +kernel) ⟨Nat.le_of_ble_eq_true rfl, Nat.le_of_ble_eq_true rfl⟩) (preV_of hC hS hM f0 rfl) rfl rfl hl.1 rfl (lv_room (Nat.le_of_ble_eq_true rfl)) dX5_closeOut_12 ⟨Nat.le_of_ble_eq_true rfl, Nat.le_of_ble_eq_true rfl⟩) hS (fun r12 u12 H locs hp12 hM hS => ?_)
  obtain ⟨er12, ex1, hw1, hx1⟩ := hp12
  subst er12
  have hM : Hm G u12 H := hM
  have f0_2 : u12 (ad 0 0) = some (.inr (5, [.ref (ad 1 0), .ref (ad 3 0), .ref (ad 5 0), .ref (ad 10 0), .int (S.1 5 0)])) := hw1.1 0 0 _ rfl
  have f1_2 : u12 (ad 1 0) = some (.inr (1, [.ref (ad 2 0), .int (S.1 0 0)])) := hw1.1 1 0 _ rfl
  have f2_2 : u12 (ad 2 0) = some (.inl (G.2.1 2, 1001, .inl (S.1 4))) := hw1.1 2 0 _ rfl
  have f3_2 : u12 (ad 3 0) = some (.inl (G.2.1 3, 4, .inr (.inr (.inr (.inr (crr ad)))))) := hw1.1 3 0 _ rfl
  have f5_2 : u12 (ad 5 0) = some (.inl (G.2.1 4, 5, .inr (.inr (.inr (.inr (csr ad)))))) := hw1.1 5 0 _ rfl
  have f10_2 : u12 (ad 10 0) = some (.inl (G.2.1 6, 20, .inr (.inr (.inr (.inr (dlr S ad)))))) := hw1.1 10 0 _ rfl
  have gd3 : u12 (ad 11 (n.toNatClampNeg)) = some (.inr (4, [.ref (ad 6 (cus S (n.toNatClampNeg))), .ref (ad 4 (cuy S (n.toNatClampNeg))), .int (S.1 8 (n.toNatClampNeg)), .int (S.1 9 (n.toNatClampNeg)), .int (S.1 10 (n.toNatClampNeg)), .int (S.1 11 (n.toNatClampNeg)), .int (S.1 12 (n.toNatClampNeg))])) := hw1.1 11 _ _ (ct11 b2.2)
  have gy3 : u12 (ad 4 (cuy S (n.toNatClampNeg))) = some (.inr (2, [.int (nI (cuy S (n.toNatClampNeg))), .int (S.1 1 (cuy S (n.toNatClampNeg))), .int (S.1 2 (cuy S (n.toNatClampNeg)))])) := hw1.1 4 _ _ (ct4 (hi.cy b2.2))
  refine lv_lstore_n (lv' := [(3, .long (mg S (n.toNatClampNeg))), (2, .ref (ad 11 (n.toNatClampNeg))), (0, .ref (ad 0 0)), (1, .int n)]) hx hb dX5_closeOut_15 rfl hl (by decide) rfl (fun ls hl => ?_)
  refine lv_aload_n hx hb dX5_closeOut_16 rfl (lv_at hl 1 rfl) ?_
  refine lv_iconst (v := 0) hx hb dX5_closeOut_17 (by decide) ?_
  refine m_putN (host := RX5) (ci := 4) (v := .int 0) (ty := .int) (C := RX4) (T := TX4) (N := 7) (a := (ad 11 (n.toNatClampNeg))) hx hb hts (by decide +kernel) tyX4 tyX4_ok nmX4 hown hC hM hS gd3 rfl 3 (by decide) (hC.w 9 rfl) (fun _ h9 => h9) rfl (by decide +kernel) rfl rfl (Nat.le_of_ble_eq_true rfl) dX5_closeOut_18 (fun H locs hM hS => ?_)
  have hM : Hm G (va_up u12 (ad 11 (n.toNatClampNeg)) (some (.inr (4, [.ref (ad 6 (cus S (n.toNatClampNeg))), .ref (ad 4 (cuy S (n.toNatClampNeg))), .int (S.1 8 (n.toNatClampNeg)), .int 0, .int (S.1 10 (n.toNatClampNeg)), .int (S.1 11 (n.toNatClampNeg)), .int (S.1 12 (n.toNatClampNeg))])))) H := hM
  have f18_5 : (va_up u12 (ad 11 (n.toNatClampNeg)) (some (.inr (4, [.ref (ad 6 (cus S (n.toNatClampNeg))), .ref (ad 4 (cuy S (n.toNatClampNeg))), .int (S.1 8 (n.toNatClampNeg)), .int 0, .int (S.1 10 (n.toNatClampNeg)), .int (S.1 11 (n.toNatClampNeg)), .int (S.1 12 (n.toNatClampNeg))])))) (ad 0 0) = some (.inr (5, [.ref (ad 1 0), .ref (ad 3 0), .ref (ad 5 0), .ref (ad 10 0), .int (S.1 5 0)])) := (up_ne (fun h9 => absurd (Eq.trans (Eq.trans (Eq.symm f0_2) (congrArg u12 h9)) gd3) (by simp))).trans f0_2
  have f18_6 : (va_up u12 (ad 11 (n.toNatClampNeg)) (some (.inr (4, [.ref (ad 6 (cus S (n.toNatClampNeg))), .ref (ad 4 (cuy S (n.toNatClampNeg))), .int (S.1 8 (n.toNatClampNeg)), .int 0, .int (S.1 10 (n.toNatClampNeg)), .int (S.1 11 (n.toNatClampNeg)), .int (S.1 12 (n.toNatClampNeg))])))) (ad 1 0) = some (.inr (1, [.ref (ad 2 0), .int (S.1 0 0)])) := (up_ne (fun h9 => absurd (Eq.trans (Eq.trans (Eq.symm f1_2) (congrArg u12 h9)) gd3) (by simp))).trans f1_2
  have f18_7 : (va_up u12 (ad 11 (n.toNatClampNeg)) (some (.inr (4, [.ref (ad 6 (cus S (n.toNatClampNeg))), .ref (ad 4 (cuy S (n.toNatClampNeg))), .int (S.1 8 (n.toNatClampNeg)), .int 0, .int (S.1 10 (n.toNatClampNeg)), .int (S.1 11 (n.toNatClampNeg)), .int (S.1 12 (n.toNatClampNeg))])))) (ad 2 0) = some (.inl (G.2.1 2, 1001, .inl (S.1 4))) := (up_ne (fun h9 => absurd (Eq.trans (Eq.trans (Eq.symm f2_2) (congrArg u12 h9)) gd3) (by simp))).trans f2_2
  have f18_8 : (va_up u12 (ad 11 (n.toNatClampNeg)) (some (.inr (4, [.ref (ad 6 (cus S (n.toNatClampNeg))), .ref (ad 4 (cuy S (n.toNatClampNeg))), .int (S.1 8 (n.toNatClampNeg)), .int 0, .int (S.1 10 (n.toNatClampNeg)), .int (S.1 11 (n.toNatClampNeg)), .int (S.1 12 (n.toNatClampNeg))])))) (ad 3 0) = some (.inl (G.2.1 3, 4, .inr (.inr (.inr (.inr (crr ad)))))) := (up_ne (fun h9 => absurd (Eq.trans (Eq.trans (Eq.symm f3_2) (congrArg u12 h9)) gd3) (by simp))).trans f3_2
  have f18_9 : (va_up u12 (ad 11 (n.toNatClampNeg)) (some (.inr (4, [.ref (ad 6 (cus S (n.toNatClampNeg))), .ref (ad 4 (cuy S (n.toNatClampNeg))), .int (S.1 8 (n.toNatClampNeg)), .int 0, .int (S.1 10 (n.toNatClampNeg)), .int (S.1 11 (n.toNatClampNeg)), .int (S.1 12 (n.toNatClampNeg))])))) (ad 5 0) = some (.inl (G.2.1 4, 5, .inr (.inr (.inr (.inr (csr ad)))))) := (up_ne (fun h9 => absurd (Eq.trans (Eq.trans (Eq.symm f5_2) (congrArg u12 h9)) gd3) (by simp))).trans f5_2
  have f18_10 : (va_up u12 (ad 11 (n.toNatClampNeg)) (some (.inr (4, [.ref (ad 6 (cus S (n.toNatClampNeg))), .ref (ad 4 (cuy S (n.toNatClampNeg))), .int (S.1 8 (n.toNatClampNeg)), .int 0, .int (S.1 10 (n.toNatClampNeg)), .int (S.1 11 (n.toNatClampNeg)), .int (S.1 12 (n.toNatClampNeg))])))) (ad 10 0) = some (.inl (G.2.1 6, 20, .inr (.inr (.inr (.inr (dlr S ad)))))) := (up_ne (fun h9 => absurd (Eq.trans (Eq.trans (Eq.symm f10_2) (congrArg u12 h9)) gd3) (by simp))).trans f10_2
  have f18_11 : (va_up u12 (ad 11 (n.toNatClampNeg)) (some (.inr (4, [.ref (ad 6 (cus S (n.toNatClampNeg))), .ref (ad 4 (cuy S (n.toNatClampNeg))), .int (S.1 8 (n.toNatClampNeg)), .int 0, .int (S.1 10 (n.toNatClampNeg)), .int (S.1 11 (n.toNatClampNeg)), .int (S.1 12 (n.toNatClampNeg))])))) (ad 11 (n.toNatClampNeg)) = some (.inr (4, [.ref (ad 6 (cus S (n.toNatClampNeg))), .ref (ad 4 (cuy S (n.toNatClampNeg))), .int (S.1 8 (n.toNatClampNeg)), .int 0, .int (S.1 10 (n.toNatClampNeg)), .int (S.1 11 (n.toNatClampNeg)), .int (S.1 12 (n.toNatClampNeg))])) := up_eq
  have f18_12 : (va_up u12 (ad 11 (n.toNatClampNeg)) (some (.inr (4, [.ref (ad 6 (cus S (n.toNatClampNeg))), .ref (ad 4 (cuy S (n.toNatClampNeg))), .int (S.1 8 (n.toNatClampNeg)), .int 0, .int (S.1 10 (n.toNatClampNeg)), .int (S.1 11 (n.toNatClampNeg)), .int (S.1 12 (n.toNatClampNeg))])))) (ad 4 (cuy S (n.toNatClampNeg))) = some (.inr (2, [.int (nI (cuy S (n.toNatClampNeg))), .int (S.1 1 (cuy S (n.toNatClampNeg))), .int (S.1 2 (cuy S (n.toNatClampNeg)))])) := (up_ne (fun h9 => absurd (Eq.trans (Eq.trans (Eq.symm gy3) (congrArg u12 h9)) gd3) (by simp))).trans gy3
  refine lv_lload_n hx hb dX5_closeOut_21 rfl (lv_at hl 0 rfl) ?_
  exact vx_ret (r_l hx hb hr hlocks hS (v := (mg S (n.toNatClampNeg))) _ ⟨b2, hp7, rfl, ex1, w_left hw1 b2.2 0, hx1⟩ hM (Nat.le_of_ble_eq_true rfl) (Nat.le_of_ble_eq_true rfl) dX5_closeOut_22)
set_option maxHeartbeats 4000000 in
set_option maxRecDepth 100000 in
theorem c_X5_draw {l : Launch} (hnt : l.stackTraces = false) (l' : Launch) (G : Gx) (M : Mp) (S T : Sd) (th : Int32) (o : Int64) (ex : Nat → Option (Nat × Nat)) (ad : Nat → Nat → Nat) (n : Int32) (x : Int32) (hw : WA G S T th o ex ad M) (hi : Iv S) (hx9 : Ix S ex) : vx_Met l yX5_draw wsX5_draw ({ frames := 7, cells := 6, slots := 24, locals := 112 }) (Cv G M [.ref (ad 0 0), .int n, .int x]) (va_Qi (S := Mp) (fun r M2 => (0 ≤ n ∧ n.toNatClampNeg < ndl S) ∧ (1 ≤ x ∧ x ≤ S.1 9 n.toNatClampNeg) ∧ r = drt S n.toNatClampNeg ∧ ∃ ex2, WA G (dr3 S n.toNatClampNeg x) T th o ex2 ad M2 ∧ Ix (dr3 S n.toNatClampNeg x) ex2) (Bm G (fun M2 => M2)) (AG G)) (Xq G M (fun E => (E = IO ∧ ¬ (0 ≤ n ∧ n.toNatClampNeg < ndl S)) ∨ (E = IA ∧ (0 ≤ n ∧ n.toNatClampNeg < ndl S) ∧ ¬ (1 ≤ x ∧ x ≤ S.1 9 n.toNatClampNeg)))) (6) (24) (AG G) := by
  refine m_metx [.ref (ad 0 0), .int n, .int x] [(0, .ref (ad 0 0)), (1, .int n), (2, .int x)] (by decide) rfl rfl (Nat.le_of_ble_eq_true rfl) ?_
  intro p e s m below meth c ls hx hb hr hml hown hts hlocks hin ht hC hM hl hS
  have f0 : M (ad 0 0) = some (.inr (5, [.ref (ad 1 0), .ref (ad 3 0), .ref (ad 5 0), .ref (ad 10 0), .int (S.1 5 0)])) := hw.1 0 0 _ rfl
  have f1 : M (ad 1 0) = some (.inr (1, [.ref (ad 2 0), .int (S.1 0 0)])) := hw.1 1 0 _ rfl
  have f2 : M (ad 2 0) = some (.inl (G.2.1 2, 1001, .inl (S.1 4))) := hw.1 2 0 _ rfl
  have f3 : M (ad 3 0) = some (.inl (G.2.1 3, 4, .inr (.inr (.inr (.inr (crr ad)))))) := hw.1 3 0 _ rfl
  have f5 : M (ad 5 0) = some (.inl (G.2.1 4, 5, .inr (.inr (.inr (.inr (csr ad)))))) := hw.1 5 0 _ rfl
  have f10 : M (ad 10 0) = some (.inl (G.2.1 6, 20, .inr (.inr (.inr (.inr (dlr S ad)))))) := hw.1 10 0 _ rfl
  refine lv_aload_n hx hb dX5_draw_0 rfl (lv_at hl 0 rfl) ?_
  refine lv_iload_n hx hb dX5_draw_1 rfl (lv_at hl 1 rfl) ?_
  refine kx_q (vx_runV (As := [.int n]) (rest := []) ⟨hx, hb, hml, hown, hts⟩ (c_X5_dealNumbered hnt l G M S T th o ex ad n hw hi) (cwV 1 hts gX5_draw_X5_dealNumbered rfl rfl rfl (by decide +kernel) ⟨Nat.le_of_ble_eq_true rfl, Nat.le_of_ble_eq_true rfl⟩) (preV_of hC hS hM f0 rfl) rfl rfl hl.1 rfl (lv_room (Nat.le_of_ble_eq_true rfl)) dX5_draw_2 ⟨Nat.le_of_ble_eq_true rfl, Nat.le_of_ble_eq_true rfl⟩) hS (fun E ce q9 H locs hE hM hS h1 h2 h3 => ?_) (fun r2 u2 H locs hp2 hM hS => ?_)
  · exact r_out ht hlocks hS hM (Or.inl hE) h1 h2 h3 (Nat.le_of_ble_eq_true rfl) (Nat.le_of_ble_eq_true rfl)
  have hM : Hm G M H := hM
  obtain ⟨e2, b2⟩ := hp2
  subst e2
  have g2 := hw.1 _ _ _ (ct11 (G := G) (S := S) (T := T) (th := th) (o := o) (ex := ex) (ad := ad) b2.2)
  have y2 := hw.1 _ _ _ (ct4 (G := G) (S := S) (T := T) (th := th) (o := o) (ex := ex) (ad := ad) (hi.cy b2.2))
  have gc1_6 : M (ad 6 (cus S (n.toNatClampNeg))) = some (.inr (3, [.int (S.1 3 (cus S (n.toNatClampNeg))), .ref (ad 7 (cus S (n.toNatClampNeg))), .ref (ad 8 (cus S (n.toNatClampNeg)))])) := hw.1 6 _ _ (ct6 (hi.cu b2.2))
  have gc1_7 : M (ad 7 (cus S (n.toNatClampNeg))) = some (.inl (G.2.1 5, 1002, .inr (.inr (.inr (.inr (ntr ex ad (cus S (n.toNatClampNeg)))))))) := hw.1 7 _ _ (ct7 (hi.cu b2.2))
  refine lv_astore_n (lv' := [(3, .ref (ad 11 (n.toNatClampNeg))), (0, .ref (ad 0 0)), (1, .int n), (2, .int x)]) hx hb dX5_draw_5 rfl hl (by decide) rfl (fun ls hl => ?_)
  refine lv_iload_n hx hb dX5_draw_6 rfl (lv_at hl 3 rfl) ?_
  refine lv_iconst (v := 1) hx hb dX5_draw_7 (by decide) ?_
  refine lv_aload_n hx hb dX5_draw_8 rfl (lv_at hl 0 rfl) ?_
  refine m_getN (host := RX5) (ci := 4) (v := .int (S.1 9 (n.toNatClampNeg))) (C := RX4) (T := TX4) (N := 7) (a := (ad 11 (n.toNatClampNeg))) hx hb hts (by decide +kernel) hown hC hM g2 rfl 3 (by decide) (hC.w 9 rfl) (fun _ h9 => h9) rfl dX5_draw_9 ?_
  refine kx_v (vx_runS (As := [.int x, .int 1, .int (S.1 9 (n.toNatClampNeg))]) (rest := []) ⟨hx, hb, hml, hown, hts⟩ (c_X5_requireRange hnt l G M x (1 : Int32) (S.1 9 (n.toNatClampNeg))) (va_cwS 3 hts gX5_draw_X5_requireRange rfl rfl rfl (by decide +kernel) ⟨Nat.le_of_ble_eq_true rfl, Nat.le_of_ble_eq_true rfl⟩) (preS_of hC hS hM) rfl rfl hl.1 rfl (lv_room (Nat.le_of_ble_eq_true rfl)) dX5_draw_12 ⟨Nat.le_of_ble_eq_true rfl, Nat.le_of_ble_eq_true rfl⟩) hS (fun E ce q9 H locs hE hM hS h1 h2 h3 => ?_) (fun u12 H locs hp12 hM hS => ?_)
  · exact r_out ht hlocks hS hM (Or.inr ⟨hE.1, b2, hE.2⟩) h1 h2 h3 (Nat.le_of_ble_eq_true rfl) (Nat.le_of_ble_eq_true rfl)
  have hM : Hm G M H := hM
  refine lv_aload_n hx hb dX5_draw_15 rfl (lv_at hl 0 rfl) ?_
  refine lv_aload_n hx hb dX5_draw_16 rfl (lv_at hl 1 rfl) ?_
  refine m_get (ci := 5) (v := .ref (ad 1 0)) (C := RX5) (T := TX5) (N := 5) (a := (ad 0 0)) hx hb hts (by decide +kernel) hown hC hM f0 rfl 0 (by decide) (hts (.fieldLink RX5 12 "Forwardroll" "calendar" "LForwardroll$Calendar;") (by decide +kernel)) (fun _ h9 => h9) rfl dX5_draw_17 ?_
  refine m_getN (host := RX5) (ci := 1) (v := .int (S.1 0 0)) (C := RX1) (T := TX1) (N := 2) (a := (ad 1 0)) hx hb hts (by decide +kernel) hown hC hM f1 rfl 1 (by decide) (hC.w 0 rfl) (fun _ h9 => h9) rfl dX5_draw_20 ?_
  refine k_i (va_runV (As := [.int (S.1 0 0)]) (rest := []) ⟨hx, hb, hml, hown, hts⟩ (c_X4_drawingRate l G M (ad 11 (n.toNatClampNeg)) (ad 6 (cus S (n.toNatClampNeg))) (ad 4 (cuy S (n.toNatClampNeg))) (S.1 8 (n.toNatClampNeg)) (S.1 9 (n.toNatClampNeg)) (S.1 10 (n.toNatClampNeg)) (S.1 11 (n.toNatClampNeg)) (S.1 12 (n.toNatClampNeg)) (nI (cuy S (n.toNatClampNeg))) (S.1 1 (cuy S (n.toNatClampNeg))) (S.1 2 (cuy S (n.toNatClampNeg))) (S.1 0 0) g2 y2) (cwV 1 hts gX5_draw_X4_drawingRate rfl rfl rfl (by decide +kernel) ⟨Nat.le_of_ble_eq_true rfl, Nat.le_of_ble_eq_true rfl⟩) (preV_of hC hS hM g2 rfl) rfl rfl hl.1 rfl (lv_room (Nat.le_of_ble_eq_true rfl)) dX5_draw_23 ⟨Nat.le_of_ble_eq_true rfl, Nat.le_of_ble_eq_true rfl⟩) hS (fun r23 u23 H locs hp23 hM hS => ?_)
  have hM : Hm G M H := hM
  have hp23 : r23 = if (S.1 0 0) < (S.1 11 (n.toNatClampNeg)) then al1 ((S.1 10 (n.toNatClampNeg)) + (S.1 2 (cuy S (n.toNatClampNeg))) * ((S.1 0 0) - (S.1 11 (n.toNatClampNeg)))) else (S.1 10 (n.toNatClampNeg)) := hp23
  subst hp23
  refine lv_istore (lv' := [(4, .int (if (S.1 0 0) < (S.1 11 (n.toNatClampNeg)) then al1 ((S.1 10 (n.toNatClampNeg)) + (S.1 2 (cuy S (n.toNatClampNeg))) * ((S.1 0 0) - (S.1 11 (n.toNatClampNeg)))) else (S.1 10 (n.toNatClampNeg)))), (3, .ref (ad 11 (n.toNatClampNeg))), (0, .ref (ad 0 0)), (1, .int n), (2, .int x)]) hx hb dX5_draw_26 hl (by decide) rfl (fun ls hl => ?_)
  refine lv_iload_n hx hb dX5_draw_28 rfl (lv_at hl 4 rfl) ?_
  refine lv_iload hx hb dX5_draw_29 (lv_at hl 0 rfl) ?_
  refine k_l (va_runS (As := [.int x, .int (if (S.1 0 0) < (S.1 11 (n.toNatClampNeg)) then al1 ((S.1 10 (n.toNatClampNeg)) + (S.1 2 (cuy S (n.toNatClampNeg))) * ((S.1 0 0) - (S.1 11 (n.toNatClampNeg)))) else (S.1 10 (n.toNatClampNeg)))]) (rest := []) ⟨hx, hb, hml, hown, hts⟩ (c_X5_homeAmount l G M x (if (S.1 0 0) < (S.1 11 (n.toNatClampNeg)) then al1 ((S.1 10 (n.toNatClampNeg)) + (S.1 2 (cuy S (n.toNatClampNeg))) * ((S.1 0 0) - (S.1 11 (n.toNatClampNeg)))) else (S.1 10 (n.toNatClampNeg)))) (va_cwS 2 hts gX5_draw_X5_homeAmount rfl rfl rfl (by decide +kernel) ⟨Nat.le_of_ble_eq_true rfl, Nat.le_of_ble_eq_true rfl⟩) (preS_of hC hS hM) rfl rfl hl.1 rfl (lv_room (Nat.le_of_ble_eq_true rfl)) dX5_draw_31 ⟨Nat.le_of_ble_eq_true rfl, Nat.le_of_ble_eq_true rfl⟩) hS (fun r31 u31 H locs hp31 hM hS => ?_)
  have hM : Hm G M H := hM
  have hp31 : r31 = hom x (if (S.1 0 0) < (S.1 11 (n.toNatClampNeg)) then al1 ((S.1 10 (n.toNatClampNeg)) + (S.1 2 (cuy S (n.toNatClampNeg))) * ((S.1 0 0) - (S.1 11 (n.toNatClampNeg)))) else (S.1 10 (n.toNatClampNeg))) := hp31
  subst hp31
  refine lv_lstore (lv' := [(5, .long (hom x (if (S.1 0 0) < (S.1 11 (n.toNatClampNeg)) then al1 ((S.1 10 (n.toNatClampNeg)) + (S.1 2 (cuy S (n.toNatClampNeg))) * ((S.1 0 0) - (S.1 11 (n.toNatClampNeg)))) else (S.1 10 (n.toNatClampNeg))))), (4, .int (if (S.1 0 0) < (S.1 11 (n.toNatClampNeg)) then al1 ((S.1 10 (n.toNatClampNeg)) + (S.1 2 (cuy S (n.toNatClampNeg))) * ((S.1 0 0) - (S.1 11 (n.toNatClampNeg)))) else (S.1 10 (n.toNatClampNeg)))), (3, .ref (ad 11 (n.toNatClampNeg))), (0, .ref (ad 0 0)), (1, .int n), (2, .int x)]) hx hb dX5_draw_34 hl (by decide) rfl (fun ls hl => ?_)
  refine lv_aload_n hx hb dX5_draw_36 rfl (lv_at hl 3 rfl) ?_
  refine m_get (ci := 5) (v := .ref (ad 1 0)) (C := RX5) (T := TX5) (N := 5) (a := (ad 0 0)) hx hb hts (by decide +kernel) hown hC hM f0 rfl 0 (by decide) (hts (.fieldLink RX5 12 "Forwardroll" "calendar" "LForwardroll$Calendar;") (by decide +kernel)) (fun _ h9 => h9) rfl dX5_draw_37 ?_
  refine k_i (va_runV (As := []) (rest := []) ⟨hx, hb, hml, hown, hts⟩ (c_X1_nextBusinessDay l G M (ad 1 0) (ad 2 0) (S.1 4) (S.1 0 0) f1 f2 (hto_of hi)) (cwV 0 hts gX5_draw_X1_nextBusinessDay rfl rfl rfl (by decide +kernel) ⟨Nat.le_of_ble_eq_true rfl, Nat.le_of_ble_eq_true rfl⟩) (preV_of hC hS hM f1 rfl) rfl rfl hl.1 rfl (lv_room (Nat.le_of_ble_eq_true rfl)) dX5_draw_40 ⟨Nat.le_of_ble_eq_true rfl, Nat.le_of_ble_eq_true rfl⟩) hS (fun r40 u40 H locs hp40 hM hS => ?_)
  have hM : Hm G M H := hM
  have hp40 : r40 = nbd (S.1 4) 1002 ((S.1 0 0) + 1) := hp40
  subst hp40
  refine lv_istore (lv' := [(7, .int (nbd (S.1 4) 1002 ((S.1 0 0) + 1))), (5, .long (hom x (if (S.1 0 0) < (S.1 11 (n.toNatClampNeg)) then al1 ((S.1 10 (n.toNatClampNeg)) + (S.1 2 (cuy S (n.toNatClampNeg))) * ((S.1 0 0) - (S.1 11 (n.toNatClampNeg)))) else (S.1 10 (n.toNatClampNeg))))), (4, .int (if (S.1 0 0) < (S.1 11 (n.toNatClampNeg)) then al1 ((S.1 10 (n.toNatClampNeg)) + (S.1 2 (cuy S (n.toNatClampNeg))) * ((S.1 0 0) - (S.1 11 (n.toNatClampNeg)))) else (S.1 10 (n.toNatClampNeg)))), (3, .ref (ad 11 (n.toNatClampNeg))), (0, .ref (ad 0 0)), (1, .int n), (2, .int x)]) hx hb dX5_draw_43 hl (by decide) rfl (fun ls hl => ?_)
  refine lv_aload_n hx hb dX5_draw_45 rfl (lv_at hl 3 rfl) ?_
  refine m_getN (host := RX5) (ci := 4) (v := .ref (ad 6 (cus S (n.toNatClampNeg)))) (C := RX4) (T := TX4) (N := 7) (a := (ad 11 (n.toNatClampNeg))) hx hb hts (by decide +kernel) hown hC hM g2 rfl 0 (by decide) (hC.w 6 rfl) (fun _ h9 => h9) rfl dX5_draw_46 ?_
  refine lv_aload_n hx hb dX5_draw_49 rfl (lv_at hl 3 rfl) ?_
  refine m_getN (host := RX5) (ci := 4) (v := .ref (ad 4 (cuy S (n.toNatClampNeg)))) (C := RX4) (T := TX4) (N := 7) (a := (ad 11 (n.toNatClampNeg))) hx hb hts (by decide +kernel) hown hC hM g2 rfl 1 (by decide) (hC.w 7 rfl) (fun _ h9 => h9) rfl dX5_draw_50 ?_
  refine m_getN (host := RX5) (ci := 2) (v := .int (nI (cuy S (n.toNatClampNeg)))) (C := RX2) (T := TX2) (N := 3) (a := (ad 4 (cuy S (n.toNatClampNeg)))) hx hb hts (by decide +kernel) hown hC hM y2 rfl 0 (by decide) (hC.w 1 rfl) (fun _ h9 => h9) rfl dX5_draw_53 ?_
  refine lv_iload hx hb dX5_draw_56 (lv_at hl 0 rfl) ?_
  refine lv_aload_n hx hb dX5_draw_58 rfl (lv_at hl 3 rfl) ?_
  refine m_getN (host := RX5) (ci := 4) (v := .int (S.1 8 (n.toNatClampNeg))) (C := RX4) (T := TX4) (N := 7) (a := (ad 11 (n.toNatClampNeg))) hx hb hts (by decide +kernel) hown hC hM g2 rfl 2 (by decide) (hC.w 8 rfl) (fun _ h9 => h9) rfl dX5_draw_59 ?_
  refine lv_if_eq (tgt := 70) hx hb dX5_draw_62 (by decide) (fun c_62 => ?_) (fun c_62 => ?_)
  · refine lv_iload_n hx hb dX5_draw_70 rfl (lv_at hl 6 rfl) ?_
    refine lv_ineg hx hb dX5_draw_71 ?_
    refine lv_i2l hx hb dX5_draw_72 rfl ?_
    refine k_v (va_runV (As := [.int (nI (cuy S (n.toNatClampNeg))), .int (nbd (S.1 4) 1002 ((S.1 0 0) + 1)), .long (((-x)).toInt64)]) (rest := []) ⟨hx, hb, hml, hown, hts⟩ (c_X3_book l G M (ad 6 (cus S (n.toNatClampNeg))) (S.1 3 (cus S (n.toNatClampNeg))) (ad 7 (cus S (n.toNatClampNeg))) (ad 8 (cus S (n.toNatClampNeg))) (ntr ex ad (cus S (n.toNatClampNeg))) (nI (cuy S (n.toNatClampNeg))) (nbd (S.1 4) 1002 ((S.1 0 0) + 1)) (((-x)).toInt64) (adr ex ad 13 (5 * sn S + (cus S (n.toNatClampNeg)))) (rw5 (S.2 0) (5 * sn S + (cus S (n.toNatClampNeg)))) gc1_6 gc1_7 (row_of hw (c := (cus S (n.toNatClampNeg))) (d := sn S)) (cy_in hi b2.2) (sd_in hi)) (cwV 3 hts gX5_draw_X3_book rfl rfl rfl (by decide +kernel) ⟨Nat.le_of_ble_eq_true rfl, Nat.le_of_ble_eq_true rfl⟩) (preV_of hC hS hM gc1_6 rfl) rfl rfl hl.1 rfl (lv_room (Nat.le_of_ble_eq_true rfl)) dX5_draw_73 ⟨Nat.le_of_ble_eq_true rfl, Nat.le_of_ble_eq_true rfl⟩) hS (fun u73 H locs hp73 hM hS => ?_)
    obtain ⟨ex1, hw1, hx1⟩ := w_book (c := (cus S (n.toNatClampNeg))) (k := (cuy S (n.toNatClampNeg))) (d := sn S) hw hx9 (hi.cu b2.2) (by have := hi.cy b2.2; omega) (sn_lt hi) (((-x)).toInt64) u73 hp73
    obtain ⟨M1, eM1⟩ : ∃ z, z = bkM G M (ntr ex ad (cus S (n.toNatClampNeg))) (ad 7 (cus S (n.toNatClampNeg))) (sn S) (cuy S (n.toNatClampNeg)) (((-x)).toInt64) (adr ex ad 13 (5 * sn S + (cus S (n.toNatClampNeg)))) (rw5 (S.2 0) (5 * sn S + (cus S (n.toNatClampNeg)))) u73 := ⟨_, rfl⟩
    rw [← eM1] at hw1
    rw [cy_cl hi b2.2] at hM
    have hM : Hm G M1 H := by rw [eM1]; exact hM
    have f0_3 : M1 (ad 0 0) = some (.inr (5, [.ref (ad 1 0), .ref (ad 3 0), .ref (ad 5 0), .ref (ad 10 0), .int (S.1 5 0)])) := hw1.1 0 0 _ rfl
    have f1_3 : M1 (ad 1 0) = some (.inr (1, [.ref (ad 2 0), .int (S.1 0 0)])) := hw1.1 1 0 _ rfl
    have f2_3 : M1 (ad 2 0) = some (.inl (G.2.1 2, 1001, .inl (S.1 4))) := hw1.1 2 0 _ rfl
    have f3_3 : M1 (ad 3 0) = some (.inl (G.2.1 3, 4, .inr (.inr (.inr (.inr (crr ad)))))) := hw1.1 3 0 _ rfl
    have f5_3 : M1 (ad 5 0) = some (.inl (G.2.1 4, 5, .inr (.inr (.inr (.inr (csr ad)))))) := hw1.1 5 0 _ rfl
    have f10_3 : M1 (ad 10 0) = some (.inl (G.2.1 6, 20, .inr (.inr (.inr (.inr (dlr S ad)))))) := hw1.1 10 0 _ rfl
    have gd4 : M1 (ad 11 (n.toNatClampNeg)) = some (.inr (4, [.ref (ad 6 (cus S (n.toNatClampNeg))), .ref (ad 4 (cuy S (n.toNatClampNeg))), .int (S.1 8 (n.toNatClampNeg)), .int (S.1 9 (n.toNatClampNeg)), .int (S.1 10 (n.toNatClampNeg)), .int (S.1 11 (n.toNatClampNeg)), .int (S.1 12 (n.toNatClampNeg))])) := hw1.1 11 _ _ (ct11 b2.2)
    have gy4 : M1 (ad 4 (cuy S (n.toNatClampNeg))) = some (.inr (2, [.int (nI (cuy S (n.toNatClampNeg))), .int (S.1 1 (cuy S (n.toNatClampNeg))), .int (S.1 2 (cuy S (n.toNatClampNeg)))])) := hw1.1 4 _ _ (ct4 (hi.cy b2.2))
    have gc5_6 : M1 (ad 6 (cus S (n.toNatClampNeg))) = some (.inr (3, [.int (S.1 3 (cus S (n.toNatClampNeg))), .ref (ad 7 (cus S (n.toNatClampNeg))), .ref (ad 8 (cus S (n.toNatClampNeg)))])) := hw1.1 6 _ _ (ct6 (hi.cu b2.2))
    have gc5_7 : M1 (ad 7 (cus S (n.toNatClampNeg))) = some (.inl (G.2.1 5, 1002, .inr (.inr (.inr (.inr (ntr ex1 ad (cus S (n.toNatClampNeg)))))))) := hw1.1 7 _ _ (ct7 (hi.cu b2.2))
    refine lv_aload_n hx hb dX5_draw_76 rfl (lv_at hl 3 rfl) ?_
    refine m_getN (host := RX5) (ci := 4) (v := .ref (ad 6 (cus S (n.toNatClampNeg)))) (C := RX4) (T := TX4) (N := 7) (a := (ad 11 (n.toNatClampNeg))) hx hb hts (by decide +kernel) hown hC hM gd4 rfl 0 (by decide) (hC.w 6 rfl) (fun _ h9 => h9) rfl dX5_draw_77 ?_
    refine lv_iconst (v := 4) hx hb dX5_draw_80 (by decide) ?_
    refine lv_iload hx hb dX5_draw_81 (lv_at hl 0 rfl) ?_
    refine lv_aload_n hx hb dX5_draw_83 rfl (lv_at hl 3 rfl) ?_
    refine m_getN (host := RX5) (ci := 4) (v := .int (S.1 8 (n.toNatClampNeg))) (C := RX4) (T := TX4) (N := 7) (a := (ad 11 (n.toNatClampNeg))) hx hb hts (by decide +kernel) hown hC hM gd4 rfl 2 (by decide) (hC.w 8 rfl) (fun _ h9 => h9) rfl dX5_draw_84 ?_
    refine lv_if_eq (tgt := 96) hx hb dX5_draw_87 (by decide) (fun c_87 => ?_) (fun c_87 => False.elim (by exact absurd c_62 c_87))
    refine lv_lload hx hb dX5_draw_96 (lv_at hl 1 rfl) ?_
    refine k_v (va_runV (As := [.int 4, .int (nbd (S.1 4) 1002 ((S.1 0 0) + 1)), .long (hom x (if (S.1 0 0) < (S.1 11 (n.toNatClampNeg)) then al1 ((S.1 10 (n.toNatClampNeg)) + (S.1 2 (cuy S (n.toNatClampNeg))) * ((S.1 0 0) - (S.1 11 (n.toNatClampNeg)))) else (S.1 10 (n.toNatClampNeg))))]) (rest := []) ⟨hx, hb, hml, hown, hts⟩ (c_X3_book l G M1 (ad 6 (cus S (n.toNatClampNeg))) (S.1 3 (cus S (n.toNatClampNeg))) (ad 7 (cus S (n.toNatClampNeg))) (ad 8 (cus S (n.toNatClampNeg))) (ntr ex1 ad (cus S (n.toNatClampNeg))) 4 (nbd (S.1 4) 1002 ((S.1 0 0) + 1)) (hom x (if (S.1 0 0) < (S.1 11 (n.toNatClampNeg)) then al1 ((S.1 10 (n.toNatClampNeg)) + (S.1 2 (cuy S (n.toNatClampNeg))) * ((S.1 0 0) - (S.1 11 (n.toNatClampNeg)))) else (S.1 10 (n.toNatClampNeg)))) (adr ex1 ad 13 (5 * sn S + (cus S (n.toNatClampNeg)))) (rw5 ((bk S (cus S (n.toNatClampNeg)) (cuy S (n.toNatClampNeg)) (sn S) (((-x)).toInt64)).2 0) (5 * sn S + (cus S (n.toNatClampNeg)))) gc5_6 gc5_7 (row_of hw1 (c := (cus S (n.toNatClampNeg))) (d := sn S)) (vin_of (n := 5) 5 (by decide) (by decide)) (sd_in hi)) (cwV 3 hts gX5_draw_X3_book rfl rfl rfl (by decide +kernel) ⟨Nat.le_of_ble_eq_true rfl, Nat.le_of_ble_eq_true rfl⟩) (preV_of hC hS hM gc5_6 rfl) rfl rfl hl.1 rfl (lv_room (Nat.le_of_ble_eq_true rfl)) dX5_draw_98 ⟨Nat.le_of_ble_eq_true rfl, Nat.le_of_ble_eq_true rfl⟩) hS (fun u98 H locs hp98 hM hS => ?_)
    obtain ⟨ex2, hw2, hx2⟩ := w_book (c := (cus S (n.toNatClampNeg))) (k := 4) (d := sn S) hw1 hx1 (hi.cu b2.2) (by decide) (sn_lt hi) (hom x (if (S.1 0 0) < (S.1 11 (n.toNatClampNeg)) then al1 ((S.1 10 (n.toNatClampNeg)) + (S.1 2 (cuy S (n.toNatClampNeg))) * ((S.1 0 0) - (S.1 11 (n.toNatClampNeg)))) else (S.1 10 (n.toNatClampNeg)))) u98 hp98
    obtain ⟨M2, eM2⟩ : ∃ z, z = bkM G M1 (ntr ex1 ad (cus S (n.toNatClampNeg))) (ad 7 (cus S (n.toNatClampNeg))) (sn S) 4 (hom x (if (S.1 0 0) < (S.1 11 (n.toNatClampNeg)) then al1 ((S.1 10 (n.toNatClampNeg)) + (S.1 2 (cuy S (n.toNatClampNeg))) * ((S.1 0 0) - (S.1 11 (n.toNatClampNeg)))) else (S.1 10 (n.toNatClampNeg)))) (adr ex1 ad 13 (5 * sn S + (cus S (n.toNatClampNeg)))) (rw5 ((bk S (cus S (n.toNatClampNeg)) (cuy S (n.toNatClampNeg)) (sn S) (((-x)).toInt64)).2 0) (5 * sn S + (cus S (n.toNatClampNeg)))) u98 := ⟨_, rfl⟩
    rw [← eM2] at hw2
    have hM : Hm G M2 H := by rw [eM2]; exact hM
    have f0_7 : M2 (ad 0 0) = some (.inr (5, [.ref (ad 1 0), .ref (ad 3 0), .ref (ad 5 0), .ref (ad 10 0), .int (S.1 5 0)])) := hw2.1 0 0 _ rfl
    have f1_7 : M2 (ad 1 0) = some (.inr (1, [.ref (ad 2 0), .int (S.1 0 0)])) := hw2.1 1 0 _ rfl
    have f2_7 : M2 (ad 2 0) = some (.inl (G.2.1 2, 1001, .inl (S.1 4))) := hw2.1 2 0 _ rfl
    have f3_7 : M2 (ad 3 0) = some (.inl (G.2.1 3, 4, .inr (.inr (.inr (.inr (crr ad)))))) := hw2.1 3 0 _ rfl
    have f5_7 : M2 (ad 5 0) = some (.inl (G.2.1 4, 5, .inr (.inr (.inr (.inr (csr ad)))))) := hw2.1 5 0 _ rfl
    have f10_7 : M2 (ad 10 0) = some (.inl (G.2.1 6, 20, .inr (.inr (.inr (.inr (dlr S ad)))))) := hw2.1 10 0 _ rfl
    have gd8 : M2 (ad 11 (n.toNatClampNeg)) = some (.inr (4, [.ref (ad 6 (cus S (n.toNatClampNeg))), .ref (ad 4 (cuy S (n.toNatClampNeg))), .int (S.1 8 (n.toNatClampNeg)), .int (S.1 9 (n.toNatClampNeg)), .int (S.1 10 (n.toNatClampNeg)), .int (S.1 11 (n.toNatClampNeg)), .int (S.1 12 (n.toNatClampNeg))])) := hw2.1 11 _ _ (ct11 b2.2)
    have gy8 : M2 (ad 4 (cuy S (n.toNatClampNeg))) = some (.inr (2, [.int (nI (cuy S (n.toNatClampNeg))), .int (S.1 1 (cuy S (n.toNatClampNeg))), .int (S.1 2 (cuy S (n.toNatClampNeg)))])) := hw2.1 4 _ _ (ct4 (hi.cy b2.2))
    have gc9_6 : M2 (ad 6 (cus S (n.toNatClampNeg))) = some (.inr (3, [.int (S.1 3 (cus S (n.toNatClampNeg))), .ref (ad 7 (cus S (n.toNatClampNeg))), .ref (ad 8 (cus S (n.toNatClampNeg)))])) := hw2.1 6 _ _ (ct6 (hi.cu b2.2))
    have gc9_7 : M2 (ad 7 (cus S (n.toNatClampNeg))) = some (.inl (G.2.1 5, 1002, .inr (.inr (.inr (.inr (ntr ex2 ad (cus S (n.toNatClampNeg)))))))) := hw2.1 7 _ _ (ct7 (hi.cu b2.2))
    refine lv_aload_n hx hb dX5_draw_101 rfl (lv_at hl 3 rfl) ?_
    refine lv_dup hx hb dX5_draw_102 rfl ?_
    refine m_getN (host := RX5) (ci := 4) (v := .int (S.1 9 (n.toNatClampNeg))) (C := RX4) (T := TX4) (N := 7) (a := (ad 11 (n.toNatClampNeg))) hx hb hts (by decide +kernel) hown hC hM gd8 rfl 3 (by decide) (hC.w 9 rfl) (fun _ h9 => h9) rfl dX5_draw_103 ?_
    refine lv_iload_n hx hb dX5_draw_106 rfl (lv_at hl 6 rfl) ?_
    refine lv_isub hx hb dX5_draw_107 ?_
    refine m_putN (host := RX5) (ci := 4) (v := .int ((S.1 9 (n.toNatClampNeg)) - x)) (ty := .int) (C := RX4) (T := TX4) (N := 7) (a := (ad 11 (n.toNatClampNeg))) hx hb hts (by decide +kernel) tyX4 tyX4_ok nmX4 hown hC hM hS gd8 rfl 3 (by decide) (hC.w 9 rfl) (fun _ h9 => h9) rfl (by decide +kernel) rfl rfl (Nat.le_of_ble_eq_true rfl) dX5_draw_108 (fun H locs hM hS => ?_)
    have hM : Hm G (va_up M2 (ad 11 (n.toNatClampNeg)) (some (.inr (4, [.ref (ad 6 (cus S (n.toNatClampNeg))), .ref (ad 4 (cuy S (n.toNatClampNeg))), .int (S.1 8 (n.toNatClampNeg)), .int ((S.1 9 (n.toNatClampNeg)) - x), .int (S.1 10 (n.toNatClampNeg)), .int (S.1 11 (n.toNatClampNeg)), .int (S.1 12 (n.toNatClampNeg))])))) H := hM
    have f108_11 : (va_up M2 (ad 11 (n.toNatClampNeg)) (some (.inr (4, [.ref (ad 6 (cus S (n.toNatClampNeg))), .ref (ad 4 (cuy S (n.toNatClampNeg))), .int (S.1 8 (n.toNatClampNeg)), .int ((S.1 9 (n.toNatClampNeg)) - x), .int (S.1 10 (n.toNatClampNeg)), .int (S.1 11 (n.toNatClampNeg)), .int (S.1 12 (n.toNatClampNeg))])))) (ad 0 0) = some (.inr (5, [.ref (ad 1 0), .ref (ad 3 0), .ref (ad 5 0), .ref (ad 10 0), .int (S.1 5 0)])) := (up_ne (fun h9 => absurd (Eq.trans (Eq.trans (Eq.symm f0_7) (congrArg M2 h9)) gd8) (by simp))).trans f0_7
    have f108_12 : (va_up M2 (ad 11 (n.toNatClampNeg)) (some (.inr (4, [.ref (ad 6 (cus S (n.toNatClampNeg))), .ref (ad 4 (cuy S (n.toNatClampNeg))), .int (S.1 8 (n.toNatClampNeg)), .int ((S.1 9 (n.toNatClampNeg)) - x), .int (S.1 10 (n.toNatClampNeg)), .int (S.1 11 (n.toNatClampNeg)), .int (S.1 12 (n.toNatClampNeg))])))) (ad 1 0) = some (.inr (1, [.ref (ad 2 0), .int (S.1 0 0)])) := (up_ne (fun h9 => absurd (Eq.trans (Eq.trans (Eq.symm f1_7) (congrArg M2 h9)) gd8) (by simp))).trans f1_7
    have f108_13 : (va_up M2 (ad 11 (n.toNatClampNeg)) (some (.inr (4, [.ref (ad 6 (cus S (n.toNatClampNeg))), .ref (ad 4 (cuy S (n.toNatClampNeg))), .int (S.1 8 (n.toNatClampNeg)), .int ((S.1 9 (n.toNatClampNeg)) - x), .int (S.1 10 (n.toNatClampNeg)), .int (S.1 11 (n.toNatClampNeg)), .int (S.1 12 (n.toNatClampNeg))])))) (ad 2 0) = some (.inl (G.2.1 2, 1001, .inl (S.1 4))) := (up_ne (fun h9 => absurd (Eq.trans (Eq.trans (Eq.symm f2_7) (congrArg M2 h9)) gd8) (by simp))).trans f2_7
    have f108_14 : (va_up M2 (ad 11 (n.toNatClampNeg)) (some (.inr (4, [.ref (ad 6 (cus S (n.toNatClampNeg))), .ref (ad 4 (cuy S (n.toNatClampNeg))), .int (S.1 8 (n.toNatClampNeg)), .int ((S.1 9 (n.toNatClampNeg)) - x), .int (S.1 10 (n.toNatClampNeg)), .int (S.1 11 (n.toNatClampNeg)), .int (S.1 12 (n.toNatClampNeg))])))) (ad 3 0) = some (.inl (G.2.1 3, 4, .inr (.inr (.inr (.inr (crr ad)))))) := (up_ne (fun h9 => absurd (Eq.trans (Eq.trans (Eq.symm f3_7) (congrArg M2 h9)) gd8) (by simp))).trans f3_7
    have f108_15 : (va_up M2 (ad 11 (n.toNatClampNeg)) (some (.inr (4, [.ref (ad 6 (cus S (n.toNatClampNeg))), .ref (ad 4 (cuy S (n.toNatClampNeg))), .int (S.1 8 (n.toNatClampNeg)), .int ((S.1 9 (n.toNatClampNeg)) - x), .int (S.1 10 (n.toNatClampNeg)), .int (S.1 11 (n.toNatClampNeg)), .int (S.1 12 (n.toNatClampNeg))])))) (ad 5 0) = some (.inl (G.2.1 4, 5, .inr (.inr (.inr (.inr (csr ad)))))) := (up_ne (fun h9 => absurd (Eq.trans (Eq.trans (Eq.symm f5_7) (congrArg M2 h9)) gd8) (by simp))).trans f5_7
    have f108_16 : (va_up M2 (ad 11 (n.toNatClampNeg)) (some (.inr (4, [.ref (ad 6 (cus S (n.toNatClampNeg))), .ref (ad 4 (cuy S (n.toNatClampNeg))), .int (S.1 8 (n.toNatClampNeg)), .int ((S.1 9 (n.toNatClampNeg)) - x), .int (S.1 10 (n.toNatClampNeg)), .int (S.1 11 (n.toNatClampNeg)), .int (S.1 12 (n.toNatClampNeg))])))) (ad 10 0) = some (.inl (G.2.1 6, 20, .inr (.inr (.inr (.inr (dlr S ad)))))) := (up_ne (fun h9 => absurd (Eq.trans (Eq.trans (Eq.symm f10_7) (congrArg M2 h9)) gd8) (by simp))).trans f10_7
    have f108_17 : (va_up M2 (ad 11 (n.toNatClampNeg)) (some (.inr (4, [.ref (ad 6 (cus S (n.toNatClampNeg))), .ref (ad 4 (cuy S (n.toNatClampNeg))), .int (S.1 8 (n.toNatClampNeg)), .int ((S.1 9 (n.toNatClampNeg)) - x), .int (S.1 10 (n.toNatClampNeg)), .int (S.1 11 (n.toNatClampNeg)), .int (S.1 12 (n.toNatClampNeg))])))) (ad 11 (n.toNatClampNeg)) = some (.inr (4, [.ref (ad 6 (cus S (n.toNatClampNeg))), .ref (ad 4 (cuy S (n.toNatClampNeg))), .int (S.1 8 (n.toNatClampNeg)), .int ((S.1 9 (n.toNatClampNeg)) - x), .int (S.1 10 (n.toNatClampNeg)), .int (S.1 11 (n.toNatClampNeg)), .int (S.1 12 (n.toNatClampNeg))])) := up_eq
    have f108_18 : (va_up M2 (ad 11 (n.toNatClampNeg)) (some (.inr (4, [.ref (ad 6 (cus S (n.toNatClampNeg))), .ref (ad 4 (cuy S (n.toNatClampNeg))), .int (S.1 8 (n.toNatClampNeg)), .int ((S.1 9 (n.toNatClampNeg)) - x), .int (S.1 10 (n.toNatClampNeg)), .int (S.1 11 (n.toNatClampNeg)), .int (S.1 12 (n.toNatClampNeg))])))) (ad 4 (cuy S (n.toNatClampNeg))) = some (.inr (2, [.int (nI (cuy S (n.toNatClampNeg))), .int (S.1 1 (cuy S (n.toNatClampNeg))), .int (S.1 2 (cuy S (n.toNatClampNeg)))])) := (up_ne (fun h9 => absurd (Eq.trans (Eq.trans (Eq.symm gy8) (congrArg M2 h9)) gd8) (by simp))).trans gy8
    have f108_19 : (va_up M2 (ad 11 (n.toNatClampNeg)) (some (.inr (4, [.ref (ad 6 (cus S (n.toNatClampNeg))), .ref (ad 4 (cuy S (n.toNatClampNeg))), .int (S.1 8 (n.toNatClampNeg)), .int ((S.1 9 (n.toNatClampNeg)) - x), .int (S.1 10 (n.toNatClampNeg)), .int (S.1 11 (n.toNatClampNeg)), .int (S.1 12 (n.toNatClampNeg))])))) (ad 6 (cus S (n.toNatClampNeg))) = some (.inr (3, [.int (S.1 3 (cus S (n.toNatClampNeg))), .ref (ad 7 (cus S (n.toNatClampNeg))), .ref (ad 8 (cus S (n.toNatClampNeg)))])) := (up_ne (fun h9 => absurd (Eq.trans (Eq.trans (Eq.symm gc9_6) (congrArg M2 h9)) gd8) (by simp))).trans gc9_6
    have f108_20 : (va_up M2 (ad 11 (n.toNatClampNeg)) (some (.inr (4, [.ref (ad 6 (cus S (n.toNatClampNeg))), .ref (ad 4 (cuy S (n.toNatClampNeg))), .int (S.1 8 (n.toNatClampNeg)), .int ((S.1 9 (n.toNatClampNeg)) - x), .int (S.1 10 (n.toNatClampNeg)), .int (S.1 11 (n.toNatClampNeg)), .int (S.1 12 (n.toNatClampNeg))])))) (ad 7 (cus S (n.toNatClampNeg))) = some (.inl (G.2.1 5, 1002, .inr (.inr (.inr (.inr (ntr ex2 ad (cus S (n.toNatClampNeg)))))))) := (up_ne (fun h9 => absurd (Eq.trans (Eq.trans (Eq.symm gc9_7) (congrArg M2 h9)) gd8) (by simp))).trans gc9_7
    refine lv_iload hx hb dX5_draw_111 (lv_at hl 2 rfl) ?_
    have hw9 := w_left hw2 b2.2 (S.1 9 (n.toNatClampNeg) - x)
    have hb1 : bk S (cus S (n.toNatClampNeg)) (cuy S (n.toNatClampNeg)) (sn S) (((-x)).toInt64) = dr1 S (n.toNatClampNeg) x := by unfold dr1; rw [if_pos c_62]
    have hb2 : bk (bk S (cus S (n.toNatClampNeg)) (cuy S (n.toNatClampNeg)) (sn S) (((-x)).toInt64)) (cus S (n.toNatClampNeg)) 4 (sn S) (hom x (if (S.1 0 0) < (S.1 11 (n.toNatClampNeg)) then al1 ((S.1 10 (n.toNatClampNeg)) + (S.1 2 (cuy S (n.toNatClampNeg))) * ((S.1 0 0) - (S.1 11 (n.toNatClampNeg)))) else (S.1 10 (n.toNatClampNeg)))) = dr2 S (n.toNatClampNeg) x := by unfold dr2; rw [hb1, if_pos c_62]; rfl
    rw [hb2] at hw9 hx2
    exact vx_ret (r_i hx hb hr hlocks hS (v := if (S.1 0 0) < (S.1 11 (n.toNatClampNeg)) then al1 ((S.1 10 (n.toNatClampNeg)) + (S.1 2 (cuy S (n.toNatClampNeg))) * ((S.1 0 0) - (S.1 11 (n.toNatClampNeg)))) else (S.1 10 (n.toNatClampNeg))) _ ⟨b2, hp12, rfl, ex2, hw9, hx2⟩ hM (Nat.le_of_ble_eq_true rfl) (Nat.le_of_ble_eq_true rfl) dX5_draw_113)
  · refine lv_iload_n hx hb dX5_draw_65 rfl (lv_at hl 6 rfl) ?_
    refine lv_i2l hx hb dX5_draw_66 rfl ?_
    refine lv_goto (tgt := 73) hx hb dX5_draw_67 (by decide) ?_
    refine k_v (va_runV (As := [.int (nI (cuy S (n.toNatClampNeg))), .int (nbd (S.1 4) 1002 ((S.1 0 0) + 1)), .long x.toInt64]) (rest := []) ⟨hx, hb, hml, hown, hts⟩ (c_X3_book l G M (ad 6 (cus S (n.toNatClampNeg))) (S.1 3 (cus S (n.toNatClampNeg))) (ad 7 (cus S (n.toNatClampNeg))) (ad 8 (cus S (n.toNatClampNeg))) (ntr ex ad (cus S (n.toNatClampNeg))) (nI (cuy S (n.toNatClampNeg))) (nbd (S.1 4) 1002 ((S.1 0 0) + 1)) x.toInt64 (adr ex ad 13 (5 * sn S + (cus S (n.toNatClampNeg)))) (rw5 (S.2 0) (5 * sn S + (cus S (n.toNatClampNeg)))) gc1_6 gc1_7 (row_of hw (c := (cus S (n.toNatClampNeg))) (d := sn S)) (cy_in hi b2.2) (sd_in hi)) (cwV 3 hts gX5_draw_X3_book rfl rfl rfl (by decide +kernel) ⟨Nat.le_of_ble_eq_true rfl, Nat.le_of_ble_eq_true rfl⟩) (preV_of hC hS hM gc1_6 rfl) rfl rfl hl.1 rfl (lv_room (Nat.le_of_ble_eq_true rfl)) dX5_draw_73 ⟨Nat.le_of_ble_eq_true rfl, Nat.le_of_ble_eq_true rfl⟩) hS (fun u73 H locs hp73 hM hS => ?_)
    obtain ⟨ex1, hw1, hx1⟩ := w_book (c := (cus S (n.toNatClampNeg))) (k := (cuy S (n.toNatClampNeg))) (d := sn S) hw hx9 (hi.cu b2.2) (by have := hi.cy b2.2; omega) (sn_lt hi) x.toInt64 u73 hp73
    obtain ⟨M1, eM1⟩ : ∃ z, z = bkM G M (ntr ex ad (cus S (n.toNatClampNeg))) (ad 7 (cus S (n.toNatClampNeg))) (sn S) (cuy S (n.toNatClampNeg)) x.toInt64 (adr ex ad 13 (5 * sn S + (cus S (n.toNatClampNeg)))) (rw5 (S.2 0) (5 * sn S + (cus S (n.toNatClampNeg)))) u73 := ⟨_, rfl⟩
    rw [← eM1] at hw1
    rw [cy_cl hi b2.2] at hM
    have hM : Hm G M1 H := by rw [eM1]; exact hM
    have f0_21 : M1 (ad 0 0) = some (.inr (5, [.ref (ad 1 0), .ref (ad 3 0), .ref (ad 5 0), .ref (ad 10 0), .int (S.1 5 0)])) := hw1.1 0 0 _ rfl
    have f1_21 : M1 (ad 1 0) = some (.inr (1, [.ref (ad 2 0), .int (S.1 0 0)])) := hw1.1 1 0 _ rfl
    have f2_21 : M1 (ad 2 0) = some (.inl (G.2.1 2, 1001, .inl (S.1 4))) := hw1.1 2 0 _ rfl
    have f3_21 : M1 (ad 3 0) = some (.inl (G.2.1 3, 4, .inr (.inr (.inr (.inr (crr ad)))))) := hw1.1 3 0 _ rfl
    have f5_21 : M1 (ad 5 0) = some (.inl (G.2.1 4, 5, .inr (.inr (.inr (.inr (csr ad)))))) := hw1.1 5 0 _ rfl
    have f10_21 : M1 (ad 10 0) = some (.inl (G.2.1 6, 20, .inr (.inr (.inr (.inr (dlr S ad)))))) := hw1.1 10 0 _ rfl
    have gd22 : M1 (ad 11 (n.toNatClampNeg)) = some (.inr (4, [.ref (ad 6 (cus S (n.toNatClampNeg))), .ref (ad 4 (cuy S (n.toNatClampNeg))), .int (S.1 8 (n.toNatClampNeg)), .int (S.1 9 (n.toNatClampNeg)), .int (S.1 10 (n.toNatClampNeg)), .int (S.1 11 (n.toNatClampNeg)), .int (S.1 12 (n.toNatClampNeg))])) := hw1.1 11 _ _ (ct11 b2.2)
    have gy22 : M1 (ad 4 (cuy S (n.toNatClampNeg))) = some (.inr (2, [.int (nI (cuy S (n.toNatClampNeg))), .int (S.1 1 (cuy S (n.toNatClampNeg))), .int (S.1 2 (cuy S (n.toNatClampNeg)))])) := hw1.1 4 _ _ (ct4 (hi.cy b2.2))
    have gc23_6 : M1 (ad 6 (cus S (n.toNatClampNeg))) = some (.inr (3, [.int (S.1 3 (cus S (n.toNatClampNeg))), .ref (ad 7 (cus S (n.toNatClampNeg))), .ref (ad 8 (cus S (n.toNatClampNeg)))])) := hw1.1 6 _ _ (ct6 (hi.cu b2.2))
    have gc23_7 : M1 (ad 7 (cus S (n.toNatClampNeg))) = some (.inl (G.2.1 5, 1002, .inr (.inr (.inr (.inr (ntr ex1 ad (cus S (n.toNatClampNeg)))))))) := hw1.1 7 _ _ (ct7 (hi.cu b2.2))
    refine lv_aload_n hx hb dX5_draw_76 rfl (lv_at hl 3 rfl) ?_
    refine m_getN (host := RX5) (ci := 4) (v := .ref (ad 6 (cus S (n.toNatClampNeg)))) (C := RX4) (T := TX4) (N := 7) (a := (ad 11 (n.toNatClampNeg))) hx hb hts (by decide +kernel) hown hC hM gd22 rfl 0 (by decide) (hC.w 6 rfl) (fun _ h9 => h9) rfl dX5_draw_77 ?_
    refine lv_iconst (v := 4) hx hb dX5_draw_80 (by decide) ?_
    refine lv_iload hx hb dX5_draw_81 (lv_at hl 0 rfl) ?_
    refine lv_aload_n hx hb dX5_draw_83 rfl (lv_at hl 3 rfl) ?_
    refine m_getN (host := RX5) (ci := 4) (v := .int (S.1 8 (n.toNatClampNeg))) (C := RX4) (T := TX4) (N := 7) (a := (ad 11 (n.toNatClampNeg))) hx hb hts (by decide +kernel) hown hC hM gd22 rfl 2 (by decide) (hC.w 8 rfl) (fun _ h9 => h9) rfl dX5_draw_84 ?_
    refine lv_if_eq (tgt := 96) hx hb dX5_draw_87 (by decide) (fun c_87 => False.elim (by exact absurd c_87 c_62)) (fun c_87 => ?_)
    refine lv_lload hx hb dX5_draw_90 (lv_at hl 1 rfl) ?_
    refine lv_lneg hx hb dX5_draw_92 ?_
    refine lv_goto (tgt := 98) hx hb dX5_draw_93 (by decide) ?_
    refine k_v (va_runV (As := [.int 4, .int (nbd (S.1 4) 1002 ((S.1 0 0) + 1)), .long (-(hom x (if (S.1 0 0) < (S.1 11 (n.toNatClampNeg)) then al1 ((S.1 10 (n.toNatClampNeg)) + (S.1 2 (cuy S (n.toNatClampNeg))) * ((S.1 0 0) - (S.1 11 (n.toNatClampNeg)))) else (S.1 10 (n.toNatClampNeg)))))]) (rest := []) ⟨hx, hb, hml, hown, hts⟩ (c_X3_book l G M1 (ad 6 (cus S (n.toNatClampNeg))) (S.1 3 (cus S (n.toNatClampNeg))) (ad 7 (cus S (n.toNatClampNeg))) (ad 8 (cus S (n.toNatClampNeg))) (ntr ex1 ad (cus S (n.toNatClampNeg))) 4 (nbd (S.1 4) 1002 ((S.1 0 0) + 1)) (-(hom x (if (S.1 0 0) < (S.1 11 (n.toNatClampNeg)) then al1 ((S.1 10 (n.toNatClampNeg)) + (S.1 2 (cuy S (n.toNatClampNeg))) * ((S.1 0 0) - (S.1 11 (n.toNatClampNeg)))) else (S.1 10 (n.toNatClampNeg))))) (adr ex1 ad 13 (5 * sn S + (cus S (n.toNatClampNeg)))) (rw5 ((bk S (cus S (n.toNatClampNeg)) (cuy S (n.toNatClampNeg)) (sn S) x.toInt64).2 0) (5 * sn S + (cus S (n.toNatClampNeg)))) gc23_6 gc23_7 (row_of hw1 (c := (cus S (n.toNatClampNeg))) (d := sn S)) (vin_of (n := 5) 5 (by decide) (by decide)) (sd_in hi)) (cwV 3 hts gX5_draw_X3_book rfl rfl rfl (by decide +kernel) ⟨Nat.le_of_ble_eq_true rfl, Nat.le_of_ble_eq_true rfl⟩) (preV_of hC hS hM gc23_6 rfl) rfl rfl hl.1 rfl (lv_room (Nat.le_of_ble_eq_true rfl)) dX5_draw_98 ⟨Nat.le_of_ble_eq_true rfl, Nat.le_of_ble_eq_true rfl⟩) hS (fun u98 H locs hp98 hM hS => ?_)
    obtain ⟨ex2, hw2, hx2⟩ := w_book (c := (cus S (n.toNatClampNeg))) (k := 4) (d := sn S) hw1 hx1 (hi.cu b2.2) (by decide) (sn_lt hi) (-(hom x (if (S.1 0 0) < (S.1 11 (n.toNatClampNeg)) then al1 ((S.1 10 (n.toNatClampNeg)) + (S.1 2 (cuy S (n.toNatClampNeg))) * ((S.1 0 0) - (S.1 11 (n.toNatClampNeg)))) else (S.1 10 (n.toNatClampNeg))))) u98 hp98
    obtain ⟨M2, eM2⟩ : ∃ z, z = bkM G M1 (ntr ex1 ad (cus S (n.toNatClampNeg))) (ad 7 (cus S (n.toNatClampNeg))) (sn S) 4 (-(hom x (if (S.1 0 0) < (S.1 11 (n.toNatClampNeg)) then al1 ((S.1 10 (n.toNatClampNeg)) + (S.1 2 (cuy S (n.toNatClampNeg))) * ((S.1 0 0) - (S.1 11 (n.toNatClampNeg)))) else (S.1 10 (n.toNatClampNeg))))) (adr ex1 ad 13 (5 * sn S + (cus S (n.toNatClampNeg)))) (rw5 ((bk S (cus S (n.toNatClampNeg)) (cuy S (n.toNatClampNeg)) (sn S) x.toInt64).2 0) (5 * sn S + (cus S (n.toNatClampNeg)))) u98 := ⟨_, rfl⟩
    rw [← eM2] at hw2
    have hM : Hm G M2 H := by rw [eM2]; exact hM
    have f0_25 : M2 (ad 0 0) = some (.inr (5, [.ref (ad 1 0), .ref (ad 3 0), .ref (ad 5 0), .ref (ad 10 0), .int (S.1 5 0)])) := hw2.1 0 0 _ rfl
    have f1_25 : M2 (ad 1 0) = some (.inr (1, [.ref (ad 2 0), .int (S.1 0 0)])) := hw2.1 1 0 _ rfl
    have f2_25 : M2 (ad 2 0) = some (.inl (G.2.1 2, 1001, .inl (S.1 4))) := hw2.1 2 0 _ rfl
    have f3_25 : M2 (ad 3 0) = some (.inl (G.2.1 3, 4, .inr (.inr (.inr (.inr (crr ad)))))) := hw2.1 3 0 _ rfl
    have f5_25 : M2 (ad 5 0) = some (.inl (G.2.1 4, 5, .inr (.inr (.inr (.inr (csr ad)))))) := hw2.1 5 0 _ rfl
    have f10_25 : M2 (ad 10 0) = some (.inl (G.2.1 6, 20, .inr (.inr (.inr (.inr (dlr S ad)))))) := hw2.1 10 0 _ rfl
    have gd26 : M2 (ad 11 (n.toNatClampNeg)) = some (.inr (4, [.ref (ad 6 (cus S (n.toNatClampNeg))), .ref (ad 4 (cuy S (n.toNatClampNeg))), .int (S.1 8 (n.toNatClampNeg)), .int (S.1 9 (n.toNatClampNeg)), .int (S.1 10 (n.toNatClampNeg)), .int (S.1 11 (n.toNatClampNeg)), .int (S.1 12 (n.toNatClampNeg))])) := hw2.1 11 _ _ (ct11 b2.2)
    have gy26 : M2 (ad 4 (cuy S (n.toNatClampNeg))) = some (.inr (2, [.int (nI (cuy S (n.toNatClampNeg))), .int (S.1 1 (cuy S (n.toNatClampNeg))), .int (S.1 2 (cuy S (n.toNatClampNeg)))])) := hw2.1 4 _ _ (ct4 (hi.cy b2.2))
    have gc27_6 : M2 (ad 6 (cus S (n.toNatClampNeg))) = some (.inr (3, [.int (S.1 3 (cus S (n.toNatClampNeg))), .ref (ad 7 (cus S (n.toNatClampNeg))), .ref (ad 8 (cus S (n.toNatClampNeg)))])) := hw2.1 6 _ _ (ct6 (hi.cu b2.2))
    have gc27_7 : M2 (ad 7 (cus S (n.toNatClampNeg))) = some (.inl (G.2.1 5, 1002, .inr (.inr (.inr (.inr (ntr ex2 ad (cus S (n.toNatClampNeg)))))))) := hw2.1 7 _ _ (ct7 (hi.cu b2.2))
    refine lv_aload_n hx hb dX5_draw_101 rfl (lv_at hl 3 rfl) ?_
    refine lv_dup hx hb dX5_draw_102 rfl ?_
    refine m_getN (host := RX5) (ci := 4) (v := .int (S.1 9 (n.toNatClampNeg))) (C := RX4) (T := TX4) (N := 7) (a := (ad 11 (n.toNatClampNeg))) hx hb hts (by decide +kernel) hown hC hM gd26 rfl 3 (by decide) (hC.w 9 rfl) (fun _ h9 => h9) rfl dX5_draw_103 ?_
    refine lv_iload_n hx hb dX5_draw_106 rfl (lv_at hl 6 rfl) ?_
    refine lv_isub hx hb dX5_draw_107 ?_
    refine m_putN (host := RX5) (ci := 4) (v := .int ((S.1 9 (n.toNatClampNeg)) - x)) (ty := .int) (C := RX4) (T := TX4) (N := 7) (a := (ad 11 (n.toNatClampNeg))) hx hb hts (by decide +kernel) tyX4 tyX4_ok nmX4 hown hC hM hS gd26 rfl 3 (by decide) (hC.w 9 rfl) (fun _ h9 => h9) rfl (by decide +kernel) rfl rfl (Nat.le_of_ble_eq_true rfl) dX5_draw_108 (fun H locs hM hS => ?_)
    have hM : Hm G (va_up M2 (ad 11 (n.toNatClampNeg)) (some (.inr (4, [.ref (ad 6 (cus S (n.toNatClampNeg))), .ref (ad 4 (cuy S (n.toNatClampNeg))), .int (S.1 8 (n.toNatClampNeg)), .int ((S.1 9 (n.toNatClampNeg)) - x), .int (S.1 10 (n.toNatClampNeg)), .int (S.1 11 (n.toNatClampNeg)), .int (S.1 12 (n.toNatClampNeg))])))) H := hM
    have f108_29 : (va_up M2 (ad 11 (n.toNatClampNeg)) (some (.inr (4, [.ref (ad 6 (cus S (n.toNatClampNeg))), .ref (ad 4 (cuy S (n.toNatClampNeg))), .int (S.1 8 (n.toNatClampNeg)), .int ((S.1 9 (n.toNatClampNeg)) - x), .int (S.1 10 (n.toNatClampNeg)), .int (S.1 11 (n.toNatClampNeg)), .int (S.1 12 (n.toNatClampNeg))])))) (ad 0 0) = some (.inr (5, [.ref (ad 1 0), .ref (ad 3 0), .ref (ad 5 0), .ref (ad 10 0), .int (S.1 5 0)])) := (up_ne (fun h9 => absurd (Eq.trans (Eq.trans (Eq.symm f0_25) (congrArg M2 h9)) gd26) (by simp))).trans f0_25
    have f108_30 : (va_up M2 (ad 11 (n.toNatClampNeg)) (some (.inr (4, [.ref (ad 6 (cus S (n.toNatClampNeg))), .ref (ad 4 (cuy S (n.toNatClampNeg))), .int (S.1 8 (n.toNatClampNeg)), .int ((S.1 9 (n.toNatClampNeg)) - x), .int (S.1 10 (n.toNatClampNeg)), .int (S.1 11 (n.toNatClampNeg)), .int (S.1 12 (n.toNatClampNeg))])))) (ad 1 0) = some (.inr (1, [.ref (ad 2 0), .int (S.1 0 0)])) := (up_ne (fun h9 => absurd (Eq.trans (Eq.trans (Eq.symm f1_25) (congrArg M2 h9)) gd26) (by simp))).trans f1_25
    have f108_31 : (va_up M2 (ad 11 (n.toNatClampNeg)) (some (.inr (4, [.ref (ad 6 (cus S (n.toNatClampNeg))), .ref (ad 4 (cuy S (n.toNatClampNeg))), .int (S.1 8 (n.toNatClampNeg)), .int ((S.1 9 (n.toNatClampNeg)) - x), .int (S.1 10 (n.toNatClampNeg)), .int (S.1 11 (n.toNatClampNeg)), .int (S.1 12 (n.toNatClampNeg))])))) (ad 2 0) = some (.inl (G.2.1 2, 1001, .inl (S.1 4))) := (up_ne (fun h9 => absurd (Eq.trans (Eq.trans (Eq.symm f2_25) (congrArg M2 h9)) gd26) (by simp))).trans f2_25
    have f108_32 : (va_up M2 (ad 11 (n.toNatClampNeg)) (some (.inr (4, [.ref (ad 6 (cus S (n.toNatClampNeg))), .ref (ad 4 (cuy S (n.toNatClampNeg))), .int (S.1 8 (n.toNatClampNeg)), .int ((S.1 9 (n.toNatClampNeg)) - x), .int (S.1 10 (n.toNatClampNeg)), .int (S.1 11 (n.toNatClampNeg)), .int (S.1 12 (n.toNatClampNeg))])))) (ad 3 0) = some (.inl (G.2.1 3, 4, .inr (.inr (.inr (.inr (crr ad)))))) := (up_ne (fun h9 => absurd (Eq.trans (Eq.trans (Eq.symm f3_25) (congrArg M2 h9)) gd26) (by simp))).trans f3_25
    have f108_33 : (va_up M2 (ad 11 (n.toNatClampNeg)) (some (.inr (4, [.ref (ad 6 (cus S (n.toNatClampNeg))), .ref (ad 4 (cuy S (n.toNatClampNeg))), .int (S.1 8 (n.toNatClampNeg)), .int ((S.1 9 (n.toNatClampNeg)) - x), .int (S.1 10 (n.toNatClampNeg)), .int (S.1 11 (n.toNatClampNeg)), .int (S.1 12 (n.toNatClampNeg))])))) (ad 5 0) = some (.inl (G.2.1 4, 5, .inr (.inr (.inr (.inr (csr ad)))))) := (up_ne (fun h9 => absurd (Eq.trans (Eq.trans (Eq.symm f5_25) (congrArg M2 h9)) gd26) (by simp))).trans f5_25
    have f108_34 : (va_up M2 (ad 11 (n.toNatClampNeg)) (some (.inr (4, [.ref (ad 6 (cus S (n.toNatClampNeg))), .ref (ad 4 (cuy S (n.toNatClampNeg))), .int (S.1 8 (n.toNatClampNeg)), .int ((S.1 9 (n.toNatClampNeg)) - x), .int (S.1 10 (n.toNatClampNeg)), .int (S.1 11 (n.toNatClampNeg)), .int (S.1 12 (n.toNatClampNeg))])))) (ad 10 0) = some (.inl (G.2.1 6, 20, .inr (.inr (.inr (.inr (dlr S ad)))))) := (up_ne (fun h9 => absurd (Eq.trans (Eq.trans (Eq.symm f10_25) (congrArg M2 h9)) gd26) (by simp))).trans f10_25
    have f108_35 : (va_up M2 (ad 11 (n.toNatClampNeg)) (some (.inr (4, [.ref (ad 6 (cus S (n.toNatClampNeg))), .ref (ad 4 (cuy S (n.toNatClampNeg))), .int (S.1 8 (n.toNatClampNeg)), .int ((S.1 9 (n.toNatClampNeg)) - x), .int (S.1 10 (n.toNatClampNeg)), .int (S.1 11 (n.toNatClampNeg)), .int (S.1 12 (n.toNatClampNeg))])))) (ad 11 (n.toNatClampNeg)) = some (.inr (4, [.ref (ad 6 (cus S (n.toNatClampNeg))), .ref (ad 4 (cuy S (n.toNatClampNeg))), .int (S.1 8 (n.toNatClampNeg)), .int ((S.1 9 (n.toNatClampNeg)) - x), .int (S.1 10 (n.toNatClampNeg)), .int (S.1 11 (n.toNatClampNeg)), .int (S.1 12 (n.toNatClampNeg))])) := up_eq
    have f108_36 : (va_up M2 (ad 11 (n.toNatClampNeg)) (some (.inr (4, [.ref (ad 6 (cus S (n.toNatClampNeg))), .ref (ad 4 (cuy S (n.toNatClampNeg))), .int (S.1 8 (n.toNatClampNeg)), .int ((S.1 9 (n.toNatClampNeg)) - x), .int (S.1 10 (n.toNatClampNeg)), .int (S.1 11 (n.toNatClampNeg)), .int (S.1 12 (n.toNatClampNeg))])))) (ad 4 (cuy S (n.toNatClampNeg))) = some (.inr (2, [.int (nI (cuy S (n.toNatClampNeg))), .int (S.1 1 (cuy S (n.toNatClampNeg))), .int (S.1 2 (cuy S (n.toNatClampNeg)))])) := (up_ne (fun h9 => absurd (Eq.trans (Eq.trans (Eq.symm gy26) (congrArg M2 h9)) gd26) (by simp))).trans gy26
    have f108_37 : (va_up M2 (ad 11 (n.toNatClampNeg)) (some (.inr (4, [.ref (ad 6 (cus S (n.toNatClampNeg))), .ref (ad 4 (cuy S (n.toNatClampNeg))), .int (S.1 8 (n.toNatClampNeg)), .int ((S.1 9 (n.toNatClampNeg)) - x), .int (S.1 10 (n.toNatClampNeg)), .int (S.1 11 (n.toNatClampNeg)), .int (S.1 12 (n.toNatClampNeg))])))) (ad 6 (cus S (n.toNatClampNeg))) = some (.inr (3, [.int (S.1 3 (cus S (n.toNatClampNeg))), .ref (ad 7 (cus S (n.toNatClampNeg))), .ref (ad 8 (cus S (n.toNatClampNeg)))])) := (up_ne (fun h9 => absurd (Eq.trans (Eq.trans (Eq.symm gc27_6) (congrArg M2 h9)) gd26) (by simp))).trans gc27_6
    have f108_38 : (va_up M2 (ad 11 (n.toNatClampNeg)) (some (.inr (4, [.ref (ad 6 (cus S (n.toNatClampNeg))), .ref (ad 4 (cuy S (n.toNatClampNeg))), .int (S.1 8 (n.toNatClampNeg)), .int ((S.1 9 (n.toNatClampNeg)) - x), .int (S.1 10 (n.toNatClampNeg)), .int (S.1 11 (n.toNatClampNeg)), .int (S.1 12 (n.toNatClampNeg))])))) (ad 7 (cus S (n.toNatClampNeg))) = some (.inl (G.2.1 5, 1002, .inr (.inr (.inr (.inr (ntr ex2 ad (cus S (n.toNatClampNeg)))))))) := (up_ne (fun h9 => absurd (Eq.trans (Eq.trans (Eq.symm gc27_7) (congrArg M2 h9)) gd26) (by simp))).trans gc27_7
    refine lv_iload hx hb dX5_draw_111 (lv_at hl 2 rfl) ?_
    have hw9 := w_left hw2 b2.2 (S.1 9 (n.toNatClampNeg) - x)
    have hb1 : bk S (cus S (n.toNatClampNeg)) (cuy S (n.toNatClampNeg)) (sn S) x.toInt64 = dr1 S (n.toNatClampNeg) x := by unfold dr1; rw [if_neg c_62]
    have hb2 : bk (bk S (cus S (n.toNatClampNeg)) (cuy S (n.toNatClampNeg)) (sn S) x.toInt64) (cus S (n.toNatClampNeg)) 4 (sn S) (-(hom x (if (S.1 0 0) < (S.1 11 (n.toNatClampNeg)) then al1 ((S.1 10 (n.toNatClampNeg)) + (S.1 2 (cuy S (n.toNatClampNeg))) * ((S.1 0 0) - (S.1 11 (n.toNatClampNeg)))) else (S.1 10 (n.toNatClampNeg))))) = dr2 S (n.toNatClampNeg) x := by unfold dr2; rw [hb1, if_neg c_62]; rfl
    rw [hb2] at hw9 hx2
    exact vx_ret (r_i hx hb hr hlocks hS (v := if (S.1 0 0) < (S.1 11 (n.toNatClampNeg)) then al1 ((S.1 10 (n.toNatClampNeg)) + (S.1 2 (cuy S (n.toNatClampNeg))) * ((S.1 0 0) - (S.1 11 (n.toNatClampNeg)))) else (S.1 10 (n.toNatClampNeg))) _ ⟨b2, hp12, rfl, ex2, hw9, hx2⟩ hM (Nat.le_of_ble_eq_true rfl) (Nat.le_of_ble_eq_true rfl) dX5_draw_113)
