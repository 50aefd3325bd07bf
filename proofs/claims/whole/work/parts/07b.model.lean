theorem vin_d {S : Sd} (hi : Iv S) {n : Int32} (h : 0 ≤ n ∧ n.toNatClampNeg < ndl S) : vp_in n 20 := vin_of 20 ⟨h.1, lt_20 hi h.2⟩ (by decide)
theorem dd_of {S : Sd} (hi : Iv S) {n : Int32} (h : ¬ inb n 0 (S.1 5 0 - 1) = 0) : 0 ≤ n ∧ n.toNatClampNeg < ndl S := by
  have h1 := inb_t h
  have h2 := Int32.le_iff_toInt_le.mp h1.2
  have h3 := hi.2.1
  have h4 := Int32.le_iff_toInt_le.mp h1.1
  rw [Int32.toInt_sub, show (1 : Int32).toInt = 1 from rfl, show ((S.1 5 0).toInt - 1).bmod (2 ^ 32) = (S.1 5 0).toInt - 1 from Int.bmod_eq_of_le (by omega) (by omega)] at h2
  have e0 : (0 : Int32).toInt = 0 := rfl
  refine ⟨h1.1, ?_⟩
  unfold ndl
  rw [Int32.toNatClampNeg, Int32.toNatClampNeg]
  omega
theorem nd_of {S : Sd} (hi : Iv S) {n : Int32} (h : inb n 0 (S.1 5 0 - 1) = 0) : ¬ (0 ≤ n ∧ n.toNatClampNeg < ndl S) := by
  intro z
  refine inb_f h ⟨z.1, ?_⟩
  have h3 := hi.2.1
  have h2 := z.2
  have h4 := Int32.le_iff_toInt_le.mp z.1
  have e0 : (0 : Int32).toInt = 0 := rfl
  unfold ndl at h2
  rw [Int32.toNatClampNeg, Int32.toNatClampNeg] at h2
  refine Int32.le_iff_toInt_le.mpr ?_
  rw [Int32.toInt_sub, show (1 : Int32).toInt = 1 from rfl, show ((S.1 5 0).toInt - 1).bmod (2 ^ 32) = (S.1 5 0).toInt - 1 from Int.bmod_eq_of_le (by omega) (by omega)]
  omega
theorem cyv {S : Sd} (hi : Iv S) {j : Nat} (hj : j < ndl S) : vp_in (S.1 7 j) 4 := by
  rw [vp_in_iff]
  exact (hi.2.2.1 j hj).2.1
theorem cuv {S : Sd} (hi : Iv S) {j : Nat} (hj : j < ndl S) : vp_in (S.1 6 j) 5 := by
  rw [vp_in_iff]
  exact (hi.2.2.1 j hj).1
theorem bus_lo {f : Nat → Int32} {d : Int32} (h0 : 0 ≤ d) (h1 : d ≤ 1000) : bus f d = if d - d / 7 * 7 < 5 ∧ f d.toNatClampNeg = 0 then 1 else 0 := by
  unfold bus
  have h2 : 0 ≤ d ∧ d < 1001 := ⟨h0, Int32.lt_iff_toInt_lt.mpr (by have := Int32.le_iff_toInt_le.mp h1; have e : (1000 : Int32).toInt = 1000 := rfl; show d.toInt < 1001; omega)⟩
  by_cases h3 : f d.toNatClampNeg = 0
  · by_cases h4 : d - d / 7 * 7 < 5
    · rw [if_pos ⟨h4, fun z => z.2 h3⟩, if_pos ⟨h4, h3⟩]
    · rw [if_neg (fun z => h4 z.1), if_neg (fun z => h4 z.1)]
  · rw [if_neg (fun z => z.2 ⟨h2, h3⟩), if_neg (fun z => h3 z.2)]
def busM (f : Nat → Int32) (d : Int32) : Int32 := if d < 1001 then bus f d else 1
theorem busM_1 {f : Nat → Int32} {d : Int32} (h0 : 0 ≤ d) (h1 : d ≤ 1000) : busM f d = if d - d / 7 * 7 < 5 ∧ f d.toNatClampNeg = 0 then 1 else 0 := by
  unfold busM
  rw [if_pos (Int32.lt_iff_toInt_lt.mpr (by have := Int32.le_iff_toInt_le.mp h1; have e : (1000 : Int32).toInt = 1000 := rfl; show d.toInt < 1001; omega)), bus_lo h0 h1]
theorem i1001 {d : Int32} (h0 : ¬ d ≤ 1000) (h1 : d ≤ 1001) : d = 1001 := by
  have a := Int32.lt_iff_toInt_lt.mp (Int32.not_le.mp h0)
  have b := Int32.le_iff_toInt_le.mp h1
  have e : (1000 : Int32).toInt = 1000 := rfl
  have e2 : (1001 : Int32).toInt = 1001 := rfl
  exact Int32.toInt_inj.mp (by omega)
theorem v1000 {d : Int32} (h0 : 0 ≤ d) (h1 : d ≤ 1000) : vp_in d 1001 := vin_of (n := 1001) 1001 ⟨h0, Int32.lt_iff_toInt_lt.mpr (by have := Int32.le_iff_toInt_le.mp h1; have e : (1000 : Int32).toInt = 1000 := rfl; show d.toInt < 1001; omega)⟩ (by decide)
theorem ix26 {S : Sd} (hi : Iv S) {c k : Int32} (hc : vp_in c 5) (hk : vp_in k 5) : vp_in (25 * sd S + 5 * c + k) 25750 ∧ (25 * sd S + 5 * c + k).toNatClampNeg = 5 * (5 * sn S + c.toNatClampNeg) + k.toNatClampNeg := by
  have h := sd_rng hi
  have h0 := hi.1
  rw [vp_in_iff] at hc hk
  have e25 : (25 : Int32).toInt = 25 := rfl
  have e5 : (5 : Int32).toInt = 5 := rfl
  have a : (25 * sd S).toInt = 25 * (sd S).toInt := by rw [Int32.toInt_mul, e25]; exact Int.bmod_eq_of_le (by omega) (by omega)
  have b : (5 * c).toInt = 5 * c.toInt := by rw [Int32.toInt_mul, e5]; exact Int.bmod_eq_of_le (by omega) (by omega)
  have d : (25 * sd S + 5 * c).toInt = 25 * (sd S).toInt + 5 * c.toInt := by rw [Int32.toInt_add, a, b]; exact Int.bmod_eq_of_le (by omega) (by omega)
  have e : (25 * sd S + 5 * c + k).toInt = 25 * (sd S).toInt + 5 * c.toInt + k.toInt := by rw [Int32.toInt_add, d]; exact Int.bmod_eq_of_le (by omega) (by omega)
  refine ⟨by rw [vp_in_iff, e]; omega, ?_⟩
  unfold sn
  rw [Int32.toNatClampNeg, Int32.toNatClampNeg, Int32.toNatClampNeg, Int32.toNatClampNeg, e]
  omega
theorem i32p {d : Int32} (h : 0 < d.toInt) : 0 ≤ d := Int32.le_iff_toInt_le.mpr (by show 0 ≤ d.toInt; omega)
theorem i32q {d : Int32} (h : d.toInt ≤ 1001) : d ≤ 1001 := Int32.le_iff_toInt_le.mpr (by show d.toInt ≤ 1001; omega)
theorem busM_z {f : Nat → Int32} {d : Int32} (h : busM f d = 0) : d < 1001 ∧ bus f d = 0 := by
  unfold busM at h
  by_cases c : d < 1001
  · rw [if_pos c] at h; exact ⟨c, h⟩
  · rw [if_neg c] at h; exact absurd h (by decide)
theorem busM_n {f : Nat → Int32} {d : Int32} (h : ¬ busM f d = 0) : ¬ (d < 1001 ∧ bus f d = 0) := fun z => h (by unfold busM; rw [if_pos z.1]; exact z.2)
theorem nbd_end {f : Nat → Int32} {n : Nat} {d : Int32} (h : ¬ (d < 1001 ∧ bus f d = 0)) : nbd f n d = d := by
  cases n with
  | zero => rfl
  | succ n => exact if_neg h
theorem nbd_go {f : Nat → Int32} {n : Nat} {d : Int32} (h : d < 1001 ∧ bus f d = 0) : nbd f (n + 1) d = nbd f n (d + 1) := if_pos h
theorem lt1001 {d : Int32} (h : d < 1001) : d.toInt < 1001 := Int32.lt_iff_toInt_lt.mp h
set_option maxHeartbeats 4000000 in
set_option maxRecDepth 100000 in
theorem c_X6_gainOf (l : Launch) (G : Gx) (M : Mp) (S T : Sd) (th : Int32) (o : Int64) (ex : Nat → Option (Nat × Nat)) (ad : Nat → Nat → Nat) (d am mk : Int32) (hw : WA G S T th o ex ad M) (hd : vp_in d 20) : Met l yX6_gainOf wsX6_gainOf ({ frames := 1, cells := 0, slots := 0, locals := 21 }) (Cv G M [.ref (ad 14 0), .int d, .int am, .int mk]) (va_Ql (S := Unit) (fun r _ => r = gn (T.1 8 d.toNatClampNeg) am (T.1 10 d.toNatClampNeg) mk) (Bm G (fun _ => M)) (AG G)) (0) (0) (AG G) := by
  refine m_met [.ref (ad 14 0), .int d, .int am, .int mk] [(0, .ref (ad 14 0)), (1, .int d), (2, .int am), (3, .int mk)] (by decide) rfl rfl (Nat.le_of_ble_eq_true rfl) ?_
  intro p e s m below meth c ls hx hb hr hml hown hts hlocks hin hC hM hl hS
  have m14 : M (ad 14 0) = some (.inr (6, [.int th, .int (T.1 0 0), .ref (ad 15 0), .ref (ad 16 0), .ref (ad 17 0), .ref (ad 18 0), .int (T.1 5 0), .ref (ad 19 0), .ref (ad 20 0), .ref (ad 21 0), .ref (ad 22 0), .ref (ad 23 0), .ref (ad 24 0), .ref (ad 25 0), .ref (ad 26 0), .ref (ad 27 0)])) := hw.1 14 0 _ rfl
  have m25 : M (ad 25 0) = some (.inl (G.2.1 0, 20, .inl (T.1 10))) := hw.1 25 0 _ rfl
  have m21 : M (ad 21 0) = some (.inl (G.2.1 2, 20, .inl (T.1 8))) := hw.1 21 0 _ rfl
  refine lv_iload_n hx hb dX6_gainOf_0 rfl (lv_at hl 2 rfl) ?_
  refine lv_iload_n hx hb dX6_gainOf_1 rfl (lv_at hl 3 rfl) ?_
  refine k_l (va_runS (As := [.int am, .int mk]) (rest := []) ⟨hx, hb, hml, hown, hts⟩ (c_X6_home l G M am mk) (va_cwS 2 hts gX6_gainOf_X6_home rfl rfl rfl (by decide +kernel) ⟨Nat.le_of_ble_eq_true rfl, Nat.le_of_ble_eq_true rfl⟩) (preS_of hC hS hM) rfl rfl hl.1 rfl (lv_room (Nat.le_of_ble_eq_true rfl)) dX6_gainOf_2 ⟨Nat.le_of_ble_eq_true rfl, Nat.le_of_ble_eq_true rfl⟩) hS (fun r2 u2 H locs hp2 hM hS => ?_)
  have hM : Hm G M H := hM
  have hp2 : r2 = hom am mk := hp2
  subst hp2
  refine lv_iload_n hx hb dX6_gainOf_5 rfl (lv_at hl 2 rfl) ?_
  refine lv_aload_n hx hb dX6_gainOf_6 rfl (lv_at hl 0 rfl) ?_
  refine m_get (ci := 6) (v := .ref (ad 25 0)) (C := RX6) (T := TX6) (N := 16) (a := (ad 14 0)) hx hb hts (by decide +kernel) hown hC hM m14 rfl 13 (by decide) (hts (.fieldLink RX6 44 "ForwardrollModel" "rate" "[I") (by decide +kernel)) (fun _ h9 => h9) rfl dX6_gainOf_7 ?_
  refine lv_iload_n hx hb dX6_gainOf_10 rfl (lv_at hl 1 rfl) ?_
  refine m_iald (a := (ad 25 0)) hx hb hC hM m25 hd dX6_gainOf_11 ?_
  refine k_l (va_runS (As := [.int am, .int ((T.1 10) d.toNatClampNeg)]) (rest := [.long (hom am mk)]) ⟨hx, hb, hml, hown, hts⟩ (c_X6_home l G M am ((T.1 10) d.toNatClampNeg)) (va_cwS 2 hts gX6_gainOf_X6_home rfl rfl rfl (by decide +kernel) ⟨Nat.le_of_ble_eq_true rfl, Nat.le_of_ble_eq_true rfl⟩) (preS_of hC hS hM) rfl rfl hl.1 rfl (lv_room (Nat.le_of_ble_eq_true rfl)) dX6_gainOf_12 ⟨Nat.le_of_ble_eq_true rfl, Nat.le_of_ble_eq_true rfl⟩) hS (fun r12 u12 H locs hp12 hM hS => ?_)
  have hM : Hm G M H := hM
  have hp12 : r12 = hom am ((T.1 10) d.toNatClampNeg) := hp12
  subst hp12
  refine lv_lsub hx hb dX6_gainOf_15 ?_
  refine lv_lstore (lv' := [(4, .long ((hom am mk) - (hom am ((T.1 10) d.toNatClampNeg)))), (0, .ref (ad 14 0)), (1, .int d), (2, .int am), (3, .int mk)]) hx hb dX6_gainOf_16 hl (by decide) rfl (fun ls hl => ?_)
  refine lv_aload_n hx hb dX6_gainOf_18 rfl (lv_at hl 1 rfl) ?_
  refine m_get (ci := 6) (v := .ref (ad 21 0)) (C := RX6) (T := TX6) (N := 16) (a := (ad 14 0)) hx hb hts (by decide +kernel) hown hC hM m14 rfl 9 (by decide) (hts (.fieldLink RX6 32 "ForwardrollModel" "buys" "[Z") (by decide +kernel)) (fun _ h9 => h9) rfl dX6_gainOf_19 ?_
  refine lv_iload_n hx hb dX6_gainOf_22 rfl (lv_at hl 2 rfl) ?_
  refine m_zald (a := (ad 21 0)) hx hb hC hM m21 hd dX6_gainOf_23 ?_
  refine lv_if_eq (tgt := 32) hx hb dX6_gainOf_24 (by decide) (fun c_24 => ?_) (fun c_24 => ?_)
  · refine lv_lload hx hb dX6_gainOf_32 (lv_at hl 0 rfl) ?_
    refine lv_lneg hx hb dX6_gainOf_34 ?_
    exact (r_l hx hb hr hlocks hS (v := (-((hom am mk) - (hom am ((T.1 10) d.toNatClampNeg))))) () (by unfold gn; rw [if_pos c_24]) hM (Nat.le_of_ble_eq_true rfl) (Nat.le_of_ble_eq_true rfl) dX6_gainOf_35)
  · refine lv_lload hx hb dX6_gainOf_27 (lv_at hl 0 rfl) ?_
    refine lv_goto (tgt := 35) hx hb dX6_gainOf_29 (by decide) ?_
    exact (r_l hx hb hr hlocks hS (v := ((hom am mk) - (hom am ((T.1 10) d.toNatClampNeg)))) () (by unfold gn; rw [if_neg c_24]) hM (Nat.le_of_ble_eq_true rfl) (Nat.le_of_ble_eq_true rfl) dX6_gainOf_35)
set_option maxHeartbeats 4000000 in
set_option maxRecDepth 100000 in
theorem c_X6_gainNow (l : Launch) (G : Gx) (M : Mp) (S T : Sd) (th : Int32) (o : Int64) (ex : Nat → Option (Nat × Nat)) (ad : Nat → Nat → Nat) (d : Int32) (hw : WA G S T th o ex ad M) (hi : Iv T) (hj : 0 ≤ d ∧ d.toNatClampNeg < ndl T) : Met l yX6_gainNow wsX6_gainNow ({ frames := 2, cells := 0, slots := 0, locals := 46 }) (Cv G M [.ref (ad 14 0), .int d]) (va_Ql (S := Unit) (fun r _ => r = mg T d.toNatClampNeg) (Bm G (fun _ => M)) (AG G)) (0) (0) (AG G) := by
  refine m_met [.ref (ad 14 0), .int d] [(0, .ref (ad 14 0)), (1, .int d)] (by decide) rfl rfl (Nat.le_of_ble_eq_true rfl) ?_
  intro p e s m below meth c ls hx hb hr hml hown hts hlocks hin hC hM hl hS
  have m14 : M (ad 14 0) = some (.inr (6, [.int th, .int (T.1 0 0), .ref (ad 15 0), .ref (ad 16 0), .ref (ad 17 0), .ref (ad 18 0), .int (T.1 5 0), .ref (ad 19 0), .ref (ad 20 0), .ref (ad 21 0), .ref (ad 22 0), .ref (ad 23 0), .ref (ad 24 0), .ref (ad 25 0), .ref (ad 26 0), .ref (ad 27 0)])) := hw.1 14 0 _ rfl
  have m22 : M (ad 22 0) = some (.inl (G.2.1 0, 20, .inl (T.1 9))) := hw.1 22 0 _ rfl
  have m20 : M (ad 20 0) = some (.inl (G.2.1 0, 20, .inl (T.1 7))) := hw.1 20 0 _ rfl
  have m24 : M (ad 24 0) = some (.inl (G.2.1 0, 20, .inl (T.1 12))) := hw.1 24 0 _ rfl
  refine lv_aload_n hx hb dX6_gainNow_0 rfl (lv_at hl 0 rfl) ?_
  refine lv_iload_n hx hb dX6_gainNow_1 rfl (lv_at hl 1 rfl) ?_
  refine lv_aload_n hx hb dX6_gainNow_2 rfl (lv_at hl 0 rfl) ?_
  refine m_get (ci := 6) (v := .ref (ad 22 0)) (C := RX6) (T := TX6) (N := 16) (a := (ad 14 0)) hx hb hts (by decide +kernel) hown hC hM m14 rfl 10 (by decide) (hts (.fieldLink RX6 35 "ForwardrollModel" "left" "[I") (by decide +kernel)) (fun _ h9 => h9) rfl dX6_gainNow_3 ?_
  refine lv_iload_n hx hb dX6_gainNow_6 rfl (lv_at hl 1 rfl) ?_
  refine m_iald (a := (ad 22 0)) hx hb hC hM m22 (vin_d hi hj) dX6_gainNow_7 ?_
  refine lv_aload_n hx hb dX6_gainNow_8 rfl (lv_at hl 0 rfl) ?_
  refine lv_aload_n hx hb dX6_gainNow_9 rfl (lv_at hl 0 rfl) ?_
  refine m_get (ci := 6) (v := .ref (ad 20 0)) (C := RX6) (T := TX6) (N := 16) (a := (ad 14 0)) hx hb hts (by decide +kernel) hown hC hM m14 rfl 8 (by decide) (hts (.fieldLink RX6 29 "ForwardrollModel" "currency" "[I") (by decide +kernel)) (fun _ h9 => h9) rfl dX6_gainNow_10 ?_
  refine lv_iload_n hx hb dX6_gainNow_13 rfl (lv_at hl 1 rfl) ?_
  refine m_iald (a := (ad 20 0)) hx hb hC hM m20 (vin_d hi hj) dX6_gainNow_14 ?_
  refine lv_aload_n hx hb dX6_gainNow_15 rfl (lv_at hl 0 rfl) ?_
  refine m_get (ci := 6) (v := .ref (ad 24 0)) (C := RX6) (T := TX6) (N := 16) (a := (ad 14 0)) hx hb hts (by decide +kernel) hown hC hM m14 rfl 12 (by decide) (hts (.fieldLink RX6 41 "ForwardrollModel" "last" "[I") (by decide +kernel)) (fun _ h9 => h9) rfl dX6_gainNow_16 ?_
  refine lv_iload_n hx hb dX6_gainNow_19 rfl (lv_at hl 1 rfl) ?_
  refine m_iald (a := (ad 24 0)) hx hb hC hM m24 (vin_d hi hj) dX6_gainNow_20 ?_
  refine k_i (va_runV (As := [.int ((T.1 7) d.toNatClampNeg), .int ((T.1 12) d.toNatClampNeg)]) (rest := [.int ((T.1 9) d.toNatClampNeg), .int d, .ref (ad 14 0)]) ⟨hx, hb, hml, hown, hts⟩ (c_X6_forwardFor l G M S T th o ex ad ((T.1 7) d.toNatClampNeg) ((T.1 12) d.toNatClampNeg) hw (cyv hi hj.2)) (cwV 2 hts gX6_gainNow_X6_forwardFor rfl rfl rfl (by decide +kernel) ⟨Nat.le_of_ble_eq_true rfl, Nat.le_of_ble_eq_true rfl⟩) (preV_of hC hS hM m14 rfl) rfl rfl hl.1 rfl (lv_room (Nat.le_of_ble_eq_true rfl)) dX6_gainNow_21 ⟨Nat.le_of_ble_eq_true rfl, Nat.le_of_ble_eq_true rfl⟩) hS (fun r21 u21 H locs hp21 hM hS => ?_)
  have hM : Hm G M H := hM
  have hp21 : r21 = al1 (T.1 1 ((T.1 7) d.toNatClampNeg).toNatClampNeg + T.1 2 ((T.1 7) d.toNatClampNeg).toNatClampNeg * (((T.1 12) d.toNatClampNeg) - T.1 0 0)) := hp21
  subst hp21
  refine k_l (va_runV (As := [.int d, .int ((T.1 9) d.toNatClampNeg), .int (al1 (T.1 1 ((T.1 7) d.toNatClampNeg).toNatClampNeg + T.1 2 ((T.1 7) d.toNatClampNeg).toNatClampNeg * (((T.1 12) d.toNatClampNeg) - T.1 0 0)))]) (rest := []) ⟨hx, hb, hml, hown, hts⟩ (c_X6_gainOf l G M S T th o ex ad d ((T.1 9) d.toNatClampNeg) (al1 (T.1 1 ((T.1 7) d.toNatClampNeg).toNatClampNeg + T.1 2 ((T.1 7) d.toNatClampNeg).toNatClampNeg * (((T.1 12) d.toNatClampNeg) - T.1 0 0))) hw (vin_d hi hj)) (cwV 3 hts gX6_gainNow_X6_gainOf rfl rfl rfl (by decide +kernel) ⟨Nat.le_of_ble_eq_true rfl, Nat.le_of_ble_eq_true rfl⟩) (preV_of hC hS hM m14 rfl) rfl rfl hl.1 rfl (lv_room (Nat.le_of_ble_eq_true rfl)) dX6_gainNow_24 ⟨Nat.le_of_ble_eq_true rfl, Nat.le_of_ble_eq_true rfl⟩) hS (fun r24 u24 H locs hp24 hM hS => ?_)
  have hM : Hm G M H := hM
  have hp24 : r24 = gn (T.1 8 d.toNatClampNeg) ((T.1 9) d.toNatClampNeg) (T.1 10 d.toNatClampNeg) (al1 (T.1 1 ((T.1 7) d.toNatClampNeg).toNatClampNeg + T.1 2 ((T.1 7) d.toNatClampNeg).toNatClampNeg * (((T.1 12) d.toNatClampNeg) - T.1 0 0))) := hp24
  subst hp24
  exact (r_l hx hb hr hlocks hS (v := gn (T.1 8 d.toNatClampNeg) ((T.1 9) d.toNatClampNeg) (T.1 10 d.toNatClampNeg) (al1 (T.1 1 ((T.1 7) d.toNatClampNeg).toNatClampNeg + T.1 2 ((T.1 7) d.toNatClampNeg).toNatClampNeg * (((T.1 12) d.toNatClampNeg) - T.1 0 0)))) () rfl hM (Nat.le_of_ble_eq_true rfl) (Nat.le_of_ble_eq_true rfl) dX6_gainNow_27)
set_option maxHeartbeats 4000000 in
set_option maxRecDepth 100000 in
theorem c_X6_isBusiness (l : Launch) (G : Gx) (M : Mp) (S T : Sd) (th : Int32) (o : Int64) (ex : Nat → Option (Nat × Nat)) (ad : Nat → Nat → Nat) (d : Int32) (hw : WA G S T th o ex ad M) (h0 : 0 ≤ d) (h1 : d ≤ 1001) : Met l yX6_isBusiness wsX6_isBusiness ({ frames := 0, cells := 0, slots := 0, locals := 0 }) (Cv G M [.ref (ad 14 0), .int d]) (va_Qi (S := Unit) (fun r _ => r = busM (T.1 4) d) (Bm G (fun _ => M)) (AG G)) (0) (0) (AG G) := by
  refine m_met [.ref (ad 14 0), .int d] [(0, .ref (ad 14 0)), (1, .int d)] (by decide) rfl rfl (Nat.le_of_ble_eq_true rfl) ?_
  intro p e s m below meth c ls hx hb hr hml hown hts hlocks hin hC hM hl hS
  have m14 : M (ad 14 0) = some (.inr (6, [.int th, .int (T.1 0 0), .ref (ad 15 0), .ref (ad 16 0), .ref (ad 17 0), .ref (ad 18 0), .int (T.1 5 0), .ref (ad 19 0), .ref (ad 20 0), .ref (ad 21 0), .ref (ad 22 0), .ref (ad 23 0), .ref (ad 24 0), .ref (ad 25 0), .ref (ad 26 0), .ref (ad 27 0)])) := hw.1 14 0 _ rfl
  have m18 : M (ad 18 0) = some (.inl (G.2.1 2, 1001, .inl (T.1 4))) := hw.1 18 0 _ rfl
  refine lv_iload_n hx hb dX6_isBusiness_0 rfl (lv_at hl 1 rfl) ?_
  refine lv_bipush (v := 7) hx hb dX6_isBusiness_1 (by decide) ?_
  refine lv_irem hx hb dX6_isBusiness_3 (by decide) ?_
  refine lv_iconst (v := 5) hx hb dX6_isBusiness_4 (by decide) ?_
  refine lv_icmp_ge (tgt := 28) hx hb dX6_isBusiness_5 (by decide) (fun c_5 => ?_) (fun c_5 => ?_)
  · refine lv_iconst (v := 0) hx hb dX6_isBusiness_28 (by decide) ?_
    have h9 : busM (T.1 4) d = 0 := by
      by_cases hd : d ≤ 1000
      · rw [busM_1 h0 hd, if_neg (fun z => absurd z.1 (Int32.not_lt.mpr c_5))]
      · rw [i1001 hd h1] at c_5; exact absurd c_5 (by decide)
    exact (r_z hx hb hr hlocks hS (v := 0) (by simp) () (h9.symm) hM (Nat.le_of_ble_eq_true rfl) (Nat.le_of_ble_eq_true rfl) dX6_isBusiness_29)
  · refine lv_iload_n hx hb dX6_isBusiness_8 rfl (lv_at hl 1 rfl) ?_
    refine lv_sipush (v := 1000) hx hb dX6_isBusiness_9 (by decide) ?_
    refine lv_icmp_gt (tgt := 24) hx hb dX6_isBusiness_12 (by decide) (fun c_12 => ?_) (fun c_12 => ?_)
    · refine lv_iconst (v := 1) hx hb dX6_isBusiness_24 (by decide) ?_
      refine lv_goto (tgt := 29) hx hb dX6_isBusiness_25 (by decide) ?_
      have h9 : busM (T.1 4) d = 1 := by rw [i1001 (Int32.not_le.mpr c_12) h1]; rfl
      exact (r_z hx hb hr hlocks hS (v := 1) (by simp) () (h9.symm) hM (Nat.le_of_ble_eq_true rfl) (Nat.le_of_ble_eq_true rfl) dX6_isBusiness_29)
    · refine lv_aload_n hx hb dX6_isBusiness_15 rfl (lv_at hl 0 rfl) ?_
      refine m_get (ci := 6) (v := .ref (ad 18 0)) (C := RX6) (T := TX6) (N := 16) (a := (ad 14 0)) hx hb hts (by decide +kernel) hown hC hM m14 rfl 5 (by decide) (hts (.fieldLink RX6 22 "ForwardrollModel" "isHoliday" "[Z") (by decide +kernel)) (fun _ h9 => h9) rfl dX6_isBusiness_16 ?_
      refine lv_iload_n hx hb dX6_isBusiness_19 rfl (lv_at hl 1 rfl) ?_
      refine m_zald (a := (ad 18 0)) hx hb hC hM m18 (v1000 h0 (Int32.not_lt.mp c_12)) dX6_isBusiness_20 ?_
      refine lv_if_ne (tgt := 28) hx hb dX6_isBusiness_21 (by decide) (fun c_21 => ?_) (fun c_21 => ?_)
      · refine lv_iconst (v := 0) hx hb dX6_isBusiness_28 (by decide) ?_
        have h9 : busM (T.1 4) d = 0 := by rw [busM_1 h0 (Int32.not_lt.mp c_12)]; exact if_neg (fun z => c_21 z.2)
        exact (r_z hx hb hr hlocks hS (v := 0) (by simp) () (h9.symm) hM (Nat.le_of_ble_eq_true rfl) (Nat.le_of_ble_eq_true rfl) dX6_isBusiness_29)
      · refine lv_iconst (v := 1) hx hb dX6_isBusiness_24 (by decide) ?_
        refine lv_goto (tgt := 29) hx hb dX6_isBusiness_25 (by decide) ?_
        have h9 : busM (T.1 4) d = 1 := by rw [busM_1 h0 (Int32.not_lt.mp c_12)]; exact if_pos ⟨Int32.not_le.mp c_5, c_21⟩
        exact (r_z hx hb hr hlocks hS (v := 1) (by simp) () (h9.symm) hM (Nat.le_of_ble_eq_true rfl) (Nat.le_of_ble_eq_true rfl) dX6_isBusiness_29)
set_option maxHeartbeats 4000000 in
set_option maxRecDepth 100000 in
theorem c_X6_settles (l : Launch) (G : Gx) (M : Mp) (S T : Sd) (th : Int32) (o : Int64) (ex : Nat → Option (Nat × Nat)) (ad : Nat → Nat → Nat)  (hw : WA G S T th o ex ad M) (hi : Iv T) : Met l yX6_settles wsX6_settles ({ frames := 1, cells := 0, slots := 0, locals := 21 }) (Cv G M [.ref (ad 14 0)]) (va_Qi (S := Unit) (fun r _ => r = sd T) (Bm G (fun _ => M)) (AG G)) (0) (0) (AG G) := by
  refine m_met [.ref (ad 14 0)] [(0, .ref (ad 14 0))] (by decide) rfl rfl (Nat.le_of_ble_eq_true rfl) ?_
  intro p e s m below meth c ls hx hb hr hml hown hts hlocks hin hC hM hl hS
  have m14 : M (ad 14 0) = some (.inr (6, [.int th, .int (T.1 0 0), .ref (ad 15 0), .ref (ad 16 0), .ref (ad 17 0), .ref (ad 18 0), .int (T.1 5 0), .ref (ad 19 0), .ref (ad 20 0), .ref (ad 21 0), .ref (ad 22 0), .ref (ad 23 0), .ref (ad 24 0), .ref (ad 25 0), .ref (ad 26 0), .ref (ad 27 0)])) := hw.1 14 0 _ rfl
  refine lv_aload_n hx hb dX6_settles_0 rfl (lv_at hl 0 rfl) ?_
  refine m_get (ci := 6) (v := .int (T.1 0 0)) (C := RX6) (T := TX6) (N := 16) (a := (ad 14 0)) hx hb hts (by decide +kernel) hown hC hM m14 rfl 1 (by decide) (hts (.fieldLink RX6 64 "ForwardrollModel" "today" "I") (by decide +kernel)) (fun _ h9 => h9) rfl dX6_settles_1 ?_
  refine lv_iconst (v := 1) hx hb dX6_settles_4 (by decide) ?_
  refine lv_iadd hx hb dX6_settles_5 ?_
  refine lv_istore_n (lv' := [(1, .int ((T.1 0 0) + 1)), (0, .ref (ad 14 0))]) hx hb dX6_settles_6 rfl hl (by decide) rfl (fun ls hl => ?_)
  have loop : ∀ (n9 : Nat) (d9 : Int32), 0 < d9.toInt → d9.toInt ≤ 1001 → 1001 - d9.toInt ≤ (n9 : Int) → nbd (T.1 4) n9 d9 = sd T → ∀ ls : Array Slot, lv_has ls 2 [(0, .ref (ad 14 0)), (1, .int d9)] → ∀ (H : Heap) (locs : List Loc), Hm G M H → va_S (AG G) s.heap H locs → W p l e { frames := 1, cells := 0, slots := 0, locals := 21 } s m ([.ref (ad 14 0)] : List Value).toArray below meth c H locs (0) (0) (MQ below (va_Qi (S := Unit) (fun r _ => r = sd T) (Bm G (fun _ => M)) (AG G)) ([.ref (ad 14 0)] : List Value).toArray s (0) (0) (AG G)) (F0 m 7 ls []) := by
    intro n9
    induction n9 with
    | zero =>
      intro d9 g0 g1 g2 hz ls hl H locs hM hS
      refine lv_aload_n hx hb dX6_settles_7 rfl (lv_at hl 0 rfl) ?_
      refine lv_iload_n hx hb dX6_settles_8 rfl (lv_at hl 1 rfl) ?_
      refine k_i (va_runV (As := [.int d9]) (rest := []) ⟨hx, hb, hml, hown, hts⟩ (c_X6_isBusiness l G M S T th o ex ad d9 hw (i32p (by omega)) (i32q (by omega))) (cwV 1 hts gX6_settles_X6_isBusiness rfl rfl rfl (by decide +kernel) ⟨Nat.le_of_ble_eq_true rfl, Nat.le_of_ble_eq_true rfl⟩) (preV_of hC hS hM m14 rfl) rfl rfl hl.1 rfl (lv_room (Nat.le_of_ble_eq_true rfl)) dX6_settles_9 ⟨Nat.le_of_ble_eq_true rfl, Nat.le_of_ble_eq_true rfl⟩) hS (fun r9 u9 H locs hp9 hM hS => ?_)
      have hM : Hm G M H := hM
      have hp9 : r9 = busM (T.1 4) d9 := hp9
      subst hp9
      refine lv_if_ne (tgt := 21) hx hb dX6_settles_12 (by decide) (fun c_12 => ?_) (fun c_12 => False.elim (by have hbz := lt1001 (busM_z c_12).1; omega))
      refine lv_iload_n hx hb dX6_settles_21 rfl (lv_at hl 1 rfl) ?_
      exact (r_i hx hb hr hlocks hS (v := d9) () (hz.symm.trans (nbd_end (busM_n c_12))).symm hM (Nat.le_of_ble_eq_true rfl) (Nat.le_of_ble_eq_true rfl) dX6_settles_22)
    | succ n9 ih =>
      intro d9 g0 g1 g2 hz ls hl H locs hM hS
      refine lv_aload_n hx hb dX6_settles_7 rfl (lv_at hl 0 rfl) ?_
      refine lv_iload_n hx hb dX6_settles_8 rfl (lv_at hl 1 rfl) ?_
      refine k_i (va_runV (As := [.int d9]) (rest := []) ⟨hx, hb, hml, hown, hts⟩ (c_X6_isBusiness l G M S T th o ex ad d9 hw (i32p (by omega)) (i32q (by omega))) (cwV 1 hts gX6_settles_X6_isBusiness rfl rfl rfl (by decide +kernel) ⟨Nat.le_of_ble_eq_true rfl, Nat.le_of_ble_eq_true rfl⟩) (preV_of hC hS hM m14 rfl) rfl rfl hl.1 rfl (lv_room (Nat.le_of_ble_eq_true rfl)) dX6_settles_9 ⟨Nat.le_of_ble_eq_true rfl, Nat.le_of_ble_eq_true rfl⟩) hS (fun r9 u9 H locs hp9 hM hS => ?_)
      have hM : Hm G M H := hM
      have hp9 : r9 = busM (T.1 4) d9 := hp9
      subst hp9
      refine lv_if_ne (tgt := 21) hx hb dX6_settles_12 (by decide) (fun c_12 => ?_) (fun c_12 => ?_)
      · refine lv_iload_n hx hb dX6_settles_21 rfl (lv_at hl 1 rfl) ?_
        exact (r_i hx hb hr hlocks hS (v := d9) () (hz.symm.trans (nbd_end (busM_n c_12))).symm hM (Nat.le_of_ble_eq_true rfl) (Nat.le_of_ble_eq_true rfl) dX6_settles_22)
      · refine lv_iinc (v := (d9 + 1)) (lv' := [(1, .int (d9 + 1)), (0, .ref (ad 14 0))]) hx hb dX6_settles_15 hl (k := 1) rfl rfl (by decide) rfl (fun ls hl => ?_)
        refine lv_goto (tgt := 7) hx hb dX6_settles_18 (by decide) ?_
        have hbz := busM_z c_12
        have hb1 := lt1001 hbz.1
        have hb2 := add1_toInt (x := d9) (by omega) (by omega)
        exact ih (d9 + 1) (by omega) (by omega) (by omega) (by rw [← hz]; exact (nbd_go hbz).symm) ls (lv_sub hl [1, 0] rfl) _ _ hM hS
  exact loop 1002 (T.1 0 0 + 1) (by have := hi.1; have e9 := add1_toInt this.1 this.2; omega) (by have := hi.1; have e9 := add1_toInt this.1 this.2; omega) (by have := hi.1; have e9 := add1_toInt this.1 this.2; omega) rfl ls (lv_sub hl [1, 0] rfl) _ _ hM hS
set_option maxHeartbeats 4000000 in
set_option maxRecDepth 100000 in
theorem c_X6_owes (l : Launch) (G : Gx) (M : Mp) (S T : Sd) (th : Int32) (o : Int64) (ex : Nat → Option (Nat × Nat)) (ad : Nat → Nat → Nat) (c9 k : Int32) (x : Int64) (hw : WA G S T th o ex ad M) (hi : Iv T) (hc : vp_in c9 5) (hk : vp_in k 5) : Met l yX6_owes wsX6_owes ({ frames := 2, cells := 0, slots := 0, locals := 42 }) (Cv G M [.ref (ad 14 0), .int c9, .int k, .long x]) (va_Qv (S := Mp) (fun M2 => WA G S (bk T c9.toNatClampNeg k.toNatClampNeg (sn T) x) th o ex ad M2) (Bm G (fun M2 => M2)) (AG G)) (0) (0) (AG G) := by
  refine m_met [.ref (ad 14 0), .int c9, .int k, .long x] [(0, .ref (ad 14 0)), (1, .int c9), (2, .int k), (3, .long x)] (by decide) rfl rfl (Nat.le_of_ble_eq_true rfl) ?_
  intro p e s m below meth c ls hx hb hr hml hown hts hlocks hin hC hM hl hS
  have m14 : M (ad 14 0) = some (.inr (6, [.int th, .int (T.1 0 0), .ref (ad 15 0), .ref (ad 16 0), .ref (ad 17 0), .ref (ad 18 0), .int (T.1 5 0), .ref (ad 19 0), .ref (ad 20 0), .ref (ad 21 0), .ref (ad 22 0), .ref (ad 23 0), .ref (ad 24 0), .ref (ad 25 0), .ref (ad 26 0), .ref (ad 27 0)])) := hw.1 14 0 _ rfl
  have m26 : M (ad 26 0) = some (.inl (G.2.1 1, 25750, .inr (.inl (T.2 0)))) := hw.1 26 0 _ rfl
  refine lv_aload_n hx hb dX6_owes_0 rfl (lv_at hl 0 rfl) ?_
  refine m_get (ci := 6) (v := .ref (ad 26 0)) (C := RX6) (T := TX6) (N := 16) (a := (ad 14 0)) hx hb hts (by decide +kernel) hown hC hM m14 rfl 14 (by decide) (hts (.fieldLink RX6 47 "ForwardrollModel" "due" "[J") (by decide +kernel)) (fun _ h9 => h9) rfl dX6_owes_1 ?_
  refine lv_bipush (v := 25) hx hb dX6_owes_4 (by decide) ?_
  refine lv_aload_n hx hb dX6_owes_6 rfl (lv_at hl 0 rfl) ?_
  refine k_i (va_runV (As := []) (rest := [.int 25, .ref (ad 26 0)]) ⟨hx, hb, hml, hown, hts⟩ (c_X6_settles l G M S T th o ex ad hw hi) (cwV 0 hts gX6_owes_X6_settles rfl rfl rfl (by decide +kernel) ⟨Nat.le_of_ble_eq_true rfl, Nat.le_of_ble_eq_true rfl⟩) (preV_of hC hS hM m14 rfl) rfl rfl hl.1 rfl (lv_room (Nat.le_of_ble_eq_true rfl)) dX6_owes_7 ⟨Nat.le_of_ble_eq_true rfl, Nat.le_of_ble_eq_true rfl⟩) hS (fun r7 u7 H locs hp7 hM hS => ?_)
  have hM : Hm G M H := hM
  have hp7 : r7 = sd T := hp7
  subst hp7
  refine lv_imul hx hb dX6_owes_10 ?_
  refine lv_iconst (v := 5) hx hb dX6_owes_11 (by decide) ?_
  refine lv_iload_n hx hb dX6_owes_12 rfl (lv_at hl 1 rfl) ?_
  refine lv_imul hx hb dX6_owes_13 ?_
  refine lv_iadd hx hb dX6_owes_14 ?_
  refine lv_iload_n hx hb dX6_owes_15 rfl (lv_at hl 2 rfl) ?_
  refine lv_iadd hx hb dX6_owes_16 ?_
  refine lv_dup2_11 hx hb dX6_owes_17 rfl rfl ?_
  refine m_lald (a := (ad 26 0)) hx hb hC hM m26 (ix26 hi hc hk).1 dX6_owes_18 ?_
  refine lv_lload_n hx hb dX6_owes_19 rfl (lv_at hl 3 rfl) ?_
  refine lv_ladd hx hb dX6_owes_20 ?_
  refine m_last (a := (ad 26 0)) hx hb hC hM hS m26 (ix26 hi hc hk).1 dX6_owes_21 (fun H locs hM hS => ?_)
  have hM : Hm G (va_up M (ad 26 0) (some (.inl (G.2.1 1, 25750, .inr (.inl (vp_updL (T.2 0) (((25 * (sd T)) + (5 * c9)) + k).toNatClampNeg (((T.2 0) (((25 * (sd T)) + (5 * c9)) + k).toNatClampNeg) + x))))))) H := hM
  have f21_2 : (va_up M (ad 26 0) (some (.inl (G.2.1 1, 25750, .inr (.inl (vp_updL (T.2 0) (((25 * (sd T)) + (5 * c9)) + k).toNatClampNeg (((T.2 0) (((25 * (sd T)) + (5 * c9)) + k).toNatClampNeg) + x))))))) (ad 14 0) = some (.inr (6, [.int th, .int (T.1 0 0), .ref (ad 15 0), .ref (ad 16 0), .ref (ad 17 0), .ref (ad 18 0), .int (T.1 5 0), .ref (ad 19 0), .ref (ad 20 0), .ref (ad 21 0), .ref (ad 22 0), .ref (ad 23 0), .ref (ad 24 0), .ref (ad 25 0), .ref (ad 26 0), .ref (ad 27 0)])) := (up_ne (hw.ne (k := 14) (i := 0) (k' := 26) (i' := 0) rfl rfl (by decide))).trans m14
  have f21_3 : (va_up M (ad 26 0) (some (.inl (G.2.1 1, 25750, .inr (.inl (vp_updL (T.2 0) (((25 * (sd T)) + (5 * c9)) + k).toNatClampNeg (((T.2 0) (((25 * (sd T)) + (5 * c9)) + k).toNatClampNeg) + x))))))) (ad 26 0) = some (.inl (G.2.1 1, 25750, .inr (.inl (vp_updL (T.2 0) (((25 * (sd T)) + (5 * c9)) + k).toNatClampNeg (((T.2 0) (((25 * (sd T)) + (5 * c9)) + k).toNatClampNeg) + x))))) := up_eq
  have hix := ix26 hi hc hk
  have hw9 := w_mdue hw (5 * (5 * sn T + c9.toNatClampNeg) + k.toNatClampNeg) (T.2 0 (5 * (5 * sn T + c9.toNatClampNeg) + k.toNatClampNeg) + x)
  rw [hix.2] at hM
  exact (r_v hx hb hr hlocks hS _ hw9 hM (Nat.le_of_ble_eq_true rfl) (Nat.le_of_ble_eq_true rfl) dX6_owes_22)
set_option maxHeartbeats 4000000 in
set_option maxRecDepth 100000 in
theorem c_X6_asks (l : Launch) (G : Gx) (M : Mp) (S T : Sd) (th : Int32) (o : Int64) (ex : Nat → Option (Nat × Nat)) (ad : Nat → Nat → Nat) (d : Int32) (hw : WA G S T th o ex ad M) (hi : Iv T) : Met l yX6_asks wsX6_asks ({ frames := 2, cells := 0, slots := 0, locals := 43 }) (Cv G M [.ref (ad 14 0), .int d]) (va_Qi (S := Mp) (fun r M2 => (¬ (0 ≤ d ∧ d.toNatClampNeg < ndl T) ∧ r = 0 ∧ WA G S T 1 o ex ad M2) ∨ ((0 ≤ d ∧ d.toNatClampNeg < ndl T) ∧ r = 1 ∧ WA G S T 0 o ex ad M2)) (Bm G (fun M2 => M2)) (AG G)) (0) (0) (AG G) := by
  refine m_met [.ref (ad 14 0), .int d] [(0, .ref (ad 14 0)), (1, .int d)] (by decide) rfl rfl (Nat.le_of_ble_eq_true rfl) ?_
  intro p e s m below meth c ls hx hb hr hml hown hts hlocks hin hC hM hl hS
  have m14 : M (ad 14 0) = some (.inr (6, [.int th, .int (T.1 0 0), .ref (ad 15 0), .ref (ad 16 0), .ref (ad 17 0), .ref (ad 18 0), .int (T.1 5 0), .ref (ad 19 0), .ref (ad 20 0), .ref (ad 21 0), .ref (ad 22 0), .ref (ad 23 0), .ref (ad 24 0), .ref (ad 25 0), .ref (ad 26 0), .ref (ad 27 0)])) := hw.1 14 0 _ rfl
  refine lv_aload_n hx hb dX6_asks_0 rfl (lv_at hl 0 rfl) ?_
  refine lv_aload_n hx hb dX6_asks_1 rfl (lv_at hl 0 rfl) ?_
  refine lv_iload_n hx hb dX6_asks_2 rfl (lv_at hl 1 rfl) ?_
  refine k_i (va_runV (As := [.int d]) (rest := [.ref (ad 14 0)]) ⟨hx, hb, hml, hown, hts⟩ (c_X6_isDeal l G M S T th o ex ad d hw) (cwV 1 hts gX6_asks_X6_isDeal rfl rfl rfl (by decide +kernel) ⟨Nat.le_of_ble_eq_true rfl, Nat.le_of_ble_eq_true rfl⟩) (preV_of hC hS hM m14 rfl) rfl rfl hl.1 rfl (lv_room (Nat.le_of_ble_eq_true rfl)) dX6_asks_3 ⟨Nat.le_of_ble_eq_true rfl, Nat.le_of_ble_eq_true rfl⟩) hS (fun r3 u3 H locs hp3 hM hS => ?_)
  have hM : Hm G M H := hM
  have hp3 : r3 = inb d 0 (T.1 5 0 - 1) := hp3
  subst hp3
  refine lv_if_eq (tgt := 13) hx hb dX6_asks_6 (by decide) (fun c_6 => ?_) (fun c_6 => ?_)
  · refine lv_iconst (v := 1) hx hb dX6_asks_13 (by decide) ?_
    refine m_put (host := "") (ci := 6) (v := .int 1) (ty := .int) (C := RX6) (T := TX6) (N := 16) (a := (ad 14 0)) hx hb hts (by decide +kernel) tyX6 tyX6_ok nmX6 hown hC hM hS m14 rfl 0 (by decide) (hts (.fieldLink RX6 53 "ForwardrollModel" "thrown" "I") (by decide +kernel)) (fun _ h9 => h9) rfl (by decide +kernel) rfl rfl (Nat.le_of_ble_eq_true rfl) dX6_asks_14 (fun H locs hM hS => ?_)
    have hM : Hm G (va_up M (ad 14 0) (some (.inr (6, [.int 1, .int (T.1 0 0), .ref (ad 15 0), .ref (ad 16 0), .ref (ad 17 0), .ref (ad 18 0), .int (T.1 5 0), .ref (ad 19 0), .ref (ad 20 0), .ref (ad 21 0), .ref (ad 22 0), .ref (ad 23 0), .ref (ad 24 0), .ref (ad 25 0), .ref (ad 26 0), .ref (ad 27 0)])))) H := hM
    have f14_3 : (va_up M (ad 14 0) (some (.inr (6, [.int 1, .int (T.1 0 0), .ref (ad 15 0), .ref (ad 16 0), .ref (ad 17 0), .ref (ad 18 0), .int (T.1 5 0), .ref (ad 19 0), .ref (ad 20 0), .ref (ad 21 0), .ref (ad 22 0), .ref (ad 23 0), .ref (ad 24 0), .ref (ad 25 0), .ref (ad 26 0), .ref (ad 27 0)])))) (ad 14 0) = some (.inr (6, [.int 1, .int (T.1 0 0), .ref (ad 15 0), .ref (ad 16 0), .ref (ad 17 0), .ref (ad 18 0), .int (T.1 5 0), .ref (ad 19 0), .ref (ad 20 0), .ref (ad 21 0), .ref (ad 22 0), .ref (ad 23 0), .ref (ad 24 0), .ref (ad 25 0), .ref (ad 26 0), .ref (ad 27 0)])) := up_eq
    refine lv_aload_n hx hb dX6_asks_17 rfl (lv_at hl 0 rfl) ?_
    refine m_get (ci := 6) (v := .int 1) (C := RX6) (T := TX6) (N := 16) (a := (ad 14 0)) hx hb hts (by decide +kernel) hown hC hM f14_3 rfl 0 (by decide) (hts (.fieldLink RX6 53 "ForwardrollModel" "thrown" "I") (by decide +kernel)) (fun _ h9 => h9) rfl dX6_asks_18 ?_
    refine lv_if_ne (tgt := 28) hx hb dX6_asks_21 (by decide) (fun c_21 => ?_) (fun c_21 => False.elim (by revert c_21; decide))
    refine lv_iconst (v := 0) hx hb dX6_asks_28 (by decide) ?_
    exact (r_z hx hb hr hlocks hS (v := 0) (by simp) _ (Or.inl ⟨nd_of hi c_6, rfl, w_mth hw 1⟩) hM (Nat.le_of_ble_eq_true rfl) (Nat.le_of_ble_eq_true rfl) dX6_asks_29)
  · refine lv_iconst (v := 0) hx hb dX6_asks_9 (by decide) ?_
    refine lv_goto (tgt := 14) hx hb dX6_asks_10 (by decide) ?_
    refine m_put (host := "") (ci := 6) (v := .int 0) (ty := .int) (C := RX6) (T := TX6) (N := 16) (a := (ad 14 0)) hx hb hts (by decide +kernel) tyX6 tyX6_ok nmX6 hown hC hM hS m14 rfl 0 (by decide) (hts (.fieldLink RX6 53 "ForwardrollModel" "thrown" "I") (by decide +kernel)) (fun _ h9 => h9) rfl (by decide +kernel) rfl rfl (Nat.le_of_ble_eq_true rfl) dX6_asks_14 (fun H locs hM hS => ?_)
    have hM : Hm G (va_up M (ad 14 0) (some (.inr (6, [.int 0, .int (T.1 0 0), .ref (ad 15 0), .ref (ad 16 0), .ref (ad 17 0), .ref (ad 18 0), .int (T.1 5 0), .ref (ad 19 0), .ref (ad 20 0), .ref (ad 21 0), .ref (ad 22 0), .ref (ad 23 0), .ref (ad 24 0), .ref (ad 25 0), .ref (ad 26 0), .ref (ad 27 0)])))) H := hM
    have f14_6 : (va_up M (ad 14 0) (some (.inr (6, [.int 0, .int (T.1 0 0), .ref (ad 15 0), .ref (ad 16 0), .ref (ad 17 0), .ref (ad 18 0), .int (T.1 5 0), .ref (ad 19 0), .ref (ad 20 0), .ref (ad 21 0), .ref (ad 22 0), .ref (ad 23 0), .ref (ad 24 0), .ref (ad 25 0), .ref (ad 26 0), .ref (ad 27 0)])))) (ad 14 0) = some (.inr (6, [.int 0, .int (T.1 0 0), .ref (ad 15 0), .ref (ad 16 0), .ref (ad 17 0), .ref (ad 18 0), .int (T.1 5 0), .ref (ad 19 0), .ref (ad 20 0), .ref (ad 21 0), .ref (ad 22 0), .ref (ad 23 0), .ref (ad 24 0), .ref (ad 25 0), .ref (ad 26 0), .ref (ad 27 0)])) := up_eq
    refine lv_aload_n hx hb dX6_asks_17 rfl (lv_at hl 0 rfl) ?_
    refine m_get (ci := 6) (v := .int 0) (C := RX6) (T := TX6) (N := 16) (a := (ad 14 0)) hx hb hts (by decide +kernel) hown hC hM f14_6 rfl 0 (by decide) (hts (.fieldLink RX6 53 "ForwardrollModel" "thrown" "I") (by decide +kernel)) (fun _ h9 => h9) rfl dX6_asks_18 ?_
    refine lv_if_ne (tgt := 28) hx hb dX6_asks_21 (by decide) (fun c_21 => False.elim (by revert c_21; decide)) (fun c_21 => ?_)
    refine lv_iconst (v := 1) hx hb dX6_asks_24 (by decide) ?_
    refine lv_goto (tgt := 29) hx hb dX6_asks_25 (by decide) ?_
    exact (r_z hx hb hr hlocks hS (v := 1) (by simp) _ (Or.inr ⟨dd_of hi c_6, rfl, w_mth hw 0⟩) hM (Nat.le_of_ble_eq_true rfl) (Nat.le_of_ble_eq_true rfl) dX6_asks_29)
set_option maxHeartbeats 4000000 in
set_option maxRecDepth 100000 in
theorem c_X6_left (l : Launch) (G : Gx) (M : Mp) (S T : Sd) (th : Int32) (o : Int64) (ex : Nat → Option (Nat × Nat)) (ad : Nat → Nat → Nat) (d : Int32) (hw : WA G S T th o ex ad M) (hi : Iv T) : Met l yX6_left wsX6_left ({ frames := 3, cells := 0, slots := 0, locals := 64 }) (Cv G M [.ref (ad 14 0), .int d]) (va_Qi (S := Mp) (fun r M2 => (¬ (0 ≤ d ∧ d.toNatClampNeg < ndl T) ∧ WA G S T 1 o ex ad M2) ∨ ((0 ≤ d ∧ d.toNatClampNeg < ndl T) ∧ r = T.1 9 d.toNatClampNeg ∧ WA G S T 0 o ex ad M2)) (Bm G (fun M2 => M2)) (AG G)) (0) (0) (AG G) := by
  refine m_met [.ref (ad 14 0), .int d] [(0, .ref (ad 14 0)), (1, .int d)] (by decide) rfl rfl (Nat.le_of_ble_eq_true rfl) ?_
  intro p e s m below meth c ls hx hb hr hml hown hts hlocks hin hC hM hl hS
  have m14 : M (ad 14 0) = some (.inr (6, [.int th, .int (T.1 0 0), .ref (ad 15 0), .ref (ad 16 0), .ref (ad 17 0), .ref (ad 18 0), .int (T.1 5 0), .ref (ad 19 0), .ref (ad 20 0), .ref (ad 21 0), .ref (ad 22 0), .ref (ad 23 0), .ref (ad 24 0), .ref (ad 25 0), .ref (ad 26 0), .ref (ad 27 0)])) := hw.1 14 0 _ rfl
  have m22 : M (ad 22 0) = some (.inl (G.2.1 0, 20, .inl (T.1 9))) := hw.1 22 0 _ rfl
  refine lv_aload_n hx hb dX6_left_0 rfl (lv_at hl 0 rfl) ?_
  refine lv_iload_n hx hb dX6_left_1 rfl (lv_at hl 1 rfl) ?_
  refine k_i (va_runV (As := [.int d]) (rest := []) ⟨hx, hb, hml, hown, hts⟩ (c_X6_asks l G M S T th o ex ad d hw hi) (cwV 1 hts gX6_left_X6_asks rfl rfl rfl (by decide +kernel) ⟨Nat.le_of_ble_eq_true rfl, Nat.le_of_ble_eq_true rfl⟩) (preV_of hC hS hM m14 rfl) rfl rfl hl.1 rfl (lv_room (Nat.le_of_ble_eq_true rfl)) dX6_left_2 ⟨Nat.le_of_ble_eq_true rfl, Nat.le_of_ble_eq_true rfl⟩) hS (fun r2 u2 H locs hp2 hM hS => ?_)
  have hM : Hm G u2 H := hM
  rcases hp2 with ⟨hd9, er9, hw9⟩ | ⟨hd9, er9, hw9⟩
  · subst er9
    have m14_1 : u2 (ad 14 0) = some (.inr (6, [.int 1, .int (T.1 0 0), .ref (ad 15 0), .ref (ad 16 0), .ref (ad 17 0), .ref (ad 18 0), .int (T.1 5 0), .ref (ad 19 0), .ref (ad 20 0), .ref (ad 21 0), .ref (ad 22 0), .ref (ad 23 0), .ref (ad 24 0), .ref (ad 25 0), .ref (ad 26 0), .ref (ad 27 0)])) := hw9.1 14 0 _ rfl
    have m22_2 : u2 (ad 22 0) = some (.inl (G.2.1 0, 20, .inl (T.1 9))) := hw9.1 22 0 _ rfl
    refine lv_if_eq (tgt := 17) hx hb dX6_left_5 (by decide) (fun c_5 => ?_) (fun c_5 => False.elim (by revert c_5; decide))
    refine lv_iconst (v := 0) hx hb dX6_left_17 (by decide) ?_
    exact (r_i hx hb hr hlocks hS (v := 0) _ (Or.inl ⟨hd9, hw9⟩) hM (Nat.le_of_ble_eq_true rfl) (Nat.le_of_ble_eq_true rfl) dX6_left_18)
  · subst er9
    have m14_4 : u2 (ad 14 0) = some (.inr (6, [.int 0, .int (T.1 0 0), .ref (ad 15 0), .ref (ad 16 0), .ref (ad 17 0), .ref (ad 18 0), .int (T.1 5 0), .ref (ad 19 0), .ref (ad 20 0), .ref (ad 21 0), .ref (ad 22 0), .ref (ad 23 0), .ref (ad 24 0), .ref (ad 25 0), .ref (ad 26 0), .ref (ad 27 0)])) := hw9.1 14 0 _ rfl
    have m22_5 : u2 (ad 22 0) = some (.inl (G.2.1 0, 20, .inl (T.1 9))) := hw9.1 22 0 _ rfl
    refine lv_if_eq (tgt := 17) hx hb dX6_left_5 (by decide) (fun c_5 => False.elim (by revert c_5; decide)) (fun c_5 => ?_)
    refine lv_aload_n hx hb dX6_left_8 rfl (lv_at hl 0 rfl) ?_
    refine m_get (ci := 6) (v := .ref (ad 22 0)) (C := RX6) (T := TX6) (N := 16) (a := (ad 14 0)) hx hb hts (by decide +kernel) hown hC hM m14_4 rfl 10 (by decide) (hts (.fieldLink RX6 35 "ForwardrollModel" "left" "[I") (by decide +kernel)) (fun _ h9 => h9) rfl dX6_left_9 ?_
    refine lv_iload_n hx hb dX6_left_12 rfl (lv_at hl 1 rfl) ?_
    refine m_iald (a := (ad 22 0)) hx hb hC hM m22_5 (vin_d hi hd9) dX6_left_13 ?_
    refine lv_goto (tgt := 18) hx hb dX6_left_14 (by decide) ?_
    exact (r_i hx hb hr hlocks hS (v := ((T.1 9) d.toNatClampNeg)) _ (Or.inr ⟨hd9, rfl, hw9⟩) hM (Nat.le_of_ble_eq_true rfl) (Nat.le_of_ble_eq_true rfl) dX6_left_18)
set_option maxHeartbeats 4000000 in
set_option maxRecDepth 100000 in
theorem c_X6_rate (l : Launch) (G : Gx) (M : Mp) (S T : Sd) (th : Int32) (o : Int64) (ex : Nat → Option (Nat × Nat)) (ad : Nat → Nat → Nat) (d : Int32) (hw : WA G S T th o ex ad M) (hi : Iv T) : Met l yX6_rate wsX6_rate ({ frames := 3, cells := 0, slots := 0, locals := 64 }) (Cv G M [.ref (ad 14 0), .int d]) (va_Qi (S := Mp) (fun r M2 => (¬ (0 ≤ d ∧ d.toNatClampNeg < ndl T) ∧ WA G S T 1 o ex ad M2) ∨ ((0 ≤ d ∧ d.toNatClampNeg < ndl T) ∧ r = T.1 10 d.toNatClampNeg ∧ WA G S T 0 o ex ad M2)) (Bm G (fun M2 => M2)) (AG G)) (0) (0) (AG G) := by
  refine m_met [.ref (ad 14 0), .int d] [(0, .ref (ad 14 0)), (1, .int d)] (by decide) rfl rfl (Nat.le_of_ble_eq_true rfl) ?_
  intro p e s m below meth c ls hx hb hr hml hown hts hlocks hin hC hM hl hS
  have m14 : M (ad 14 0) = some (.inr (6, [.int th, .int (T.1 0 0), .ref (ad 15 0), .ref (ad 16 0), .ref (ad 17 0), .ref (ad 18 0), .int (T.1 5 0), .ref (ad 19 0), .ref (ad 20 0), .ref (ad 21 0), .ref (ad 22 0), .ref (ad 23 0), .ref (ad 24 0), .ref (ad 25 0), .ref (ad 26 0), .ref (ad 27 0)])) := hw.1 14 0 _ rfl
  have m25 : M (ad 25 0) = some (.inl (G.2.1 0, 20, .inl (T.1 10))) := hw.1 25 0 _ rfl
  refine lv_aload_n hx hb dX6_rate_0 rfl (lv_at hl 0 rfl) ?_
  refine lv_iload_n hx hb dX6_rate_1 rfl (lv_at hl 1 rfl) ?_
  refine k_i (va_runV (As := [.int d]) (rest := []) ⟨hx, hb, hml, hown, hts⟩ (c_X6_asks l G M S T th o ex ad d hw hi) (cwV 1 hts gX6_rate_X6_asks rfl rfl rfl (by decide +kernel) ⟨Nat.le_of_ble_eq_true rfl, Nat.le_of_ble_eq_true rfl⟩) (preV_of hC hS hM m14 rfl) rfl rfl hl.1 rfl (lv_room (Nat.le_of_ble_eq_true rfl)) dX6_rate_2 ⟨Nat.le_of_ble_eq_true rfl, Nat.le_of_ble_eq_true rfl⟩) hS (fun r2 u2 H locs hp2 hM hS => ?_)
  have hM : Hm G u2 H := hM
  rcases hp2 with ⟨hd9, er9, hw9⟩ | ⟨hd9, er9, hw9⟩
  · subst er9
    have m14_1 : u2 (ad 14 0) = some (.inr (6, [.int 1, .int (T.1 0 0), .ref (ad 15 0), .ref (ad 16 0), .ref (ad 17 0), .ref (ad 18 0), .int (T.1 5 0), .ref (ad 19 0), .ref (ad 20 0), .ref (ad 21 0), .ref (ad 22 0), .ref (ad 23 0), .ref (ad 24 0), .ref (ad 25 0), .ref (ad 26 0), .ref (ad 27 0)])) := hw9.1 14 0 _ rfl
    have m25_2 : u2 (ad 25 0) = some (.inl (G.2.1 0, 20, .inl (T.1 10))) := hw9.1 25 0 _ rfl
    refine lv_if_eq (tgt := 17) hx hb dX6_rate_5 (by decide) (fun c_5 => ?_) (fun c_5 => False.elim (by revert c_5; decide))
    refine lv_iconst (v := 0) hx hb dX6_rate_17 (by decide) ?_
    exact (r_i hx hb hr hlocks hS (v := 0) _ (Or.inl ⟨hd9, hw9⟩) hM (Nat.le_of_ble_eq_true rfl) (Nat.le_of_ble_eq_true rfl) dX6_rate_18)
  · subst er9
    have m14_4 : u2 (ad 14 0) = some (.inr (6, [.int 0, .int (T.1 0 0), .ref (ad 15 0), .ref (ad 16 0), .ref (ad 17 0), .ref (ad 18 0), .int (T.1 5 0), .ref (ad 19 0), .ref (ad 20 0), .ref (ad 21 0), .ref (ad 22 0), .ref (ad 23 0), .ref (ad 24 0), .ref (ad 25 0), .ref (ad 26 0), .ref (ad 27 0)])) := hw9.1 14 0 _ rfl
    have m25_5 : u2 (ad 25 0) = some (.inl (G.2.1 0, 20, .inl (T.1 10))) := hw9.1 25 0 _ rfl
    refine lv_if_eq (tgt := 17) hx hb dX6_rate_5 (by decide) (fun c_5 => False.elim (by revert c_5; decide)) (fun c_5 => ?_)
    refine lv_aload_n hx hb dX6_rate_8 rfl (lv_at hl 0 rfl) ?_
    refine m_get (ci := 6) (v := .ref (ad 25 0)) (C := RX6) (T := TX6) (N := 16) (a := (ad 14 0)) hx hb hts (by decide +kernel) hown hC hM m14_4 rfl 13 (by decide) (hts (.fieldLink RX6 44 "ForwardrollModel" "rate" "[I") (by decide +kernel)) (fun _ h9 => h9) rfl dX6_rate_9 ?_
    refine lv_iload_n hx hb dX6_rate_12 rfl (lv_at hl 1 rfl) ?_
    refine m_iald (a := (ad 25 0)) hx hb hC hM m25_5 (vin_d hi hd9) dX6_rate_13 ?_
    refine lv_goto (tgt := 18) hx hb dX6_rate_14 (by decide) ?_
    exact (r_i hx hb hr hlocks hS (v := ((T.1 10) d.toNatClampNeg)) _ (Or.inr ⟨hd9, rfl, hw9⟩) hM (Nat.le_of_ble_eq_true rfl) (Nat.le_of_ble_eq_true rfl) dX6_rate_18)
set_option maxHeartbeats 4000000 in
set_option maxRecDepth 100000 in
theorem c_X6_window (l : Launch) (G : Gx) (M : Mp) (S T : Sd) (th : Int32) (o : Int64) (ex : Nat → Option (Nat × Nat)) (ad : Nat → Nat → Nat) (d : Int32) (hw : WA G S T th o ex ad M) (hi : Iv T) : Met l yX6_window wsX6_window ({ frames := 3, cells := 0, slots := 0, locals := 64 }) (Cv G M [.ref (ad 14 0), .int d]) (va_Qi (S := Mp) (fun r M2 => (¬ (0 ≤ d ∧ d.toNatClampNeg < ndl T) ∧ WA G S T 1 o ex ad M2) ∨ ((0 ≤ d ∧ d.toNatClampNeg < ndl T) ∧ r = 10000 * T.1 11 d.toNatClampNeg + T.1 12 d.toNatClampNeg ∧ WA G S T 0 o ex ad M2)) (Bm G (fun M2 => M2)) (AG G)) (0) (0) (AG G) := by
  refine m_met [.ref (ad 14 0), .int d] [(0, .ref (ad 14 0)), (1, .int d)] (by decide) rfl rfl (Nat.le_of_ble_eq_true rfl) ?_
  intro p e s m below meth c ls hx hb hr hml hown hts hlocks hin hC hM hl hS
  have m14 : M (ad 14 0) = some (.inr (6, [.int th, .int (T.1 0 0), .ref (ad 15 0), .ref (ad 16 0), .ref (ad 17 0), .ref (ad 18 0), .int (T.1 5 0), .ref (ad 19 0), .ref (ad 20 0), .ref (ad 21 0), .ref (ad 22 0), .ref (ad 23 0), .ref (ad 24 0), .ref (ad 25 0), .ref (ad 26 0), .ref (ad 27 0)])) := hw.1 14 0 _ rfl
  have m23 : M (ad 23 0) = some (.inl (G.2.1 0, 20, .inl (T.1 11))) := hw.1 23 0 _ rfl
  have m24 : M (ad 24 0) = some (.inl (G.2.1 0, 20, .inl (T.1 12))) := hw.1 24 0 _ rfl
  refine lv_aload_n hx hb dX6_window_0 rfl (lv_at hl 0 rfl) ?_
  refine lv_iload_n hx hb dX6_window_1 rfl (lv_at hl 1 rfl) ?_
  refine k_i (va_runV (As := [.int d]) (rest := []) ⟨hx, hb, hml, hown, hts⟩ (c_X6_asks l G M S T th o ex ad d hw hi) (cwV 1 hts gX6_window_X6_asks rfl rfl rfl (by decide +kernel) ⟨Nat.le_of_ble_eq_true rfl, Nat.le_of_ble_eq_true rfl⟩) (preV_of hC hS hM m14 rfl) rfl rfl hl.1 rfl (lv_room (Nat.le_of_ble_eq_true rfl)) dX6_window_2 ⟨Nat.le_of_ble_eq_true rfl, Nat.le_of_ble_eq_true rfl⟩) hS (fun r2 u2 H locs hp2 hM hS => ?_)
  have hM : Hm G u2 H := hM
  rcases hp2 with ⟨hd9, er9, hw9⟩ | ⟨hd9, er9, hw9⟩
  · subst er9
    have m14_1 : u2 (ad 14 0) = some (.inr (6, [.int 1, .int (T.1 0 0), .ref (ad 15 0), .ref (ad 16 0), .ref (ad 17 0), .ref (ad 18 0), .int (T.1 5 0), .ref (ad 19 0), .ref (ad 20 0), .ref (ad 21 0), .ref (ad 22 0), .ref (ad 23 0), .ref (ad 24 0), .ref (ad 25 0), .ref (ad 26 0), .ref (ad 27 0)])) := hw9.1 14 0 _ rfl
    have m23_2 : u2 (ad 23 0) = some (.inl (G.2.1 0, 20, .inl (T.1 11))) := hw9.1 23 0 _ rfl
    have m24_3 : u2 (ad 24 0) = some (.inl (G.2.1 0, 20, .inl (T.1 12))) := hw9.1 24 0 _ rfl
    refine lv_if_eq (tgt := 28) hx hb dX6_window_5 (by decide) (fun c_5 => ?_) (fun c_5 => False.elim (by revert c_5; decide))
    refine lv_iconst (v := 0) hx hb dX6_window_28 (by decide) ?_
    exact (r_i hx hb hr hlocks hS (v := 0) _ (Or.inl ⟨hd9, hw9⟩) hM (Nat.le_of_ble_eq_true rfl) (Nat.le_of_ble_eq_true rfl) dX6_window_29)
  · subst er9
    have m14_5 : u2 (ad 14 0) = some (.inr (6, [.int 0, .int (T.1 0 0), .ref (ad 15 0), .ref (ad 16 0), .ref (ad 17 0), .ref (ad 18 0), .int (T.1 5 0), .ref (ad 19 0), .ref (ad 20 0), .ref (ad 21 0), .ref (ad 22 0), .ref (ad 23 0), .ref (ad 24 0), .ref (ad 25 0), .ref (ad 26 0), .ref (ad 27 0)])) := hw9.1 14 0 _ rfl
    have m23_6 : u2 (ad 23 0) = some (.inl (G.2.1 0, 20, .inl (T.1 11))) := hw9.1 23 0 _ rfl
    have m24_7 : u2 (ad 24 0) = some (.inl (G.2.1 0, 20, .inl (T.1 12))) := hw9.1 24 0 _ rfl
    refine lv_if_eq (tgt := 28) hx hb dX6_window_5 (by decide) (fun c_5 => False.elim (by revert c_5; decide)) (fun c_5 => ?_)
    refine lv_sipush (v := 10000) hx hb dX6_window_8 (by decide) ?_
    refine lv_aload_n hx hb dX6_window_11 rfl (lv_at hl 0 rfl) ?_
    refine m_get (ci := 6) (v := .ref (ad 23 0)) (C := RX6) (T := TX6) (N := 16) (a := (ad 14 0)) hx hb hts (by decide +kernel) hown hC hM m14_5 rfl 11 (by decide) (hts (.fieldLink RX6 38 "ForwardrollModel" "first" "[I") (by decide +kernel)) (fun _ h9 => h9) rfl dX6_window_12 ?_
    refine lv_iload_n hx hb dX6_window_15 rfl (lv_at hl 1 rfl) ?_
    refine m_iald (a := (ad 23 0)) hx hb hC hM m23_6 (vin_d hi hd9) dX6_window_16 ?_
    refine lv_imul hx hb dX6_window_17 ?_
    refine lv_aload_n hx hb dX6_window_18 rfl (lv_at hl 0 rfl) ?_
    refine m_get (ci := 6) (v := .ref (ad 24 0)) (C := RX6) (T := TX6) (N := 16) (a := (ad 14 0)) hx hb hts (by decide +kernel) hown hC hM m14_5 rfl 12 (by decide) (hts (.fieldLink RX6 41 "ForwardrollModel" "last" "[I") (by decide +kernel)) (fun _ h9 => h9) rfl dX6_window_19 ?_
    refine lv_iload_n hx hb dX6_window_22 rfl (lv_at hl 1 rfl) ?_
    refine m_iald (a := (ad 24 0)) hx hb hC hM m24_7 (vin_d hi hd9) dX6_window_23 ?_
    refine lv_iadd hx hb dX6_window_24 ?_
    refine lv_goto (tgt := 29) hx hb dX6_window_25 (by decide) ?_
    exact (r_i hx hb hr hlocks hS (v := ((10000 * ((T.1 11) d.toNatClampNeg)) + ((T.1 12) d.toNatClampNeg))) _ (Or.inr ⟨hd9, rfl, hw9⟩) hM (Nat.le_of_ble_eq_true rfl) (Nat.le_of_ble_eq_true rfl) dX6_window_29)
set_option maxHeartbeats 4000000 in
set_option maxRecDepth 100000 in
theorem c_X6_gain (l : Launch) (G : Gx) (M : Mp) (S T : Sd) (th : Int32) (o : Int64) (ex : Nat → Option (Nat × Nat)) (ad : Nat → Nat → Nat) (d : Int32) (hw : WA G S T th o ex ad M) (hi : Iv T) : Met l yX6_gain wsX6_gain ({ frames := 3, cells := 0, slots := 0, locals := 67 }) (Cv G M [.ref (ad 14 0), .int d]) (va_Ql (S := Mp) (fun r M2 => (¬ (0 ≤ d ∧ d.toNatClampNeg < ndl T) ∧ WA G S T 1 o ex ad M2) ∨ ((0 ≤ d ∧ d.toNatClampNeg < ndl T) ∧ r = mg T d.toNatClampNeg ∧ WA G S T 0 o ex ad M2)) (Bm G (fun M2 => M2)) (AG G)) (0) (0) (AG G) := by
  refine m_met [.ref (ad 14 0), .int d] [(0, .ref (ad 14 0)), (1, .int d)] (by decide) rfl rfl (Nat.le_of_ble_eq_true rfl) ?_
  intro p e s m below meth c ls hx hb hr hml hown hts hlocks hin hC hM hl hS
  have m14 : M (ad 14 0) = some (.inr (6, [.int th, .int (T.1 0 0), .ref (ad 15 0), .ref (ad 16 0), .ref (ad 17 0), .ref (ad 18 0), .int (T.1 5 0), .ref (ad 19 0), .ref (ad 20 0), .ref (ad 21 0), .ref (ad 22 0), .ref (ad 23 0), .ref (ad 24 0), .ref (ad 25 0), .ref (ad 26 0), .ref (ad 27 0)])) := hw.1 14 0 _ rfl
  refine lv_aload_n hx hb dX6_gain_0 rfl (lv_at hl 0 rfl) ?_
  refine lv_iload_n hx hb dX6_gain_1 rfl (lv_at hl 1 rfl) ?_
  refine k_i (va_runV (As := [.int d]) (rest := []) ⟨hx, hb, hml, hown, hts⟩ (c_X6_asks l G M S T th o ex ad d hw hi) (cwV 1 hts gX6_gain_X6_asks rfl rfl rfl (by decide +kernel) ⟨Nat.le_of_ble_eq_true rfl, Nat.le_of_ble_eq_true rfl⟩) (preV_of hC hS hM m14 rfl) rfl rfl hl.1 rfl (lv_room (Nat.le_of_ble_eq_true rfl)) dX6_gain_2 ⟨Nat.le_of_ble_eq_true rfl, Nat.le_of_ble_eq_true rfl⟩) hS (fun r2 u2 H locs hp2 hM hS => ?_)
  have hM : Hm G u2 H := hM
  rcases hp2 with ⟨hd9, er9, hw9⟩ | ⟨hd9, er9, hw9⟩
  · subst er9
    have m14_1 : u2 (ad 14 0) = some (.inr (6, [.int 1, .int (T.1 0 0), .ref (ad 15 0), .ref (ad 16 0), .ref (ad 17 0), .ref (ad 18 0), .int (T.1 5 0), .ref (ad 19 0), .ref (ad 20 0), .ref (ad 21 0), .ref (ad 22 0), .ref (ad 23 0), .ref (ad 24 0), .ref (ad 25 0), .ref (ad 26 0), .ref (ad 27 0)])) := hw9.1 14 0 _ rfl
    refine lv_if_eq (tgt := 16) hx hb dX6_gain_5 (by decide) (fun c_5 => ?_) (fun c_5 => False.elim (by revert c_5; decide))
    refine lv_lconst (v := 0) hx hb dX6_gain_16 (by decide) ?_
    exact (r_l hx hb hr hlocks hS (v := 0) _ (Or.inl ⟨hd9, hw9⟩) hM (Nat.le_of_ble_eq_true rfl) (Nat.le_of_ble_eq_true rfl) dX6_gain_17)
  · subst er9
    have m14_3 : u2 (ad 14 0) = some (.inr (6, [.int 0, .int (T.1 0 0), .ref (ad 15 0), .ref (ad 16 0), .ref (ad 17 0), .ref (ad 18 0), .int (T.1 5 0), .ref (ad 19 0), .ref (ad 20 0), .ref (ad 21 0), .ref (ad 22 0), .ref (ad 23 0), .ref (ad 24 0), .ref (ad 25 0), .ref (ad 26 0), .ref (ad 27 0)])) := hw9.1 14 0 _ rfl
    refine lv_if_eq (tgt := 16) hx hb dX6_gain_5 (by decide) (fun c_5 => False.elim (by revert c_5; decide)) (fun c_5 => ?_)
    refine lv_aload_n hx hb dX6_gain_8 rfl (lv_at hl 0 rfl) ?_
    refine lv_iload_n hx hb dX6_gain_9 rfl (lv_at hl 1 rfl) ?_
    refine k_l (va_runV (As := [.int d]) (rest := []) ⟨hx, hb, hml, hown, hts⟩ (c_X6_gainNow l G u2 S T 0 o ex ad d hw9 hi hd9) (cwV 1 hts gX6_gain_X6_gainNow rfl rfl rfl (by decide +kernel) ⟨Nat.le_of_ble_eq_true rfl, Nat.le_of_ble_eq_true rfl⟩) (preV_of hC hS hM m14_3 rfl) rfl rfl hl.1 rfl (lv_room (Nat.le_of_ble_eq_true rfl)) dX6_gain_10 ⟨Nat.le_of_ble_eq_true rfl, Nat.le_of_ble_eq_true rfl⟩) hS (fun r10 u10 H locs hp10 hM hS => ?_)
    have hM : Hm G u2 H := hM
    have hp10 : r10 = mg T d.toNatClampNeg := hp10
    subst hp10
    refine lv_goto (tgt := 17) hx hb dX6_gain_13 (by decide) ?_
    exact (r_l hx hb hr hlocks hS (v := mg T d.toNatClampNeg) _ (Or.inr ⟨hd9, rfl, hw9⟩) hM (Nat.le_of_ble_eq_true rfl) (Nat.le_of_ble_eq_true rfl) dX6_gain_17)
set_option maxHeartbeats 4000000 in
set_option maxRecDepth 100000 in
theorem c_X6_settlementDay (l : Launch) (G : Gx) (M : Mp) (S T : Sd) (th : Int32) (o : Int64) (ex : Nat → Option (Nat × Nat)) (ad : Nat → Nat → Nat)  (hw : WA G S T th o ex ad M) (hi : Iv T) : Met l yX6_settlementDay wsX6_settlementDay ({ frames := 2, cells := 0, slots := 0, locals := 42 }) (Cv G M [.ref (ad 14 0)]) (va_Qi (S := Mp) (fun r M2 => r = sd T ∧ WA G S T 0 o ex ad M2) (Bm G (fun M2 => M2)) (AG G)) (0) (0) (AG G) := by
  refine m_met [.ref (ad 14 0)] [(0, .ref (ad 14 0))] (by decide) rfl rfl (Nat.le_of_ble_eq_true rfl) ?_
  intro p e s m below meth c ls hx hb hr hml hown hts hlocks hin hC hM hl hS
  have m14 : M (ad 14 0) = some (.inr (6, [.int th, .int (T.1 0 0), .ref (ad 15 0), .ref (ad 16 0), .ref (ad 17 0), .ref (ad 18 0), .int (T.1 5 0), .ref (ad 19 0), .ref (ad 20 0), .ref (ad 21 0), .ref (ad 22 0), .ref (ad 23 0), .ref (ad 24 0), .ref (ad 25 0), .ref (ad 26 0), .ref (ad 27 0)])) := hw.1 14 0 _ rfl
  refine lv_aload_n hx hb dX6_settlementDay_0 rfl (lv_at hl 0 rfl) ?_
  refine lv_iconst (v := 0) hx hb dX6_settlementDay_1 (by decide) ?_
  refine m_put (host := "") (ci := 6) (v := .int 0) (ty := .int) (C := RX6) (T := TX6) (N := 16) (a := (ad 14 0)) hx hb hts (by decide +kernel) tyX6 tyX6_ok nmX6 hown hC hM hS m14 rfl 0 (by decide) (hts (.fieldLink RX6 53 "ForwardrollModel" "thrown" "I") (by decide +kernel)) (fun _ h9 => h9) rfl (by decide +kernel) rfl rfl (Nat.le_of_ble_eq_true rfl) dX6_settlementDay_2 (fun H locs hM hS => ?_)
  have hM : Hm G (va_up M (ad 14 0) (some (.inr (6, [.int 0, .int (T.1 0 0), .ref (ad 15 0), .ref (ad 16 0), .ref (ad 17 0), .ref (ad 18 0), .int (T.1 5 0), .ref (ad 19 0), .ref (ad 20 0), .ref (ad 21 0), .ref (ad 22 0), .ref (ad 23 0), .ref (ad 24 0), .ref (ad 25 0), .ref (ad 26 0), .ref (ad 27 0)])))) H := hM
  have f2_2 : (va_up M (ad 14 0) (some (.inr (6, [.int 0, .int (T.1 0 0), .ref (ad 15 0), .ref (ad 16 0), .ref (ad 17 0), .ref (ad 18 0), .int (T.1 5 0), .ref (ad 19 0), .ref (ad 20 0), .ref (ad 21 0), .ref (ad 22 0), .ref (ad 23 0), .ref (ad 24 0), .ref (ad 25 0), .ref (ad 26 0), .ref (ad 27 0)])))) (ad 14 0) = some (.inr (6, [.int 0, .int (T.1 0 0), .ref (ad 15 0), .ref (ad 16 0), .ref (ad 17 0), .ref (ad 18 0), .int (T.1 5 0), .ref (ad 19 0), .ref (ad 20 0), .ref (ad 21 0), .ref (ad 22 0), .ref (ad 23 0), .ref (ad 24 0), .ref (ad 25 0), .ref (ad 26 0), .ref (ad 27 0)])) := up_eq
  refine lv_aload_n hx hb dX6_settlementDay_5 rfl (lv_at hl 0 rfl) ?_
  refine k_i (va_runV (As := []) (rest := []) ⟨hx, hb, hml, hown, hts⟩ (c_X6_settles l G (va_up M (ad 14 0) (some (.inr (6, [.int 0, .int (T.1 0 0), .ref (ad 15 0), .ref (ad 16 0), .ref (ad 17 0), .ref (ad 18 0), .int (T.1 5 0), .ref (ad 19 0), .ref (ad 20 0), .ref (ad 21 0), .ref (ad 22 0), .ref (ad 23 0), .ref (ad 24 0), .ref (ad 25 0), .ref (ad 26 0), .ref (ad 27 0)])))) S T 0 o ex ad (w_mth hw 0) hi) (cwV 0 hts gX6_settlementDay_X6_settles rfl rfl rfl (by decide +kernel) ⟨Nat.le_of_ble_eq_true rfl, Nat.le_of_ble_eq_true rfl⟩) (preV_of hC hS hM f2_2 rfl) rfl rfl hl.1 rfl (lv_room (Nat.le_of_ble_eq_true rfl)) dX6_settlementDay_6 ⟨Nat.le_of_ble_eq_true rfl, Nat.le_of_ble_eq_true rfl⟩) hS (fun r6 u6 H locs hp6 hM hS => ?_)
  have hM : Hm G (va_up M (ad 14 0) (some (.inr (6, [.int 0, .int (T.1 0 0), .ref (ad 15 0), .ref (ad 16 0), .ref (ad 17 0), .ref (ad 18 0), .int (T.1 5 0), .ref (ad 19 0), .ref (ad 20 0), .ref (ad 21 0), .ref (ad 22 0), .ref (ad 23 0), .ref (ad 24 0), .ref (ad 25 0), .ref (ad 26 0), .ref (ad 27 0)])))) H := hM
  have hp6 : r6 = sd T := hp6
  subst hp6
  exact (r_i hx hb hr hlocks hS (v := sd T) _ ⟨rfl, w_mth hw 0⟩ hM (Nat.le_of_ble_eq_true rfl) (Nat.le_of_ble_eq_true rfl) dX6_settlementDay_9)
set_option maxHeartbeats 4000000 in
set_option maxRecDepth 100000 in
theorem c_X6_today (l : Launch) (G : Gx) (M : Mp) (S T : Sd) (th : Int32) (o : Int64) (ex : Nat → Option (Nat × Nat)) (ad : Nat → Nat → Nat)  (hw : WA G S T th o ex ad M) : Met l yX6_today wsX6_today ({ frames := 0, cells := 0, slots := 0, locals := 0 }) (Cv G M [.ref (ad 14 0)]) (va_Qi (S := Mp) (fun r M2 => r = T.1 0 0 ∧ WA G S T 0 o ex ad M2) (Bm G (fun M2 => M2)) (AG G)) (0) (0) (AG G) := by
  refine m_met [.ref (ad 14 0)] [(0, .ref (ad 14 0))] (by decide) rfl rfl (Nat.le_of_ble_eq_true rfl) ?_
  intro p e s m below meth c ls hx hb hr hml hown hts hlocks hin hC hM hl hS
  have m14 : M (ad 14 0) = some (.inr (6, [.int th, .int (T.1 0 0), .ref (ad 15 0), .ref (ad 16 0), .ref (ad 17 0), .ref (ad 18 0), .int (T.1 5 0), .ref (ad 19 0), .ref (ad 20 0), .ref (ad 21 0), .ref (ad 22 0), .ref (ad 23 0), .ref (ad 24 0), .ref (ad 25 0), .ref (ad 26 0), .ref (ad 27 0)])) := hw.1 14 0 _ rfl
  refine lv_aload_n hx hb dX6_today_0 rfl (lv_at hl 0 rfl) ?_
  refine lv_iconst (v := 0) hx hb dX6_today_1 (by decide) ?_
  refine m_put (host := "") (ci := 6) (v := .int 0) (ty := .int) (C := RX6) (T := TX6) (N := 16) (a := (ad 14 0)) hx hb hts (by decide +kernel) tyX6 tyX6_ok nmX6 hown hC hM hS m14 rfl 0 (by decide) (hts (.fieldLink RX6 53 "ForwardrollModel" "thrown" "I") (by decide +kernel)) (fun _ h9 => h9) rfl (by decide +kernel) rfl rfl (Nat.le_of_ble_eq_true rfl) dX6_today_2 (fun H locs hM hS => ?_)
  have hM : Hm G (va_up M (ad 14 0) (some (.inr (6, [.int 0, .int (T.1 0 0), .ref (ad 15 0), .ref (ad 16 0), .ref (ad 17 0), .ref (ad 18 0), .int (T.1 5 0), .ref (ad 19 0), .ref (ad 20 0), .ref (ad 21 0), .ref (ad 22 0), .ref (ad 23 0), .ref (ad 24 0), .ref (ad 25 0), .ref (ad 26 0), .ref (ad 27 0)])))) H := hM
  have f2_2 : (va_up M (ad 14 0) (some (.inr (6, [.int 0, .int (T.1 0 0), .ref (ad 15 0), .ref (ad 16 0), .ref (ad 17 0), .ref (ad 18 0), .int (T.1 5 0), .ref (ad 19 0), .ref (ad 20 0), .ref (ad 21 0), .ref (ad 22 0), .ref (ad 23 0), .ref (ad 24 0), .ref (ad 25 0), .ref (ad 26 0), .ref (ad 27 0)])))) (ad 14 0) = some (.inr (6, [.int 0, .int (T.1 0 0), .ref (ad 15 0), .ref (ad 16 0), .ref (ad 17 0), .ref (ad 18 0), .int (T.1 5 0), .ref (ad 19 0), .ref (ad 20 0), .ref (ad 21 0), .ref (ad 22 0), .ref (ad 23 0), .ref (ad 24 0), .ref (ad 25 0), .ref (ad 26 0), .ref (ad 27 0)])) := up_eq
  refine lv_aload_n hx hb dX6_today_5 rfl (lv_at hl 0 rfl) ?_
  refine m_get (ci := 6) (v := .int (T.1 0 0)) (C := RX6) (T := TX6) (N := 16) (a := (ad 14 0)) hx hb hts (by decide +kernel) hown hC hM f2_2 rfl 1 (by decide) (hts (.fieldLink RX6 64 "ForwardrollModel" "today" "I") (by decide +kernel)) (fun _ h9 => h9) rfl dX6_today_6 ?_
  exact (r_i hx hb hr hlocks hS (v := (T.1 0 0)) _ ⟨rfl, w_mth hw 0⟩ hM (Nat.le_of_ble_eq_true rfl) (Nat.le_of_ble_eq_true rfl) dX6_today_9)
