/-- the gain of what is left of deal j now -/
def mr (S : Sd) (j : Nat) : Int32 := al1 (S.1 1 (cuy S j) + S.1 2 (cuy S j) * (S.1 12 j - S.1 0 0))
def mg (S : Sd) (j : Nat) : Int64 := gn (S.1 8 j) (S.1 9 j) (S.1 10 j) (mr S j)
def ls1 (S : Sd) (sh : Int32) (j : Nat) : Int64 := -gn (S.1 8 j) (S.1 9 j) (S.1 10 j) (al1 (mr S j * (100 + sh) / 100))
/-- the sum of the losses of customer c in the first n deals -/
def la (S : Sd) (c : Nat) (sh : Int32) : Nat → Int64
  | 0 => 0
  | n + 1 => if cus S n = c then la S c sh n + ls1 S sh n else la S c sh n
/-- the settlement day -/
def sd (S : Sd) : Int32 := nbd (S.1 4) 1002 (S.1 0 0 + 1)
theorem hto_of {S : Sd} (hi : Iv S) : 1001 - (S.1 0 0 + 1).toInt ≤ (1002 : Nat) := by
  have h := hi.1
  rw [Int32.toInt_add, show (1 : Int32).toInt = 1 from rfl, show ((S.1 0 0).toInt + 1).bmod (2 ^ 32) = (S.1 0 0).toInt + 1 from Int.bmod_eq_of_le (by omega) (by omega)]
  omega
theorem ntr_some {ex : Nat → Option (Nat × Nat)} {ad : Nat → Nat → Nat} {c d x9 : Nat} (h : ntr ex ad c d = some x9) : ∃ q, ex (5 * d + c) = some q ∧ x9 = q.1 := by
  unfold ntr at h
  cases h1 : ex (5 * d + c) with
  | none => rw [h1] at h; cases h
  | some q => rw [h1] at h; exact ⟨q, rfl, (Option.some.inj h).symm⟩
theorem ntr_none {ex : Nat → Option (Nat × Nat)} {ad : Nat → Nat → Nat} {c d : Nat} (h : ntr ex ad c d = none) : ex (5 * d + c) = none := by
  unfold ntr at h
  cases h1 : ex (5 * d + c) with
  | none => rfl
  | some q => rw [h1] at h; cases h
theorem rq_some {g : Nat → Option Nat} {d : Int32} {x9 : Nat} (h : rq g d 1002 = some x9) : g d.toNatClampNeg = some x9 := by
  unfold rq at h
  by_cases h1 : 0 ≤ d ∧ d < 1002
  · rw [if_pos h1] at h; exact h
  · rw [if_neg h1] at h; cases h
theorem row_of {G : Gx} {S T : Sd} {th : Int32} {o : Int64} {ex : Nat → Option (Nat × Nat)} {ad : Nat → Nat → Nat} {M : Mp} (hw : WA G S T th o ex ad M) {c d : Nat} : ∀ x9, ntr ex ad c d = some x9 → M x9 = some (.inr (0, [.ref (adr ex ad 13 (5 * d + c))])) ∧ M (adr ex ad 13 (5 * d + c)) = some (.inl (G.2.1 1, 5, .inr (.inl (rw5 (S.2 0) (5 * d + c))))) := by
  intro x9 h
  obtain ⟨q, h1, rfl⟩ := ntr_some h
  have e1 := hw.1 12 _ _ (ct12 h1)
  have e2 := hw.1 13 _ _ (ct13 h1)
  have a1 : adr ex ad 12 (5 * d + c) = q.1 := by show ((ex (5 * d + c)).getD (0, 0)).1 = _; rw [h1]; rfl
  have a2 : adr ex ad 13 (5 * d + c) = q.2 := by show ((ex (5 * d + c)).getD (0, 0)).2 = _; rw [h1]; rfl
  rw [a1] at e1
  rw [a2] at e2 ⊢
  exact ⟨e1, e2⟩
theorem rd5 {f : Nat → Int64} {x : Nat} {k : Int32} (hk : 0 ≤ k ∧ k < 5) : rd (rw5 f x) k 5 = f (5 * x + k.toNatClampNeg) := by
  unfold rd rw5
  rw [if_pos hk, if_pos (ix_lt 5 hk (by decide))]
theorem due_of {S : Sd} {ex : Nat → Option (Nat × Nat)} {ad : Nat → Nat → Nat} (hx : Ix S ex) {c : Nat} {d k : Int32} (hd : 0 ≤ d) (hk : 0 ≤ k ∧ k < 5) : (if (rq (ntr ex ad c) d 1002).isSome = true then rd (rw5 (S.2 0) (5 * d.toNatClampNeg + c)) k 5 else 0) = S.2 0 (5 * (5 * d.toNatClampNeg + c) + k.toNatClampNeg) := by
  have hk5 := ix_lt 5 hk (by decide)
  cases h : ex (5 * d.toNatClampNeg + c) with
  | some q =>
    have hlt := hx.2 _ _ h
    have h9 : d < 1002 := by
      have h0 := Int32.le_iff_toInt_le.mp hd
      have h00 : (0 : Int32).toInt = 0 := rfl
      rw [Int32.toNatClampNeg] at hlt
      exact Int32.lt_iff_toInt_lt.mpr (by show d.toInt < 1002; omega)
    have hq : rq (ntr ex ad c) d 1002 = some q.1 := by
      unfold rq ntr
      rw [if_pos ⟨hd, h9⟩, h]
      rfl
    rw [hq]
    rw [if_pos (show (some q.1).isSome = true from rfl)]
    exact rd5 hk
  | none =>
    have hq : rq (ntr ex ad c) d 1002 = none := by
      unfold rq ntr
      rw [h]
      simp
    rw [hq, hx.1 _ h _ hk5]
    rfl
theorem tg01 (x : Int32) : tg x = 0 ∨ tg x = 1 := by
  unfold tg
  by_cases h : x = 0
  · rw [if_pos h]; exact Or.inr rfl
  · rw [if_neg h]; exact Or.inl rfl
theorem tog_in {x : Int32} (h : 1 ≤ x ∧ x ≤ 1000) : 0 ≤ x ∧ x < 1001 := by
  have h1 := Int32.le_iff_toInt_le.mp h.1
  have h2 := Int32.le_iff_toInt_le.mp h.2
  have e1 : (1 : Int32).toInt = 1 := rfl
  have e2 : (1000 : Int32).toInt = 1000 := rfl
  exact ⟨Int32.le_iff_toInt_le.mpr (by show 0 ≤ x.toInt; omega), Int32.lt_iff_toInt_lt.mpr (by show x.toInt < 1001; omega)⟩
theorem le4 {x : Int32} (h : x ≤ 4) : x < 5 := by
  have h2 := Int32.le_iff_toInt_le.mp h
  have e2 : (4 : Int32).toInt = 4 := rfl
  exact Int32.lt_iff_toInt_lt.mpr (by show x.toInt < 5; omega)
theorem day_nn {S : Sd} (hi : Iv S) {y : Int32} (h : 1 ≤ y ∧ y ≤ 20) : 0 ≤ S.1 0 0 + y := by
  have h1 := Int32.le_iff_toInt_le.mp h.1
  have h2 := Int32.le_iff_toInt_le.mp h.2
  have e1 : (1 : Int32).toInt = 1 := rfl
  have e2 : (20 : Int32).toInt = 20 := rfl
  have h3 := hi.1
  refine Int32.le_iff_toInt_le.mpr ?_
  rw [Int32.toInt_add, show ((S.1 0 0).toInt + y.toInt).bmod (2 ^ 32) = (S.1 0 0).toInt + y.toInt from Int.bmod_eq_of_le (by omega) (by omega)]
  show 0 ≤ (S.1 0 0).toInt + y.toInt
  omega
set_option maxHeartbeats 4000000 in
set_option maxRecDepth 100000 in
theorem c_X5_setRate {l : Launch} (hnt : l.stackTraces = false) (l' : Launch) (G : Gx) (M : Mp) (S T : Sd) (th : Int32) (o : Int64) (ex : Nat → Option (Nat × Nat)) (ad : Nat → Nat → Nat) (n x : Int32) (hw : WA G S T th o ex ad M) (hi : Iv S) : vx_Met l yX5_setRate wsX5_setRate ({ frames := 7, cells := 2, slots := 12, locals := 112 }) (Cv G M [.ref (ad 0 0), .int n, .int x]) (va_Qi (S := Mp) (fun r M2 => (0 ≤ n ∧ n < 4) ∧ (1 ≤ x ∧ x ≤ 100000) ∧ r = S.1 1 n.toNatClampNeg ∧ WA G (u2 S.1 1 n.toNatClampNeg x, S.2) T th o ex ad M2) (Bm G (fun M2 => M2)) (AG G)) (Xq G M (fun E => (E = IO ∧ ¬ (0 ≤ n ∧ n < 4)) ∨ (E = IA ∧ (0 ≤ n ∧ n < 4) ∧ ¬ (1 ≤ x ∧ x ≤ 100000)))) (2) (12) (AG G) := by
  refine m_metx [.ref (ad 0 0), .int n, .int x] [(0, .ref (ad 0 0)), (1, .int n), (2, .int x)] (by decide) rfl rfl (Nat.le_of_ble_eq_true rfl) ?_
  intro p e s m below meth c ls hx hb hr hml hown hts hlocks hin ht hC hM hl hS
  have f0 : M (ad 0 0) = some (.inr (5, [.ref (ad 1 0), .ref (ad 3 0), .ref (ad 5 0), .ref (ad 10 0), .int (S.1 5 0)])) := hw.1 0 0 _ rfl
  have f1 : M (ad 1 0) = some (.inr (1, [.ref (ad 2 0), .int (S.1 0 0)])) := hw.1 1 0 _ rfl
  have f2 : M (ad 2 0) = some (.inl (G.2.1 2, 1001, .inl (S.1 4))) := hw.1 2 0 _ rfl
  have f3 : M (ad 3 0) = some (.inl (G.2.1 3, 4, .inr (.inr (.inr (.inr (crr ad)))))) := hw.1 3 0 _ rfl
  have f5 : M (ad 5 0) = some (.inl (G.2.1 4, 5, .inr (.inr (.inr (.inr (csr ad)))))) := hw.1 5 0 _ rfl
  have f10 : M (ad 10 0) = some (.inl (G.2.1 6, 20, .inr (.inr (.inr (.inr (dlr S ad)))))) := hw.1 10 0 _ rfl
  refine lv_aload_n hx hb dX5_setRate_0 rfl (lv_at hl 0 rfl) ?_
  refine lv_iload_n hx hb dX5_setRate_1 rfl (lv_at hl 1 rfl) ?_
  refine kx_q (vx_runV (As := [.int n]) (rest := []) ⟨hx, hb, hml, hown, hts⟩ (c_X5_currencyNumbered hnt l G M S T th o ex ad n hw hi) (cwV 1 hts gX5_setRate_X5_currencyNumbered rfl rfl rfl (by decide +kernel) ⟨Nat.le_of_ble_eq_true rfl, Nat.le_of_ble_eq_true rfl⟩) (preV_of hC hS hM f0 rfl) rfl rfl hl.1 rfl (lv_room (Nat.le_of_ble_eq_true rfl)) dX5_setRate_2 ⟨Nat.le_of_ble_eq_true rfl, Nat.le_of_ble_eq_true rfl⟩) hS (fun E ce q9 H locs hE hM hS h1 h2 h3 => ?_) (fun r2 u2 H locs hp2 hM hS => ?_)
  · exact r_out ht hlocks hS hM (Or.inl hE) h1 h2 h3 (Nat.le_of_ble_eq_true rfl) (Nat.le_of_ble_eq_true rfl)
  have hM : Hm G M H := hM
  obtain ⟨e2, b2⟩ := hp2
  subst e2
  have g2 := hw.1 _ _ _ (ct4 (G := G) (S := S) (T := T) (th := th) (o := o) (ex := ex) (ad := ad) (ix_lt 4 b2 (by decide)))
  refine lv_astore_n (lv' := [(3, .ref (ad 4 (n.toNatClampNeg))), (0, .ref (ad 0 0)), (1, .int n), (2, .int x)]) hx hb dX5_setRate_5 rfl hl (by decide) rfl (fun ls hl => ?_)
  refine lv_iload_n hx hb dX5_setRate_6 rfl (lv_at hl 3 rfl) ?_
  refine lv_iconst (v := 1) hx hb dX5_setRate_7 (by decide) ?_
  refine lv_ldc (own := RX5) (v := 100000) hx hb hown (hts (.constant RX5 42 100000) (by decide +kernel)) dX5_setRate_8 ?_
  refine kx_v (vx_runS (As := [.int x, .int 1, .int 100000]) (rest := []) ⟨hx, hb, hml, hown, hts⟩ (c_X5_requireRange hnt l G M x (1 : Int32) (100000 : Int32)) (va_cwS 3 hts gX5_setRate_X5_requireRange rfl rfl rfl (by decide +kernel) ⟨Nat.le_of_ble_eq_true rfl, Nat.le_of_ble_eq_true rfl⟩) (preS_of hC hS hM) rfl rfl hl.1 rfl (lv_room (Nat.le_of_ble_eq_true rfl)) dX5_setRate_10 ⟨Nat.le_of_ble_eq_true rfl, Nat.le_of_ble_eq_true rfl⟩) hS (fun E ce q9 H locs hE hM hS h1 h2 h3 => ?_) (fun u10 H locs hp10 hM hS => ?_)
  · exact r_out ht hlocks hS hM (Or.inr ⟨hE.1, b2, hE.2⟩) h1 h2 h3 (Nat.le_of_ble_eq_true rfl) (Nat.le_of_ble_eq_true rfl)
  have hM : Hm G M H := hM
  refine lv_aload_n hx hb dX5_setRate_13 rfl (lv_at hl 0 rfl) ?_
  refine m_getN (host := RX5) (ci := 2) (v := .int (S.1 1 (n.toNatClampNeg))) (C := RX2) (T := TX2) (N := 3) (a := (ad 4 (n.toNatClampNeg))) hx hb hts (by decide +kernel) hown hC hM g2 rfl 1 (by decide) (hC.w 2 rfl) (fun _ h9 => h9) rfl dX5_setRate_14 ?_
  refine lv_istore (lv' := [(4, .int (S.1 1 (n.toNatClampNeg))), (3, .ref (ad 4 (n.toNatClampNeg))), (0, .ref (ad 0 0)), (1, .int n), (2, .int x)]) hx hb dX5_setRate_17 hl (by decide) rfl (fun ls hl => ?_)
  refine lv_aload_n hx hb dX5_setRate_19 rfl (lv_at hl 1 rfl) ?_
  refine lv_iload_n hx hb dX5_setRate_20 rfl (lv_at hl 4 rfl) ?_
  refine m_putN (host := RX5) (ci := 2) (v := .int x) (ty := .int) (C := RX2) (T := TX2) (N := 3) (a := (ad 4 (n.toNatClampNeg))) hx hb hts (by decide +kernel) tyX2 tyX2_ok nmX2 hown hC hM hS g2 rfl 1 (by decide) (hC.w 2 rfl) (fun _ h9 => h9) rfl (by decide +kernel) rfl rfl (Nat.le_of_ble_eq_true rfl) dX5_setRate_21 (fun H locs hM hS => ?_)
  have hM : Hm G (va_up M (ad 4 (n.toNatClampNeg)) (some (.inr (2, [.int (nI (n.toNatClampNeg)), .int x, .int (S.1 2 (n.toNatClampNeg))])))) H := hM
  have f21_2 : (va_up M (ad 4 (n.toNatClampNeg)) (some (.inr (2, [.int (nI (n.toNatClampNeg)), .int x, .int (S.1 2 (n.toNatClampNeg))])))) (ad 0 0) = some (.inr (5, [.ref (ad 1 0), .ref (ad 3 0), .ref (ad 5 0), .ref (ad 10 0), .int (S.1 5 0)])) := (up_ne (fun h9 => absurd (Eq.trans (Eq.trans (Eq.symm f0) (congrArg M h9)) g2) (by simp))).trans f0
  have f21_3 : (va_up M (ad 4 (n.toNatClampNeg)) (some (.inr (2, [.int (nI (n.toNatClampNeg)), .int x, .int (S.1 2 (n.toNatClampNeg))])))) (ad 1 0) = some (.inr (1, [.ref (ad 2 0), .int (S.1 0 0)])) := (up_ne (fun h9 => absurd (Eq.trans (Eq.trans (Eq.symm f1) (congrArg M h9)) g2) (by simp))).trans f1
  have f21_4 : (va_up M (ad 4 (n.toNatClampNeg)) (some (.inr (2, [.int (nI (n.toNatClampNeg)), .int x, .int (S.1 2 (n.toNatClampNeg))])))) (ad 2 0) = some (.inl (G.2.1 2, 1001, .inl (S.1 4))) := (up_ne (fun h9 => absurd (Eq.trans (Eq.trans (Eq.symm f2) (congrArg M h9)) g2) (by simp))).trans f2
  have f21_5 : (va_up M (ad 4 (n.toNatClampNeg)) (some (.inr (2, [.int (nI (n.toNatClampNeg)), .int x, .int (S.1 2 (n.toNatClampNeg))])))) (ad 3 0) = some (.inl (G.2.1 3, 4, .inr (.inr (.inr (.inr (crr ad)))))) := (up_ne (fun h9 => absurd (Eq.trans (Eq.trans (Eq.symm f3) (congrArg M h9)) g2) (by simp))).trans f3
  have f21_6 : (va_up M (ad 4 (n.toNatClampNeg)) (some (.inr (2, [.int (nI (n.toNatClampNeg)), .int x, .int (S.1 2 (n.toNatClampNeg))])))) (ad 5 0) = some (.inl (G.2.1 4, 5, .inr (.inr (.inr (.inr (csr ad)))))) := (up_ne (fun h9 => absurd (Eq.trans (Eq.trans (Eq.symm f5) (congrArg M h9)) g2) (by simp))).trans f5
  have f21_7 : (va_up M (ad 4 (n.toNatClampNeg)) (some (.inr (2, [.int (nI (n.toNatClampNeg)), .int x, .int (S.1 2 (n.toNatClampNeg))])))) (ad 10 0) = some (.inl (G.2.1 6, 20, .inr (.inr (.inr (.inr (dlr S ad)))))) := (up_ne (fun h9 => absurd (Eq.trans (Eq.trans (Eq.symm f10) (congrArg M h9)) g2) (by simp))).trans f10
  have f21_8 : (va_up M (ad 4 (n.toNatClampNeg)) (some (.inr (2, [.int (nI (n.toNatClampNeg)), .int x, .int (S.1 2 (n.toNatClampNeg))])))) (ad 4 (n.toNatClampNeg)) = some (.inr (2, [.int (nI (n.toNatClampNeg)), .int x, .int (S.1 2 (n.toNatClampNeg))])) := up_eq
  refine lv_iload hx hb dX5_setRate_24 (lv_at hl 0 rfl) ?_
  exact vx_ret (r_i hx hb hr hlocks hS (v := (S.1 1 (n.toNatClampNeg))) _ ⟨b2, hp10, rfl, w_spot hw (ix_lt 4 b2 (by decide)) x⟩ hM (Nat.le_of_ble_eq_true rfl) (Nat.le_of_ble_eq_true rfl) dX5_setRate_26)
set_option maxHeartbeats 4000000 in
set_option maxRecDepth 100000 in
theorem c_X5_setPoints {l : Launch} (hnt : l.stackTraces = false) (l' : Launch) (G : Gx) (M : Mp) (S T : Sd) (th : Int32) (o : Int64) (ex : Nat → Option (Nat × Nat)) (ad : Nat → Nat → Nat) (n x : Int32) (hw : WA G S T th o ex ad M) (hi : Iv S) : vx_Met l yX5_setPoints wsX5_setPoints ({ frames := 7, cells := 2, slots := 12, locals := 112 }) (Cv G M [.ref (ad 0 0), .int n, .int x]) (va_Qi (S := Mp) (fun r M2 => (0 ≤ n ∧ n < 4) ∧ ((-50) ≤ x ∧ x ≤ 50) ∧ r = S.1 2 n.toNatClampNeg ∧ WA G (u2 S.1 2 n.toNatClampNeg x, S.2) T th o ex ad M2) (Bm G (fun M2 => M2)) (AG G)) (Xq G M (fun E => (E = IO ∧ ¬ (0 ≤ n ∧ n < 4)) ∨ (E = IA ∧ (0 ≤ n ∧ n < 4) ∧ ¬ ((-50) ≤ x ∧ x ≤ 50)))) (2) (12) (AG G) := by
  refine m_metx [.ref (ad 0 0), .int n, .int x] [(0, .ref (ad 0 0)), (1, .int n), (2, .int x)] (by decide) rfl rfl (Nat.le_of_ble_eq_true rfl) ?_
  intro p e s m below meth c ls hx hb hr hml hown hts hlocks hin ht hC hM hl hS
  have f0 : M (ad 0 0) = some (.inr (5, [.ref (ad 1 0), .ref (ad 3 0), .ref (ad 5 0), .ref (ad 10 0), .int (S.1 5 0)])) := hw.1 0 0 _ rfl
  have f1 : M (ad 1 0) = some (.inr (1, [.ref (ad 2 0), .int (S.1 0 0)])) := hw.1 1 0 _ rfl
  have f2 : M (ad 2 0) = some (.inl (G.2.1 2, 1001, .inl (S.1 4))) := hw.1 2 0 _ rfl
  have f3 : M (ad 3 0) = some (.inl (G.2.1 3, 4, .inr (.inr (.inr (.inr (crr ad)))))) := hw.1 3 0 _ rfl
  have f5 : M (ad 5 0) = some (.inl (G.2.1 4, 5, .inr (.inr (.inr (.inr (csr ad)))))) := hw.1 5 0 _ rfl
  have f10 : M (ad 10 0) = some (.inl (G.2.1 6, 20, .inr (.inr (.inr (.inr (dlr S ad)))))) := hw.1 10 0 _ rfl
  refine lv_aload_n hx hb dX5_setPoints_0 rfl (lv_at hl 0 rfl) ?_
  refine lv_iload_n hx hb dX5_setPoints_1 rfl (lv_at hl 1 rfl) ?_
  refine kx_q (vx_runV (As := [.int n]) (rest := []) ⟨hx, hb, hml, hown, hts⟩ (c_X5_currencyNumbered hnt l G M S T th o ex ad n hw hi) (cwV 1 hts gX5_setPoints_X5_currencyNumbered rfl rfl rfl (by decide +kernel) ⟨Nat.le_of_ble_eq_true rfl, Nat.le_of_ble_eq_true rfl⟩) (preV_of hC hS hM f0 rfl) rfl rfl hl.1 rfl (lv_room (Nat.le_of_ble_eq_true rfl)) dX5_setPoints_2 ⟨Nat.le_of_ble_eq_true rfl, Nat.le_of_ble_eq_true rfl⟩) hS (fun E ce q9 H locs hE hM hS h1 h2 h3 => ?_) (fun r2 u2 H locs hp2 hM hS => ?_)
  · exact r_out ht hlocks hS hM (Or.inl hE) h1 h2 h3 (Nat.le_of_ble_eq_true rfl) (Nat.le_of_ble_eq_true rfl)
  have hM : Hm G M H := hM
  obtain ⟨e2, b2⟩ := hp2
  subst e2
  have g2 := hw.1 _ _ _ (ct4 (G := G) (S := S) (T := T) (th := th) (o := o) (ex := ex) (ad := ad) (ix_lt 4 b2 (by decide)))
  refine lv_astore_n (lv' := [(3, .ref (ad 4 (n.toNatClampNeg))), (0, .ref (ad 0 0)), (1, .int n), (2, .int x)]) hx hb dX5_setPoints_5 rfl hl (by decide) rfl (fun ls hl => ?_)
  refine lv_iload_n hx hb dX5_setPoints_6 rfl (lv_at hl 3 rfl) ?_
  refine lv_bipush (v := (-50)) hx hb dX5_setPoints_7 (by decide) ?_
  refine lv_bipush (v := 50) hx hb dX5_setPoints_9 (by decide) ?_
  refine kx_v (vx_runS (As := [.int x, .int (-50), .int 50]) (rest := []) ⟨hx, hb, hml, hown, hts⟩ (c_X5_requireRange hnt l G M x (-50) (50 : Int32)) (va_cwS 3 hts gX5_setPoints_X5_requireRange rfl rfl rfl (by decide +kernel) ⟨Nat.le_of_ble_eq_true rfl, Nat.le_of_ble_eq_true rfl⟩) (preS_of hC hS hM) rfl rfl hl.1 rfl (lv_room (Nat.le_of_ble_eq_true rfl)) dX5_setPoints_11 ⟨Nat.le_of_ble_eq_true rfl, Nat.le_of_ble_eq_true rfl⟩) hS (fun E ce q9 H locs hE hM hS h1 h2 h3 => ?_) (fun u11 H locs hp11 hM hS => ?_)
  · exact r_out ht hlocks hS hM (Or.inr ⟨hE.1, b2, hE.2⟩) h1 h2 h3 (Nat.le_of_ble_eq_true rfl) (Nat.le_of_ble_eq_true rfl)
  have hM : Hm G M H := hM
  refine lv_aload_n hx hb dX5_setPoints_14 rfl (lv_at hl 0 rfl) ?_
  refine m_getN (host := RX5) (ci := 2) (v := .int (S.1 2 (n.toNatClampNeg))) (C := RX2) (T := TX2) (N := 3) (a := (ad 4 (n.toNatClampNeg))) hx hb hts (by decide +kernel) hown hC hM g2 rfl 2 (by decide) (hC.w 3 rfl) (fun _ h9 => h9) rfl dX5_setPoints_15 ?_
  refine lv_istore (lv' := [(4, .int (S.1 2 (n.toNatClampNeg))), (3, .ref (ad 4 (n.toNatClampNeg))), (0, .ref (ad 0 0)), (1, .int n), (2, .int x)]) hx hb dX5_setPoints_18 hl (by decide) rfl (fun ls hl => ?_)
  refine lv_aload_n hx hb dX5_setPoints_20 rfl (lv_at hl 1 rfl) ?_
  refine lv_iload_n hx hb dX5_setPoints_21 rfl (lv_at hl 4 rfl) ?_
  refine m_putN (host := RX5) (ci := 2) (v := .int x) (ty := .int) (C := RX2) (T := TX2) (N := 3) (a := (ad 4 (n.toNatClampNeg))) hx hb hts (by decide +kernel) tyX2 tyX2_ok nmX2 hown hC hM hS g2 rfl 2 (by decide) (hC.w 3 rfl) (fun _ h9 => h9) rfl (by decide +kernel) rfl rfl (Nat.le_of_ble_eq_true rfl) dX5_setPoints_22 (fun H locs hM hS => ?_)
  have hM : Hm G (va_up M (ad 4 (n.toNatClampNeg)) (some (.inr (2, [.int (nI (n.toNatClampNeg)), .int (S.1 1 (n.toNatClampNeg)), .int x])))) H := hM
  have f22_2 : (va_up M (ad 4 (n.toNatClampNeg)) (some (.inr (2, [.int (nI (n.toNatClampNeg)), .int (S.1 1 (n.toNatClampNeg)), .int x])))) (ad 0 0) = some (.inr (5, [.ref (ad 1 0), .ref (ad 3 0), .ref (ad 5 0), .ref (ad 10 0), .int (S.1 5 0)])) := (up_ne (fun h9 => absurd (Eq.trans (Eq.trans (Eq.symm f0) (congrArg M h9)) g2) (by simp))).trans f0
  have f22_3 : (va_up M (ad 4 (n.toNatClampNeg)) (some (.inr (2, [.int (nI (n.toNatClampNeg)), .int (S.1 1 (n.toNatClampNeg)), .int x])))) (ad 1 0) = some (.inr (1, [.ref (ad 2 0), .int (S.1 0 0)])) := (up_ne (fun h9 => absurd (Eq.trans (Eq.trans (Eq.symm f1) (congrArg M h9)) g2) (by simp))).trans f1
  have f22_4 : (va_up M (ad 4 (n.toNatClampNeg)) (some (.inr (2, [.int (nI (n.toNatClampNeg)), .int (S.1 1 (n.toNatClampNeg)), .int x])))) (ad 2 0) = some (.inl (G.2.1 2, 1001, .inl (S.1 4))) := (up_ne (fun h9 => absurd (Eq.trans (Eq.trans (Eq.symm f2) (congrArg M h9)) g2) (by simp))).trans f2
  have f22_5 : (va_up M (ad 4 (n.toNatClampNeg)) (some (.inr (2, [.int (nI (n.toNatClampNeg)), .int (S.1 1 (n.toNatClampNeg)), .int x])))) (ad 3 0) = some (.inl (G.2.1 3, 4, .inr (.inr (.inr (.inr (crr ad)))))) := (up_ne (fun h9 => absurd (Eq.trans (Eq.trans (Eq.symm f3) (congrArg M h9)) g2) (by simp))).trans f3
  have f22_6 : (va_up M (ad 4 (n.toNatClampNeg)) (some (.inr (2, [.int (nI (n.toNatClampNeg)), .int (S.1 1 (n.toNatClampNeg)), .int x])))) (ad 5 0) = some (.inl (G.2.1 4, 5, .inr (.inr (.inr (.inr (csr ad)))))) := (up_ne (fun h9 => absurd (Eq.trans (Eq.trans (Eq.symm f5) (congrArg M h9)) g2) (by simp))).trans f5
  have f22_7 : (va_up M (ad 4 (n.toNatClampNeg)) (some (.inr (2, [.int (nI (n.toNatClampNeg)), .int (S.1 1 (n.toNatClampNeg)), .int x])))) (ad 10 0) = some (.inl (G.2.1 6, 20, .inr (.inr (.inr (.inr (dlr S ad)))))) := (up_ne (fun h9 => absurd (Eq.trans (Eq.trans (Eq.symm f10) (congrArg M h9)) g2) (by simp))).trans f10
  have f22_8 : (va_up M (ad 4 (n.toNatClampNeg)) (some (.inr (2, [.int (nI (n.toNatClampNeg)), .int (S.1 1 (n.toNatClampNeg)), .int x])))) (ad 4 (n.toNatClampNeg)) = some (.inr (2, [.int (nI (n.toNatClampNeg)), .int (S.1 1 (n.toNatClampNeg)), .int x])) := up_eq
  refine lv_iload hx hb dX5_setPoints_25 (lv_at hl 0 rfl) ?_
  exact vx_ret (r_i hx hb hr hlocks hS (v := (S.1 2 (n.toNatClampNeg))) _ ⟨b2, hp11, rfl, w_pts hw (ix_lt 4 b2 (by decide)) x⟩ hM (Nat.le_of_ble_eq_true rfl) (Nat.le_of_ble_eq_true rfl) dX5_setPoints_27)
set_option maxHeartbeats 4000000 in
set_option maxRecDepth 100000 in
theorem c_X5_setLimit {l : Launch} (hnt : l.stackTraces = false) (l' : Launch) (G : Gx) (M : Mp) (S T : Sd) (th : Int32) (o : Int64) (ex : Nat → Option (Nat × Nat)) (ad : Nat → Nat → Nat) (n x : Int32) (hw : WA G S T th o ex ad M) (hi : Iv S) : vx_Met l yX5_setLimit wsX5_setLimit ({ frames := 7, cells := 2, slots := 12, locals := 112 }) (Cv G M [.ref (ad 0 0), .int n, .int x]) (va_Qi (S := Mp) (fun r M2 => (0 ≤ n ∧ n < 5) ∧ (0 ≤ x ∧ x ≤ 100000000) ∧ r = S.1 3 n.toNatClampNeg ∧ WA G (u2 S.1 3 n.toNatClampNeg x, u2 S.2 2 n.toNatClampNeg x.toInt64) T th o ex ad M2) (Bm G (fun M2 => M2)) (AG G)) (Xq G M (fun E => (E = IO ∧ ¬ (0 ≤ n ∧ n < 5)) ∨ (E = IA ∧ (0 ≤ n ∧ n < 5) ∧ ¬ (0 ≤ x ∧ x ≤ 100000000)))) (2) (12) (AG G) := by
  refine m_metx [.ref (ad 0 0), .int n, .int x] [(0, .ref (ad 0 0)), (1, .int n), (2, .int x)] (by decide) rfl rfl (Nat.le_of_ble_eq_true rfl) ?_
  intro p e s m below meth c ls hx hb hr hml hown hts hlocks hin ht hC hM hl hS
  have f0 : M (ad 0 0) = some (.inr (5, [.ref (ad 1 0), .ref (ad 3 0), .ref (ad 5 0), .ref (ad 10 0), .int (S.1 5 0)])) := hw.1 0 0 _ rfl
  have f1 : M (ad 1 0) = some (.inr (1, [.ref (ad 2 0), .int (S.1 0 0)])) := hw.1 1 0 _ rfl
  have f2 : M (ad 2 0) = some (.inl (G.2.1 2, 1001, .inl (S.1 4))) := hw.1 2 0 _ rfl
  have f3 : M (ad 3 0) = some (.inl (G.2.1 3, 4, .inr (.inr (.inr (.inr (crr ad)))))) := hw.1 3 0 _ rfl
  have f5 : M (ad 5 0) = some (.inl (G.2.1 4, 5, .inr (.inr (.inr (.inr (csr ad)))))) := hw.1 5 0 _ rfl
  have f10 : M (ad 10 0) = some (.inl (G.2.1 6, 20, .inr (.inr (.inr (.inr (dlr S ad)))))) := hw.1 10 0 _ rfl
  refine lv_aload_n hx hb dX5_setLimit_0 rfl (lv_at hl 0 rfl) ?_
  refine lv_iload_n hx hb dX5_setLimit_1 rfl (lv_at hl 1 rfl) ?_
  refine kx_q (vx_runV (As := [.int n]) (rest := []) ⟨hx, hb, hml, hown, hts⟩ (c_X5_customerNumbered hnt l G M S T th o ex ad n hw hi) (cwV 1 hts gX5_setLimit_X5_customerNumbered rfl rfl rfl (by decide +kernel) ⟨Nat.le_of_ble_eq_true rfl, Nat.le_of_ble_eq_true rfl⟩) (preV_of hC hS hM f0 rfl) rfl rfl hl.1 rfl (lv_room (Nat.le_of_ble_eq_true rfl)) dX5_setLimit_2 ⟨Nat.le_of_ble_eq_true rfl, Nat.le_of_ble_eq_true rfl⟩) hS (fun E ce q9 H locs hE hM hS h1 h2 h3 => ?_) (fun r2 u2 H locs hp2 hM hS => ?_)
  · exact r_out ht hlocks hS hM (Or.inl hE) h1 h2 h3 (Nat.le_of_ble_eq_true rfl) (Nat.le_of_ble_eq_true rfl)
  have hM : Hm G M H := hM
  obtain ⟨e2, b2⟩ := hp2
  subst e2
  have g2 := hw.1 _ _ _ (ct6 (G := G) (S := S) (T := T) (th := th) (o := o) (ex := ex) (ad := ad) (ix_lt 5 b2 (by decide)))
  have g2_7 := hw.1 _ _ _ (ct7 (G := G) (S := S) (T := T) (th := th) (o := o) (ex := ex) (ad := ad) (ix_lt 5 b2 (by decide)))
  have g2_8 := hw.1 _ _ _ (ct8 (G := G) (S := S) (T := T) (th := th) (o := o) (ex := ex) (ad := ad) (ix_lt 5 b2 (by decide)))
  have g2_9 := hw.1 _ _ _ (ct9 (G := G) (S := S) (T := T) (th := th) (o := o) (ex := ex) (ad := ad) (ix_lt 5 b2 (by decide)))
  refine lv_astore_n (lv' := [(3, .ref (ad 6 (n.toNatClampNeg))), (0, .ref (ad 0 0)), (1, .int n), (2, .int x)]) hx hb dX5_setLimit_5 rfl hl (by decide) rfl (fun ls hl => ?_)
  refine lv_iload_n hx hb dX5_setLimit_6 rfl (lv_at hl 3 rfl) ?_
  refine lv_iconst (v := 0) hx hb dX5_setLimit_7 (by decide) ?_
  refine lv_ldc (own := RX5) (v := 100000000) hx hb hown (hts (.constant RX5 72 100000000) (by decide +kernel)) dX5_setLimit_8 ?_
  refine kx_v (vx_runS (As := [.int x, .int 0, .int 100000000]) (rest := []) ⟨hx, hb, hml, hown, hts⟩ (c_X5_requireRange hnt l G M x (0 : Int32) (100000000 : Int32)) (va_cwS 3 hts gX5_setLimit_X5_requireRange rfl rfl rfl (by decide +kernel) ⟨Nat.le_of_ble_eq_true rfl, Nat.le_of_ble_eq_true rfl⟩) (preS_of hC hS hM) rfl rfl hl.1 rfl (lv_room (Nat.le_of_ble_eq_true rfl)) dX5_setLimit_10 ⟨Nat.le_of_ble_eq_true rfl, Nat.le_of_ble_eq_true rfl⟩) hS (fun E ce q9 H locs hE hM hS h1 h2 h3 => ?_) (fun u10 H locs hp10 hM hS => ?_)
  · exact r_out ht hlocks hS hM (Or.inr ⟨hE.1, b2, hE.2⟩) h1 h2 h3 (Nat.le_of_ble_eq_true rfl) (Nat.le_of_ble_eq_true rfl)
  have hM : Hm G M H := hM
  refine lv_aload_n hx hb dX5_setLimit_13 rfl (lv_at hl 0 rfl) ?_
  refine m_getN (host := RX5) (ci := 3) (v := .int (S.1 3 (n.toNatClampNeg))) (C := RX3) (T := TX3) (N := 3) (a := (ad 6 (n.toNatClampNeg))) hx hb hts (by decide +kernel) hown hC hM g2 rfl 0 (by decide) (hC.w 4 rfl) (fun _ h9 => h9) rfl dX5_setLimit_14 ?_
  refine lv_istore (lv' := [(4, .int (S.1 3 (n.toNatClampNeg))), (3, .ref (ad 6 (n.toNatClampNeg))), (0, .ref (ad 0 0)), (1, .int n), (2, .int x)]) hx hb dX5_setLimit_17 hl (by decide) rfl (fun ls hl => ?_)
  refine lv_aload_n hx hb dX5_setLimit_19 rfl (lv_at hl 1 rfl) ?_
  refine lv_iload_n hx hb dX5_setLimit_20 rfl (lv_at hl 4 rfl) ?_
  refine m_putN (host := RX5) (ci := 3) (v := .int x) (ty := .int) (C := RX3) (T := TX3) (N := 3) (a := (ad 6 (n.toNatClampNeg))) hx hb hts (by decide +kernel) tyX3 tyX3_ok nmX3 hown hC hM hS g2 rfl 0 (by decide) (hC.w 4 rfl) (fun _ h9 => h9) rfl (by decide +kernel) rfl rfl (Nat.le_of_ble_eq_true rfl) dX5_setLimit_21 (fun H locs hM hS => ?_)
  have hM : Hm G (va_up M (ad 6 (n.toNatClampNeg)) (some (.inr (3, [.int x, .ref (ad 7 (n.toNatClampNeg)), .ref (ad 8 (n.toNatClampNeg))])))) H := hM
  have f21_2 : (va_up M (ad 6 (n.toNatClampNeg)) (some (.inr (3, [.int x, .ref (ad 7 (n.toNatClampNeg)), .ref (ad 8 (n.toNatClampNeg))])))) (ad 0 0) = some (.inr (5, [.ref (ad 1 0), .ref (ad 3 0), .ref (ad 5 0), .ref (ad 10 0), .int (S.1 5 0)])) := (up_ne (fun h9 => absurd (Eq.trans (Eq.trans (Eq.symm f0) (congrArg M h9)) g2) (by simp))).trans f0
  have f21_3 : (va_up M (ad 6 (n.toNatClampNeg)) (some (.inr (3, [.int x, .ref (ad 7 (n.toNatClampNeg)), .ref (ad 8 (n.toNatClampNeg))])))) (ad 1 0) = some (.inr (1, [.ref (ad 2 0), .int (S.1 0 0)])) := (up_ne (fun h9 => absurd (Eq.trans (Eq.trans (Eq.symm f1) (congrArg M h9)) g2) (by simp))).trans f1
  have f21_4 : (va_up M (ad 6 (n.toNatClampNeg)) (some (.inr (3, [.int x, .ref (ad 7 (n.toNatClampNeg)), .ref (ad 8 (n.toNatClampNeg))])))) (ad 2 0) = some (.inl (G.2.1 2, 1001, .inl (S.1 4))) := (up_ne (fun h9 => absurd (Eq.trans (Eq.trans (Eq.symm f2) (congrArg M h9)) g2) (by simp))).trans f2
  have f21_5 : (va_up M (ad 6 (n.toNatClampNeg)) (some (.inr (3, [.int x, .ref (ad 7 (n.toNatClampNeg)), .ref (ad 8 (n.toNatClampNeg))])))) (ad 3 0) = some (.inl (G.2.1 3, 4, .inr (.inr (.inr (.inr (crr ad)))))) := (up_ne (fun h9 => absurd (Eq.trans (Eq.trans (Eq.symm f3) (congrArg M h9)) g2) (by simp))).trans f3
  have f21_6 : (va_up M (ad 6 (n.toNatClampNeg)) (some (.inr (3, [.int x, .ref (ad 7 (n.toNatClampNeg)), .ref (ad 8 (n.toNatClampNeg))])))) (ad 5 0) = some (.inl (G.2.1 4, 5, .inr (.inr (.inr (.inr (csr ad)))))) := (up_ne (fun h9 => absurd (Eq.trans (Eq.trans (Eq.symm f5) (congrArg M h9)) g2) (by simp))).trans f5
  have f21_7 : (va_up M (ad 6 (n.toNatClampNeg)) (some (.inr (3, [.int x, .ref (ad 7 (n.toNatClampNeg)), .ref (ad 8 (n.toNatClampNeg))])))) (ad 10 0) = some (.inl (G.2.1 6, 20, .inr (.inr (.inr (.inr (dlr S ad)))))) := (up_ne (fun h9 => absurd (Eq.trans (Eq.trans (Eq.symm f10) (congrArg M h9)) g2) (by simp))).trans f10
  have f21_8 : (va_up M (ad 6 (n.toNatClampNeg)) (some (.inr (3, [.int x, .ref (ad 7 (n.toNatClampNeg)), .ref (ad 8 (n.toNatClampNeg))])))) (ad 6 (n.toNatClampNeg)) = some (.inr (3, [.int x, .ref (ad 7 (n.toNatClampNeg)), .ref (ad 8 (n.toNatClampNeg))])) := up_eq
  have f21_9 : (va_up M (ad 6 (n.toNatClampNeg)) (some (.inr (3, [.int x, .ref (ad 7 (n.toNatClampNeg)), .ref (ad 8 (n.toNatClampNeg))])))) (ad 7 (n.toNatClampNeg)) = some (.inl (G.2.1 5, 1002, .inr (.inr (.inr (.inr (ntr ex ad (n.toNatClampNeg))))))) := (up_ne (fun h9 => absurd (Eq.trans (Eq.trans (Eq.symm g2_7) (congrArg M h9)) g2) (by simp))).trans g2_7
  have f21_10 : (va_up M (ad 6 (n.toNatClampNeg)) (some (.inr (3, [.int x, .ref (ad 7 (n.toNatClampNeg)), .ref (ad 8 (n.toNatClampNeg))])))) (ad 8 (n.toNatClampNeg)) = some (.inr (0, [.ref (ad 9 (n.toNatClampNeg))])) := (up_ne (fun h9 => absurd (Eq.trans (Eq.trans (Eq.symm g2_8) (congrArg M h9)) g2) (by simp))).trans g2_8
  have f21_11 : (va_up M (ad 6 (n.toNatClampNeg)) (some (.inr (3, [.int x, .ref (ad 7 (n.toNatClampNeg)), .ref (ad 8 (n.toNatClampNeg))])))) (ad 9 (n.toNatClampNeg)) = some (.inl (G.2.1 1, 5, .inr (.inl (rw5 (S.2 1) (n.toNatClampNeg))))) := (up_ne (fun h9 => absurd (Eq.trans (Eq.trans (Eq.symm g2_9) (congrArg M h9)) g2) (by simp))).trans g2_9
  refine lv_iload hx hb dX5_setLimit_24 (lv_at hl 0 rfl) ?_
  exact vx_ret (r_i hx hb hr hlocks hS (v := (S.1 3 (n.toNatClampNeg))) _ ⟨b2, hp10, rfl, w_lim hw (ix_lt 5 b2 (by decide)) x x.toInt64⟩ hM (Nat.le_of_ble_eq_true rfl) (Nat.le_of_ble_eq_true rfl) dX5_setLimit_26)
set_option maxHeartbeats 4000000 in
set_option maxRecDepth 100000 in
theorem c_X5_forward {l : Launch} (hnt : l.stackTraces = false) (l' : Launch) (G : Gx) (M : Mp) (S T : Sd) (th : Int32) (o : Int64) (ex : Nat → Option (Nat × Nat)) (ad : Nat → Nat → Nat) (n x : Int32) (hw : WA G S T th o ex ad M) (hi : Iv S) : vx_Met l yX5_forward wsX5_forward ({ frames := 7, cells := 2, slots := 12, locals := 112 }) (Cv G M [.ref (ad 0 0), .int n, .int x]) (va_Qi (S := Unit) (fun r _ => (0 ≤ n ∧ n < 4) ∧ (0 ≤ x ∧ x ≤ 400) ∧ r = al1 (S.1 1 n.toNatClampNeg + S.1 2 n.toNatClampNeg * x)) (Bm G (fun _ => M)) (AG G)) (Xq G M (fun E => (E = IO ∧ ¬ (0 ≤ n ∧ n < 4)) ∨ (E = IA ∧ (0 ≤ n ∧ n < 4) ∧ ¬ (0 ≤ x ∧ x ≤ 400)))) (2) (12) (AG G) := by
  refine m_metx [.ref (ad 0 0), .int n, .int x] [(0, .ref (ad 0 0)), (1, .int n), (2, .int x)] (by decide) rfl rfl (Nat.le_of_ble_eq_true rfl) ?_
  intro p e s m below meth c ls hx hb hr hml hown hts hlocks hin ht hC hM hl hS
  have f0 : M (ad 0 0) = some (.inr (5, [.ref (ad 1 0), .ref (ad 3 0), .ref (ad 5 0), .ref (ad 10 0), .int (S.1 5 0)])) := hw.1 0 0 _ rfl
  have f1 : M (ad 1 0) = some (.inr (1, [.ref (ad 2 0), .int (S.1 0 0)])) := hw.1 1 0 _ rfl
  have f2 : M (ad 2 0) = some (.inl (G.2.1 2, 1001, .inl (S.1 4))) := hw.1 2 0 _ rfl
  have f3 : M (ad 3 0) = some (.inl (G.2.1 3, 4, .inr (.inr (.inr (.inr (crr ad)))))) := hw.1 3 0 _ rfl
  have f5 : M (ad 5 0) = some (.inl (G.2.1 4, 5, .inr (.inr (.inr (.inr (csr ad)))))) := hw.1 5 0 _ rfl
  have f10 : M (ad 10 0) = some (.inl (G.2.1 6, 20, .inr (.inr (.inr (.inr (dlr S ad)))))) := hw.1 10 0 _ rfl
  refine lv_aload_n hx hb dX5_forward_0 rfl (lv_at hl 0 rfl) ?_
  refine lv_iload_n hx hb dX5_forward_1 rfl (lv_at hl 1 rfl) ?_
  refine kx_q (vx_runV (As := [.int n]) (rest := []) ⟨hx, hb, hml, hown, hts⟩ (c_X5_currencyNumbered hnt l G M S T th o ex ad n hw hi) (cwV 1 hts gX5_forward_X5_currencyNumbered rfl rfl rfl (by decide +kernel) ⟨Nat.le_of_ble_eq_true rfl, Nat.le_of_ble_eq_true rfl⟩) (preV_of hC hS hM f0 rfl) rfl rfl hl.1 rfl (lv_room (Nat.le_of_ble_eq_true rfl)) dX5_forward_2 ⟨Nat.le_of_ble_eq_true rfl, Nat.le_of_ble_eq_true rfl⟩) hS (fun E ce q9 H locs hE hM hS h1 h2 h3 => ?_) (fun r2 u2 H locs hp2 hM hS => ?_)
  · exact r_out ht hlocks hS hM (Or.inl hE) h1 h2 h3 (Nat.le_of_ble_eq_true rfl) (Nat.le_of_ble_eq_true rfl)
  have hM : Hm G M H := hM
  obtain ⟨e2, b2⟩ := hp2
  subst e2
  have g2 := hw.1 _ _ _ (ct4 (G := G) (S := S) (T := T) (th := th) (o := o) (ex := ex) (ad := ad) (ix_lt 4 b2 (by decide)))
  refine lv_astore_n (lv' := [(3, .ref (ad 4 (n.toNatClampNeg))), (0, .ref (ad 0 0)), (1, .int n), (2, .int x)]) hx hb dX5_forward_5 rfl hl (by decide) rfl (fun ls hl => ?_)
  refine lv_iload_n hx hb dX5_forward_6 rfl (lv_at hl 3 rfl) ?_
  refine lv_iconst (v := 0) hx hb dX5_forward_7 (by decide) ?_
  refine lv_sipush (v := 400) hx hb dX5_forward_8 (by decide) ?_
  refine kx_v (vx_runS (As := [.int x, .int 0, .int 400]) (rest := []) ⟨hx, hb, hml, hown, hts⟩ (c_X5_requireRange hnt l G M x (0 : Int32) (400 : Int32)) (va_cwS 3 hts gX5_forward_X5_requireRange rfl rfl rfl (by decide +kernel) ⟨Nat.le_of_ble_eq_true rfl, Nat.le_of_ble_eq_true rfl⟩) (preS_of hC hS hM) rfl rfl hl.1 rfl (lv_room (Nat.le_of_ble_eq_true rfl)) dX5_forward_11 ⟨Nat.le_of_ble_eq_true rfl, Nat.le_of_ble_eq_true rfl⟩) hS (fun E ce q9 H locs hE hM hS h1 h2 h3 => ?_) (fun u11 H locs hp11 hM hS => ?_)
  · exact r_out ht hlocks hS hM (Or.inr ⟨hE.1, b2, hE.2⟩) h1 h2 h3 (Nat.le_of_ble_eq_true rfl) (Nat.le_of_ble_eq_true rfl)
  have hM : Hm G M H := hM
  refine lv_aload_n hx hb dX5_forward_14 rfl (lv_at hl 0 rfl) ?_
  refine lv_iload_n hx hb dX5_forward_15 rfl (lv_at hl 3 rfl) ?_
  refine k_i (va_runV (As := [.int x]) (rest := []) ⟨hx, hb, hml, hown, hts⟩ (c_X2_forwardRate l G M (ad 4 (n.toNatClampNeg)) (nI (n.toNatClampNeg)) (S.1 1 (n.toNatClampNeg)) (S.1 2 (n.toNatClampNeg)) x g2) (cwV 1 hts gX5_forward_X2_forwardRate rfl rfl rfl (by decide +kernel) ⟨Nat.le_of_ble_eq_true rfl, Nat.le_of_ble_eq_true rfl⟩) (preV_of hC hS hM g2 rfl) rfl rfl hl.1 rfl (lv_room (Nat.le_of_ble_eq_true rfl)) dX5_forward_16 ⟨Nat.le_of_ble_eq_true rfl, Nat.le_of_ble_eq_true rfl⟩) hS (fun r16 u16 H locs hp16 hM hS => ?_)
  have hM : Hm G M H := hM
  have hp16 : r16 = al1 ((S.1 1 (n.toNatClampNeg)) + (S.1 2 (n.toNatClampNeg)) * x) := hp16
  subst hp16
  exact vx_ret (r_i hx hb hr hlocks hS (v := al1 ((S.1 1 (n.toNatClampNeg)) + (S.1 2 (n.toNatClampNeg)) * x)) () ⟨b2, hp11, rfl⟩ hM (Nat.le_of_ble_eq_true rfl) (Nat.le_of_ble_eq_true rfl) dX5_forward_19)
set_option maxHeartbeats 4000000 in
set_option maxRecDepth 100000 in
theorem c_X5_toggleHoliday {l : Launch} (hnt : l.stackTraces = false) (l' : Launch) (G : Gx) (M : Mp) (S T : Sd) (th : Int32) (o : Int64) (ex : Nat → Option (Nat × Nat)) (ad : Nat → Nat → Nat) (x : Int32) (hw : WA G S T th o ex ad M) (hi : Iv S) : vx_Met l yX5_toggleHoliday wsX5_toggleHoliday ({ frames := 7, cells := 2, slots := 12, locals := 112 }) (Cv G M [.ref (ad 0 0), .int x]) (va_Qi (S := Mp) (fun r M2 => (1 ≤ x ∧ x ≤ 1000) ∧ S.1 0 0 < x ∧ r = tg (S.1 4 x.toNatClampNeg) ∧ WA G (u2 S.1 4 x.toNatClampNeg (tg (S.1 4 x.toNatClampNeg)), S.2) T th o ex ad M2) (Bm G (fun M2 => M2)) (AG G)) (Xq G M (fun E => (E = IA ∧ ¬ (1 ≤ x ∧ x ≤ 1000)) ∨ (E = IS ∧ (1 ≤ x ∧ x ≤ 1000) ∧ ¬ S.1 0 0 < x))) (2) (12) (AG G) := by
  refine m_metx [.ref (ad 0 0), .int x] [(0, .ref (ad 0 0)), (1, .int x)] (by decide) rfl rfl (Nat.le_of_ble_eq_true rfl) ?_
  intro p e s m below meth c ls hx hb hr hml hown hts hlocks hin ht hC hM hl hS
  have f0 : M (ad 0 0) = some (.inr (5, [.ref (ad 1 0), .ref (ad 3 0), .ref (ad 5 0), .ref (ad 10 0), .int (S.1 5 0)])) := hw.1 0 0 _ rfl
  have f1 : M (ad 1 0) = some (.inr (1, [.ref (ad 2 0), .int (S.1 0 0)])) := hw.1 1 0 _ rfl
  have f2 : M (ad 2 0) = some (.inl (G.2.1 2, 1001, .inl (S.1 4))) := hw.1 2 0 _ rfl
  have f3 : M (ad 3 0) = some (.inl (G.2.1 3, 4, .inr (.inr (.inr (.inr (crr ad)))))) := hw.1 3 0 _ rfl
  have f5 : M (ad 5 0) = some (.inl (G.2.1 4, 5, .inr (.inr (.inr (.inr (csr ad)))))) := hw.1 5 0 _ rfl
  have f10 : M (ad 10 0) = some (.inl (G.2.1 6, 20, .inr (.inr (.inr (.inr (dlr S ad)))))) := hw.1 10 0 _ rfl
  refine lv_iload_n hx hb dX5_toggleHoliday_0 rfl (lv_at hl 1 rfl) ?_
  refine lv_iconst (v := 1) hx hb dX5_toggleHoliday_1 (by decide) ?_
  refine lv_sipush (v := 1000) hx hb dX5_toggleHoliday_2 (by decide) ?_
  refine kx_v (vx_runS (As := [.int x, .int 1, .int 1000]) (rest := []) ⟨hx, hb, hml, hown, hts⟩ (c_X5_requireRange hnt l G M x (1 : Int32) (1000 : Int32)) (va_cwS 3 hts gX5_toggleHoliday_X5_requireRange rfl rfl rfl (by decide +kernel) ⟨Nat.le_of_ble_eq_true rfl, Nat.le_of_ble_eq_true rfl⟩) (preS_of hC hS hM) rfl rfl hl.1 rfl (lv_room (Nat.le_of_ble_eq_true rfl)) dX5_toggleHoliday_5 ⟨Nat.le_of_ble_eq_true rfl, Nat.le_of_ble_eq_true rfl⟩) hS (fun E ce q9 H locs hE hM hS h1 h2 h3 => ?_) (fun u5 H locs hp5 hM hS => ?_)
  · exact r_out ht hlocks hS hM (Or.inl hE) h1 h2 h3 (Nat.le_of_ble_eq_true rfl) (Nat.le_of_ble_eq_true rfl)
  have hM : Hm G M H := hM
  refine lv_iload_n hx hb dX5_toggleHoliday_8 rfl (lv_at hl 1 rfl) ?_
  refine lv_aload_n hx hb dX5_toggleHoliday_9 rfl (lv_at hl 0 rfl) ?_
  refine m_get (ci := 5) (v := .ref (ad 1 0)) (C := RX5) (T := TX5) (N := 5) (a := (ad 0 0)) hx hb hts (by decide +kernel) hown hC hM f0 rfl 0 (by decide) (hts (.fieldLink RX5 12 "Forwardroll" "calendar" "LForwardroll$Calendar;") (by decide +kernel)) (fun _ h9 => h9) rfl dX5_toggleHoliday_10 ?_
  refine m_getN (host := RX5) (ci := 1) (v := .int (S.1 0 0)) (C := RX1) (T := TX1) (N := 2) (a := (ad 1 0)) hx hb hts (by decide +kernel) hown hC hM f1 rfl 1 (by decide) (hC.w 0 rfl) (fun _ h9 => h9) rfl dX5_toggleHoliday_13 ?_
  refine lv_icmp_gt (tgt := 29) hx hb dX5_toggleHoliday_16 (by decide) (fun c_16 => ?_) (fun c_16 => ?_)
  · refine lv_aload_n hx hb dX5_toggleHoliday_29 rfl (lv_at hl 0 rfl) ?_
    refine m_get (ci := 5) (v := .ref (ad 1 0)) (C := RX5) (T := TX5) (N := 5) (a := (ad 0 0)) hx hb hts (by decide +kernel) hown hC hM f0 rfl 0 (by decide) (hts (.fieldLink RX5 12 "Forwardroll" "calendar" "LForwardroll$Calendar;") (by decide +kernel)) (fun _ h9 => h9) rfl dX5_toggleHoliday_30 ?_
    refine lv_iload_n hx hb dX5_toggleHoliday_33 rfl (lv_at hl 1 rfl) ?_
    refine k_i (va_runV (As := [.int x]) (rest := []) ⟨hx, hb, hml, hown, hts⟩ (c_X1_flipHoliday l G M (ad 1 0) (ad 2 0) (S.1 4) (S.1 0 0) x f1 f2 (vin_of 1001 (tog_in hp5) (by decide))) (cwV 1 hts gX5_toggleHoliday_X1_flipHoliday rfl rfl rfl (by decide +kernel) ⟨Nat.le_of_ble_eq_true rfl, Nat.le_of_ble_eq_true rfl⟩) (preV_of hC hS hM f1 rfl) rfl rfl hl.1 rfl (lv_room (Nat.le_of_ble_eq_true rfl)) dX5_toggleHoliday_34 ⟨Nat.le_of_ble_eq_true rfl, Nat.le_of_ble_eq_true rfl⟩) hS (fun r34 u34 H locs hp34 hM hS => ?_)
    subst hp34
    have hM : Hm G (va_up M (ad 2 0) (some (.inl (G.2.1 2, 1001, .inl (upd (S.1 4) x.toNatClampNeg (tg ((S.1 4) x.toNatClampNeg))))))) H := hM
    have f34_3 : (va_up M (ad 2 0) (some (.inl (G.2.1 2, 1001, .inl (upd (S.1 4) x.toNatClampNeg (tg ((S.1 4) x.toNatClampNeg))))))) (ad 0 0) = some (.inr (5, [.ref (ad 1 0), .ref (ad 3 0), .ref (ad 5 0), .ref (ad 10 0), .int (S.1 5 0)])) := (up_ne (fun h9 => absurd (Eq.trans (Eq.trans (Eq.symm f0) (congrArg M h9)) f2) (by simp))).trans f0
    have f34_4 : (va_up M (ad 2 0) (some (.inl (G.2.1 2, 1001, .inl (upd (S.1 4) x.toNatClampNeg (tg ((S.1 4) x.toNatClampNeg))))))) (ad 1 0) = some (.inr (1, [.ref (ad 2 0), .int (S.1 0 0)])) := (up_ne (fun h9 => absurd (Eq.trans (Eq.trans (Eq.symm f1) (congrArg M h9)) f2) (by simp))).trans f1
    have f34_5 : (va_up M (ad 2 0) (some (.inl (G.2.1 2, 1001, .inl (upd (S.1 4) x.toNatClampNeg (tg ((S.1 4) x.toNatClampNeg))))))) (ad 2 0) = some (.inl (G.2.1 2, 1001, .inl (upd (S.1 4) x.toNatClampNeg (tg ((S.1 4) x.toNatClampNeg))))) := up_eq
    have f34_6 : (va_up M (ad 2 0) (some (.inl (G.2.1 2, 1001, .inl (upd (S.1 4) x.toNatClampNeg (tg ((S.1 4) x.toNatClampNeg))))))) (ad 3 0) = some (.inl (G.2.1 3, 4, .inr (.inr (.inr (.inr (crr ad)))))) := (up_ne (fun h9 => absurd (Eq.trans (Eq.trans (Eq.symm f3) (congrArg M h9)) f2) (by simp))).trans f3
    have f34_7 : (va_up M (ad 2 0) (some (.inl (G.2.1 2, 1001, .inl (upd (S.1 4) x.toNatClampNeg (tg ((S.1 4) x.toNatClampNeg))))))) (ad 5 0) = some (.inl (G.2.1 4, 5, .inr (.inr (.inr (.inr (csr ad)))))) := (up_ne (fun h9 => absurd (Eq.trans (Eq.trans (Eq.symm f5) (congrArg M h9)) f2) (by simp))).trans f5
    have f34_8 : (va_up M (ad 2 0) (some (.inl (G.2.1 2, 1001, .inl (upd (S.1 4) x.toNatClampNeg (tg ((S.1 4) x.toNatClampNeg))))))) (ad 10 0) = some (.inl (G.2.1 6, 20, .inr (.inr (.inr (.inr (dlr S ad)))))) := (up_ne (fun h9 => absurd (Eq.trans (Eq.trans (Eq.symm f10) (congrArg M h9)) f2) (by simp))).trans f10
    exact vx_ret (r_z hx hb hr hlocks hS (v := (tg ((S.1 4) x.toNatClampNeg))) (tg01 _) _ ⟨hp5, c_16, rfl, w_hol hw _ _⟩ hM (Nat.le_of_ble_eq_true rfl) (Nat.le_of_ble_eq_true rfl) dX5_toggleHoliday_37)
  · exact m_throw (text := "the day is not later than today") (is := 59) hx hb hnt (hml.trans hl.1.symm) hlocks hown ht hC hS hM (hts (.classLink RX5 57 IS) (by decide +kernel)) (hts (.initialized IS) (by decide +kernel)) (by decide) (fun w h => hts w (List.mem_cons_of_mem _ (List.mem_append_left _ (List.mem_append_right _ h)))) tn_61 (by decide +kernel) tg_61 dX5_toggleHoliday_19 dX5_toggleHoliday_22 dX5_toggleHoliday_23 dX5_toggleHoliday_25 dX5_toggleHoliday_28 (Nat.le_of_ble_eq_true rfl) (Nat.le_of_ble_eq_true rfl) (Nat.le_of_ble_eq_true rfl) (Nat.le_of_ble_eq_true rfl) (Nat.le_of_ble_eq_true rfl) (Nat.le_of_ble_eq_true rfl) (Or.inr ⟨rfl, hp5, Int32.not_lt.mpr (Decidable.byContradiction fun z => absurd c_16 (fun y => by first | exact z y | exact y (Int32.not_le.mp z)))⟩)
set_option maxHeartbeats 4000000 in
set_option maxRecDepth 100000 in
theorem c_X5_left {l : Launch} (hnt : l.stackTraces = false) (l' : Launch) (G : Gx) (M : Mp) (S T : Sd) (th : Int32) (o : Int64) (ex : Nat → Option (Nat × Nat)) (ad : Nat → Nat → Nat) (n : Int32) (hw : WA G S T th o ex ad M) (hi : Iv S) : vx_Met l yX5_left wsX5_left ({ frames := 7, cells := 1, slots := 6, locals := 112 }) (Cv G M [.ref (ad 0 0), .int n]) (va_Qi (S := Unit) (fun r _ => (0 ≤ n ∧ n.toNatClampNeg < ndl S) ∧ r = S.1 9 n.toNatClampNeg) (Bm G (fun _ => M)) (AG G)) (Xq G M (fun E => E = IO ∧ ¬ (0 ≤ n ∧ n.toNatClampNeg < ndl S))) (1) (6) (AG G) := by
  refine m_metx [.ref (ad 0 0), .int n] [(0, .ref (ad 0 0)), (1, .int n)] (by decide) rfl rfl (Nat.le_of_ble_eq_true rfl) ?_
  intro p e s m below meth c ls hx hb hr hml hown hts hlocks hin ht hC hM hl hS
  have f0 : M (ad 0 0) = some (.inr (5, [.ref (ad 1 0), .ref (ad 3 0), .ref (ad 5 0), .ref (ad 10 0), .int (S.1 5 0)])) := hw.1 0 0 _ rfl
  have f1 : M (ad 1 0) = some (.inr (1, [.ref (ad 2 0), .int (S.1 0 0)])) := hw.1 1 0 _ rfl
  have f2 : M (ad 2 0) = some (.inl (G.2.1 2, 1001, .inl (S.1 4))) := hw.1 2 0 _ rfl
  have f3 : M (ad 3 0) = some (.inl (G.2.1 3, 4, .inr (.inr (.inr (.inr (crr ad)))))) := hw.1 3 0 _ rfl
  have f5 : M (ad 5 0) = some (.inl (G.2.1 4, 5, .inr (.inr (.inr (.inr (csr ad)))))) := hw.1 5 0 _ rfl
  have f10 : M (ad 10 0) = some (.inl (G.2.1 6, 20, .inr (.inr (.inr (.inr (dlr S ad)))))) := hw.1 10 0 _ rfl
  refine lv_aload_n hx hb dX5_left_0 rfl (lv_at hl 0 rfl) ?_
  refine lv_iload_n hx hb dX5_left_1 rfl (lv_at hl 1 rfl) ?_
  refine kx_q (vx_runV (As := [.int n]) (rest := []) ⟨hx, hb, hml, hown, hts⟩ (c_X5_dealNumbered hnt l G M S T th o ex ad n hw hi) (cwV 1 hts gX5_left_X5_dealNumbered rfl rfl rfl (by decide +kernel) ⟨Nat.le_of_ble_eq_true rfl, Nat.le_of_ble_eq_true rfl⟩) (preV_of hC hS hM f0 rfl) rfl rfl hl.1 rfl (lv_room (Nat.le_of_ble_eq_true rfl)) dX5_left_2 ⟨Nat.le_of_ble_eq_true rfl, Nat.le_of_ble_eq_true rfl⟩) hS (fun E ce q9 H locs hE hM hS h1 h2 h3 => ?_) (fun r2 u2 H locs hp2 hM hS => ?_)
  · exact r_out ht hlocks hS hM (hE) h1 h2 h3 (Nat.le_of_ble_eq_true rfl) (Nat.le_of_ble_eq_true rfl)
  have hM : Hm G M H := hM
  obtain ⟨e2, b2⟩ := hp2
  subst e2
  have g2 := hw.1 _ _ _ (ct11 (G := G) (S := S) (T := T) (th := th) (o := o) (ex := ex) (ad := ad) b2.2)
  have y2 := hw.1 _ _ _ (ct4 (G := G) (S := S) (T := T) (th := th) (o := o) (ex := ex) (ad := ad) (hi.cy b2.2))
  refine m_getN (host := RX5) (ci := 4) (v := .int (S.1 9 (n.toNatClampNeg))) (C := RX4) (T := TX4) (N := 7) (a := (ad 11 (n.toNatClampNeg))) hx hb hts (by decide +kernel) hown hC hM g2 rfl 3 (by decide) (hC.w 9 rfl) (fun _ h9 => h9) rfl dX5_left_5 ?_
  exact vx_ret (r_i hx hb hr hlocks hS (v := (S.1 9 (n.toNatClampNeg))) () ⟨b2, rfl⟩ hM (Nat.le_of_ble_eq_true rfl) (Nat.le_of_ble_eq_true rfl) dX5_left_8)
set_option maxHeartbeats 4000000 in
set_option maxRecDepth 100000 in
theorem c_X5_rate {l : Launch} (hnt : l.stackTraces = false) (l' : Launch) (G : Gx) (M : Mp) (S T : Sd) (th : Int32) (o : Int64) (ex : Nat → Option (Nat × Nat)) (ad : Nat → Nat → Nat) (n : Int32) (hw : WA G S T th o ex ad M) (hi : Iv S) : vx_Met l yX5_rate wsX5_rate ({ frames := 7, cells := 1, slots := 6, locals := 112 }) (Cv G M [.ref (ad 0 0), .int n]) (va_Qi (S := Unit) (fun r _ => (0 ≤ n ∧ n.toNatClampNeg < ndl S) ∧ r = S.1 10 n.toNatClampNeg) (Bm G (fun _ => M)) (AG G)) (Xq G M (fun E => E = IO ∧ ¬ (0 ≤ n ∧ n.toNatClampNeg < ndl S))) (1) (6) (AG G) := by
  refine m_metx [.ref (ad 0 0), .int n] [(0, .ref (ad 0 0)), (1, .int n)] (by decide) rfl rfl (Nat.le_of_ble_eq_true rfl) ?_
  intro p e s m below meth c ls hx hb hr hml hown hts hlocks hin ht hC hM hl hS
  have f0 : M (ad 0 0) = some (.inr (5, [.ref (ad 1 0), .ref (ad 3 0), .ref (ad 5 0), .ref (ad 10 0), .int (S.1 5 0)])) := hw.1 0 0 _ rfl
  have f1 : M (ad 1 0) = some (.inr (1, [.ref (ad 2 0), .int (S.1 0 0)])) := hw.1 1 0 _ rfl
  have f2 : M (ad 2 0) = some (.inl (G.2.1 2, 1001, .inl (S.1 4))) := hw.1 2 0 _ rfl
  have f3 : M (ad 3 0) = some (.inl (G.2.1 3, 4, .inr (.inr (.inr (.inr (crr ad)))))) := hw.1 3 0 _ rfl
  have f5 : M (ad 5 0) = some (.inl (G.2.1 4, 5, .inr (.inr (.inr (.inr (csr ad)))))) := hw.1 5 0 _ rfl
  have f10 : M (ad 10 0) = some (.inl (G.2.1 6, 20, .inr (.inr (.inr (.inr (dlr S ad)))))) := hw.1 10 0 _ rfl
  refine lv_aload_n hx hb dX5_rate_0 rfl (lv_at hl 0 rfl) ?_
  refine lv_iload_n hx hb dX5_rate_1 rfl (lv_at hl 1 rfl) ?_
  refine kx_q (vx_runV (As := [.int n]) (rest := []) ⟨hx, hb, hml, hown, hts⟩ (c_X5_dealNumbered hnt l G M S T th o ex ad n hw hi) (cwV 1 hts gX5_rate_X5_dealNumbered rfl rfl rfl (by decide +kernel) ⟨Nat.le_of_ble_eq_true rfl, Nat.le_of_ble_eq_true rfl⟩) (preV_of hC hS hM f0 rfl) rfl rfl hl.1 rfl (lv_room (Nat.le_of_ble_eq_true rfl)) dX5_rate_2 ⟨Nat.le_of_ble_eq_true rfl, Nat.le_of_ble_eq_true rfl⟩) hS (fun E ce q9 H locs hE hM hS h1 h2 h3 => ?_) (fun r2 u2 H locs hp2 hM hS => ?_)
  · exact r_out ht hlocks hS hM (hE) h1 h2 h3 (Nat.le_of_ble_eq_true rfl) (Nat.le_of_ble_eq_true rfl)
  have hM : Hm G M H := hM
  obtain ⟨e2, b2⟩ := hp2
  subst e2
  have g2 := hw.1 _ _ _ (ct11 (G := G) (S := S) (T := T) (th := th) (o := o) (ex := ex) (ad := ad) b2.2)
  have y2 := hw.1 _ _ _ (ct4 (G := G) (S := S) (T := T) (th := th) (o := o) (ex := ex) (ad := ad) (hi.cy b2.2))
  refine m_getN (host := RX5) (ci := 4) (v := .int (S.1 10 (n.toNatClampNeg))) (C := RX4) (T := TX4) (N := 7) (a := (ad 11 (n.toNatClampNeg))) hx hb hts (by decide +kernel) hown hC hM g2 rfl 4 (by decide) (hC.w 10 rfl) (fun _ h9 => h9) rfl dX5_rate_5 ?_
  exact vx_ret (r_i hx hb hr hlocks hS (v := (S.1 10 (n.toNatClampNeg))) () ⟨b2, rfl⟩ hM (Nat.le_of_ble_eq_true rfl) (Nat.le_of_ble_eq_true rfl) dX5_rate_8)
set_option maxHeartbeats 4000000 in
set_option maxRecDepth 100000 in
theorem c_X5_window {l : Launch} (hnt : l.stackTraces = false) (l' : Launch) (G : Gx) (M : Mp) (S T : Sd) (th : Int32) (o : Int64) (ex : Nat → Option (Nat × Nat)) (ad : Nat → Nat → Nat) (n : Int32) (hw : WA G S T th o ex ad M) (hi : Iv S) : vx_Met l yX5_window wsX5_window ({ frames := 7, cells := 1, slots := 6, locals := 112 }) (Cv G M [.ref (ad 0 0), .int n]) (va_Qi (S := Unit) (fun r _ => (0 ≤ n ∧ n.toNatClampNeg < ndl S) ∧ r = 10000 * S.1 11 n.toNatClampNeg + S.1 12 n.toNatClampNeg) (Bm G (fun _ => M)) (AG G)) (Xq G M (fun E => E = IO ∧ ¬ (0 ≤ n ∧ n.toNatClampNeg < ndl S))) (1) (6) (AG G) := by
  refine m_metx [.ref (ad 0 0), .int n] [(0, .ref (ad 0 0)), (1, .int n)] (by decide) rfl rfl (Nat.le_of_ble_eq_true rfl) ?_
  intro p e s m below meth c ls hx hb hr hml hown hts hlocks hin ht hC hM hl hS
  have f0 : M (ad 0 0) = some (.inr (5, [.ref (ad 1 0), .ref (ad 3 0), .ref (ad 5 0), .ref (ad 10 0), .int (S.1 5 0)])) := hw.1 0 0 _ rfl
  have f1 : M (ad 1 0) = some (.inr (1, [.ref (ad 2 0), .int (S.1 0 0)])) := hw.1 1 0 _ rfl
  have f2 : M (ad 2 0) = some (.inl (G.2.1 2, 1001, .inl (S.1 4))) := hw.1 2 0 _ rfl
  have f3 : M (ad 3 0) = some (.inl (G.2.1 3, 4, .inr (.inr (.inr (.inr (crr ad)))))) := hw.1 3 0 _ rfl
  have f5 : M (ad 5 0) = some (.inl (G.2.1 4, 5, .inr (.inr (.inr (.inr (csr ad)))))) := hw.1 5 0 _ rfl
  have f10 : M (ad 10 0) = some (.inl (G.2.1 6, 20, .inr (.inr (.inr (.inr (dlr S ad)))))) := hw.1 10 0 _ rfl
  refine lv_aload_n hx hb dX5_window_0 rfl (lv_at hl 0 rfl) ?_
  refine lv_iload_n hx hb dX5_window_1 rfl (lv_at hl 1 rfl) ?_
  refine kx_q (vx_runV (As := [.int n]) (rest := []) ⟨hx, hb, hml, hown, hts⟩ (c_X5_dealNumbered hnt l G M S T th o ex ad n hw hi) (cwV 1 hts gX5_window_X5_dealNumbered rfl rfl rfl (by decide +kernel) ⟨Nat.le_of_ble_eq_true rfl, Nat.le_of_ble_eq_true rfl⟩) (preV_of hC hS hM f0 rfl) rfl rfl hl.1 rfl (lv_room (Nat.le_of_ble_eq_true rfl)) dX5_window_2 ⟨Nat.le_of_ble_eq_true rfl, Nat.le_of_ble_eq_true rfl⟩) hS (fun E ce q9 H locs hE hM hS h1 h2 h3 => ?_) (fun r2 u2 H locs hp2 hM hS => ?_)
  · exact r_out ht hlocks hS hM (hE) h1 h2 h3 (Nat.le_of_ble_eq_true rfl) (Nat.le_of_ble_eq_true rfl)
  have hM : Hm G M H := hM
  obtain ⟨e2, b2⟩ := hp2
  subst e2
  have g2 := hw.1 _ _ _ (ct11 (G := G) (S := S) (T := T) (th := th) (o := o) (ex := ex) (ad := ad) b2.2)
  have y2 := hw.1 _ _ _ (ct4 (G := G) (S := S) (T := T) (th := th) (o := o) (ex := ex) (ad := ad) (hi.cy b2.2))
  refine lv_astore_n (lv' := [(2, .ref (ad 11 (n.toNatClampNeg))), (0, .ref (ad 0 0)), (1, .int n)]) hx hb dX5_window_5 rfl hl (by decide) rfl (fun ls hl => ?_)
  refine lv_sipush (v := 10000) hx hb dX5_window_6 (by decide) ?_
  refine lv_aload_n hx hb dX5_window_9 rfl (lv_at hl 0 rfl) ?_
  refine m_getN (host := RX5) (ci := 4) (v := .int (S.1 11 (n.toNatClampNeg))) (C := RX4) (T := TX4) (N := 7) (a := (ad 11 (n.toNatClampNeg))) hx hb hts (by decide +kernel) hown hC hM g2 rfl 5 (by decide) (hC.w 11 rfl) (fun _ h9 => h9) rfl dX5_window_10 ?_
  refine lv_imul hx hb dX5_window_13 ?_
  refine lv_aload_n hx hb dX5_window_14 rfl (lv_at hl 0 rfl) ?_
  refine m_getN (host := RX5) (ci := 4) (v := .int (S.1 12 (n.toNatClampNeg))) (C := RX4) (T := TX4) (N := 7) (a := (ad 11 (n.toNatClampNeg))) hx hb hts (by decide +kernel) hown hC hM g2 rfl 6 (by decide) (hC.w 12 rfl) (fun _ h9 => h9) rfl dX5_window_15 ?_
  refine lv_iadd hx hb dX5_window_18 ?_
  exact vx_ret (r_i hx hb hr hlocks hS (v := ((10000 * (S.1 11 (n.toNatClampNeg))) + (S.1 12 (n.toNatClampNeg)))) () ⟨b2, rfl⟩ hM (Nat.le_of_ble_eq_true rfl) (Nat.le_of_ble_eq_true rfl) dX5_window_19)
set_option maxHeartbeats 4000000 in
set_option maxRecDepth 100000 in
theorem c_X5_gain {l : Launch} (hnt : l.stackTraces = false) (l' : Launch) (G : Gx) (M : Mp) (S T : Sd) (th : Int32) (o : Int64) (ex : Nat → Option (Nat × Nat)) (ad : Nat → Nat → Nat) (n : Int32) (hw : WA G S T th o ex ad M) (hi : Iv S) : vx_Met l yX5_gain wsX5_gain ({ frames := 7, cells := 1, slots := 6, locals := 112 }) (Cv G M [.ref (ad 0 0), .int n]) (va_Ql (S := Unit) (fun r _ => (0 ≤ n ∧ n.toNatClampNeg < ndl S) ∧ r = mg S n.toNatClampNeg) (Bm G (fun _ => M)) (AG G)) (Xq G M (fun E => E = IO ∧ ¬ (0 ≤ n ∧ n.toNatClampNeg < ndl S))) (1) (6) (AG G) := by
  refine m_metx [.ref (ad 0 0), .int n] [(0, .ref (ad 0 0)), (1, .int n)] (by decide) rfl rfl (Nat.le_of_ble_eq_true rfl) ?_
  intro p e s m below meth c ls hx hb hr hml hown hts hlocks hin ht hC hM hl hS
  have f0 : M (ad 0 0) = some (.inr (5, [.ref (ad 1 0), .ref (ad 3 0), .ref (ad 5 0), .ref (ad 10 0), .int (S.1 5 0)])) := hw.1 0 0 _ rfl
  have f1 : M (ad 1 0) = some (.inr (1, [.ref (ad 2 0), .int (S.1 0 0)])) := hw.1 1 0 _ rfl
  have f2 : M (ad 2 0) = some (.inl (G.2.1 2, 1001, .inl (S.1 4))) := hw.1 2 0 _ rfl
  have f3 : M (ad 3 0) = some (.inl (G.2.1 3, 4, .inr (.inr (.inr (.inr (crr ad)))))) := hw.1 3 0 _ rfl
  have f5 : M (ad 5 0) = some (.inl (G.2.1 4, 5, .inr (.inr (.inr (.inr (csr ad)))))) := hw.1 5 0 _ rfl
  have f10 : M (ad 10 0) = some (.inl (G.2.1 6, 20, .inr (.inr (.inr (.inr (dlr S ad)))))) := hw.1 10 0 _ rfl
  refine lv_aload_n hx hb dX5_gain_0 rfl (lv_at hl 0 rfl) ?_
  refine lv_iload_n hx hb dX5_gain_1 rfl (lv_at hl 1 rfl) ?_
  refine kx_q (vx_runV (As := [.int n]) (rest := []) ⟨hx, hb, hml, hown, hts⟩ (c_X5_dealNumbered hnt l G M S T th o ex ad n hw hi) (cwV 1 hts gX5_gain_X5_dealNumbered rfl rfl rfl (by decide +kernel) ⟨Nat.le_of_ble_eq_true rfl, Nat.le_of_ble_eq_true rfl⟩) (preV_of hC hS hM f0 rfl) rfl rfl hl.1 rfl (lv_room (Nat.le_of_ble_eq_true rfl)) dX5_gain_2 ⟨Nat.le_of_ble_eq_true rfl, Nat.le_of_ble_eq_true rfl⟩) hS (fun E ce q9 H locs hE hM hS h1 h2 h3 => ?_) (fun r2 u2 H locs hp2 hM hS => ?_)
  · exact r_out ht hlocks hS hM (hE) h1 h2 h3 (Nat.le_of_ble_eq_true rfl) (Nat.le_of_ble_eq_true rfl)
  have hM : Hm G M H := hM
  obtain ⟨e2, b2⟩ := hp2
  subst e2
  have g2 := hw.1 _ _ _ (ct11 (G := G) (S := S) (T := T) (th := th) (o := o) (ex := ex) (ad := ad) b2.2)
  have y2 := hw.1 _ _ _ (ct4 (G := G) (S := S) (T := T) (th := th) (o := o) (ex := ex) (ad := ad) (hi.cy b2.2))
  refine lv_aload_n hx hb dX5_gain_5 rfl (lv_at hl 0 rfl) ?_
  refine m_get (ci := 5) (v := .ref (ad 1 0)) (C := RX5) (T := TX5) (N := 5) (a := (ad 0 0)) hx hb hts (by decide +kernel) hown hC hM f0 rfl 0 (by decide) (hts (.fieldLink RX5 12 "Forwardroll" "calendar" "LForwardroll$Calendar;") (by decide +kernel)) (fun _ h9 => h9) rfl dX5_gain_6 ?_
  refine m_getN (host := RX5) (ci := 1) (v := .int (S.1 0 0)) (C := RX1) (T := TX1) (N := 2) (a := (ad 1 0)) hx hb hts (by decide +kernel) hown hC hM f1 rfl 1 (by decide) (hC.w 0 rfl) (fun _ h9 => h9) rfl dX5_gain_9 ?_
  refine k_l (va_runV (As := [.int (S.1 0 0)]) (rest := []) ⟨hx, hb, hml, hown, hts⟩ (c_X4_marketGain l G M (ad 11 (n.toNatClampNeg)) (ad 6 (cus S (n.toNatClampNeg))) (ad 4 (cuy S (n.toNatClampNeg))) (S.1 8 (n.toNatClampNeg)) (S.1 9 (n.toNatClampNeg)) (S.1 10 (n.toNatClampNeg)) (S.1 11 (n.toNatClampNeg)) (S.1 12 (n.toNatClampNeg)) (nI (cuy S (n.toNatClampNeg))) (S.1 1 (cuy S (n.toNatClampNeg))) (S.1 2 (cuy S (n.toNatClampNeg))) (S.1 0 0) g2 y2) (cwV 1 hts gX5_gain_X4_marketGain rfl rfl rfl (by decide +kernel) ⟨Nat.le_of_ble_eq_true rfl, Nat.le_of_ble_eq_true rfl⟩) (preV_of hC hS hM g2 rfl) rfl rfl hl.1 rfl (lv_room (Nat.le_of_ble_eq_true rfl)) dX5_gain_12 ⟨Nat.le_of_ble_eq_true rfl, Nat.le_of_ble_eq_true rfl⟩) hS (fun r12 u12 H locs hp12 hM hS => ?_)
  have hM : Hm G M H := hM
  have hp12 : r12 = gn (S.1 8 (n.toNatClampNeg)) (S.1 9 (n.toNatClampNeg)) (S.1 10 (n.toNatClampNeg)) (al1 ((S.1 1 (cuy S (n.toNatClampNeg))) + (S.1 2 (cuy S (n.toNatClampNeg))) * ((S.1 12 (n.toNatClampNeg)) - (S.1 0 0)))) := hp12
  subst hp12
  exact vx_ret (r_l hx hb hr hlocks hS (v := gn (S.1 8 (n.toNatClampNeg)) (S.1 9 (n.toNatClampNeg)) (S.1 10 (n.toNatClampNeg)) (al1 ((S.1 1 (cuy S (n.toNatClampNeg))) + (S.1 2 (cuy S (n.toNatClampNeg))) * ((S.1 12 (n.toNatClampNeg)) - (S.1 0 0))))) () ⟨b2, rfl⟩ hM (Nat.le_of_ble_eq_true rfl) (Nat.le_of_ble_eq_true rfl) dX5_gain_15)
set_option maxHeartbeats 4000000 in
set_option maxRecDepth 100000 in
theorem c_X5_settlementDay (l : Launch) (G : Gx) (M : Mp) (S T : Sd) (th : Int32) (o : Int64) (ex : Nat → Option (Nat × Nat)) (ad : Nat → Nat → Nat)  (hw : WA G S T th o ex ad M) (hi : Iv S) : Met l yX5_settlementDay wsX5_settlementDay ({ frames := 3, cells := 0, slots := 0, locals := 64 }) (Cv G M [.ref (ad 0 0)]) (va_Qi (S := Unit) (fun r _ => r = sd S) (Bm G (fun _ => M)) (AG G)) (0) (0) (AG G) := by
  refine m_met [.ref (ad 0 0)] [(0, .ref (ad 0 0))] (by decide) rfl rfl (Nat.le_of_ble_eq_true rfl) ?_
  intro p e s m below meth c ls hx hb hr hml hown hts hlocks hin hC hM hl hS
  have f0 : M (ad 0 0) = some (.inr (5, [.ref (ad 1 0), .ref (ad 3 0), .ref (ad 5 0), .ref (ad 10 0), .int (S.1 5 0)])) := hw.1 0 0 _ rfl
  have f1 : M (ad 1 0) = some (.inr (1, [.ref (ad 2 0), .int (S.1 0 0)])) := hw.1 1 0 _ rfl
  have f2 : M (ad 2 0) = some (.inl (G.2.1 2, 1001, .inl (S.1 4))) := hw.1 2 0 _ rfl
  have f3 : M (ad 3 0) = some (.inl (G.2.1 3, 4, .inr (.inr (.inr (.inr (crr ad)))))) := hw.1 3 0 _ rfl
  have f5 : M (ad 5 0) = some (.inl (G.2.1 4, 5, .inr (.inr (.inr (.inr (csr ad)))))) := hw.1 5 0 _ rfl
  have f10 : M (ad 10 0) = some (.inl (G.2.1 6, 20, .inr (.inr (.inr (.inr (dlr S ad)))))) := hw.1 10 0 _ rfl
  refine lv_aload_n hx hb dX5_settlementDay_0 rfl (lv_at hl 0 rfl) ?_
  refine m_get (ci := 5) (v := .ref (ad 1 0)) (C := RX5) (T := TX5) (N := 5) (a := (ad 0 0)) hx hb hts (by decide +kernel) hown hC hM f0 rfl 0 (by decide) (hts (.fieldLink RX5 12 "Forwardroll" "calendar" "LForwardroll$Calendar;") (by decide +kernel)) (fun _ h9 => h9) rfl dX5_settlementDay_1 ?_
  refine k_i (va_runV (As := []) (rest := []) ⟨hx, hb, hml, hown, hts⟩ (c_X1_nextBusinessDay l G M (ad 1 0) (ad 2 0) (S.1 4) (S.1 0 0) f1 f2 (hto_of hi)) (cwV 0 hts gX5_settlementDay_X1_nextBusinessDay rfl rfl rfl (by decide +kernel) ⟨Nat.le_of_ble_eq_true rfl, Nat.le_of_ble_eq_true rfl⟩) (preV_of hC hS hM f1 rfl) rfl rfl hl.1 rfl (lv_room (Nat.le_of_ble_eq_true rfl)) dX5_settlementDay_4 ⟨Nat.le_of_ble_eq_true rfl, Nat.le_of_ble_eq_true rfl⟩) hS (fun r4 u4 H locs hp4 hM hS => ?_)
  have hM : Hm G M H := hM
  have hp4 : r4 = nbd (S.1 4) 1002 ((S.1 0 0) + 1) := hp4
  subst hp4
  exact (r_i hx hb hr hlocks hS (v := nbd (S.1 4) 1002 ((S.1 0 0) + 1)) () rfl hM (Nat.le_of_ble_eq_true rfl) (Nat.le_of_ble_eq_true rfl) dX5_settlementDay_7)
set_option maxHeartbeats 4000000 in
set_option maxRecDepth 100000 in
theorem c_X5_today (l : Launch) (G : Gx) (M : Mp) (S T : Sd) (th : Int32) (o : Int64) (ex : Nat → Option (Nat × Nat)) (ad : Nat → Nat → Nat)  (hw : WA G S T th o ex ad M) (hi : Iv S) : Met l yX5_today wsX5_today ({ frames := 0, cells := 0, slots := 0, locals := 0 }) (Cv G M [.ref (ad 0 0)]) (va_Qi (S := Unit) (fun r _ => r = S.1 0 0) (Bm G (fun _ => M)) (AG G)) (0) (0) (AG G) := by
  refine m_met [.ref (ad 0 0)] [(0, .ref (ad 0 0))] (by decide) rfl rfl (Nat.le_of_ble_eq_true rfl) ?_
  intro p e s m below meth c ls hx hb hr hml hown hts hlocks hin hC hM hl hS
  have f0 : M (ad 0 0) = some (.inr (5, [.ref (ad 1 0), .ref (ad 3 0), .ref (ad 5 0), .ref (ad 10 0), .int (S.1 5 0)])) := hw.1 0 0 _ rfl
  have f1 : M (ad 1 0) = some (.inr (1, [.ref (ad 2 0), .int (S.1 0 0)])) := hw.1 1 0 _ rfl
  have f2 : M (ad 2 0) = some (.inl (G.2.1 2, 1001, .inl (S.1 4))) := hw.1 2 0 _ rfl
  have f3 : M (ad 3 0) = some (.inl (G.2.1 3, 4, .inr (.inr (.inr (.inr (crr ad)))))) := hw.1 3 0 _ rfl
  have f5 : M (ad 5 0) = some (.inl (G.2.1 4, 5, .inr (.inr (.inr (.inr (csr ad)))))) := hw.1 5 0 _ rfl
  have f10 : M (ad 10 0) = some (.inl (G.2.1 6, 20, .inr (.inr (.inr (.inr (dlr S ad)))))) := hw.1 10 0 _ rfl
  refine lv_aload_n hx hb dX5_today_0 rfl (lv_at hl 0 rfl) ?_
  refine m_get (ci := 5) (v := .ref (ad 1 0)) (C := RX5) (T := TX5) (N := 5) (a := (ad 0 0)) hx hb hts (by decide +kernel) hown hC hM f0 rfl 0 (by decide) (hts (.fieldLink RX5 12 "Forwardroll" "calendar" "LForwardroll$Calendar;") (by decide +kernel)) (fun _ h9 => h9) rfl dX5_today_1 ?_
  refine m_getN (host := RX5) (ci := 1) (v := .int (S.1 0 0)) (C := RX1) (T := TX1) (N := 2) (a := (ad 1 0)) hx hb hts (by decide +kernel) hown hC hM f1 rfl 1 (by decide) (hC.w 0 rfl) (fun _ h9 => h9) rfl dX5_today_4 ?_
  exact (r_i hx hb hr hlocks hS (v := (S.1 0 0)) () rfl hM (Nat.le_of_ble_eq_true rfl) (Nat.le_of_ble_eq_true rfl) dX5_today_7)
set_option maxHeartbeats 4000000 in
set_option maxRecDepth 100000 in
theorem c_X5_due {l : Launch} (hnt : l.stackTraces = false) (l' : Launch) (G : Gx) (M : Mp) (S T : Sd) (th : Int32) (o : Int64) (ex : Nat → Option (Nat × Nat)) (ad : Nat → Nat → Nat) (n x y : Int32) (hw : WA G S T th o ex ad M) (hi : Iv S) (hx9 : Ix S ex) : vx_Met l yX5_due wsX5_due ({ frames := 7, cells := 3, slots := 18, locals := 112 }) (Cv G M [.ref (ad 0 0), .int n, .int x, .int y]) (va_Ql (S := Unit) (fun r _ => (0 ≤ n ∧ n < 5) ∧ (0 ≤ x ∧ x ≤ 4) ∧ (1 ≤ y ∧ y ≤ 20) ∧ r = S.2 0 (5 * (5 * (S.1 0 0 + y).toNatClampNeg + n.toNatClampNeg) + x.toNatClampNeg)) (Bm G (fun _ => M)) (AG G)) (Xq G M (fun E => (E = IO ∧ ¬ (0 ≤ n ∧ n < 5)) ∨ (E = IA ∧ (0 ≤ n ∧ n < 5) ∧ ¬ ((0 ≤ x ∧ x ≤ 4) ∧ (1 ≤ y ∧ y ≤ 20))))) (3) (18) (AG G) := by
  refine m_metx [.ref (ad 0 0), .int n, .int x, .int y] [(0, .ref (ad 0 0)), (1, .int n), (2, .int x), (3, .int y)] (by decide) rfl rfl (Nat.le_of_ble_eq_true rfl) ?_
  intro p e s m below meth c ls hx hb hr hml hown hts hlocks hin ht hC hM hl hS
  have f0 : M (ad 0 0) = some (.inr (5, [.ref (ad 1 0), .ref (ad 3 0), .ref (ad 5 0), .ref (ad 10 0), .int (S.1 5 0)])) := hw.1 0 0 _ rfl
  have f1 : M (ad 1 0) = some (.inr (1, [.ref (ad 2 0), .int (S.1 0 0)])) := hw.1 1 0 _ rfl
  have f2 : M (ad 2 0) = some (.inl (G.2.1 2, 1001, .inl (S.1 4))) := hw.1 2 0 _ rfl
  have f3 : M (ad 3 0) = some (.inl (G.2.1 3, 4, .inr (.inr (.inr (.inr (crr ad)))))) := hw.1 3 0 _ rfl
  have f5 : M (ad 5 0) = some (.inl (G.2.1 4, 5, .inr (.inr (.inr (.inr (csr ad)))))) := hw.1 5 0 _ rfl
  have f10 : M (ad 10 0) = some (.inl (G.2.1 6, 20, .inr (.inr (.inr (.inr (dlr S ad)))))) := hw.1 10 0 _ rfl
  refine lv_aload_n hx hb dX5_due_0 rfl (lv_at hl 0 rfl) ?_
  refine lv_iload_n hx hb dX5_due_1 rfl (lv_at hl 1 rfl) ?_
  refine kx_q (vx_runV (As := [.int n]) (rest := []) ⟨hx, hb, hml, hown, hts⟩ (c_X5_customerNumbered hnt l G M S T th o ex ad n hw hi) (cwV 1 hts gX5_due_X5_customerNumbered rfl rfl rfl (by decide +kernel) ⟨Nat.le_of_ble_eq_true rfl, Nat.le_of_ble_eq_true rfl⟩) (preV_of hC hS hM f0 rfl) rfl rfl hl.1 rfl (lv_room (Nat.le_of_ble_eq_true rfl)) dX5_due_2 ⟨Nat.le_of_ble_eq_true rfl, Nat.le_of_ble_eq_true rfl⟩) hS (fun E ce q9 H locs hE hM hS h1 h2 h3 => ?_) (fun r2 u2 H locs hp2 hM hS => ?_)
  · exact r_out ht hlocks hS hM (Or.inl hE) h1 h2 h3 (Nat.le_of_ble_eq_true rfl) (Nat.le_of_ble_eq_true rfl)
  have hM : Hm G M H := hM
  obtain ⟨e2, b2⟩ := hp2
  subst e2
  have g2 := hw.1 _ _ _ (ct6 (G := G) (S := S) (T := T) (th := th) (o := o) (ex := ex) (ad := ad) (ix_lt 5 b2 (by decide)))
  have g2_7 := hw.1 _ _ _ (ct7 (G := G) (S := S) (T := T) (th := th) (o := o) (ex := ex) (ad := ad) (ix_lt 5 b2 (by decide)))
  have g2_8 := hw.1 _ _ _ (ct8 (G := G) (S := S) (T := T) (th := th) (o := o) (ex := ex) (ad := ad) (ix_lt 5 b2 (by decide)))
  have g2_9 := hw.1 _ _ _ (ct9 (G := G) (S := S) (T := T) (th := th) (o := o) (ex := ex) (ad := ad) (ix_lt 5 b2 (by decide)))
  refine lv_astore (lv' := [(4, .ref (ad 6 (n.toNatClampNeg))), (0, .ref (ad 0 0)), (1, .int n), (2, .int x), (3, .int y)]) hx hb dX5_due_5 hl (by decide) rfl (fun ls hl => ?_)
  refine lv_iload_n hx hb dX5_due_7 rfl (lv_at hl 3 rfl) ?_
  refine lv_iconst (v := 0) hx hb dX5_due_8 (by decide) ?_
  refine lv_iconst (v := 4) hx hb dX5_due_9 (by decide) ?_
  refine kx_v (vx_runS (As := [.int x, .int 0, .int 4]) (rest := []) ⟨hx, hb, hml, hown, hts⟩ (c_X5_requireRange hnt l G M x (0 : Int32) (4 : Int32)) (va_cwS 3 hts gX5_due_X5_requireRange rfl rfl rfl (by decide +kernel) ⟨Nat.le_of_ble_eq_true rfl, Nat.le_of_ble_eq_true rfl⟩) (preS_of hC hS hM) rfl rfl hl.1 rfl (lv_room (Nat.le_of_ble_eq_true rfl)) dX5_due_10 ⟨Nat.le_of_ble_eq_true rfl, Nat.le_of_ble_eq_true rfl⟩) hS (fun E ce q9 H locs hE hM hS h1 h2 h3 => ?_) (fun u10 H locs hp10 hM hS => ?_)
  · exact r_out ht hlocks hS hM (Or.inr ⟨hE.1, b2, fun z => hE.2 z.1⟩) h1 h2 h3 (Nat.le_of_ble_eq_true rfl) (Nat.le_of_ble_eq_true rfl)
  have hM : Hm G M H := hM
  refine lv_iload_n hx hb dX5_due_13 rfl (lv_at hl 4 rfl) ?_
  refine lv_iconst (v := 1) hx hb dX5_due_14 (by decide) ?_
  refine lv_bipush (v := 20) hx hb dX5_due_15 (by decide) ?_
  refine kx_v (vx_runS (As := [.int y, .int 1, .int 20]) (rest := []) ⟨hx, hb, hml, hown, hts⟩ (c_X5_requireRange hnt l G M y (1 : Int32) (20 : Int32)) (va_cwS 3 hts gX5_due_X5_requireRange rfl rfl rfl (by decide +kernel) ⟨Nat.le_of_ble_eq_true rfl, Nat.le_of_ble_eq_true rfl⟩) (preS_of hC hS hM) rfl rfl hl.1 rfl (lv_room (Nat.le_of_ble_eq_true rfl)) dX5_due_17 ⟨Nat.le_of_ble_eq_true rfl, Nat.le_of_ble_eq_true rfl⟩) hS (fun E ce q9 H locs hE hM hS h1 h2 h3 => ?_) (fun u17 H locs hp17 hM hS => ?_)
  · exact r_out ht hlocks hS hM (Or.inr ⟨hE.1, b2, fun z => hE.2 z.2⟩) h1 h2 h3 (Nat.le_of_ble_eq_true rfl) (Nat.le_of_ble_eq_true rfl)
  have hM : Hm G M H := hM
  refine lv_aload hx hb dX5_due_20 (lv_at hl 0 rfl) ?_
  refine lv_iload_n hx hb dX5_due_22 rfl (lv_at hl 3 rfl) ?_
  refine lv_aload_n hx hb dX5_due_23 rfl (lv_at hl 1 rfl) ?_
  refine m_get (ci := 5) (v := .ref (ad 1 0)) (C := RX5) (T := TX5) (N := 5) (a := (ad 0 0)) hx hb hts (by decide +kernel) hown hC hM f0 rfl 0 (by decide) (hts (.fieldLink RX5 12 "Forwardroll" "calendar" "LForwardroll$Calendar;") (by decide +kernel)) (fun _ h9 => h9) rfl dX5_due_24 ?_
  refine m_getN (host := RX5) (ci := 1) (v := .int (S.1 0 0)) (C := RX1) (T := TX1) (N := 2) (a := (ad 1 0)) hx hb hts (by decide +kernel) hown hC hM f1 rfl 1 (by decide) (hC.w 0 rfl) (fun _ h9 => h9) rfl dX5_due_27 ?_
  refine lv_iload_n hx hb dX5_due_30 rfl (lv_at hl 4 rfl) ?_
  refine lv_iadd hx hb dX5_due_31 ?_
  refine k_l (va_runV (As := [.int x, .int ((S.1 0 0) + y)]) (rest := []) ⟨hx, hb, hml, hown, hts⟩ (c_X3_netAmount l G M (ad 6 (n.toNatClampNeg)) (S.1 3 (n.toNatClampNeg)) (ad 7 (n.toNatClampNeg)) (ad 8 (n.toNatClampNeg)) (ntr ex ad (n.toNatClampNeg)) x ((S.1 0 0) + y) (fun _ => adr ex ad 13 (5 * (S.1 0 0 + y).toNatClampNeg + n.toNatClampNeg)) (rw5 (S.2 0) (5 * (S.1 0 0 + y).toNatClampNeg + n.toNatClampNeg)) g2 g2_7 (fun x9 h9 => row_of hw x9 (rq_some h9))) (cwV 2 hts gX5_due_X3_netAmount rfl rfl rfl (by decide +kernel) ⟨Nat.le_of_ble_eq_true rfl, Nat.le_of_ble_eq_true rfl⟩) (preV_of hC hS hM g2 rfl) rfl rfl hl.1 rfl (lv_room (Nat.le_of_ble_eq_true rfl)) dX5_due_32 ⟨Nat.le_of_ble_eq_true rfl, Nat.le_of_ble_eq_true rfl⟩) hS (fun r32 u32 H locs hp32 hM hS => ?_)
  have hM : Hm G M H := hM
  exact vx_ret (r_l hx hb hr hlocks hS (v := r32) () ⟨b2, hp10, hp17, hp32.trans (due_of hx9 (day_nn hi hp17) ⟨hp10.1, le4 hp10.2⟩)⟩ hM (Nat.le_of_ble_eq_true rfl) (Nat.le_of_ble_eq_true rfl) dX5_due_35)
set_option maxHeartbeats 4000000 in
set_option maxRecDepth 100000 in
theorem c_X5_balance {l : Launch} (hnt : l.stackTraces = false) (l' : Launch) (G : Gx) (M : Mp) (S T : Sd) (th : Int32) (o : Int64) (ex : Nat → Option (Nat × Nat)) (ad : Nat → Nat → Nat) (n x : Int32) (hw : WA G S T th o ex ad M) (hi : Iv S) : vx_Met l yX5_balance wsX5_balance ({ frames := 7, cells := 2, slots := 12, locals := 112 }) (Cv G M [.ref (ad 0 0), .int n, .int x]) (va_Ql (S := Unit) (fun r _ => (0 ≤ n ∧ n < 5) ∧ (0 ≤ x ∧ x ≤ 4) ∧ r = S.2 1 (5 * n.toNatClampNeg + x.toNatClampNeg)) (Bm G (fun _ => M)) (AG G)) (Xq G M (fun E => (E = IO ∧ ¬ (0 ≤ n ∧ n < 5)) ∨ (E = IA ∧ (0 ≤ n ∧ n < 5) ∧ ¬ (0 ≤ x ∧ x ≤ 4)))) (2) (12) (AG G) := by
  refine m_metx [.ref (ad 0 0), .int n, .int x] [(0, .ref (ad 0 0)), (1, .int n), (2, .int x)] (by decide) rfl rfl (Nat.le_of_ble_eq_true rfl) ?_
  intro p e s m below meth c ls hx hb hr hml hown hts hlocks hin ht hC hM hl hS
  have f0 : M (ad 0 0) = some (.inr (5, [.ref (ad 1 0), .ref (ad 3 0), .ref (ad 5 0), .ref (ad 10 0), .int (S.1 5 0)])) := hw.1 0 0 _ rfl
  have f1 : M (ad 1 0) = some (.inr (1, [.ref (ad 2 0), .int (S.1 0 0)])) := hw.1 1 0 _ rfl
  have f2 : M (ad 2 0) = some (.inl (G.2.1 2, 1001, .inl (S.1 4))) := hw.1 2 0 _ rfl
  have f3 : M (ad 3 0) = some (.inl (G.2.1 3, 4, .inr (.inr (.inr (.inr (crr ad)))))) := hw.1 3 0 _ rfl
  have f5 : M (ad 5 0) = some (.inl (G.2.1 4, 5, .inr (.inr (.inr (.inr (csr ad)))))) := hw.1 5 0 _ rfl
  have f10 : M (ad 10 0) = some (.inl (G.2.1 6, 20, .inr (.inr (.inr (.inr (dlr S ad)))))) := hw.1 10 0 _ rfl
  refine lv_aload_n hx hb dX5_balance_0 rfl (lv_at hl 0 rfl) ?_
  refine lv_iload_n hx hb dX5_balance_1 rfl (lv_at hl 1 rfl) ?_
  refine kx_q (vx_runV (As := [.int n]) (rest := []) ⟨hx, hb, hml, hown, hts⟩ (c_X5_customerNumbered hnt l G M S T th o ex ad n hw hi) (cwV 1 hts gX5_balance_X5_customerNumbered rfl rfl rfl (by decide +kernel) ⟨Nat.le_of_ble_eq_true rfl, Nat.le_of_ble_eq_true rfl⟩) (preV_of hC hS hM f0 rfl) rfl rfl hl.1 rfl (lv_room (Nat.le_of_ble_eq_true rfl)) dX5_balance_2 ⟨Nat.le_of_ble_eq_true rfl, Nat.le_of_ble_eq_true rfl⟩) hS (fun E ce q9 H locs hE hM hS h1 h2 h3 => ?_) (fun r2 u2 H locs hp2 hM hS => ?_)
  · exact r_out ht hlocks hS hM (Or.inl hE) h1 h2 h3 (Nat.le_of_ble_eq_true rfl) (Nat.le_of_ble_eq_true rfl)
  have hM : Hm G M H := hM
  obtain ⟨e2, b2⟩ := hp2
  subst e2
  have g2 := hw.1 _ _ _ (ct6 (G := G) (S := S) (T := T) (th := th) (o := o) (ex := ex) (ad := ad) (ix_lt 5 b2 (by decide)))
  have g2_7 := hw.1 _ _ _ (ct7 (G := G) (S := S) (T := T) (th := th) (o := o) (ex := ex) (ad := ad) (ix_lt 5 b2 (by decide)))
  have g2_8 := hw.1 _ _ _ (ct8 (G := G) (S := S) (T := T) (th := th) (o := o) (ex := ex) (ad := ad) (ix_lt 5 b2 (by decide)))
  have g2_9 := hw.1 _ _ _ (ct9 (G := G) (S := S) (T := T) (th := th) (o := o) (ex := ex) (ad := ad) (ix_lt 5 b2 (by decide)))
  refine lv_astore_n (lv' := [(3, .ref (ad 6 (n.toNatClampNeg))), (0, .ref (ad 0 0)), (1, .int n), (2, .int x)]) hx hb dX5_balance_5 rfl hl (by decide) rfl (fun ls hl => ?_)
  refine lv_iload_n hx hb dX5_balance_6 rfl (lv_at hl 3 rfl) ?_
  refine lv_iconst (v := 0) hx hb dX5_balance_7 (by decide) ?_
  refine lv_iconst (v := 4) hx hb dX5_balance_8 (by decide) ?_
  refine kx_v (vx_runS (As := [.int x, .int 0, .int 4]) (rest := []) ⟨hx, hb, hml, hown, hts⟩ (c_X5_requireRange hnt l G M x (0 : Int32) (4 : Int32)) (va_cwS 3 hts gX5_balance_X5_requireRange rfl rfl rfl (by decide +kernel) ⟨Nat.le_of_ble_eq_true rfl, Nat.le_of_ble_eq_true rfl⟩) (preS_of hC hS hM) rfl rfl hl.1 rfl (lv_room (Nat.le_of_ble_eq_true rfl)) dX5_balance_9 ⟨Nat.le_of_ble_eq_true rfl, Nat.le_of_ble_eq_true rfl⟩) hS (fun E ce q9 H locs hE hM hS h1 h2 h3 => ?_) (fun u9 H locs hp9 hM hS => ?_)
  · exact r_out ht hlocks hS hM (Or.inr ⟨hE.1, b2, hE.2⟩) h1 h2 h3 (Nat.le_of_ble_eq_true rfl) (Nat.le_of_ble_eq_true rfl)
  have hM : Hm G M H := hM
  refine lv_aload_n hx hb dX5_balance_12 rfl (lv_at hl 0 rfl) ?_
  refine m_getN (host := RX5) (ci := 3) (v := .ref (ad 8 (n.toNatClampNeg))) (C := RX3) (T := TX3) (N := 3) (a := (ad 6 (n.toNatClampNeg))) hx hb hts (by decide +kernel) hown hC hM g2 rfl 2 (by decide) (hC.w 5 rfl) (fun _ h9 => h9) rfl dX5_balance_13 ?_
  refine lv_iload_n hx hb dX5_balance_16 rfl (lv_at hl 3 rfl) ?_
  refine k_l (va_runV (As := [.int x]) (rest := []) ⟨hx, hb, hml, hown, hts⟩ (c_X0_amountOf l G M (ad 8 (n.toNatClampNeg)) (ad 9 (n.toNatClampNeg)) (rw5 (S.2 1) (n.toNatClampNeg)) x g2_8 g2_9) (cwV 1 hts gX5_balance_X0_amountOf rfl rfl rfl (by decide +kernel) ⟨Nat.le_of_ble_eq_true rfl, Nat.le_of_ble_eq_true rfl⟩) (preV_of hC hS hM g2_8 rfl) rfl rfl hl.1 rfl (lv_room (Nat.le_of_ble_eq_true rfl)) dX5_balance_17 ⟨Nat.le_of_ble_eq_true rfl, Nat.le_of_ble_eq_true rfl⟩) hS (fun r17 u17 H locs hp17 hM hS => ?_)
  have hM : Hm G M H := hM
  have hp17 : r17 = rd (rw5 (S.2 1) (n.toNatClampNeg)) x 5 := hp17
  subst hp17
  exact vx_ret (r_l hx hb hr hlocks hS (v := rd (rw5 (S.2 1) (n.toNatClampNeg)) x 5) () ⟨b2, hp9, rd5 ⟨hp9.1, le4 hp9.2⟩⟩ hM (Nat.le_of_ble_eq_true rfl) (Nat.le_of_ble_eq_true rfl) dX5_balance_20)
