abbrev IO : String := "java/lang/IndexOutOfBoundsException"
abbrev IA : String := "java/lang/IllegalArgumentException"
abbrev IS : String := "java/lang/IllegalStateException"
theorem tn_201 : ∀ w ∈ (vx_atS RX5 201 IO ["java/lang/RuntimeException", "java/lang/Exception"]).filter (fun w => !goodWord w), w ∈ XC := by decide +kernel
theorem tn_210 : ∀ w ∈ (vx_atS RX5 210 IA ["java/lang/RuntimeException", "java/lang/Exception"]).filter (fun w => !goodWord w), w ∈ XC := by decide +kernel
theorem tn_61 : ∀ w ∈ (vx_atS RX5 61 IS ["java/lang/RuntimeException", "java/lang/Exception"]).filter (fun w => !goodWord w), w ∈ XC := by decide +kernel
theorem tg_201 : ∀ w ∈ Cond.classLink RX5 197 IO :: Cond.initialized IO :: vx_atS RX5 201 IO ["java/lang/RuntimeException", "java/lang/Exception"], vx_ot w = true := by decide +kernel
theorem tg_210 : ∀ w ∈ Cond.classLink RX5 206 IA :: Cond.initialized IA :: vx_atS RX5 210 IA ["java/lang/RuntimeException", "java/lang/Exception"], vx_ot w = true := by decide +kernel
theorem tg_61 : ∀ w ∈ Cond.classLink RX5 57 IS :: Cond.initialized IS :: vx_atS RX5 61 IS ["java/lang/RuntimeException", "java/lang/Exception"], vx_ot w = true := by decide +kernel
theorem ix_lt {i n : Int32} (k : Nat) (h : 0 ≤ i ∧ i < n) (hn : n.toInt = (k : Int)) : i.toNatClampNeg < k := by
  have h1 := Int32.le_iff_toInt_le.mp h.1
  have h2 := Int32.lt_iff_toInt_lt.mp h.2
  rw [hn] at h2
  have h0 : (0 : Int32).toInt = 0 := rfl
  rw [Int32.toNatClampNeg]
  omega
/-- the worse of two losses, 0 at least -/
def wl (a b : Int64) : Int64 := if (if b < a then a else b) < 0 then 0 else (if b < a then a else b)
theorem mxl (m : Int64) : (if m < 0 then 0 else m) = if m < 0 then 0 else m := rfl
theorem lt_20 {S : Sd} (hi : Iv S) {n : Int32} (h : n.toNatClampNeg < ndl S) : n < 20 := by
  have h1 := hi.nd
  rw [Int32.toNatClampNeg] at h
  exact Int32.lt_iff_toInt_lt.mpr (by show n.toInt < 20; omega)
set_option maxHeartbeats 4000000 in
set_option maxRecDepth 100000 in
theorem c_X5_requireRange {l : Launch} (hnt : l.stackTraces = false) (l' : Launch) (G : Gx) (M : Mp) (v lo hi : Int32)  : vx_Met l yX5_requireRange wsX5_requireRange ({ frames := 6, cells := 1, slots := 6, locals := 90 }) (Cv G M [.int v, .int lo, .int hi]) (va_Qv (S := Unit) (fun _ => lo ≤ v ∧ v ≤ hi) (Bm G (fun _ => M)) (AG G)) (Xq G M (fun E => E = IA ∧ ¬ (lo ≤ v ∧ v ≤ hi))) (1) (6) (AG G) := by
  refine m_metx [.int v, .int lo, .int hi] [(0, .int v), (1, .int lo), (2, .int hi)] (by decide) rfl rfl (Nat.le_of_ble_eq_true rfl) ?_
  intro p e s m below meth c ls hx hb hr hml hown hts hlocks hin ht hC hM hl hS
  refine lv_iload_n hx hb dX5_requireRange_0 rfl (lv_at hl 0 rfl) ?_
  refine lv_iload_n hx hb dX5_requireRange_1 rfl (lv_at hl 1 rfl) ?_
  refine lv_icmp_lt (tgt := 10) hx hb dX5_requireRange_2 (by decide) (fun c_2 => ?_) (fun c_2 => ?_)
  · exact m_throw (text := "an argument is out of range") (is := 208) hx hb hnt (hml.trans hl.1.symm) hlocks hown ht hC hS hM (hts (.classLink RX5 206 IA) (by decide +kernel)) (hts (.initialized IA) (by decide +kernel)) (by decide) (fun w h => hts w (List.mem_cons_of_mem _ (List.mem_append_right _ h))) tn_210 (by decide +kernel) tg_210 dX5_requireRange_10 dX5_requireRange_13 dX5_requireRange_14 dX5_requireRange_16 dX5_requireRange_19 (Nat.le_of_ble_eq_true rfl) (Nat.le_of_ble_eq_true rfl) (Nat.le_of_ble_eq_true rfl) (Nat.le_of_ble_eq_true rfl) (Nat.le_of_ble_eq_true rfl) (Nat.le_of_ble_eq_true rfl) (⟨rfl, fun z => absurd z.1 (Int32.not_le.mpr c_2)⟩)
  · refine lv_iload_n hx hb dX5_requireRange_5 rfl (lv_at hl 0 rfl) ?_
    refine lv_iload_n hx hb dX5_requireRange_6 rfl (lv_at hl 2 rfl) ?_
    refine lv_icmp_le (tgt := 20) hx hb dX5_requireRange_7 (by decide) (fun c_7 => ?_) (fun c_7 => ?_)
    · exact vx_ret (r_v hx hb hr hlocks hS () ⟨Int32.not_lt.mp c_2, c_7⟩ hM (Nat.le_of_ble_eq_true rfl) (Nat.le_of_ble_eq_true rfl) dX5_requireRange_20)
    · exact m_throw (text := "an argument is out of range") (is := 208) hx hb hnt (hml.trans hl.1.symm) hlocks hown ht hC hS hM (hts (.classLink RX5 206 IA) (by decide +kernel)) (hts (.initialized IA) (by decide +kernel)) (by decide) (fun w h => hts w (List.mem_cons_of_mem _ (List.mem_append_right _ h))) tn_210 (by decide +kernel) tg_210 dX5_requireRange_10 dX5_requireRange_13 dX5_requireRange_14 dX5_requireRange_16 dX5_requireRange_19 (Nat.le_of_ble_eq_true rfl) (Nat.le_of_ble_eq_true rfl) (Nat.le_of_ble_eq_true rfl) (Nat.le_of_ble_eq_true rfl) (Nat.le_of_ble_eq_true rfl) (Nat.le_of_ble_eq_true rfl) (⟨rfl, fun z => absurd z.2 (Int32.not_le.mpr (Int32.not_le.mp c_7))⟩)
set_option maxHeartbeats 4000000 in
set_option maxRecDepth 100000 in
theorem c_X5_requireLeft {l : Launch} (hnt : l.stackTraces = false) (l' : Launch) (G : Gx) (M : Mp) (a cu cy : Nat) (bu lf ag fi la : Int32) (fa : M a = some (.inr (4, [.ref cu, .ref cy, .int bu, .int lf, .int ag, .int fi, .int la]))) : vx_Met l yX5_requireLeft wsX5_requireLeft ({ frames := 6, cells := 1, slots := 6, locals := 90 }) (Cv G M [.ref a]) (va_Qv (S := Unit) (fun _ => ¬ lf = 0) (Bm G (fun _ => M)) (AG G)) (Xq G M (fun E => E = IS ∧ lf = 0)) (1) (6) (AG G) := by
  refine m_metx [.ref a] [(0, .ref a)] (by decide) rfl rfl (Nat.le_of_ble_eq_true rfl) ?_
  intro p e s m below meth c ls hx hb hr hml hown hts hlocks hin ht hC hM hl hS
  refine lv_aload_n hx hb dX5_requireLeft_0 rfl (lv_at hl 0 rfl) ?_
  refine m_getN (host := RX5) (ci := 4) (v := .int lf) (C := RX4) (T := TX4) (N := 7) (a := a) hx hb hts (by decide +kernel) hown hC hM fa rfl 3 (by decide) (hC.w 9 rfl) (fun _ h9 => h9) rfl dX5_requireLeft_1 ?_
  refine lv_if_ne (tgt := 17) hx hb dX5_requireLeft_4 (by decide) (fun c_4 => ?_) (fun c_4 => ?_)
  · exact vx_ret (r_v hx hb hr hlocks hS () c_4 hM (Nat.le_of_ble_eq_true rfl) (Nat.le_of_ble_eq_true rfl) dX5_requireLeft_17)
  · exact m_throw (text := "nothing is left of the deal") (is := 211) hx hb hnt (hml.trans hl.1.symm) hlocks hown ht hC hS hM (hts (.classLink RX5 57 IS) (by decide +kernel)) (hts (.initialized IS) (by decide +kernel)) (by decide) (fun w h => hts w (List.mem_cons_of_mem _ (List.mem_append_right _ h))) tn_61 (by decide +kernel) tg_61 dX5_requireLeft_7 dX5_requireLeft_10 dX5_requireLeft_11 dX5_requireLeft_13 dX5_requireLeft_16 (Nat.le_of_ble_eq_true rfl) (Nat.le_of_ble_eq_true rfl) (Nat.le_of_ble_eq_true rfl) (Nat.le_of_ble_eq_true rfl) (Nat.le_of_ble_eq_true rfl) (Nat.le_of_ble_eq_true rfl) (⟨rfl, c_4⟩)
set_option maxHeartbeats 4000000 in
set_option maxRecDepth 100000 in
theorem c_X5_worseLoss (l : Launch) (G : Gx) (M : Mp) (x y : Int64)  : Met l yX5_worseLoss wsX5_worseLoss ({ frames := 1, cells := 0, slots := 0, locals := 23 }) (Cv G M [.long x, .long y]) (va_Ql (S := Unit) (fun r _ => r = wl x y) (Bm G (fun _ => M)) (AG G)) (0) (0) (AG G) := by
  refine m_met [.long x, .long y] [(0, .long x), (2, .long y)] (by decide) rfl rfl (Nat.le_of_ble_eq_true rfl) ?_
  intro p e s m below meth c ls hx hb hr hml hown hts hlocks hin hC hM hl hS
  refine lv_lconst (v := 0) hx hb dX5_worseLoss_0 (by decide) ?_
  refine lv_lload_n hx hb dX5_worseLoss_1 rfl (lv_at hl 0 rfl) ?_
  refine lv_lload_n hx hb dX5_worseLoss_2 rfl (lv_at hl 1 rfl) ?_
  refine va_mmax_long (own := RX5) hx hb (hml.trans hl.1.symm) hown (hts (.methodLink RX5 219 Lib.MathLoose.max_long.x) (by decide +kernel)) (hts (.static Lib.MathLoose.max_long.x) (by decide +kernel)) (hts (.initialized "java/lang/Math") (by decide +kernel)) (hts (.code Lib.MathLoose.max_long.x Lib.MathLoose.max_long.code 4 (some .long)) (by decide +kernel)) (Nat.le_of_ble_eq_true rfl) (Nat.le_of_ble_eq_true rfl) (Nat.le_of_ble_eq_true rfl) (Nat.le_of_ble_eq_true rfl) dX5_worseLoss_3 ?_
  refine va_mmax_long (own := RX5) hx hb (hml.trans hl.1.symm) hown (hts (.methodLink RX5 219 Lib.MathLoose.max_long.x) (by decide +kernel)) (hts (.static Lib.MathLoose.max_long.x) (by decide +kernel)) (hts (.initialized "java/lang/Math") (by decide +kernel)) (hts (.code Lib.MathLoose.max_long.x Lib.MathLoose.max_long.code 4 (some .long)) (by decide +kernel)) (Nat.le_of_ble_eq_true rfl) (Nat.le_of_ble_eq_true rfl) (Nat.le_of_ble_eq_true rfl) (Nat.le_of_ble_eq_true rfl) dX5_worseLoss_6 ?_
  exact (r_l hx hb hr hlocks hS (v := (if (if y < x then x else y) < 0 then 0 else (if y < x then x else y))) () (by unfold wl; exact mxl _) hM (Nat.le_of_ble_eq_true rfl) (Nat.le_of_ble_eq_true rfl) dX5_worseLoss_9)
set_option maxHeartbeats 4000000 in
set_option maxRecDepth 100000 in
theorem c_X5_currencyNumbered {l : Launch} (hnt : l.stackTraces = false) (l' : Launch) (G : Gx) (M : Mp) (S T : Sd) (th : Int32) (o : Int64) (ex : Nat → Option (Nat × Nat)) (ad : Nat → Nat → Nat) (n : Int32) (hw : WA G S T th o ex ad M) (hi : Iv S) : vx_Met l yX5_currencyNumbered wsX5_currencyNumbered ({ frames := 6, cells := 1, slots := 6, locals := 90 }) (Cv G M [.ref (ad 0 0), .int n]) (va_Qq (S := Unit) (fun r _ => r = some (ad 4 n.toNatClampNeg) ∧ (0 ≤ n ∧ n < 4)) (Bm G (fun _ => M)) (AG G)) (Xq G M (fun E => E = IO ∧ ¬ (0 ≤ n ∧ n < 4))) (1) (6) (AG G) := by
  refine m_metx [.ref (ad 0 0), .int n] [(0, .ref (ad 0 0)), (1, .int n)] (by decide) rfl rfl (Nat.le_of_ble_eq_true rfl) ?_
  intro p e s m below meth c ls hx hb hr hml hown hts hlocks hin ht hC hM hl hS
  have f0 : M (ad 0 0) = some (.inr (5, [.ref (ad 1 0), .ref (ad 3 0), .ref (ad 5 0), .ref (ad 10 0), .int (S.1 5 0)])) := hw.1 0 0 _ rfl
  have f3 : M (ad 3 0) = some (.inl (G.2.1 3, 4, .inr (.inr (.inr (.inr (crr ad)))))) := hw.1 3 0 _ rfl
  refine lv_iload_n hx hb dX5_currencyNumbered_0 rfl (lv_at hl 1 rfl) ?_
  refine lv_aload_n hx hb dX5_currencyNumbered_1 rfl (lv_at hl 0 rfl) ?_
  refine m_get (ci := 5) (v := .ref (ad 3 0)) (C := RX5) (T := TX5) (N := 5) (a := (ad 0 0)) hx hb hts (by decide +kernel) hown hC hM f0 rfl 1 (by decide) (hts (.fieldLink RX5 18 "Forwardroll" "currencies" "[LForwardroll$Currency;") (by decide +kernel)) (fun _ h9 => h9) rfl dX5_currencyNumbered_2 ?_
  refine m_alen (a := (ad 3 0)) hx hb hC hM 3 rfl f3 (v := 4) rfl dX5_currencyNumbered_5 ?_
  refine k_i (va_runS (As := [.int n, .int 4]) (rest := []) ⟨hx, hb, hml, hown, hts⟩ (c_X5_isIndex l G M n 4) (va_cwS 2 hts gX5_currencyNumbered_X5_isIndex rfl rfl rfl (by decide +kernel) ⟨Nat.le_of_ble_eq_true rfl, Nat.le_of_ble_eq_true rfl⟩) (preS_of hC hS hM) rfl rfl hl.1 rfl (lv_room (Nat.le_of_ble_eq_true rfl)) dX5_currencyNumbered_6 ⟨Nat.le_of_ble_eq_true rfl, Nat.le_of_ble_eq_true rfl⟩) hS (fun r6 u6 H locs hp6 hM hS => ?_)
  have hM : Hm G M H := hM
  have hp6 : r6 = ixb n 4 := hp6
  subst hp6
  refine lv_if_eq (tgt := 21) hx hb dX5_currencyNumbered_9 (by decide) (fun c_9 => ?_) (fun c_9 => ?_)
  · refine lv_null hx hb dX5_currencyNumbered_21 ?_
    refine lv_astore_nN (lv' := [(2, .null), (0, .ref (ad 0 0)), (1, .int n)]) hx hb dX5_currencyNumbered_22 rfl hl (by decide) rfl (fun ls hl => ?_)
    refine lv_aload_nN hx hb dX5_currencyNumbered_23 rfl (lv_at hl 0 rfl) ?_
    refine lv_ifnonnullN hx hb dX5_currencyNumbered_24 ?_
    exact m_throw (text := "no such currency") (is := 199) hx hb hnt (hml.trans hl.1.symm) hlocks hown ht hC hS hM (hts (.classLink RX5 197 IO) (by decide +kernel)) (hts (.initialized IO) (by decide +kernel)) (by decide) (fun w h => hts w (List.mem_cons_of_mem _ (List.mem_append_right _ h))) tn_201 (by decide +kernel) tg_201 dX5_currencyNumbered_27 dX5_currencyNumbered_30 dX5_currencyNumbered_31 dX5_currencyNumbered_33 dX5_currencyNumbered_36 (Nat.le_of_ble_eq_true rfl) (Nat.le_of_ble_eq_true rfl) (Nat.le_of_ble_eq_true rfl) (Nat.le_of_ble_eq_true rfl) (Nat.le_of_ble_eq_true rfl) (Nat.le_of_ble_eq_true rfl) (⟨rfl, ixb_f c_9⟩)
  · refine lv_aload_n hx hb dX5_currencyNumbered_12 rfl (lv_at hl 0 rfl) ?_
    refine m_get (ci := 5) (v := .ref (ad 3 0)) (C := RX5) (T := TX5) (N := 5) (a := (ad 0 0)) hx hb hts (by decide +kernel) hown hC hM f0 rfl 1 (by decide) (hts (.fieldLink RX5 18 "Forwardroll" "currencies" "[LForwardroll$Currency;") (by decide +kernel)) (fun _ h9 => h9) rfl dX5_currencyNumbered_13 ?_
    refine lv_iload_n hx hb dX5_currencyNumbered_16 rfl (lv_at hl 1 rfl) ?_
    refine m_aldq (a := (ad 3 0)) hx hb hC hM 3 rfl f3 (vin_of 4 (ixb_t c_9) (by decide)) dX5_currencyNumbered_17 ?_
    refine lv_goto (tgt := 22) hx hb dX5_currencyNumbered_18 (by decide) ?_
    rw [show (crr ad) n.toNatClampNeg = some (ad 4 n.toNatClampNeg) from if_pos (ix_lt 4 (ixb_t c_9) (by decide))]
    refine lv_astore_n (lv' := [(2, .ref (ad 4 n.toNatClampNeg)), (0, .ref (ad 0 0)), (1, .int n)]) hx hb dX5_currencyNumbered_22 rfl hl (by decide) rfl (fun ls hl => ?_)
    refine lv_aload_n hx hb dX5_currencyNumbered_23 rfl (lv_at hl 0 rfl) ?_
    refine lv_ifnonnull (tgt := 37) hx hb dX5_currencyNumbered_24 (by decide) ?_
    refine lv_aload_n hx hb dX5_currencyNumbered_37 rfl (lv_at hl 0 rfl) ?_
    exact vx_ret (r_q hx hb hr hlocks hS (some (ad 4 n.toNatClampNeg)) rfl () ⟨rfl, ixb_t c_9⟩ hM (Nat.le_of_ble_eq_true rfl) (Nat.le_of_ble_eq_true rfl) dX5_currencyNumbered_38)
set_option maxHeartbeats 4000000 in
set_option maxRecDepth 100000 in
theorem c_X5_customerNumbered {l : Launch} (hnt : l.stackTraces = false) (l' : Launch) (G : Gx) (M : Mp) (S T : Sd) (th : Int32) (o : Int64) (ex : Nat → Option (Nat × Nat)) (ad : Nat → Nat → Nat) (n : Int32) (hw : WA G S T th o ex ad M) (hi : Iv S) : vx_Met l yX5_customerNumbered wsX5_customerNumbered ({ frames := 6, cells := 1, slots := 6, locals := 90 }) (Cv G M [.ref (ad 0 0), .int n]) (va_Qq (S := Unit) (fun r _ => r = some (ad 6 n.toNatClampNeg) ∧ (0 ≤ n ∧ n < 5)) (Bm G (fun _ => M)) (AG G)) (Xq G M (fun E => E = IO ∧ ¬ (0 ≤ n ∧ n < 5))) (1) (6) (AG G) := by
  refine m_metx [.ref (ad 0 0), .int n] [(0, .ref (ad 0 0)), (1, .int n)] (by decide) rfl rfl (Nat.le_of_ble_eq_true rfl) ?_
  intro p e s m below meth c ls hx hb hr hml hown hts hlocks hin ht hC hM hl hS
  have f0 : M (ad 0 0) = some (.inr (5, [.ref (ad 1 0), .ref (ad 3 0), .ref (ad 5 0), .ref (ad 10 0), .int (S.1 5 0)])) := hw.1 0 0 _ rfl
  have f5 : M (ad 5 0) = some (.inl (G.2.1 4, 5, .inr (.inr (.inr (.inr (csr ad)))))) := hw.1 5 0 _ rfl
  refine lv_iload_n hx hb dX5_customerNumbered_0 rfl (lv_at hl 1 rfl) ?_
  refine lv_aload_n hx hb dX5_customerNumbered_1 rfl (lv_at hl 0 rfl) ?_
  refine m_get (ci := 5) (v := .ref (ad 5 0)) (C := RX5) (T := TX5) (N := 5) (a := (ad 0 0)) hx hb hts (by decide +kernel) hown hC hM f0 rfl 2 (by decide) (hts (.fieldLink RX5 27 "Forwardroll" "customers" "[LForwardroll$Customer;") (by decide +kernel)) (fun _ h9 => h9) rfl dX5_customerNumbered_2 ?_
  refine m_alen (a := (ad 5 0)) hx hb hC hM 4 rfl f5 (v := 5) rfl dX5_customerNumbered_5 ?_
  refine k_i (va_runS (As := [.int n, .int 5]) (rest := []) ⟨hx, hb, hml, hown, hts⟩ (c_X5_isIndex l G M n 5) (va_cwS 2 hts gX5_customerNumbered_X5_isIndex rfl rfl rfl (by decide +kernel) ⟨Nat.le_of_ble_eq_true rfl, Nat.le_of_ble_eq_true rfl⟩) (preS_of hC hS hM) rfl rfl hl.1 rfl (lv_room (Nat.le_of_ble_eq_true rfl)) dX5_customerNumbered_6 ⟨Nat.le_of_ble_eq_true rfl, Nat.le_of_ble_eq_true rfl⟩) hS (fun r6 u6 H locs hp6 hM hS => ?_)
  have hM : Hm G M H := hM
  have hp6 : r6 = ixb n 5 := hp6
  subst hp6
  refine lv_if_eq (tgt := 21) hx hb dX5_customerNumbered_9 (by decide) (fun c_9 => ?_) (fun c_9 => ?_)
  · refine lv_null hx hb dX5_customerNumbered_21 ?_
    refine lv_astore_nN (lv' := [(2, .null), (0, .ref (ad 0 0)), (1, .int n)]) hx hb dX5_customerNumbered_22 rfl hl (by decide) rfl (fun ls hl => ?_)
    refine lv_aload_nN hx hb dX5_customerNumbered_23 rfl (lv_at hl 0 rfl) ?_
    refine lv_ifnonnullN hx hb dX5_customerNumbered_24 ?_
    exact m_throw (text := "no such customer") (is := 202) hx hb hnt (hml.trans hl.1.symm) hlocks hown ht hC hS hM (hts (.classLink RX5 197 IO) (by decide +kernel)) (hts (.initialized IO) (by decide +kernel)) (by decide) (fun w h => hts w (List.mem_cons_of_mem _ (List.mem_append_right _ h))) tn_201 (by decide +kernel) tg_201 dX5_customerNumbered_27 dX5_customerNumbered_30 dX5_customerNumbered_31 dX5_customerNumbered_33 dX5_customerNumbered_36 (Nat.le_of_ble_eq_true rfl) (Nat.le_of_ble_eq_true rfl) (Nat.le_of_ble_eq_true rfl) (Nat.le_of_ble_eq_true rfl) (Nat.le_of_ble_eq_true rfl) (Nat.le_of_ble_eq_true rfl) (⟨rfl, ixb_f c_9⟩)
  · refine lv_aload_n hx hb dX5_customerNumbered_12 rfl (lv_at hl 0 rfl) ?_
    refine m_get (ci := 5) (v := .ref (ad 5 0)) (C := RX5) (T := TX5) (N := 5) (a := (ad 0 0)) hx hb hts (by decide +kernel) hown hC hM f0 rfl 2 (by decide) (hts (.fieldLink RX5 27 "Forwardroll" "customers" "[LForwardroll$Customer;") (by decide +kernel)) (fun _ h9 => h9) rfl dX5_customerNumbered_13 ?_
    refine lv_iload_n hx hb dX5_customerNumbered_16 rfl (lv_at hl 1 rfl) ?_
    refine m_aldq (a := (ad 5 0)) hx hb hC hM 4 rfl f5 (vin_of 5 (ixb_t c_9) (by decide)) dX5_customerNumbered_17 ?_
    refine lv_goto (tgt := 22) hx hb dX5_customerNumbered_18 (by decide) ?_
    rw [show (csr ad) n.toNatClampNeg = some (ad 6 n.toNatClampNeg) from if_pos (ix_lt 5 (ixb_t c_9) (by decide))]
    refine lv_astore_n (lv' := [(2, .ref (ad 6 n.toNatClampNeg)), (0, .ref (ad 0 0)), (1, .int n)]) hx hb dX5_customerNumbered_22 rfl hl (by decide) rfl (fun ls hl => ?_)
    refine lv_aload_n hx hb dX5_customerNumbered_23 rfl (lv_at hl 0 rfl) ?_
    refine lv_ifnonnull (tgt := 37) hx hb dX5_customerNumbered_24 (by decide) ?_
    refine lv_aload_n hx hb dX5_customerNumbered_37 rfl (lv_at hl 0 rfl) ?_
    exact vx_ret (r_q hx hb hr hlocks hS (some (ad 6 n.toNatClampNeg)) rfl () ⟨rfl, ixb_t c_9⟩ hM (Nat.le_of_ble_eq_true rfl) (Nat.le_of_ble_eq_true rfl) dX5_customerNumbered_38)
set_option maxHeartbeats 4000000 in
set_option maxRecDepth 100000 in
theorem c_X5_dealNumbered {l : Launch} (hnt : l.stackTraces = false) (l' : Launch) (G : Gx) (M : Mp) (S T : Sd) (th : Int32) (o : Int64) (ex : Nat → Option (Nat × Nat)) (ad : Nat → Nat → Nat) (n : Int32) (hw : WA G S T th o ex ad M) (hi : Iv S) : vx_Met l yX5_dealNumbered wsX5_dealNumbered ({ frames := 6, cells := 1, slots := 6, locals := 90 }) (Cv G M [.ref (ad 0 0), .int n]) (va_Qq (S := Unit) (fun r _ => r = some (ad 11 n.toNatClampNeg) ∧ (0 ≤ n ∧ n.toNatClampNeg < ndl S)) (Bm G (fun _ => M)) (AG G)) (Xq G M (fun E => E = IO ∧ ¬ (0 ≤ n ∧ n.toNatClampNeg < ndl S))) (1) (6) (AG G) := by
  refine m_metx [.ref (ad 0 0), .int n] [(0, .ref (ad 0 0)), (1, .int n)] (by decide) rfl rfl (Nat.le_of_ble_eq_true rfl) ?_
  intro p e s m below meth c ls hx hb hr hml hown hts hlocks hin ht hC hM hl hS
  have f0 : M (ad 0 0) = some (.inr (5, [.ref (ad 1 0), .ref (ad 3 0), .ref (ad 5 0), .ref (ad 10 0), .int (S.1 5 0)])) := hw.1 0 0 _ rfl
  have f10 : M (ad 10 0) = some (.inl (G.2.1 6, 20, .inr (.inr (.inr (.inr (dlr S ad)))))) := hw.1 10 0 _ rfl
  refine lv_iload_n hx hb dX5_dealNumbered_0 rfl (lv_at hl 1 rfl) ?_
  refine lv_aload_n hx hb dX5_dealNumbered_1 rfl (lv_at hl 0 rfl) ?_
  refine m_get (ci := 5) (v := .ref (ad 10 0)) (C := RX5) (T := TX5) (N := 5) (a := (ad 0 0)) hx hb hts (by decide +kernel) hown hC hM f0 rfl 3 (by decide) (hts (.fieldLink RX5 34 "Forwardroll" "deals" "[LForwardroll$Deal;") (by decide +kernel)) (fun _ h9 => h9) rfl dX5_dealNumbered_2 ?_
  refine m_alen (a := (ad 10 0)) hx hb hC hM 6 rfl f10 (v := 20) rfl dX5_dealNumbered_5 ?_
  refine k_i (va_runS (As := [.int n, .int 20]) (rest := []) ⟨hx, hb, hml, hown, hts⟩ (c_X5_isIndex l G M n 20) (va_cwS 2 hts gX5_dealNumbered_X5_isIndex rfl rfl rfl (by decide +kernel) ⟨Nat.le_of_ble_eq_true rfl, Nat.le_of_ble_eq_true rfl⟩) (preS_of hC hS hM) rfl rfl hl.1 rfl (lv_room (Nat.le_of_ble_eq_true rfl)) dX5_dealNumbered_6 ⟨Nat.le_of_ble_eq_true rfl, Nat.le_of_ble_eq_true rfl⟩) hS (fun r6 u6 H locs hp6 hM hS => ?_)
  have hM : Hm G M H := hM
  have hp6 : r6 = ixb n 20 := hp6
  subst hp6
  refine lv_if_eq (tgt := 21) hx hb dX5_dealNumbered_9 (by decide) (fun c_9 => ?_) (fun c_9 => ?_)
  · refine lv_null hx hb dX5_dealNumbered_21 ?_
    refine lv_astore_nN (lv' := [(2, .null), (0, .ref (ad 0 0)), (1, .int n)]) hx hb dX5_dealNumbered_22 rfl hl (by decide) rfl (fun ls hl => ?_)
    refine lv_aload_nN hx hb dX5_dealNumbered_23 rfl (lv_at hl 0 rfl) ?_
    refine lv_ifnonnullN hx hb dX5_dealNumbered_24 ?_
    exact m_throw (text := "no such deal") (is := 204) hx hb hnt (hml.trans hl.1.symm) hlocks hown ht hC hS hM (hts (.classLink RX5 197 IO) (by decide +kernel)) (hts (.initialized IO) (by decide +kernel)) (by decide) (fun w h => hts w (List.mem_cons_of_mem _ (List.mem_append_right _ h))) tn_201 (by decide +kernel) tg_201 dX5_dealNumbered_27 dX5_dealNumbered_30 dX5_dealNumbered_31 dX5_dealNumbered_33 dX5_dealNumbered_36 (Nat.le_of_ble_eq_true rfl) (Nat.le_of_ble_eq_true rfl) (Nat.le_of_ble_eq_true rfl) (Nat.le_of_ble_eq_true rfl) (Nat.le_of_ble_eq_true rfl) (Nat.le_of_ble_eq_true rfl) (⟨rfl, fun z => ixb_f c_9 ⟨z.1, lt_20 hi z.2⟩⟩)
  · refine lv_aload_n hx hb dX5_dealNumbered_12 rfl (lv_at hl 0 rfl) ?_
    refine m_get (ci := 5) (v := .ref (ad 10 0)) (C := RX5) (T := TX5) (N := 5) (a := (ad 0 0)) hx hb hts (by decide +kernel) hown hC hM f0 rfl 3 (by decide) (hts (.fieldLink RX5 34 "Forwardroll" "deals" "[LForwardroll$Deal;") (by decide +kernel)) (fun _ h9 => h9) rfl dX5_dealNumbered_13 ?_
    refine lv_iload_n hx hb dX5_dealNumbered_16 rfl (lv_at hl 1 rfl) ?_
    refine m_aldq (a := (ad 10 0)) hx hb hC hM 6 rfl f10 (vin_of 20 (ixb_t c_9) (by decide)) dX5_dealNumbered_17 ?_
    refine lv_goto (tgt := 22) hx hb dX5_dealNumbered_18 (by decide) ?_
    by_cases hj : n.toNatClampNeg < ndl S
    · rw [show (dlr S ad) n.toNatClampNeg = some (ad 11 n.toNatClampNeg) from if_pos hj]
      refine lv_astore_n (lv' := [(2, .ref (ad 11 n.toNatClampNeg)), (0, .ref (ad 0 0)), (1, .int n)]) hx hb dX5_dealNumbered_22 rfl hl (by decide) rfl (fun ls hl => ?_)
      refine lv_aload_n hx hb dX5_dealNumbered_23 rfl (lv_at hl 0 rfl) ?_
      refine lv_ifnonnull (tgt := 37) hx hb dX5_dealNumbered_24 (by decide) ?_
      refine lv_aload_n hx hb dX5_dealNumbered_37 rfl (lv_at hl 0 rfl) ?_
      exact vx_ret (r_q hx hb hr hlocks hS (some (ad 11 n.toNatClampNeg)) rfl () ⟨rfl, (ixb_t c_9).1, hj⟩ hM (Nat.le_of_ble_eq_true rfl) (Nat.le_of_ble_eq_true rfl) dX5_dealNumbered_38)
    · rw [show (dlr S ad) n.toNatClampNeg = none from if_neg hj]
      refine lv_astore_nN (lv' := [(2, .null), (0, .ref (ad 0 0)), (1, .int n)]) hx hb dX5_dealNumbered_22 rfl hl (by decide) rfl (fun ls hl => ?_)
      refine lv_aload_nN hx hb dX5_dealNumbered_23 rfl (lv_at hl 0 rfl) ?_
      refine lv_ifnonnullN hx hb dX5_dealNumbered_24 ?_
      exact m_throw (text := "no such deal") (is := 204) hx hb hnt (hml.trans hl.1.symm) hlocks hown ht hC hS hM (hts (.classLink RX5 197 IO) (by decide +kernel)) (hts (.initialized IO) (by decide +kernel)) (by decide) (fun w h => hts w (List.mem_cons_of_mem _ (List.mem_append_right _ h))) tn_201 (by decide +kernel) tg_201 dX5_dealNumbered_27 dX5_dealNumbered_30 dX5_dealNumbered_31 dX5_dealNumbered_33 dX5_dealNumbered_36 (Nat.le_of_ble_eq_true rfl) (Nat.le_of_ble_eq_true rfl) (Nat.le_of_ble_eq_true rfl) (Nat.le_of_ble_eq_true rfl) (Nat.le_of_ble_eq_true rfl) (Nat.le_of_ble_eq_true rfl) (⟨rfl, fun z => hj z.2⟩)
