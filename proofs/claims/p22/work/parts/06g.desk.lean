/-- the first n balances grown by what is due on day d -/
def stP (S : Sd) (d n : Nat) : Sd := (S.1, fun a b => if a = 1 ∧ b < n then S.2 1 b + S.2 0 (25 * d + b) else S.2 a b)
theorem stP_1 {S : Sd} {d n b : Nat} (h : b < n) : (stP S d n).2 1 b = S.2 1 b + S.2 0 (25 * d + b) := if_pos ⟨rfl, h⟩
theorem stP_0 {S : Sd} {d n b : Nat} (h : ¬ b < n) : (stP S d n).2 1 b = S.2 1 b := if_neg (fun z => h z.2)
set_option maxHeartbeats 1000000 in
theorem w_settle {G : Gx} {S T : Sd} {th : Int32} {o : Int64} {ex : Nat → Option (Nat × Nat)} {ad : Nat → Nat → Nat} {M : Mp} {d : Int32} {i : Nat} (h : WA G (stP S d.toNatClampNeg (5 * i)) T th o ex ad M) (hx : Ix S ex) (hi : i < 5) (hd : 0 ≤ d ∧ d < 1002) :
    WA G (stP S d.toNatClampNeg (5 * (i + 1))) T th o ex ad (if (rq (ntr ex ad i) d 1002).isSome = true then va_up M (ad 9 i) (some (.inl (G.2.1 1, 5, .inr (.inl (addrow (rw5 ((stP S d.toNatClampNeg (5 * i)).2 1) i) (rw5 (S.2 0) (5 * d.toNatClampNeg + i))))))) else M) := by
  have hrow : rw5 ((stP S d.toNatClampNeg (5 * (i + 1))).2 1) i = addrow (rw5 ((stP S d.toNatClampNeg (5 * i)).2 1) i) (rw5 (S.2 0) (5 * d.toNatClampNeg + i)) := by
    funext m
    by_cases hm : m < 5
    · show (if m < 5 then _ else _) = (if m < 5 then (if m < 5 then _ else _) + (if m < 5 then _ else _) else _)
      rw [if_pos hm, if_pos hm, if_pos hm, if_pos hm, stP_1 (by omega), stP_0 (by omega), show 25 * d.toNatClampNeg + (5 * i + m) = 5 * (5 * d.toNatClampNeg + i) + m by omega]
    · show (if m < 5 then _ else _) = (if m < 5 then (if m < 5 then _ else _) + (if m < 5 then _ else _) else (if m < 5 then _ else _))
      rw [if_neg hm, if_neg hm, if_neg hm]
  have hoth : ∀ j, ¬ j = i → rw5 ((stP S d.toNatClampNeg (5 * (i + 1))).2 1) j = rw5 ((stP S d.toNatClampNeg (5 * i)).2 1) j := by
    intro j hj
    funext m
    by_cases hm : m < 5
    · show (if m < 5 then _ else _) = (if m < 5 then _ else _)
      rw [if_pos hm, if_pos hm]
      by_cases hl : 5 * j + m < 5 * i
      · rw [stP_1 (by omega), stP_1 hl]
      · rw [stP_0 (by omega), stP_0 hl]
    · show (if m < 5 then _ else _) = (if m < 5 then _ else _)
      rw [if_neg hm, if_neg hm]
  by_cases hq : (rq (ntr ex ad i) d 1002).isSome = true
  · rw [if_pos hq]
    refine h.up 9 i (e0 := _) (ct9 hi) (fun k j => ?_)
    by_cases hk : k = 9 ∧ j = i
    · obtain ⟨rfl, rfl⟩ := hk
      rw [if_pos ⟨rfl, rfl⟩, ct9 hi, hrow]
    · rw [if_neg hk]
      match k, hk with
      | 9, hk =>
        show (if j < 5 then some (Sum.inl (G.2.1 1, 5, Sum.inr (Sum.inl (rw5 ((stP S d.toNatClampNeg (5 * (i + 1))).2 1) j)))) else none : Option va_E) = _
        rw [hoth j (fun z => hk ⟨rfl, z⟩)]
        rfl
      | 0, _ => rfl
      | 1, _ => rfl
      | 2, _ => rfl
      | 3, _ => rfl
      | 4, _ => rfl
      | 5, _ => rfl
      | 6, _ => rfl
      | 7, _ => rfl
      | 8, _ => rfl
      | 10, _ => rfl
      | 11, _ => rfl
      | 12, _ => rfl
      | 13, _ => rfl
      | 14, _ => rfl
      | 15, _ => rfl
      | 16, _ => rfl
      | 17, _ => rfl
      | 18, _ => rfl
      | 19, _ => rfl
      | 20, _ => rfl
      | 21, _ => rfl
      | 22, _ => rfl
      | 23, _ => rfl
      | 24, _ => rfl
      | 25, _ => rfl
      | 26, _ => rfl
      | 27, _ => rfl
      | 28, _ => rfl
      | k + 29, _ => rfl
  · rw [if_neg hq]
    have hn : ex (5 * d.toNatClampNeg + i) = none := by
      unfold rq at hq
      rw [if_pos hd] at hq
      cases h9 : ntr ex ad i d.toNatClampNeg with
      | none => exact ntr_none h9
      | some x => rw [h9] at hq; exact absurd rfl hq
    refine h.same (fun k j => ?_)
    match k with
    | 9 =>
      show (if j < 5 then some (Sum.inl (G.2.1 1, 5, Sum.inr (Sum.inl (rw5 ((stP S d.toNatClampNeg (5 * (i + 1))).2 1) j)))) else none : Option va_E) = _
      by_cases hj : j = i
      · subst hj
        have hz : addrow (rw5 ((stP S d.toNatClampNeg (5 * j)).2 1) j) (rw5 (S.2 0) (5 * d.toNatClampNeg + j)) = rw5 ((stP S d.toNatClampNeg (5 * j)).2 1) j := by
          funext m
          by_cases hm : m < 5
          · show (if m < 5 then _ + (if m < 5 then _ else _) else _) = _
            rw [if_pos hm, if_pos hm, hx.1 _ hn m hm]
            exact Int64.add_zero _
          · show (if m < 5 then _ else _) = _
            rw [if_neg hm]
        rw [hrow, hz]
        rfl
      · rw [hoth j hj]
        rfl
    | 0 => rfl
    | 1 => rfl
    | 2 => rfl
    | 3 => rfl
    | 4 => rfl
    | 5 => rfl
    | 6 => rfl
    | 7 => rfl
    | 8 => rfl
    | 10 => rfl
    | 11 => rfl
    | 12 => rfl
    | 13 => rfl
    | 14 => rfl
    | 15 => rfl
    | 16 => rfl
    | 17 => rfl
    | 18 => rfl
    | 19 => rfl
    | 20 => rfl
    | 21 => rfl
    | 22 => rfl
    | 23 => rfl
    | 24 => rfl
    | 25 => rfl
    | 26 => rfl
    | 27 => rfl
    | 28 => rfl
    | k + 29 => rfl
theorem stP_z {G : Gx} {S T : Sd} {th : Int32} {o : Int64} {ex : Nat → Option (Nat × Nat)} {ad : Nat → Nat → Nat} {d k j : Nat} : ct G.2.1 (stP S d (5 * 0)) T th o ex ad k j = ct G.2.1 S T th o ex ad k j := by
  have h : stP S d (5 * 0) = S := by
    unfold stP
    rw [show (fun a b => if a = 1 ∧ b < 5 * 0 then S.2 1 b + S.2 0 (25 * d + b) else S.2 a b) = S.2 from by funext a b; exact if_neg (fun z => absurd z.2 (by omega))]
  rw [h]
/-- a day passes -/
def tck (S : Sd) (k9 : Nat) : Sd := (u2 (en S k9).1 0 0 ((en S k9).1 0 0 + 1), (en S k9).2)
def day1 (S : Sd) (k9 : Nat) : Sd := stP (tck S k9) ((en S k9).1 0 0 + 1).toNatClampNeg 25
def pd (S : Sd) (k9 : Nat) : Nat → Sd
  | 0 => S
  | k + 1 => day1 (pd S k9 k) k9
def pn (S : Sd) (k9 : Nat) : Nat → Nat
  | 0 => 0
  | k + 1 => pn S k9 k + enn (pd S k9 k) k9
theorem add1_toInt {x : Int32} (h0 : 0 ≤ x.toInt) (h1 : x.toInt ≤ 1000) : (x + 1).toInt = x.toInt + 1 := by
  rw [Int32.toInt_add, show (1 : Int32).toInt = 1 from rfl, show (x.toInt + 1).bmod (2 ^ 32) = x.toInt + 1 from Int.bmod_eq_of_le (by omega) (by omega)]
theorem tck_0 (S : Sd) (k9 : Nat) : (tck S k9).1 0 0 = S.1 0 0 + 1 := by
  show u2 (en S k9).1 0 0 ((en S k9).1 0 0 + 1) 0 0 = _
  rw [u2_s, en_k S 0 (by decide)]
theorem iv_tck {S : Sd} (h : Iv S) (k9 : Nat) (hd : (S.1 0 0).toInt + 1 ≤ 1000) : Iv (tck S k9) := by
  have he := h.en k9
  have h0 := h.1
  have e1 := add1_toInt h0.1 h0.2
  have hk : ∀ k, ¬ k = 0 → (tck S k9).1 k = (en S k9).1 k := fun k hk => by
    funext y
    exact u2_n (fun z => hk z.1)
  have hn : ndl (tck S k9) = ndl (en S k9) := by unfold ndl; rw [hk 5 (by decide)]
  have e0 : (en S k9).1 0 0 = S.1 0 0 := by rw [en_k S 0 (by decide)]
  obtain ⟨a, b, c, d, e⟩ := he
  refine ⟨by rw [tck_0, e1]; omega, by rw [hk 5 (by decide)]; exact b, fun j hj => ?_, fun y => by rw [hk 4 (by decide)]; exact d y, fun y => by rw [hk 3 (by decide)]; exact e y⟩
  rw [hn] at hj
  have hc := c j hj
  rw [e0] at hc
  rw [hk 6 (by decide), hk 7 (by decide), hk 8 (by decide), hk 9 (by decide), hk 12 (by decide), tck_0, e1]
  exact ⟨hc.1, hc.2.1, hc.2.2.1, hc.2.2.2.1, hc.2.2.2.2.1, by omega⟩
theorem iv_day1 {S : Sd} (h : Iv S) (k9 : Nat) (hd : (S.1 0 0).toInt + 1 ≤ 1000) : Iv (day1 S k9) := by
  obtain ⟨a, b, c, d, e⟩ := iv_tck h k9 hd
  exact ⟨a, b, c, d, fun y => e y⟩
theorem pd_0 (S : Sd) (k9 : Nat) (h0 : 0 ≤ (S.1 0 0).toInt) : ∀ k : Nat, (S.1 0 0).toInt + k ≤ 1000 → ((pd S k9 k).1 0 0).toInt = (S.1 0 0).toInt + k
  | 0, _ => by show (S.1 0 0).toInt = _; omega
  | k + 1, h => by
    have ih := pd_0 S k9 h0 k (by omega)
    show ((tck (pd S k9 k) k9).1 0 0).toInt = _
    rw [tck_0, add1_toInt (by omega) (by omega), ih]
    omega
theorem iv_pd {S : Sd} (h : Iv S) (k9 : Nat) : ∀ k : Nat, (S.1 0 0).toInt + k ≤ 1000 → Iv (pd S k9 k)
  | 0, _ => h
  | k + 1, hk => iv_day1 (iv_pd h k9 k (by omega)) k9 (by rw [pd_0 S k9 h.1.1 k (by omega)]; omega)
set_option maxHeartbeats 4000000 in
set_option maxRecDepth 100000 in
theorem c_X5_settleAll (l : Launch) (G : Gx) (M : Mp) (S T : Sd) (th : Int32) (o : Int64) (ex : Nat → Option (Nat × Nat)) (ad : Nat → Nat → Nat) (d : Int32) (hw : WA G S T th o ex ad M) (hi : Iv S) (hx9 : Ix S ex) (hd : 0 ≤ d ∧ d < 1002) : Met l yX5_settleAll wsX5_settleAll ({ frames := 4, cells := 0, slots := 0, locals := 88 }) (Cv G M [.ref (ad 0 0), .int d]) (va_Qv (S := Mp) (fun M2 => WA G (stP S d.toNatClampNeg 25) T th o ex ad M2) (Bm G (fun M2 => M2)) (AG G)) (0) (0) (AG G) := by
  refine m_met [.ref (ad 0 0), .int d] [(0, .ref (ad 0 0)), (1, .int d)] (by decide) rfl rfl (Nat.le_of_ble_eq_true rfl) ?_
  intro p e s m below meth c ls hx hb hr hml hown hts hlocks hin hC hM hl hS
  have f0 : M (ad 0 0) = some (.inr (5, [.ref (ad 1 0), .ref (ad 3 0), .ref (ad 5 0), .ref (ad 10 0), .int (S.1 5 0)])) := hw.1 0 0 _ rfl
  have f1 : M (ad 1 0) = some (.inr (1, [.ref (ad 2 0), .int (S.1 0 0)])) := hw.1 1 0 _ rfl
  have f2 : M (ad 2 0) = some (.inl (G.2.1 2, 1001, .inl (S.1 4))) := hw.1 2 0 _ rfl
  have f3 : M (ad 3 0) = some (.inl (G.2.1 3, 4, .inr (.inr (.inr (.inr (crr ad)))))) := hw.1 3 0 _ rfl
  have f5 : M (ad 5 0) = some (.inl (G.2.1 4, 5, .inr (.inr (.inr (.inr (csr ad)))))) := hw.1 5 0 _ rfl
  have f10 : M (ad 10 0) = some (.inl (G.2.1 6, 20, .inr (.inr (.inr (.inr (dlr S ad)))))) := hw.1 10 0 _ rfl
  refine lv_aload_n hx hb dX5_settleAll_0 rfl (lv_at hl 0 rfl) ?_
  refine m_get (ci := 5) (v := .ref (ad 5 0)) (C := RX5) (T := TX5) (N := 5) (a := (ad 0 0)) hx hb hts (by decide +kernel) hown hC hM f0 rfl 2 (by decide) (hts (.fieldLink RX5 27 "Forwardroll" "customers" "[LForwardroll$Customer;") (by decide +kernel)) (fun _ h9 => h9) rfl dX5_settleAll_1 ?_
  refine lv_astore_n (lv' := [(2, .ref (ad 5 0)), (0, .ref (ad 0 0)), (1, .int d)]) hx hb dX5_settleAll_4 rfl hl (by decide) rfl (fun ls hl => ?_)
  refine lv_aload_n hx hb dX5_settleAll_5 rfl (lv_at hl 0 rfl) ?_
  refine m_alen (a := (ad 5 0)) hx hb hC hM 4 rfl f5 (v := 5) rfl dX5_settleAll_6 ?_
  refine lv_istore_n (lv' := [(3, .int 5), (2, .ref (ad 5 0)), (0, .ref (ad 0 0)), (1, .int d)]) hx hb dX5_settleAll_7 rfl hl (by decide) rfl (fun ls hl => ?_)
  refine lv_iconst (v := 0) hx hb dX5_settleAll_8 (by decide) ?_
  refine lv_istore (lv' := [(4, .int 0), (3, .int 5), (2, .ref (ad 5 0)), (0, .ref (ad 0 0)), (1, .int d)]) hx hb dX5_settleAll_9 hl (by decide) rfl (fun ls hl => ?_)
  have loop : ∀ (n9 : Nat) (i9 : Nat) (M9 : Mp), i9 + n9 = 5 → WA G (stP S d.toNatClampNeg (5 * i9)) T th o ex ad M9 → ∀ ls : Array Slot, lv_has ls 6 [(0, .ref (ad 0 0)), (1, .int d), (2, .ref (ad 5 0)), (3, .int 5), (4, .int (nI i9))] → ∀ (H : Heap) (locs : List Loc), Hm G M9 H → va_S (AG G) s.heap H locs → W p l e { frames := 4, cells := 0, slots := 0, locals := 88 } s m ([.ref (ad 0 0), .int d] : List Value).toArray below meth c H locs (0) (0) (MQ below (va_Qv (S := Mp) (fun M2 => WA G (stP S d.toNatClampNeg 25) T th o ex ad M2) (Bm G (fun M2 => M2)) (AG G)) ([.ref (ad 0 0), .int d] : List Value).toArray s (0) (0) (AG G)) (F0 m 11 ls []) := by
    intro n9
    induction n9 with
    | zero =>
      intro i9 M9 hn hw9 ls hl H locs hM hS
      have f0_1 : M9 (ad 0 0) = some (.inr (5, [.ref (ad 1 0), .ref (ad 3 0), .ref (ad 5 0), .ref (ad 10 0), .int ((stP S d.toNatClampNeg (5 * i9)).1 5 0)])) := hw9.1 0 0 _ rfl
      have f1_1 : M9 (ad 1 0) = some (.inr (1, [.ref (ad 2 0), .int ((stP S d.toNatClampNeg (5 * i9)).1 0 0)])) := hw9.1 1 0 _ rfl
      have f2_1 : M9 (ad 2 0) = some (.inl (G.2.1 2, 1001, .inl ((stP S d.toNatClampNeg (5 * i9)).1 4))) := hw9.1 2 0 _ rfl
      have f3_1 : M9 (ad 3 0) = some (.inl (G.2.1 3, 4, .inr (.inr (.inr (.inr (crr ad)))))) := hw9.1 3 0 _ rfl
      have f5_1 : M9 (ad 5 0) = some (.inl (G.2.1 4, 5, .inr (.inr (.inr (.inr (csr ad)))))) := hw9.1 5 0 _ rfl
      have f10_1 : M9 (ad 10 0) = some (.inl (G.2.1 6, 20, .inr (.inr (.inr (.inr (dlr (stP S d.toNatClampNeg (5 * i9)) ad)))))) := hw9.1 10 0 _ rfl
      refine lv_iload hx hb dX5_settleAll_11 (lv_at hl 4 rfl) ?_
      refine lv_iload_n hx hb dX5_settleAll_13 rfl (lv_at hl 3 rfl) ?_
      refine lv_icmp_ge (tgt := 40) hx hb dX5_settleAll_14 (by decide) (fun c_14 => ?_) (fun c_14 => False.elim (by exact c_14 (nI_le (a := 5) (by omega) (by omega))))
      exact (r_v hx hb hr hlocks hS _ (by rw [show 25 = 5 * i9 by omega]; exact hw9) hM (Nat.le_of_ble_eq_true rfl) (Nat.le_of_ble_eq_true rfl) dX5_settleAll_40)
    | succ n9 ih =>
      intro i9 M9 hn hw9 ls hl H locs hM hS
      have f0_3 : M9 (ad 0 0) = some (.inr (5, [.ref (ad 1 0), .ref (ad 3 0), .ref (ad 5 0), .ref (ad 10 0), .int ((stP S d.toNatClampNeg (5 * i9)).1 5 0)])) := hw9.1 0 0 _ rfl
      have f1_3 : M9 (ad 1 0) = some (.inr (1, [.ref (ad 2 0), .int ((stP S d.toNatClampNeg (5 * i9)).1 0 0)])) := hw9.1 1 0 _ rfl
      have f2_3 : M9 (ad 2 0) = some (.inl (G.2.1 2, 1001, .inl ((stP S d.toNatClampNeg (5 * i9)).1 4))) := hw9.1 2 0 _ rfl
      have f3_3 : M9 (ad 3 0) = some (.inl (G.2.1 3, 4, .inr (.inr (.inr (.inr (crr ad)))))) := hw9.1 3 0 _ rfl
      have f5_3 : M9 (ad 5 0) = some (.inl (G.2.1 4, 5, .inr (.inr (.inr (.inr (csr ad)))))) := hw9.1 5 0 _ rfl
      have f10_3 : M9 (ad 10 0) = some (.inl (G.2.1 6, 20, .inr (.inr (.inr (.inr (dlr (stP S d.toNatClampNeg (5 * i9)) ad)))))) := hw9.1 10 0 _ rfl
      refine lv_iload hx hb dX5_settleAll_11 (lv_at hl 4 rfl) ?_
      refine lv_iload_n hx hb dX5_settleAll_13 rfl (lv_at hl 3 rfl) ?_
      refine lv_icmp_ge (tgt := 40) hx hb dX5_settleAll_14 (by decide) (fun c_14 => False.elim (by exact nI_ge (a := i9) (b := 5) (by omega) (by omega) c_14)) (fun c_14 => ?_)
      refine lv_aload_n hx hb dX5_settleAll_17 rfl (lv_at hl 2 rfl) ?_
      refine lv_iload hx hb dX5_settleAll_18 (lv_at hl 4 rfl) ?_
      refine m_aldq (a := (ad 5 0)) hx hb hC hM 4 rfl f5_3 (vp_in_nI (n := i9) (by omega) (by omega)) dX5_settleAll_20 ?_
      have ei : (nI i9).toNatClampNeg = i9 := nI_clamp (by omega)
      have h5 : i9 < 5 := by omega
      rw [ei, show csr ad i9 = some (ad 6 i9) from if_pos h5]
      have gs6 : M9 (ad 6 i9) = some (.inr (3, [.int (S.1 3 i9), .ref (ad 7 i9), .ref (ad 8 i9)])) := hw9.1 6 _ _ (ct6 h5)
      have gs7 : M9 (ad 7 i9) = some (.inl (G.2.1 5, 1002, .inr (.inr (.inr (.inr (ntr ex ad i9)))))) := hw9.1 7 _ _ (ct7 h5)
      have gs8 : M9 (ad 8 i9) = some (.inr (0, [.ref (ad 9 i9)])) := hw9.1 8 _ _ (ct8 h5)
      have gs9 : M9 (ad 9 i9) = some (.inl (G.2.1 1, 5, .inr (.inl (rw5 ((stP S d.toNatClampNeg (5 * i9)).2 1) i9)))) := hw9.1 9 _ _ (ct9 h5)
      have hrb : ∀ x9, rq (ntr ex ad i9) d 1002 = some x9 → M9 x9 = some (.inr (0, [.ref (adr ex ad 13 (5 * d.toNatClampNeg + i9))])) ∧ M9 (adr ex ad 13 (5 * d.toNatClampNeg + i9)) = some (.inl (G.2.1 1, 5, .inr (.inl (rw5 (S.2 0) (5 * d.toNatClampNeg + i9))))) ∧ adr ex ad 13 (5 * d.toNatClampNeg + i9) ≠ ad 9 i9 := fun x9 h9 => by
        have h8 := row_of hw9 (c := i9) (d := d.toNatClampNeg) x9 (rq_some h9)
        obtain ⟨q8, hq8, -⟩ := ntr_some (rq_some h9)
        exact ⟨h8.1, h8.2, hw9.ne (ct13 hq8) (ct9 h5) (fun z => absurd z.1 (by decide))⟩
      refine lv_astore (lv' := [(5, .ref (ad 6 i9)), (0, .ref (ad 0 0)), (1, .int d), (2, .ref (ad 5 0)), (3, .int 5), (4, .int (nI i9))]) hx hb dX5_settleAll_21 hl (by decide) rfl (fun ls hl => ?_)
      refine lv_aload hx hb dX5_settleAll_23 (lv_at hl 0 rfl) ?_
      refine lv_ifnull hx hb dX5_settleAll_25 ?_
      refine lv_aload hx hb dX5_settleAll_28 (lv_at hl 0 rfl) ?_
      refine lv_iload_n hx hb dX5_settleAll_30 rfl (lv_at hl 2 rfl) ?_
      refine k_v (va_runV (As := [.int d]) (rest := []) ⟨hx, hb, hml, hown, hts⟩ (c_X3_settle l G M9 (ad 6 i9) (S.1 3 i9) (ad 7 i9) (ad 8 i9) (ad 9 i9) (ntr ex ad i9) (rw5 ((stP S d.toNatClampNeg (5 * i9)).2 1) i9) d (fun _ => adr ex ad 13 (5 * d.toNatClampNeg + i9)) (rw5 (S.2 0) (5 * d.toNatClampNeg + i9)) gs6 gs7 gs8 gs9 hrb) (cwV 1 hts gX5_settleAll_X3_settle rfl rfl rfl (by decide +kernel) ⟨Nat.le_of_ble_eq_true rfl, Nat.le_of_ble_eq_true rfl⟩) (preV_of hC hS hM gs6 rfl) rfl rfl hl.1 rfl (lv_room (Nat.le_of_ble_eq_true rfl)) dX5_settleAll_31 ⟨Nat.le_of_ble_eq_true rfl, Nat.le_of_ble_eq_true rfl⟩) hS (fun u31 H locs hp31 hM hS => ?_)
      obtain ⟨M8, eM8⟩ : ∃ z, z = (if (rq (ntr ex ad i9) d 1002).isSome = true then va_up M9 (ad 9 i9) (some (.inl (G.2.1 1, 5, .inr (.inl (addrow (rw5 ((stP S d.toNatClampNeg (5 * i9)).2 1) i9) (rw5 (S.2 0) (5 * d.toNatClampNeg + i9))))))) else M9) := ⟨_, rfl⟩
      have hw8 := w_settle hw9 hx9 h5 hd
      rw [← eM8] at hw8
      have hM : Hm G M8 H := by rw [eM8]; exact hM
      refine lv_iinc (v := ((nI i9) + 1)) (lv' := [(4, .int ((nI i9) + 1)), (5, .ref (ad 6 i9)), (0, .ref (ad 0 0)), (1, .int d), (2, .ref (ad 5 0)), (3, .int 5)]) hx hb dX5_settleAll_34 hl (k := 5) rfl rfl (by decide) rfl (fun ls hl => ?_)
      refine lv_goto (tgt := 11) hx hb dX5_settleAll_37 (by decide) ?_
      rw [show nI i9 + 1 = nI (i9 + 1) from nI_1 i9] at hl
      exact ih (i9 + 1) M8 (by omega) hw8 ls (lv_sub hl [2, 3, 4, 5, 0] rfl) _ _ hM hS
  exact loop 5 0 M rfl (hw.same (fun k j => stP_z)) ls (lv_sub hl [3, 4, 2, 1, 0] rfl) _ _ hM hS
