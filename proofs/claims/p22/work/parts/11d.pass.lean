theorem pd_t {S : Sd} (hi : Iv S) (k9 : Nat) {k : Nat} (h : tdy S + k ≤ 1000) : tdy (pd S k9 k) = tdy S + k := by
  have e := tdy_int hi
  have h1 := pd_0 S k9 hi.1.1 k (by omega)
  unfold tdy at e h ⊢
  rw [Int32.toNatClampNeg, h1]
  omega
theorem day1_5 (S : Sd) (k9 : Nat) : (day1 S k9).1 5 0 = S.1 5 0 := by
  show u2 (en S k9).1 0 0 ((en S k9).1 0 0 + 1) 5 0 = _
  rw [u2r (by decide), en_k S 5 (by decide)]
theorem pd_nd (S : Sd) (k9 : Nat) : ∀ k, ndl (pd S k9 k) = ndl S
  | 0 => rfl
  | k + 1 => by
    rw [← pd_nd S k9 k]
    show ndl (day1 (pd S k9 k) k9) = _
    unfold ndl
    rw [day1_5]
theorem rl_mg0 {S T : Sd} {j : Nat} (hR : Rel S T) (hi : Iv S) (hj : j < ndl S) (h : T.1 17 j = T.1 22 0) : gnT T j (T.1 19 (cuy S j)) = mg S j := by
  have h1 := (rl_j hR hj).1.2
  have e1 := (hR.2.1 (cuy S j) h1).1.1
  have e2 := (hR.2.1 (cuy S j) h1).2.1.1
  have e3 : S.1 12 j - S.1 0 0 = 0 := by
    rw [← (rl_j hR hj).2.2.2.2.1, h, hR.1.1]
    exact Int32.sub_self _
  have e4 : mr S j = S.1 1 (cuy S j) := by
    unfold mr
    rw [e3, Int32.mul_zero, Int32.add_zero]
    exact al1_id e2
  rw [e1, rl_gn hR hi hj]
  unfold mg
  rw [e4]
/-- the first i of six slots are moved to the balances -/
def clT (T : Sd) (x i : Nat) : Sd := (T.1, fun a b => if a = 1 ∧ b < i then T.2 1 b + T.2 0 (6 * x + b) else if a = 0 ∧ 6 * x ≤ b ∧ b < 6 * x + i then 0 else T.2 a b)
theorem clT_1 (T : Sd) (x i b : Nat) : (clT T x i).2 1 b = if b < i then T.2 1 b + T.2 0 (6 * x + b) else T.2 1 b := by
  show (if 1 = 1 ∧ b < i then T.2 1 b + T.2 0 (6 * x + b) else if 1 = 0 ∧ 6 * x ≤ b ∧ b < 6 * x + i then 0 else T.2 1 b) = _
  by_cases h : b < i
  · rw [if_pos ⟨rfl, h⟩, if_pos h]
  · rw [if_neg (fun z => h z.2), if_neg (fun z => absurd z.1 (by decide)), if_neg h]
theorem clT_0 (T : Sd) (x i b : Nat) : (clT T x i).2 0 b = if 6 * x ≤ b ∧ b < 6 * x + i then 0 else T.2 0 b := by
  show (if 0 = 1 ∧ b < i then T.2 1 b + T.2 0 (6 * x + b) else if 0 = 0 ∧ 6 * x ≤ b ∧ b < 6 * x + i then 0 else T.2 0 b) = _
  rw [if_neg (fun z => absurd z.1 (by decide))]
  by_cases h : 6 * x ≤ b ∧ b < 6 * x + i
  · rw [if_pos ⟨rfl, h⟩, if_pos h]
  · rw [if_neg (fun z => h z.2), if_neg h]
theorem clT_z (T : Sd) (x : Nat) : clT T x 0 = T := by
  have e : (fun a b => if a = 1 ∧ b < 0 then T.2 1 b + T.2 0 (6 * x + b) else if a = 0 ∧ 6 * x ≤ b ∧ b < 6 * x + 0 then 0 else T.2 a b) = T.2 := by
    funext a b
    rw [if_neg (fun z => absurd z.2 (by omega)), if_neg (by omega)]
  show (T.1, (fun a b => if a = 1 ∧ b < 0 then T.2 1 b + T.2 0 (6 * x + b) else if a = 0 ∧ 6 * x ≤ b ∧ b < 6 * x + 0 then 0 else T.2 a b)) = T
  rw [e]
theorem clT_s {T T1 T2 : Sd} {x k : Nat} (e1 : T1 = ((clT T x k).1, u2 (clT T x k).2 1 k ((clT T x k).2 1 k + (clT T x k).2 0 (6 * x + k)))) (e2 : T2 = (T1.1, u2 T1.2 0 (6 * x + k) 0)) : T2 = clT T x (k + 1) := by
  subst e1
  subst e2
  have h : u2 (u2 (clT T x k).2 1 k ((clT T x k).2 1 k + (clT T x k).2 0 (6 * x + k))) 0 (6 * x + k) 0 = (clT T x (k + 1)).2 := by
    funext a b
    by_cases ha1 : a = 1
    · subst ha1
      rw [u2_n (f := u2 (clT T x k).2 1 k ((clT T x k).2 1 k + (clT T x k).2 0 (6 * x + k))) (by omega), clT_1]
      by_cases hb : b = k
      · subst hb
        rw [u2_s, clT_1, clT_0, if_neg (by omega), if_neg (by omega), if_pos (by omega)]
      · rw [u2_n (by omega), clT_1, clT_1]
        by_cases hk : b < k
        · rw [if_pos hk, if_pos (by omega)]
        · rw [if_neg hk, if_neg (by omega)]
    · by_cases ha0 : a = 0
      · subst ha0
        by_cases hb : b = 6 * x + k
        · subst hb
          rw [u2_s, clT_0, if_pos (by omega)]
        · rw [u2_n (by omega), u2_n (by omega), clT_0, clT_0]
          by_cases hk : 6 * x ≤ b ∧ b < 6 * x + k
          · rw [if_pos hk, if_pos (by omega)]
          · rw [if_neg hk, if_neg (by omega)]
      · rw [u2_n (fun z => ha0 z.1), u2_n (fun z => ha1 z.1)]
        show (if a = 1 ∧ b < k then T.2 1 b + T.2 0 (6 * x + b) else if a = 0 ∧ 6 * x ≤ b ∧ b < 6 * x + k then 0 else T.2 a b) = (if a = 1 ∧ b < k + 1 then T.2 1 b + T.2 0 (6 * x + b) else if a = 0 ∧ 6 * x ≤ b ∧ b < 6 * x + (k + 1) then 0 else T.2 a b)
        rw [if_neg (fun z => ha1 z.1), if_neg (fun z => ha0 z.1), if_neg (fun z => ha1 z.1), if_neg (fun z => ha0 z.1)]
  show ((clT T x k).1, u2 (u2 (clT T x k).2 1 k ((clT T x k).2 1 k + (clT T x k).2 0 (6 * x + k))) 0 (6 * x + k) 0) = clT T x (k + 1)
  rw [h]
  rfl
theorem e6_i (a k : Nat) : (6 : Int32) * nI a + nI k = nI (6 * a + k) := by
  show nI 6 * nI a + nI k = _
  rw [pk_mul, nI_add]
set_option maxHeartbeats 4000000 in
set_option maxRecDepth 100000 in
theorem c_L_passes {l : Launch} (hnt : l.stackTraces = false) (l' : Launch) (G : Gx) (M : Mp) (S T : Sd) (th : Int32) (o : Int64) (ex : Nat → Option (Nat × Nat)) (ad : Nat → Nat → Nat) (k9 : Nat) (hk9 : k9 = 20) (dy : Nat) (hd1 : 1 ≤ dy) (hd2 : dy ≤ 30) (hw : WA G S T th o ex ad M) (hi : Iv S) (hx9 : Ix S ex) (hR : Rel S T) : Met l yL_passes wsL_passes ({ frames := 9, cells := 168, slots := 528, locals := 202 }) (Cv G M [.ref (ad 0 0), .int (nI dy), .ref (ad 14 0), .ref (ad 15 0), .ref (ad 17 0), .ref (ad 18 0), .ref (ad 19 0), .ref (ad 20 0), .ref (ad 21 0), .ref (ad 22 0)]) (va_Qi (S := Mp) (fun r M2 => r = 1 ∧ Nx G th o ad M2) (Bm G (fun M2 => M2)) (AG G)) (168) (528) (AG G) := by
  refine m_met [.ref (ad 0 0), .int (nI dy), .ref (ad 14 0), .ref (ad 15 0), .ref (ad 17 0), .ref (ad 18 0), .ref (ad 19 0), .ref (ad 20 0), .ref (ad 21 0), .ref (ad 22 0)] [(0, .ref (ad 0 0)), (1, .int (nI dy)), (2, .ref (ad 14 0)), (3, .ref (ad 15 0)), (4, .ref (ad 17 0)), (5, .ref (ad 18 0)), (6, .ref (ad 19 0)), (7, .ref (ad 20 0)), (8, .ref (ad 21 0)), (9, .ref (ad 22 0))] (by decide) rfl rfl (Nat.le_of_ble_eq_true rfl) ?_
  intro p e s m below meth c ls hx hb hr hml hown hts hlocks hin hC hM hl hS
  have hG0 : T.1 22 0 = nI (tdy S) := hR.1.1.trans (tdy_i hi)
  have hnd := hi.nd
  have ht9 := tdy_le hi
  have hdy : 1 ≤ nI dy ∧ nI dy ≤ 100 := rg_n (a := 1) (b := 100) hd1 (by omega) (by decide)
  refine lv_aload_n hx hb dL_passes_0 rfl (lv_at hl 0 rfl) ?_
  refine lv_iconst (v := 0) hx hb dL_passes_1 (by decide) ?_
  refine k_i (vx_runSW (As := [.ref (ad 0 0), .int 0]) (rest := []) ⟨hx, hb, hml, hown, hts⟩ (c_L_pass hnt l G M S T th o ex ad k9 hk9 0 hw hi hx9) (vx_cwSW 2 hts gL_passes_L_pass rfl rfl rfl (by decide +kernel) ⟨Nat.le_of_ble_eq_true rfl, Nat.le_of_ble_eq_true rfl⟩) (preS_of hC hS hM) rfl rfl hl.1 rfl (lv_room (Nat.le_of_ble_eq_true rfl)) dL_passes_2 ⟨Nat.le_of_ble_eq_true rfl, Nat.le_of_ble_eq_true rfl⟩) hS (fun r2 us2 H locs hp2 hM hS => ?_)
  have hq2 : r2 = (-2000000072) ∧ us2 = M := by
    rcases hp2 with h | h | h
    · exact ⟨h.1, h.2.2⟩
    · exact False.elim (absurd h.2.1.1 (by decide))
    · exact False.elim (absurd h.2.1.1 (by decide))
  have hM : Hm G us2 H := hM
  obtain ⟨eq2, em2⟩ := hq2
  rw [em2] at hM
  subst eq2
  refine lv_ldc (own := RL) (v := (-2000000072)) hx hb hown (hts (.constant RL 19 (-2000000072)) (by decide +kernel)) dL_passes_5 ?_
  refine lv_icmp_ne (tgt := 48) hx hb dL_passes_7 (by decide) (fun c_7 => False.elim (by revert c_7; decide)) (fun c_7 => ?_)
  refine lv_aload_n hx hb dL_passes_10 rfl (lv_at hl 0 rfl) ?_
  refine lv_bipush (v := 101) hx hb dL_passes_11 (by decide) ?_
  refine k_i (vx_runSW (As := [.ref (ad 0 0), .int 101]) (rest := []) ⟨hx, hb, hml, hown, hts⟩ (c_L_pass hnt l G M S T th o ex ad k9 hk9 101 hw hi hx9) (vx_cwSW 2 hts gL_passes_L_pass rfl rfl rfl (by decide +kernel) ⟨Nat.le_of_ble_eq_true rfl, Nat.le_of_ble_eq_true rfl⟩) (preS_of hC hS hM) rfl rfl hl.1 rfl (lv_room (Nat.le_of_ble_eq_true rfl)) dL_passes_13 ⟨Nat.le_of_ble_eq_true rfl, Nat.le_of_ble_eq_true rfl⟩) hS (fun r13 us13 H locs hp13 hM hS => ?_)
  have hq13 : r13 = (-2000000072) ∧ us13 = M := by
    rcases hp13 with h | h | h
    · exact ⟨h.1, h.2.2⟩
    · exact False.elim (absurd h.2.1.1 (by decide))
    · exact False.elim (absurd h.2.1.1 (by decide))
  have hM : Hm G us13 H := hM
  obtain ⟨eq13, em13⟩ := hq13
  rw [em13] at hM
  subst eq13
  refine lv_ldc (own := RL) (v := (-2000000072)) hx hb hown (hts (.constant RL 19 (-2000000072)) (by decide +kernel)) dL_passes_16 ?_
  refine lv_icmp_ne (tgt := 48) hx hb dL_passes_18 (by decide) (fun c_18 => False.elim (by revert c_18; decide)) (fun c_18 => ?_)
  have j50 : ∀ (ls : Array Slot), lv_has ls 13 [(0, .ref (ad 0 0)), (1, .int (nI dy)), (2, .ref (ad 14 0)), (3, .ref (ad 15 0)), (4, .ref (ad 17 0)), (5, .ref (ad 18 0)), (6, .ref (ad 19 0)), (7, .ref (ad 20 0)), (8, .ref (ad 21 0)), (9, .ref (ad 22 0))] → ∀ (H : Heap) (locs : List Loc), Hm G M H → va_S (AG G) s.heap H locs → W p l e { frames := 9, cells := 168, slots := 528, locals := 202 } s m ([.ref (ad 0 0), .int (nI dy), .ref (ad 14 0), .ref (ad 15 0), .ref (ad 17 0), .ref (ad 18 0), .ref (ad 19 0), .ref (ad 20 0), .ref (ad 21 0), .ref (ad 22 0)] : List Value).toArray below meth c H locs (126) (396) (MQ below (va_Qi (S := Mp) (fun r M2 => r = 1 ∧ Nx G th o ad M2) (Bm G (fun M2 => M2)) (AG G)) ([.ref (ad 0 0), .int (nI dy), .ref (ad 14 0), .ref (ad 15 0), .ref (ad 17 0), .ref (ad 18 0), .ref (ad 19 0), .ref (ad 20 0), .ref (ad 21 0), .ref (ad 22 0)] : List Value).toArray s (168) (528) (AG G)) (F0 m 50 ls []) := by
    intro   ls hl H locs hM hS
    refine lv_aload hx hb dL_passes_50 (lv_at hl 9 rfl) ?_
    refine lv_iconst (v := 0) hx hb dL_passes_52 (by decide) ?_
    refine k_iald (a := (ad 22 0)) hx hb hC hM (qa22 hw) 0 (ix_lit (rfl : (0 : Int32) = nI 0) (by decide) (by decide)) dL_passes_53 ?_
    rw [hG0]
    refine lv_iload_n hx hb dL_passes_54 rfl (lv_at hl 1 rfl) ?_
    refine lv_iadd hx hb dL_passes_55 ?_
    rw [nI_add]
    refine lv_sipush (v := 1000) hx hb dL_passes_56 (by decide) ?_
    refine lv_icmp_le (tgt := 78) hx hb dL_passes_59 (by decide) (fun c_59 => ?_) (fun c_59 => ?_)
    · have hdl : tdy S + dy ≤ 1000 := (nI_leI (b := 1000) (by omega) (by decide)).mp c_59
      refine lv_iconst (v := 0) hx hb dL_passes_78 (by decide) ?_
      refine lv_istore (lv' := [(10, .int 0), (0, .ref (ad 0 0)), (1, .int (nI dy)), (2, .ref (ad 14 0)), (3, .ref (ad 15 0)), (4, .ref (ad 17 0)), (5, .ref (ad 18 0)), (6, .ref (ad 19 0)), (7, .ref (ad 20 0)), (8, .ref (ad 21 0)), (9, .ref (ad 22 0))]) hx hb dL_passes_79 hl (by decide) rfl (fun ls hl => ?_)
      refine lv_iconst (v := 0) hx hb dL_passes_81 (by decide) ?_
      refine lv_istore (lv' := [(11, .int 0), (10, .int 0), (0, .ref (ad 0 0)), (1, .int (nI dy)), (2, .ref (ad 14 0)), (3, .ref (ad 15 0)), (4, .ref (ad 17 0)), (5, .ref (ad 18 0)), (6, .ref (ad 19 0)), (7, .ref (ad 20 0)), (8, .ref (ad 21 0)), (9, .ref (ad 22 0))]) hx hb dL_passes_82 hl (by decide) rfl (fun ls hl => ?_)
      have days : ∀ (n_days : Nat) (i9 : Nat) (T9 : Sd) (M9 : Mp), (i9 + n_days = dy) → (WA G S T9 th o ex ad M9) → (Rel (pd S k9 i9) T9) → ∀ ls : Array Slot, lv_has ls 13 [(0, .ref (ad 0 0)), (1, .int (nI dy)), (2, .ref (ad 14 0)), (3, .ref (ad 15 0)), (4, .ref (ad 17 0)), (5, .ref (ad 18 0)), (6, .ref (ad 19 0)), (7, .ref (ad 20 0)), (8, .ref (ad 21 0)), (9, .ref (ad 22 0)), (10, .int (nI (pn S k9 i9))), (11, .int (nI i9))] → ∀ (H : Heap) (locs : List Loc), Hm G M9 H → va_S (AG G) s.heap H locs → W p l e { frames := 9, cells := 168, slots := 528, locals := 202 } s m ([.ref (ad 0 0), .int (nI dy), .ref (ad 14 0), .ref (ad 15 0), .ref (ad 17 0), .ref (ad 18 0), .ref (ad 19 0), .ref (ad 20 0), .ref (ad 21 0), .ref (ad 22 0)] : List Value).toArray below meth c H locs (126) (396) (MQ below (va_Qi (S := Mp) (fun r M2 => r = 1 ∧ Nx G th o ad M2) (Bm G (fun M2 => M2)) (AG G)) ([.ref (ad 0 0), .int (nI dy), .ref (ad 14 0), .ref (ad 15 0), .ref (ad 17 0), .ref (ad 18 0), .ref (ad 19 0), .ref (ad 20 0), .ref (ad 21 0), .ref (ad 22 0)] : List Value).toArray s (168) (528) (AG G)) (F0 m 84 ls []) := by
        intro n_days
        induction n_days with
        | zero =>
          intro i9 T9 M9 h9 hw9 hR9 ls hl H locs hM hS
          have hi9 : Iv (pd S k9 i9) := iv_pd hi k9 i9 (by rw [tdy_int hi]; omega)
          have hn9 : ndl (pd S k9 i9) = ndl S := pd_nd S k9 i9
          have ht8 : tdy (pd S k9 i9) = tdy S + i9 := pd_t hi k9 (by omega)
          refine lv_iload hx hb dL_passes_84 (lv_at hl 11 rfl) ?_
          refine lv_iload_n hx hb dL_passes_86 rfl (lv_at hl 1 rfl) ?_
          refine lv_icmp_ge (tgt := 260) hx hb dL_passes_87 (by decide) (fun c_87 => ?_) (fun c_87 => False.elim (by exact c_87 (nI_le (a := dy) (by omega) (by omega))))
          refine lv_aload_n hx hb dL_passes_260 rfl (lv_at hl 0 rfl) ?_
          refine lv_iload_n hx hb dL_passes_261 rfl (lv_at hl 1 rfl) ?_
          refine k_i (vx_runSW (As := [.ref (ad 0 0), .int (nI dy)]) (rest := []) ⟨hx, hb, hml, hown, hts⟩ (c_L_pass hnt l G M9 S T9 th o ex ad k9 hk9 (nI dy) hw9 hi hx9) (vx_cwSW 2 hts gL_passes_L_pass rfl rfl rfl (by decide +kernel) ⟨Nat.le_of_ble_eq_true rfl, Nat.le_of_ble_eq_true rfl⟩) (preS_of hC hS hM) rfl rfl hl.1 rfl (lv_room (Nat.le_of_ble_eq_true rfl)) dL_passes_262 ⟨Nat.le_of_ble_eq_true rfl, Nat.le_of_ble_eq_true rfl⟩) hS (fun r262 us262 H locs hp262 hM hS => ?_)
          rw [nI_clamp (show dy < 2 ^ 31 by omega)] at hp262
          have hq262 : r262 = nI (pn S k9 dy) ∧ ∃ ex2, WA G (pd S k9 dy) T9 th o ex2 ad us262 ∧ Ix (pd S k9 dy) ex2 := by
            rcases hp262 with h | h | h
            · exact False.elim (absurd hdy h.2.1)
            · exact False.elim (absurd (by rw [tdy_i hi, nI_add]; exact nI_le (b := 1000) hdl (by decide)) h.2.1.2)
            · exact ⟨h.1, h.2.2⟩
          have hM : Hm G us262 H := hM
          obtain ⟨eq262, exc262, hwc262, hxc262⟩ := hq262
          subst eq262
          refine lv_iload hx hb dL_passes_265 (lv_at hl 10 rfl) ?_
          refine lv_icmp_ne (tgt := 274) hx hb dL_passes_267 (by decide) (fun c_267 => False.elim (by exact c_267 (by rw [show i9 = dy by omega]))) (fun c_267 => ?_)
          refine lv_iconst (v := 1) hx hb dL_passes_270 (by decide) ?_
          refine lv_goto (tgt := 275) hx hb dL_passes_271 (by decide) ?_
          exact (r_z hx hb hr hlocks hS (v := 1) (by simp) _ ⟨rfl, (pd S k9 dy), T9, exc262, ad, hwc262, iv_pd hi k9 dy (by rw [tdy_int hi]; omega), hxc262, by rw [show dy = i9 by omega]; exact hR9, fun _ _ => rfl⟩ hM (Nat.le_of_ble_eq_true rfl) (Nat.le_of_ble_eq_true rfl) dL_passes_275)
        | succ n_days ih_days =>
          intro i9 T9 M9 h9 hw9 hR9 ls hl H locs hM hS
          have hi9 : Iv (pd S k9 i9) := iv_pd hi k9 i9 (by rw [tdy_int hi]; omega)
          have hn9 : ndl (pd S k9 i9) = ndl S := pd_nd S k9 i9
          have ht8 : tdy (pd S k9 i9) = tdy S + i9 := pd_t hi k9 (by omega)
          refine lv_iload hx hb dL_passes_84 (lv_at hl 11 rfl) ?_
          refine lv_iload_n hx hb dL_passes_86 rfl (lv_at hl 1 rfl) ?_
          refine lv_icmp_ge (tgt := 260) hx hb dL_passes_87 (by decide) (fun c_87 => False.elim (by exact nI_ge (a := i9) (b := dy) (by omega) (by omega) c_87)) (fun c_87 => ?_)
          refine lv_iconst (v := 0) hx hb dL_passes_90 (by decide) ?_
          refine lv_istore (lv' := [(12, .int 0), (0, .ref (ad 0 0)), (1, .int (nI dy)), (2, .ref (ad 14 0)), (3, .ref (ad 15 0)), (4, .ref (ad 17 0)), (5, .ref (ad 18 0)), (6, .ref (ad 19 0)), (7, .ref (ad 20 0)), (8, .ref (ad 21 0)), (9, .ref (ad 22 0)), (10, .int (nI (pn S k9 i9))), (11, .int (nI i9))]) hx hb dL_passes_91 hl (by decide) rfl (fun ls hl => ?_)
          have deal : ∀ (n_deal : Nat) (k8 : Nat) (T8 : Sd) (M8 : Mp), (k8 + n_deal = ndl S) → (WA G S T8 th o ex ad M8) → (Rel (en (pd S k9 i9) k8) T8) → ∀ ls : Array Slot, lv_has ls 13 [(0, .ref (ad 0 0)), (1, .int (nI dy)), (2, .ref (ad 14 0)), (3, .ref (ad 15 0)), (4, .ref (ad 17 0)), (5, .ref (ad 18 0)), (6, .ref (ad 19 0)), (7, .ref (ad 20 0)), (8, .ref (ad 21 0)), (9, .ref (ad 22 0)), (10, .int (nI (pn S k9 i9 + enn (pd S k9 i9) k8))), (11, .int (nI i9)), (12, .int (nI k8))] → ∀ (H : Heap) (locs : List Loc), Hm G M8 H → va_S (AG G) s.heap H locs → W p l e { frames := 9, cells := 168, slots := 528, locals := 202 } s m ([.ref (ad 0 0), .int (nI dy), .ref (ad 14 0), .ref (ad 15 0), .ref (ad 17 0), .ref (ad 18 0), .ref (ad 19 0), .ref (ad 20 0), .ref (ad 21 0), .ref (ad 22 0)] : List Value).toArray below meth c H locs (126) (396) (MQ below (va_Qi (S := Mp) (fun r M2 => r = 1 ∧ Nx G th o ad M2) (Bm G (fun M2 => M2)) (AG G)) ([.ref (ad 0 0), .int (nI dy), .ref (ad 14 0), .ref (ad 15 0), .ref (ad 17 0), .ref (ad 18 0), .ref (ad 19 0), .ref (ad 20 0), .ref (ad 21 0), .ref (ad 22 0)] : List Value).toArray s (168) (528) (AG G)) (F0 m 93 ls []) := by
            intro n_deal
            induction n_deal with
            | zero =>
              intro k8 T8 M8 h8 hw8 hR8 ls hl H locs hM hS
              have hi8 : Iv (en (pd S k9 i9) k8) := hi9.en k8
              have hn8 : ndl (en (pd S k9 i9) k8) = ndl S := (en_nd _ _).trans hn9
              have hg8 : T8.1 22 1 = nI (ndl S) := hR8.1.2.trans (by rw [ndl_i hi8, hn8])
              have hTg8 := rl_tg hR8 hi8
              refine lv_iload hx hb dL_passes_93 (lv_at hl 12 rfl) ?_
              refine lv_aload hx hb dL_passes_95 (lv_at hl 9 rfl) ?_
              refine lv_iconst (v := 1) hx hb dL_passes_97 (by decide) ?_
              refine k_iald (a := (ad 22 0)) hx hb hC hM (qa22 hw8) 1 (ix_lit (rfl : (1 : Int32) = nI 1) (by decide) (by decide)) dL_passes_98 ?_
              rw [hg8]
              refine lv_icmp_ge (tgt := 172) hx hb dL_passes_99 (by decide) (fun c_99 => ?_) (fun c_99 => False.elim (by exact c_99 (nI_le (a := ndl S) (by omega) (by omega))))
              have ek8 : (en (pd S k9 i9) k8) = (en (pd S k9 i9) k9) := by rw [show k8 = ndl (pd S k9 i9) by omega]; exact ((en_st (pd S k9 i9) k9 (by omega)).1).symm
              have hRe : Rel (en (pd S k9 i9) k9) T8 := by rw [← ek8]; exact hR8
              have hie : Iv (en (pd S k9 i9) k9) := hi9.en k9
              have hte : (en (pd S k9 i9) k9).1 0 0 = nI (tdy S + i9) := by rw [en_k (pd S k9 i9) 0 (by decide), tdy_i hi9, ht8]
              have hEt : tdy (en (pd S k9 i9) k9) + 1 = tdy S + i9 + 1 := by unfold tdy; rw [hte, nI_clamp (by omega)]; rfl
              have hg0 : T8.1 22 0 = nI (tdy S + i9) := hRe.1.1.trans hte
              have hg2 : T8.1 22 2 = nI (wT T8) := hRe.2.2.2.1.1
              have hw10 : wT T8 < 1024 := hRe.2.2.2.1.2.1.1
              refine lv_aload hx hb dL_passes_172 (lv_at hl 9 rfl) ?_
              refine lv_iconst (v := 0) hx hb dL_passes_174 (by decide) ?_
              refine lv_dup2_11 hx hb dL_passes_175 rfl rfl ?_
              refine k_iald (a := (ad 22 0)) hx hb hC hM (qa22 hw8) 0 (ix_lit (rfl : (0 : Int32) = nI 0) (by decide) (by decide)) dL_passes_176 ?_
              rw [hg0]
              refine lv_iconst (v := 1) hx hb dL_passes_177 (by decide) ?_
              refine lv_iadd hx hb dL_passes_178 ?_
              refine k_iast (a := (ad 22 0)) hx hb hC hM hS (qa22 hw8) 0 (ix_lit (rfl : (0 : Int32) = nI 0) (by decide) (by decide)) dL_passes_179 (fun H locs hM hS => ?_)
              obtain ⟨Ta1, Ma1, ea1, ha1, hM⟩ := qs22 hw8 hM
              refine lv_aload hx hb dL_passes_180 (lv_at hl 9 rfl) ?_
              refine lv_iconst (v := 2) hx hb dL_passes_182 (by decide) ?_
              refine lv_dup2_11 hx hb dL_passes_183 rfl rfl ?_
              refine k_iald (a := (ad 22 0)) hx hb hC hM (qa22 ha1) 2 (ix_lit (rfl : (2 : Int32) = nI 2) (by decide) (by decide)) dL_passes_184 ?_
              rw [show Ta1.1 22 2 = (nI (wT T8)) from ((e1_n ea1 (by omega))).trans hg2]
              refine lv_iconst (v := 1) hx hb dL_passes_185 (by decide) ?_
              refine lv_ishr hx hb dL_passes_186 ?_
              refine k_iast (a := (ad 22 0)) hx hb hC hM hS (qa22 ha1) 2 (ix_lit (rfl : (2 : Int32) = nI 2) (by decide) (by decide)) dL_passes_187 (fun H locs hM hS => ?_)
              obtain ⟨Ta2, Ma2, ea2, ha2, hM⟩ := qs22 ha1 hM
              refine lv_aload hx hb dL_passes_188 (lv_at hl 9 rfl) ?_
              refine lv_iconst (v := 2) hx hb dL_passes_190 (by decide) ?_
              refine lv_dup2_11 hx hb dL_passes_191 rfl rfl ?_
              refine k_iald (a := (ad 22 0)) hx hb hC hM (qa22 ha2) 2 (ix_lit (rfl : (2 : Int32) = nI 2) (by decide) (by decide)) dL_passes_192 ?_
              rw [show Ta2.1 22 2 = nI (wT T8) >>> ((1 : Int32) &&& 31) from e1_s ea2]
              refine lv_bipush (v := (-2)) hx hb dL_passes_193 (by decide) ?_
              refine lv_iand hx hb dL_passes_195 ?_
              rw [sw_int _ hw10]
              refine k_iast (a := (ad 22 0)) hx hb hC hM hS (qa22 ha2) 2 (ix_lit (rfl : (2 : Int32) = nI 2) (by decide) (by decide)) dL_passes_196 (fun H locs hM hS => ?_)
              obtain ⟨Ta3, Ma3, ea3, ha3, hM⟩ := qs22 ha2 hM
              have e0 : Ta3.1 22 0 = nI (tdy S + i9) + 1 := (e1_n ea3 (by omega)).trans ((e1_n ea2 (by omega)).trans (e1_s ea1))
              have e01 : Ta3.1 22 0 = nI (tdy S + i9 + 1) := e0.trans (nI_1 _)
              refine lv_iconst (v := 0) hx hb dL_passes_197 (by decide) ?_
              refine lv_istore (lv' := [(12, .int 0), (0, .ref (ad 0 0)), (1, .int (nI dy)), (2, .ref (ad 14 0)), (3, .ref (ad 15 0)), (4, .ref (ad 17 0)), (5, .ref (ad 18 0)), (6, .ref (ad 19 0)), (7, .ref (ad 20 0)), (8, .ref (ad 21 0)), (9, .ref (ad 22 0)), (10, .int (nI (pn S k9 i9 + enn (pd S k9 i9) k8))), (11, .int (nI i9))]) hx hb dL_passes_198 hl (by decide) rfl (fun ls hl => ?_)
              have six : ∀ (n_six : Nat) (k7 : Nat) (M7 : Mp), (k7 + n_six = 6) → (WA G S (clT Ta3 ((tdy S + i9 + 1) % 10) k7) th o ex ad M7) → ∀ ls : Array Slot, lv_has ls 13 [(0, .ref (ad 0 0)), (1, .int (nI dy)), (2, .ref (ad 14 0)), (3, .ref (ad 15 0)), (4, .ref (ad 17 0)), (5, .ref (ad 18 0)), (6, .ref (ad 19 0)), (7, .ref (ad 20 0)), (8, .ref (ad 21 0)), (9, .ref (ad 22 0)), (10, .int (nI (pn S k9 i9 + enn (pd S k9 i9) k8))), (11, .int (nI i9)), (12, .int (nI k7))] → ∀ (H : Heap) (locs : List Loc), Hm G M7 H → va_S (AG G) s.heap H locs → W p l e { frames := 9, cells := 168, slots := 528, locals := 202 } s m ([.ref (ad 0 0), .int (nI dy), .ref (ad 14 0), .ref (ad 15 0), .ref (ad 17 0), .ref (ad 18 0), .ref (ad 19 0), .ref (ad 20 0), .ref (ad 21 0), .ref (ad 22 0)] : List Value).toArray below meth c H locs (126) (396) (MQ below (va_Qi (S := Mp) (fun r M2 => r = 1 ∧ Nx G th o ad M2) (Bm G (fun M2 => M2)) (AG G)) ([.ref (ad 0 0), .int (nI dy), .ref (ad 14 0), .ref (ad 15 0), .ref (ad 17 0), .ref (ad 18 0), .ref (ad 19 0), .ref (ad 20 0), .ref (ad 21 0), .ref (ad 22 0)] : List Value).toArray s (168) (528) (AG G)) (F0 m 200 ls []) := by
                intro n_six
                induction n_six with
                | zero =>
                  intro k7 M7 h7 hw7 ls hl H locs hM hS
                  refine lv_iload hx hb dL_passes_200 (lv_at hl 12 rfl) ?_
                  refine lv_bipush (v := 6) hx hb dL_passes_202 (by decide) ?_
                  refine lv_icmp_ge (tgt := 254) hx hb dL_passes_204 (by decide) (fun c_204 => ?_) (fun c_204 => False.elim (by exact c_204 (nI_le (a := 6) (by omega) (by omega))))
                  refine lv_iinc (v := ((nI i9) + 1)) (lv' := [(11, .int ((nI i9) + 1)), (0, .ref (ad 0 0)), (1, .int (nI dy)), (2, .ref (ad 14 0)), (3, .ref (ad 15 0)), (4, .ref (ad 17 0)), (5, .ref (ad 18 0)), (6, .ref (ad 19 0)), (7, .ref (ad 20 0)), (8, .ref (ad 21 0)), (9, .ref (ad 22 0)), (10, .int (nI (pn S k9 i9 + enn (pd S k9 i9) k8))), (12, .int (nI k7))]) hx hb dL_passes_254 hl (k := 11) rfl rfl (by decide) rfl (fun ls hl => ?_)
                  refine lv_goto (tgt := 84) hx hb dL_passes_257 (by decide) ?_
                  have e6 : k7 = 6 := by omega
                  subst e6
                  have hRn : Rel (pd S k9 (i9 + 1)) (clT Ta3 ((tdy S + i9 + 1) % 10) 6) := by
                    refine rl_day (S := (en (pd S k9 i9) k9)) (T := T8) hRe hie (e0.trans (by rw [hte])) (show Ta3.1 22 1 = T8.1 22 1 from (e1_n ea3 (by omega)).trans ((e1_n ea2 (by omega)).trans (e1_n ea1 (by omega)))) (show Ta3.1 22 2 = nI (sw (wT T8)) from e1_s ea3) (fun k hk => show Ta3.1 k = T8.1 k from (e1_r ea3 hk).trans ((e1_r ea2 hk).trans (e1_r ea1 hk))) (fun c k hc hk => ?_) (fun c k hc hk => ?_) (fun x c k hx hxn hc hk => ?_)
                    · rw [clT_1, if_pos (by omega), hEt, show Ta3.2 = T8.2 from (e1_2 ea3).trans ((e1_2 ea2).trans (e1_2 ea1)), show 6 * ((tdy S + i9 + 1) % 10) + (3 * c + k) = 6 * ((tdy S + i9 + 1) % 10) + 3 * c + k by omega]
                    · rw [clT_0, hEt, if_pos (by omega)]
                    · rw [hEt] at hxn
                      rw [clT_0, if_neg (by omega), show Ta3.2 = T8.2 from (e1_2 ea3).trans ((e1_2 ea2).trans (e1_2 ea1))]
                  rw [show nI i9 + 1 = nI (i9 + 1) from nI_1 i9, show pn S k9 i9 + enn (pd S k9 i9) k8 = pn S k9 (i9 + 1) from by show _ = pn S k9 i9 + enn (pd S k9 i9) k9; rw [(en_st (pd S k9 i9) k9 (by omega)).2, show ndl (pd S k9 i9) = k8 by omega]] at hl
                  exact ih_days (i9 + 1) (clT Ta3 ((tdy S + i9 + 1) % 10) 6) M7 (by omega) hw7 hRn ls (lv_sub hl [1, 2, 3, 4, 5, 6, 7, 8, 9, 10, 11, 0] rfl) _ _ hM hS
                | succ n_six ih_six =>
                  intro k7 M7 h7 hw7 ls hl H locs hM hS
                  refine lv_iload hx hb dL_passes_200 (lv_at hl 12 rfl) ?_
                  refine lv_bipush (v := 6) hx hb dL_passes_202 (by decide) ?_
                  refine lv_icmp_ge (tgt := 254) hx hb dL_passes_204 (by decide) (fun c_204 => False.elim (by exact nI_ge (a := k7) (b := 6) (by omega) (by decide) c_204)) (fun c_204 => ?_)
                  refine lv_aload hx hb dL_passes_207 (lv_at hl 8 rfl) ?_
                  refine lv_iload hx hb dL_passes_209 (lv_at hl 12 rfl) ?_
                  refine lv_dup2_11 hx hb dL_passes_211 rfl rfl ?_
                  refine k_lald (a := (ad 21 0)) hx hb hC hM (qa21 hw7) k7 (ix_lit rfl (by omega) (by decide)) dL_passes_212 ?_
                  refine lv_aload hx hb dL_passes_213 (lv_at hl 7 rfl) ?_
                  refine lv_bipush (v := 6) hx hb dL_passes_215 (by decide) ?_
                  refine lv_aload hx hb dL_passes_217 (lv_at hl 9 rfl) ?_
                  refine lv_iconst (v := 0) hx hb dL_passes_219 (by decide) ?_
                  refine k_iald (a := (ad 22 0)) hx hb hC hM (qa22 hw7) 0 (ix_lit (rfl : (0 : Int32) = nI 0) (by decide) (by decide)) dL_passes_220 ?_
                  rw [show (clT Ta3 ((tdy S + i9 + 1) % 10) k7).1 22 0 = nI (tdy S + i9 + 1) from e01]
                  refine lv_bipush (v := 10) hx hb dL_passes_221 (by decide) ?_
                  refine lv_irem hx hb dL_passes_223 (by decide) ?_
                  rw [sn10 (tdy S + i9 + 1) (by omega)]
                  refine lv_imul hx hb dL_passes_224 ?_
                  refine lv_iload hx hb dL_passes_225 (lv_at hl 12 rfl) ?_
                  refine lv_iadd hx hb dL_passes_227 ?_
                  refine k_lald (a := (ad 20 0)) hx hb hC hM (qa20 hw7) (6 * ((tdy S + i9 + 1) % 10) + k7) (ix_lit (e6_i _ _) (by omega) (by decide)) dL_passes_228 ?_
                  refine lv_ladd hx hb dL_passes_229 ?_
                  refine k_last (a := (ad 21 0)) hx hb hC hM hS (qa21 hw7) k7 (ix_lit rfl (by omega) (by decide)) dL_passes_230 (fun H locs hM hS => ?_)
                  obtain ⟨Ta4, Ma4, ea4, ha4, hM⟩ := qs21 hw7 hM
                  refine lv_aload hx hb dL_passes_231 (lv_at hl 7 rfl) ?_
                  refine lv_bipush (v := 6) hx hb dL_passes_233 (by decide) ?_
                  refine lv_aload hx hb dL_passes_235 (lv_at hl 9 rfl) ?_
                  refine lv_iconst (v := 0) hx hb dL_passes_237 (by decide) ?_
                  refine k_iald (a := (ad 22 0)) hx hb hC hM (qa22 ha4) 0 (ix_lit (rfl : (0 : Int32) = nI 0) (by decide) (by decide)) dL_passes_238 ?_
                  rw [show Ta4.1 22 0 = nI (tdy S + i9 + 1) from (congrFun (congrFun (e2_1 ea4) 22) 0).trans e01]
                  refine lv_bipush (v := 10) hx hb dL_passes_239 (by decide) ?_
                  refine lv_irem hx hb dL_passes_241 (by decide) ?_
                  rw [sn10 (tdy S + i9 + 1) (by omega)]
                  refine lv_imul hx hb dL_passes_242 ?_
                  refine lv_iload hx hb dL_passes_243 (lv_at hl 12 rfl) ?_
                  refine lv_iadd hx hb dL_passes_245 ?_
                  refine lv_lconst (v := 0) hx hb dL_passes_246 (by decide) ?_
                  refine k_last (a := (ad 20 0)) hx hb hC hM hS (qa20 ha4) (6 * ((tdy S + i9 + 1) % 10) + k7) (ix_lit (e6_i _ _) (by omega) (by decide)) dL_passes_247 (fun H locs hM hS => ?_)
                  obtain ⟨Ta5, Ma5, ea5, ha5, hM⟩ := qs20 ha4 hM
                  refine lv_iinc (v := ((nI k7) + 1)) (lv' := [(12, .int ((nI k7) + 1)), (0, .ref (ad 0 0)), (1, .int (nI dy)), (2, .ref (ad 14 0)), (3, .ref (ad 15 0)), (4, .ref (ad 17 0)), (5, .ref (ad 18 0)), (6, .ref (ad 19 0)), (7, .ref (ad 20 0)), (8, .ref (ad 21 0)), (9, .ref (ad 22 0)), (10, .int (nI (pn S k9 i9 + enn (pd S k9 i9) k8))), (11, .int (nI i9))]) hx hb dL_passes_248 hl (k := 12) rfl rfl (by decide) rfl (fun ls hl => ?_)
                  refine lv_goto (tgt := 200) hx hb dL_passes_251 (by decide) ?_
                  have ec7 := clT_s ea4 ea5
                  rw [ec7] at ha5
                  rw [show nI k7 + 1 = nI (k7 + 1) from nI_1 k7] at hl
                  exact ih_six (k7 + 1) Ma5 (by omega) ha5 ls (lv_sub hl [1, 2, 3, 4, 5, 6, 7, 8, 9, 10, 11, 12, 0] rfl) _ _ hM hS
              exact six 6 0 Ma3 (by omega) (by rw [clT_z]; exact ha3) ls (lv_sub hl [1, 2, 3, 4, 5, 6, 7, 8, 9, 10, 11, 12, 0] rfl) _ _ hM hS
            | succ n_deal ih_deal =>
              intro k8 T8 M8 h8 hw8 hR8 ls hl H locs hM hS
              have hi8 : Iv (en (pd S k9 i9) k8) := hi9.en k8
              have hn8 : ndl (en (pd S k9 i9) k8) = ndl S := (en_nd _ _).trans hn9
              have hg8 : T8.1 22 1 = nI (ndl S) := hR8.1.2.trans (by rw [ndl_i hi8, hn8])
              have hTg8 := rl_tg hR8 hi8
              have hk8 : k8 < ndl (en (pd S k9 i9) k8) := by omega
              refine lv_iload hx hb dL_passes_93 (lv_at hl 12 rfl) ?_
              refine lv_aload hx hb dL_passes_95 (lv_at hl 9 rfl) ?_
              refine lv_iconst (v := 1) hx hb dL_passes_97 (by decide) ?_
              refine k_iald (a := (ad 22 0)) hx hb hC hM (qa22 hw8) 1 (ix_lit (rfl : (1 : Int32) = nI 1) (by decide) (by decide)) dL_passes_98 ?_
              rw [hg8]
              refine lv_icmp_ge (tgt := 172) hx hb dL_passes_99 (by decide) (fun c_99 => False.elim (by exact nI_ge (a := k8) (b := ndl S) (by omega) (by omega) c_99)) (fun c_99 => ?_)
              refine lv_aload hx hb dL_passes_102 (lv_at hl 4 rfl) ?_
              refine lv_iload hx hb dL_passes_104 (lv_at hl 12 rfl) ?_
              refine k_iald (a := (ad 17 0)) hx hb hC hM (qa17 hw8) k8 (ix_lit rfl (by omega) (by decide)) dL_passes_106 ?_
              refine lv_aload hx hb dL_passes_107 (lv_at hl 9 rfl) ?_
              refine lv_iconst (v := 0) hx hb dL_passes_109 (by decide) ?_
              refine k_iald (a := (ad 22 0)) hx hb hC hM (qa22 hw8) 0 (ix_lit (rfl : (0 : Int32) = nI 0) (by decide) (by decide)) dL_passes_110 ?_
              refine lv_icmp_ne (tgt := 166) hx hb dL_passes_111 (by decide) (fun c_111 => ?_) (fun c_111 => ?_)
              · refine lv_iinc (v := ((nI k8) + 1)) (lv' := [(12, .int ((nI k8) + 1)), (0, .ref (ad 0 0)), (1, .int (nI dy)), (2, .ref (ad 14 0)), (3, .ref (ad 15 0)), (4, .ref (ad 17 0)), (5, .ref (ad 18 0)), (6, .ref (ad 19 0)), (7, .ref (ad 20 0)), (8, .ref (ad 21 0)), (9, .ref (ad 22 0)), (10, .int (nI (pn S k9 i9 + enn (pd S k9 i9) k8))), (11, .int (nI i9))]) hx hb dL_passes_166 hl (k := 12) rfl rfl (by decide) rfl (fun ls hl => ?_)
                refine lv_goto (tgt := 93) hx hb dL_passes_169 (by decide) ?_
                have eo : opn (en (pd S k9 i9) k8) k8 = false := opn_3 (fun q => c_111 (by rw [(rl_j hR8 hk8).2.2.2.2.1, q]; exact hR8.1.1.symm))
                have es : en (pd S k9 i9) (k8 + 1) = (en (pd S k9 i9) k8) := if_neg (by rw [eo]; decide)
                have ec : enn (pd S k9 i9) (k8 + 1) = enn (pd S k9 i9) k8 := if_neg (by rw [eo]; decide)
                rw [show pn S k9 i9 + enn (pd S k9 i9) k8 = pn S k9 i9 + enn (pd S k9 i9) (k8 + 1) from by rw [ec]] at hl
                rw [show nI k8 + 1 = nI (k8 + 1) from nI_1 k8] at hl
                exact ih_deal (k8 + 1) T8 M8 (by omega) hw8 (by rw [es]; exact hR8) ls (lv_sub hl [1, 2, 3, 4, 5, 6, 7, 8, 9, 10, 11, 12, 0] rfl) _ _ hM hS
              · obtain ⟨a9, ha9, eS9, eT15⟩ := rl_a hR8 hi8 hk8
                have hcu8 := (rl_j hR8 hk8).1.1
                refine lv_aload_n hx hb dL_passes_114 rfl (lv_at hl 3 rfl) ?_
                refine lv_iload hx hb dL_passes_115 (lv_at hl 12 rfl) ?_
                refine k_iald (a := (ad 15 0)) hx hb hC hM (qa15 hw8) k8 (ix_lit rfl (by omega) (by decide)) dL_passes_117 ?_
                rw [eT15]
                refine lv_if_ne (tgt := 124) hx hb dL_passes_118 (by decide) (fun c_118 => ?_) (fun c_118 => ?_)
                · refine lv_aload hx hb dL_passes_124 (lv_at hl 7 rfl) ?_
                  refine lv_aload hx hb dL_passes_126 (lv_at hl 9 rfl) ?_
                  refine lv_aload_n hx hb dL_passes_128 rfl (lv_at hl 2 rfl) ?_
                  refine lv_iload hx hb dL_passes_129 (lv_at hl 12 rfl) ?_
                  refine k_iald (a := (ad 14 0)) hx hb hC hM (qa14 hw8) k8 (ix_lit rfl (by omega) (by decide)) dL_passes_131 ?_
                  refine lv_iconst (v := 1) hx hb dL_passes_132 (by decide) ?_
                  refine lv_iand hx hb dL_passes_133 ?_
                  rw [rl_cu hR8 hi8 hk8]
                  refine lv_iconst (v := 2) hx hb dL_passes_134 (by decide) ?_
                  refine lv_aload_n hx hb dL_passes_135 rfl (lv_at hl 2 rfl) ?_
                  refine lv_aload_n hx hb dL_passes_136 rfl (lv_at hl 3 rfl) ?_
                  refine lv_aload hx hb dL_passes_137 (lv_at hl 5 rfl) ?_
                  refine lv_iload hx hb dL_passes_139 (lv_at hl 12 rfl) ?_
                  refine lv_aload hx hb dL_passes_141 (lv_at hl 6 rfl) ?_
                  refine lv_aload_n hx hb dL_passes_143 rfl (lv_at hl 2 rfl) ?_
                  refine lv_iload hx hb dL_passes_144 (lv_at hl 12 rfl) ?_
                  refine k_iald (a := (ad 14 0)) hx hb hC hM (qa14 hw8) k8 (ix_lit rfl (by omega) (by decide)) dL_passes_146 ?_
                  refine lv_iconst (v := 1) hx hb dL_passes_147 (by decide) ?_
                  refine lv_ishr hx hb dL_passes_148 ?_
                  refine lv_iconst (v := 1) hx hb dL_passes_149 (by decide) ?_
                  refine lv_iand hx hb dL_passes_150 ?_
                  rw [rl_cy hR8 hi8 hk8]
                  refine k_iald (a := (ad 19 0)) hx hb hC hM (qa19 hw8) (cuy (en (pd S k9 i9) k8) k8) (ix_lit rfl (by have := (rl_j hR8 hk8).1.2; omega) (by decide)) dL_passes_151 ?_
                  refine k_l (va_runS (As := [.ref (ad 14 0), .ref (ad 15 0), .ref (ad 18 0), .int (nI k8), .int (T8.1 19 (cuy (en (pd S k9 i9) k8) k8))]) (rest := [.int 2, .int (nI (cus (en (pd S k9 i9) k8) k8)), .ref (ad 22 0), .ref (ad 20 0)]) ⟨hx, hb, hml, hown, hts⟩ (c_L_gains l G M8 S T8 th o ex ad k8 (T8.1 19 (cuy (en (pd S k9 i9) k8) k8)) hw8 (by omega)) (va_cwS 5 hts gL_passes_L_gains rfl rfl rfl (by decide +kernel) ⟨Nat.le_of_ble_eq_true rfl, Nat.le_of_ble_eq_true rfl⟩) (preS_of hC hS hM) rfl rfl hl.1 rfl (lv_room (Nat.le_of_ble_eq_true rfl)) dL_passes_152 ⟨Nat.le_of_ble_eq_true rfl, Nat.le_of_ble_eq_true rfl⟩) hS (fun r152 us152 H locs hp152 hM hS => ?_)
                  have hM : Hm G M8 H := hM
                  have hp152 : r152 = gnT T8 k8 (T8.1 19 (cuy (en (pd S k9 i9) k8) k8)) := hp152
                  subst hp152
                  rw [rl_mg0 hR8 hi8 hk8 c_111]
                  refine k_v (va_runS (As := [.ref (ad 20 0), .ref (ad 22 0), .int (nI (cus (en (pd S k9 i9) k8) k8)), .int 2, .long (mg (en (pd S k9 i9) k8) k8)]) (rest := []) ⟨hx, hb, hml, hown, hts⟩ (c_L_owe l G M8 S T8 th o ex ad (cus (en (pd S k9 i9) k8) k8) 2 (mg (en (pd S k9 i9) k8) k8) hw8 hTg8 (by omega) (by omega)) (va_cwS 5 hts gL_passes_L_owe rfl rfl rfl (by decide +kernel) ⟨Nat.le_of_ble_eq_true rfl, Nat.le_of_ble_eq_true rfl⟩) (preS_of hC hS hM) rfl rfl hl.1 rfl (lv_room (Nat.le_of_ble_eq_true rfl)) dL_passes_155 ⟨Nat.le_of_ble_eq_true rfl, Nat.le_of_ble_eq_true rfl⟩) hS (fun us155 H locs hp155 hM hS => ?_)
                  have hM : Hm G us155 H := hM
                  obtain ⟨Ta6, ea6⟩ : ∃ t : Sd, t = owT T8 (cus (en (pd S k9 i9) k8) k8) 2 (mg (en (pd S k9 i9) k8) k8) := ⟨_, rfl⟩
                  rw [← ea6] at hp155
                  refine lv_aload_n hx hb dL_passes_158 rfl (lv_at hl 3 rfl) ?_
                  refine lv_iload hx hb dL_passes_159 (lv_at hl 12 rfl) ?_
                  refine lv_iconst (v := 0) hx hb dL_passes_161 (by decide) ?_
                  refine k_iast (a := (ad 15 0)) hx hb hC hM hS (qa15 hp155) k8 (ix_lit rfl (by omega) (by decide)) dL_passes_162 (fun H locs hM hS => ?_)
                  obtain ⟨Ta7, Ma7, ea7, ha7, hM⟩ := qs15 hp155 hM
                  refine lv_iinc (v := ((nI (pn S k9 i9 + enn (pd S k9 i9) k8)) + 1)) (lv' := [(10, .int ((nI (pn S k9 i9 + enn (pd S k9 i9) k8)) + 1)), (0, .ref (ad 0 0)), (1, .int (nI dy)), (2, .ref (ad 14 0)), (3, .ref (ad 15 0)), (4, .ref (ad 17 0)), (5, .ref (ad 18 0)), (6, .ref (ad 19 0)), (7, .ref (ad 20 0)), (8, .ref (ad 21 0)), (9, .ref (ad 22 0)), (11, .int (nI i9)), (12, .int (nI k8))]) hx hb dL_passes_163 hl (k := 10) rfl rfl (by decide) rfl (fun ls hl => ?_)
                  refine lv_iinc (v := ((nI k8) + 1)) (lv' := [(12, .int ((nI k8) + 1)), (10, .int ((nI (pn S k9 i9 + enn (pd S k9 i9) k8)) + 1)), (0, .ref (ad 0 0)), (1, .int (nI dy)), (2, .ref (ad 14 0)), (3, .ref (ad 15 0)), (4, .ref (ad 17 0)), (5, .ref (ad 18 0)), (6, .ref (ad 19 0)), (7, .ref (ad 20 0)), (8, .ref (ad 21 0)), (9, .ref (ad 22 0)), (11, .int (nI i9))]) hx hb dL_passes_166 hl (k := 12) rfl rfl (by decide) rfl (fun ls hl => ?_)
                  refine lv_goto (tgt := 93) hx hb dL_passes_169 (by decide) ?_
                  have eo : opn (en (pd S k9 i9) k8) k8 = true := opn_t hk8 (by rw [eS9]; exact nI_lt (a := 0) (Nat.pos_of_ne_zero (fun q => c_118 (by rw [q]; rfl))) (by omega)) (by rw [← (rl_j hR8 hk8).2.2.2.2.1, c_111]; exact hR8.1.1)
                  have es : en (pd S k9 i9) (k8 + 1) = edS (en (pd S k9 i9) k8) k8 := if_pos eo
                  have ec : enn (pd S k9 i9) (k8 + 1) = enn (pd S k9 i9) k8 + 1 := if_pos eo
                  have hRb : Rel (en (pd S k9 i9) (k8 + 1)) Ta7 := by rw [es, ea7, ea6]; exact rl_ed hR8 hi8 hk8
                  rw [show nI (pn S k9 i9 + enn (pd S k9 i9) k8) + 1 = nI (pn S k9 i9 + enn (pd S k9 i9) (k8 + 1)) from by rw [ec]; exact nI_1 _] at hl
                  rw [show nI k8 + 1 = nI (k8 + 1) from nI_1 k8] at hl
                  exact ih_deal (k8 + 1) Ta7 Ma7 (by omega) ha7 hRb ls (lv_sub hl [2, 3, 4, 5, 6, 7, 8, 9, 10, 11, 1, 12, 0] rfl) _ _ hM hS
                · refine lv_goto (tgt := 166) hx hb dL_passes_121 (by decide) ?_
                  refine lv_iinc (v := ((nI k8) + 1)) (lv' := [(12, .int ((nI k8) + 1)), (0, .ref (ad 0 0)), (1, .int (nI dy)), (2, .ref (ad 14 0)), (3, .ref (ad 15 0)), (4, .ref (ad 17 0)), (5, .ref (ad 18 0)), (6, .ref (ad 19 0)), (7, .ref (ad 20 0)), (8, .ref (ad 21 0)), (9, .ref (ad 22 0)), (10, .int (nI (pn S k9 i9 + enn (pd S k9 i9) k8))), (11, .int (nI i9))]) hx hb dL_passes_166 hl (k := 12) rfl rfl (by decide) rfl (fun ls hl => ?_)
                  refine lv_goto (tgt := 93) hx hb dL_passes_169 (by decide) ?_
                  have eo : opn (en (pd S k9 i9) k8) k8 = false := opn_2 (by rw [eS9, c_118]; decide)
                  have es : en (pd S k9 i9) (k8 + 1) = (en (pd S k9 i9) k8) := if_neg (by rw [eo]; decide)
                  have ec : enn (pd S k9 i9) (k8 + 1) = enn (pd S k9 i9) k8 := if_neg (by rw [eo]; decide)
                  rw [show pn S k9 i9 + enn (pd S k9 i9) k8 = pn S k9 i9 + enn (pd S k9 i9) (k8 + 1) from by rw [ec]] at hl
                  rw [show nI k8 + 1 = nI (k8 + 1) from nI_1 k8] at hl
                  exact ih_deal (k8 + 1) T8 M8 (by omega) hw8 (by rw [es]; exact hR8) ls (lv_sub hl [1, 2, 3, 4, 5, 6, 7, 8, 9, 10, 11, 12, 0] rfl) _ _ hM hS
          exact deal (ndl S) 0 T9 M9 (by omega) hw9 hR9 ls (lv_sub hl [1, 2, 3, 4, 5, 6, 7, 8, 9, 10, 11, 12, 0] rfl) _ _ hM hS
      exact days dy 0 T M (by omega) hw hR ls (lv_sub hl [2, 3, 4, 5, 6, 7, 8, 9, 10, 11, 1, 0] rfl) _ _ hM hS
    · refine lv_aload_n hx hb dL_passes_62 rfl (lv_at hl 0 rfl) ?_
      refine lv_iload_n hx hb dL_passes_63 rfl (lv_at hl 1 rfl) ?_
      refine k_i (vx_runSW (As := [.ref (ad 0 0), .int (nI dy)]) (rest := []) ⟨hx, hb, hml, hown, hts⟩ (c_L_pass hnt l G M S T th o ex ad k9 hk9 (nI dy) hw hi hx9) (vx_cwSW 2 hts gL_passes_L_pass rfl rfl rfl (by decide +kernel) ⟨Nat.le_of_ble_eq_true rfl, Nat.le_of_ble_eq_true rfl⟩) (preS_of hC hS hM) rfl rfl hl.1 rfl (lv_room (Nat.le_of_ble_eq_true rfl)) dL_passes_64 ⟨Nat.le_of_ble_eq_true rfl, Nat.le_of_ble_eq_true rfl⟩) hS (fun r64 us64 H locs hp64 hM hS => ?_)
      rw [nI_clamp (show dy < 2 ^ 31 by omega)] at hp64
      have hq64 : r64 = (-2000000073) ∧ us64 = M := by
        rcases hp64 with h | h | h
        · exact False.elim (absurd hdy h.2.1)
        · exact ⟨h.1, h.2.2⟩
        · exact False.elim (absurd h.2.1.2 (fun z => c_59 (by rw [← nI_add, ← tdy_i hi]; exact z)))
      have hM : Hm G us64 H := hM
      obtain ⟨eq64, em64⟩ := hq64
      rw [em64] at hM
      subst eq64
      refine lv_ldc (own := RL) (v := (-2000000073)) hx hb hown (hts (.constant RL 29 (-2000000073)) (by decide +kernel)) dL_passes_67 ?_
      refine lv_icmp_ne (tgt := 76) hx hb dL_passes_69 (by decide) (fun c_69 => False.elim (by revert c_69; decide)) (fun c_69 => ?_)
      refine lv_iconst (v := 1) hx hb dL_passes_72 (by decide) ?_
      refine lv_goto (tgt := 77) hx hb dL_passes_73 (by decide) ?_
      exact (r_z hx hb hr hlocks hS (v := 1) (by simp) _ ⟨rfl, S, T, ex, ad, hw, hi, hx9, hR, fun _ _ => rfl⟩ hM (Nat.le_of_ble_eq_true rfl) (Nat.le_of_ble_eq_true rfl) dL_passes_77)
  refine lv_aload hx hb dL_passes_21 (lv_at hl 9 rfl) ?_
  refine lv_iconst (v := 0) hx hb dL_passes_23 (by decide) ?_
  refine k_iald (a := (ad 22 0)) hx hb hC hM (qa22 hw) 0 (ix_lit (rfl : (0 : Int32) = nI 0) (by decide) (by decide)) dL_passes_24 ?_
  rw [hG0]
  refine lv_sipush (v := 900) hx hb dL_passes_25 (by decide) ?_
  refine lv_icmp_le (tgt := 50) hx hb dL_passes_28 (by decide) (fun c_28 => ?_) (fun c_28 => ?_)
  · refine W.widen (k := 126) (n := 396) (Nat.le_of_ble_eq_true rfl) (Nat.le_of_ble_eq_true rfl) ?_
    exact j50  ls (lv_sub hl [0, 1, 2, 3, 4, 5, 6, 7, 8, 9] rfl) _ _ hM hS
  · have ht900 : 900 < tdy S := Nat.lt_of_not_le (fun q => c_28 (nI_le (b := 900) q (by decide)))
    refine lv_aload_n hx hb dL_passes_31 rfl (lv_at hl 0 rfl) ?_
    refine lv_sipush (v := 1001) hx hb dL_passes_32 (by decide) ?_
    refine lv_aload hx hb dL_passes_35 (lv_at hl 9 rfl) ?_
    refine lv_iconst (v := 0) hx hb dL_passes_37 (by decide) ?_
    refine k_iald (a := (ad 22 0)) hx hb hC hM (qa22 hw) 0 (ix_lit (rfl : (0 : Int32) = nI 0) (by decide) (by decide)) dL_passes_38 ?_
    rw [hG0]
    refine lv_isub hx hb dL_passes_39 ?_
    rw [show (1001 : Int32) - nI (tdy S) = nI (1001 - tdy S) from pk_sub (a := 1001) (by omega)]
    refine k_i (vx_runSW (As := [.ref (ad 0 0), .int (nI (1001 - tdy S))]) (rest := []) ⟨hx, hb, hml, hown, hts⟩ (c_L_pass hnt l G M S T th o ex ad k9 hk9 (nI (1001 - tdy S)) hw hi hx9) (vx_cwSW 2 hts gL_passes_L_pass rfl rfl rfl (by decide +kernel) ⟨Nat.le_of_ble_eq_true rfl, Nat.le_of_ble_eq_true rfl⟩) (preS_of hC hS hM) rfl rfl hl.1 rfl (lv_room (Nat.le_of_ble_eq_true rfl)) dL_passes_40 ⟨Nat.le_of_ble_eq_true rfl, Nat.le_of_ble_eq_true rfl⟩) hS (fun r40 us40 H locs hp40 hM hS => ?_)
    rw [nI_clamp (show (1001 - tdy S) < 2 ^ 31 by omega)] at hp40
    have hq40 : r40 = (-2000000073) ∧ us40 = M := by
      rcases hp40 with h | h | h
      · exact False.elim (absurd (rg_n (a := 1) (b := 100) (by omega) (by omega) (by decide)) h.2.1)
      · exact ⟨h.1, h.2.2⟩
      · exact False.elim (absurd h.2.1.2 (by rw [tdy_i hi, nI_add, show tdy S + (1001 - tdy S) = 1001 by omega]; decide))
    have hM : Hm G us40 H := hM
    obtain ⟨eq40, em40⟩ := hq40
    rw [em40] at hM
    subst eq40
    refine lv_ldc (own := RL) (v := (-2000000073)) hx hb hown (hts (.constant RL 29 (-2000000073)) (by decide +kernel)) dL_passes_43 ?_
    refine lv_icmp_eq (tgt := 50) hx hb dL_passes_45 (by decide) (fun c_45 => ?_) (fun c_45 => False.elim (by revert c_45; decide))
    exact j50  ls (lv_sub hl [0, 1, 2, 3, 4, 5, 6, 7, 8, 9] rfl) _ _ hM hS
