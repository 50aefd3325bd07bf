theorem lw_vk {j L : Nat} (h : 7 * j + 7 ≤ L) (hL : L ≤ 3584) {x : Int32} {k : Nat} (hx : x.toInt = (k : Int)) (hk : k < 7) : vp_in (nI (7 * j) + x) L := by
  have e : (nI (7 * j)).toInt = ((7 * j : Nat) : Int) := nI_toInt (by omega)
  rw [vp_in_iff, Int32.toInt_add, e, hx, show (((7 * j : Nat) : Int) + (k : Int)).bmod (2 ^ 32) = ((7 * j : Nat) : Int) + (k : Int) from Int.bmod_eq_of_le (by omega) (by omega)]
  omega
theorem lw_end {j L : Nat} (hL : L ≤ 3584) (hj : 7 * j ≤ L) : Int32.ofNat L - 7 < nI (7 * j) ↔ L < 7 * j + 7 := by
  have e : (nI (7 * j)).toInt = ((7 * j : Nat) : Int) := nI_toInt (by omega)
  have eL : (Int32.ofNat L).toInt = (L : Int) := nI_toInt (n := L) (by omega)
  have e7 : (7 : Int32).toInt = 7 := rfl
  rw [Int32.lt_iff_toInt_lt, e, Int32.toInt_sub, eL, e7, show ((L : Int) - 7).bmod (2 ^ 32) = (L : Int) - 7 from Int.bmod_eq_of_le (by omega) (by omega)]
  omega
set_option maxHeartbeats 4000000 in
set_option maxRecDepth 100000 in
theorem law_loop {p : Program} {l : Launch} (hnt : l.stackTraces = false) {e : Env} {s : State} {m : MethodId} {below : List Frame} {meth : Method} {c : Code} {b L : Nat} {xs : Nat → Int32} (hL : L ≤ 3584) (C0 : lw_At p s m meth c b L xs) {G : Gx} (k9 : Nat) (hk9 : k9 = 20) (hC : Cx G s) (hG : G.2.2 = s.heap.size) :
    ∀ (n j : Nat), 7 * j ≤ L → 513 ≤ j + n → ∀ (T : Sd) (th : Int32) (o : Int64) (ex : Nat → Option (Nat × Nat)) (ad : Nat → Nat → Nat) (M : Mp) (H : Heap) (locs : List Loc) (ls : Array Slot), Iv T → Ix T ex → WA G T T th o ex ad M → Hm G M H → va_S (AG G) s.heap H locs → lv_has ls 8 [(0, .ref b), (1, .ref (ad 0 0)), (2, .ref (ad 14 0)), (3, .ref (ad 28 0)), (4, .int (nI (7 * j)))] → W p l e room_1 s m #[Value.ref b] below meth c H locs (50 + 42 * j) (40000 + 132 * j) (lw_Z below #[Value.ref b] s) (F0 m 23 ls []) := by
  obtain ⟨hx, hb, hr, hml, hown, hts0, hX, hbl, hlocks, hgv⟩ := id C0
  have hbA : ¬ AG G b := by show ¬ G.2.2 ≤ b; rw [hG]; exact Nat.not_le.mpr hbl
  intro n
  induction n with
  | zero => intro j hj hn; exact absurd hn (by omega)
  | succ n ih =>
    intro j hj hn T th o ex ad M H locs ls hi hx9 hw hM hS hl
    refine lv_iload hx hb dL_law_23 (lv_at hl 4 rfl) ?_
    refine lv_aload_n hx hb dL_law_25 rfl (lv_at hl 0 rfl) ?_
    refine va_slen hx hb hX hbl hbA hS dL_law_26 ?_
    refine lv_bipush (v := 7) hx hb dL_law_27 (by decide) ?_
    refine lv_isub hx hb dL_law_29 ?_
    refine lv_icmp_gt (tgt := 1332) hx hb dL_law_30 (by decide) (fun c_30 => ?_) (fun c_30 => ?_)
    · refine lv_iconst (v := 1) hx hb dL_law_1332 (by decide) ?_
      refine va_forget (fun q hq => by have h9 := hS.2.2 q hq; rw [← hG]; exact h9) ?_
      refine W.widen (k := 601024) (n := 7293034) (by omega) (by omega) ?_
      exact lw_ret hx hb hr hlocks dL_law_1333
    · have h7 : 7 * j + 7 ≤ L := by
        rw [lw_end hL hj] at c_30
        omega
      have h_0 : vp_in (nI (7 * j)) L := by
        have h9 := lw_vk (k := 0) h7 hL (x := 0) rfl (by omega)
        rwa [Int32.add_zero] at h9
      have h_1 := lw_vk (k := 1) h7 hL (x := 1) rfl (by omega)
      have h_2 := lw_vk (k := 2) h7 hL (x := 2) rfl (by omega)
      have h_3 := lw_vk (k := 3) h7 hL (x := 3) rfl (by omega)
      have h_4 := lw_vk (k := 4) h7 hL (x := 4) rfl (by omega)
      have h_5 := lw_vk (k := 5) h7 hL (x := 5) rfl (by omega)
      have h_6 := lw_vk (k := 6) h7 hL (x := 6) rfl (by omega)
      have K : ∀ (T' : Sd) (th' : Int32) (o' : Int64) (ex' : Nat → Option (Nat × Nat)) (ad' : Nat → Nat → Nat) (M' : Mp) (H : Heap) (locs : List Loc) (ls : Array Slot), Iv T' → Ix T' ex' → WA G T' T' th' o' ex' ad' M' → Hm G M' H → va_S (AG G) s.heap H locs → lv_has ls 8 [(0, .ref b), (1, .ref (ad' 0 0)), (2, .ref (ad' 14 0)), (3, .ref (ad' 28 0)), (4, .int (nI (7 * j)))] → W p l e room_1 s m #[Value.ref b] below meth c H locs (50 + 42 * j + 42) (40000 + 132 * j + 132) (lw_Z below #[Value.ref b] s) (F0 m 1326 ls []) := by
        intro T' th' o' ex' ad' M' H locs ls hi hx9 hw hM hS hl
        refine lv_iinc (v := nI (7 * (j + 1))) (lv' := [(4, .int (nI (7 * (j + 1)))), (0, .ref b), (1, .ref (ad' 0 0)), (2, .ref (ad' 14 0)), (3, .ref (ad' 28 0))]) hx hb dL_law_1326 hl (k := 4) rfl (nI_add (7 * j) 7) (by decide) rfl (fun ls hl => ?_)
        refine lv_goto (tgt := 23) hx hb dL_law_1329 (by decide) ?_
        refine W.widen (k := 50 + 42 * (j + 1)) (n := 40000 + 132 * (j + 1)) (by omega) (by omega) ?_
        exact ih (j + 1) (by omega) (by omega) T' th' o' ex' ad' M' H locs ls hi hx9 hw hM hS (lv_sub hl [1, 2, 3, 4, 0] rfl)
      have hc0 : 50 + 42 * j + 42 ≤ 601024 := by omega
      have hs0 : 40000 + 132 * j + 132 ≤ 7293034 := by omega
      refine lv_aload_n hx hb dL_law_33 rfl (lv_at hl 0 rfl) ?_
      refine lv_iload hx hb dL_law_34 (lv_at hl 4 rfl) ?_
      refine va_sld hx hb hX hbl hbA hS h_0 dL_law_36 ?_
      refine lv_bipush (v := 31) hx hb dL_law_37 (by decide) ?_
      refine lv_iand hx hb dL_law_39 ?_
      generalize (xs (nI (7 * j)).toNatClampNeg &&& 31) = z9
      rcases (show z9.toInt = 0 ∨ z9.toInt = 1 ∨ z9.toInt = 2 ∨ z9.toInt = 3 ∨ z9.toInt = 4 ∨ z9.toInt = 5 ∨ z9.toInt = 6 ∨ z9.toInt = 7 ∨ z9.toInt = 8 ∨ z9.toInt = 9 ∨ z9.toInt = 10 ∨ z9.toInt = 11 ∨ z9.toInt = 12 ∨ z9.toInt = 13 ∨ z9.toInt = 14 ∨ z9.toInt = 15 ∨ z9.toInt = 16 ∨ z9.toInt = 17 ∨ z9.toInt = 18 ∨ (z9.toInt < 0 ∨ 18 < z9.toInt) by omega) with h9 | h9 | h9 | h9 | h9 | h9 | h9 | h9 | h9 | h9 | h9 | h9 | h9 | h9 | h9 | h9 | h9 | h9 | h9 | h9
      · refine lv_tsw (off := 92) (tgt := 132) hx hb dL_law_40 (by omega) (by omega) (by rw [h9]; rfl) (by decide) ?_
        exact law_0 hnt C0 k9 hk9 hC hG hi hx9 hw hc0 hs0 h_1 h_2 h_3 h_4 h_5 h_6 K ls hl H locs hM hS
      · refine lv_tsw (off := 160) (tgt := 200) hx hb dL_law_40 (by omega) (by omega) (by rw [h9]; rfl) (by decide) ?_
        exact law_1 hnt C0 k9 hk9 hC hG hi hx9 hw hc0 hs0 h_1 h_2 h_3 h_4 h_5 h_6 K ls hl H locs hM hS
      · refine lv_tsw (off := 228) (tgt := 268) hx hb dL_law_40 (by omega) (by omega) (by rw [h9]; rfl) (by decide) ?_
        exact law_2 hnt C0 k9 hk9 hC hG hi hx9 hw hc0 hs0 h_1 h_2 h_3 h_4 h_5 h_6 K ls hl H locs hM hS
      · refine lv_tsw (off := 291) (tgt := 331) hx hb dL_law_40 (by omega) (by omega) (by rw [h9]; rfl) (by decide) ?_
        exact law_3 hnt C0 k9 hk9 hC hG hi hx9 hw hc0 hs0 h_1 h_2 h_3 h_4 h_5 h_6 K ls hl H locs hM hS
      · refine lv_tsw (off := 359) (tgt := 399) hx hb dL_law_40 (by omega) (by omega) (by rw [h9]; rfl) (by decide) ?_
        exact law_4 hnt C0 k9 hk9 hC hG hi hx9 hw hc0 hs0 h_1 h_2 h_3 h_4 h_5 h_6 K ls hl H locs hM hS
      · refine lv_tsw (off := 427) (tgt := 467) hx hb dL_law_40 (by omega) (by omega) (by rw [h9]; rfl) (by decide) ?_
        exact law_5 hnt C0 k9 hk9 hC hG hi hx9 hw hc0 hs0 h_1 h_2 h_3 h_4 h_5 h_6 K ls hl H locs hM hS
      · refine lv_tsw (off := 561) (tgt := 601) hx hb dL_law_40 (by omega) (by omega) (by rw [h9]; rfl) (by decide) ?_
        exact law_6 hnt C0 k9 hk9 hC hG hi hx9 hw hc0 hs0 h_1 h_2 h_3 h_4 h_5 h_6 K ls hl H locs hM hS
      · refine lv_tsw (off := 629) (tgt := 669) hx hb dL_law_40 (by omega) (by omega) (by rw [h9]; rfl) (by decide) ?_
        exact law_7 hnt C0 k9 hk9 hC hG hi hx9 hw hc0 hs0 h_1 h_2 h_3 h_4 h_5 h_6 K ls hl H locs hM hS
      · refine lv_tsw (off := 725) (tgt := 765) hx hb dL_law_40 (by omega) (by omega) (by rw [h9]; rfl) (by decide) ?_
        exact law_8 hnt C0 k9 hk9 hC hG hi hx9 hw hc0 hs0 h_1 h_2 h_3 h_4 h_5 h_6 K ls hl H locs hM hS
      · refine lv_tsw (off := 780) (tgt := 820) hx hb dL_law_40 (by omega) (by omega) (by rw [h9]; rfl) (by decide) ?_
        exact law_9 hnt C0 k9 hk9 hC hG hi hx9 hw hc0 hs0 h_1 h_2 h_3 h_4 h_5 h_6 K ls hl H locs hM hS
      · refine lv_tsw (off := 836) (tgt := 876) hx hb dL_law_40 (by omega) (by omega) (by rw [h9]; rfl) (by decide) ?_
        exact law_10 hnt C0 k9 hk9 hC hG hi hx9 hw hc0 hs0 h_1 h_2 h_3 h_4 h_5 h_6 K ls hl H locs hM hS
      · refine lv_tsw (off := 892) (tgt := 932) hx hb dL_law_40 (by omega) (by omega) (by rw [h9]; rfl) (by decide) ?_
        exact law_11 hnt C0 k9 hk9 hC hG hi hx9 hw hc0 hs0 h_1 h_2 h_3 h_4 h_5 h_6 K ls hl H locs hM hS
      · refine lv_tsw (off := 948) (tgt := 988) hx hb dL_law_40 (by omega) (by omega) (by rw [h9]; rfl) (by decide) ?_
        exact law_12 hnt C0 k9 hk9 hC hG hi hx9 hw hc0 hs0 h_1 h_2 h_3 h_4 h_5 h_6 K ls hl H locs hM hS
      · refine lv_tsw (off := 1003) (tgt := 1043) hx hb dL_law_40 (by omega) (by omega) (by rw [h9]; rfl) (by decide) ?_
        exact law_13 hnt C0 k9 hk9 hC hG hi hx9 hw hc0 hs0 h_1 h_2 h_3 h_4 h_5 h_6 K ls hl H locs hM hS
      · refine lv_tsw (off := 1058) (tgt := 1098) hx hb dL_law_40 (by omega) (by omega) (by rw [h9]; rfl) (by decide) ?_
        exact law_14 hnt C0 hC hG hi hx9 hw hc0 hs0 K ls hl H locs hM hS
      · refine lv_tsw (off := 1071) (tgt := 1111) hx hb dL_law_40 (by omega) (by omega) (by rw [h9]; rfl) (by decide) ?_
        exact law_15 hnt C0 k9 hk9 hC hG hi hx9 hw hc0 hs0 h_1 h_2 h_3 h_4 h_5 h_6 K ls hl H locs hM hS
      · refine lv_tsw (off := 1150) (tgt := 1190) hx hb dL_law_40 (by omega) (by omega) (by rw [h9]; rfl) (by decide) ?_
        exact law_16 hnt C0 k9 hk9 hC hG hi hx9 hw hc0 hs0 h_1 h_2 h_3 h_4 h_5 h_6 K ls hl H locs hM hS
      · refine lv_tsw (off := 1217) (tgt := 1257) hx hb dL_law_40 (by omega) (by omega) (by rw [h9]; rfl) (by decide) ?_
        exact law_17 hnt C0 k9 hk9 hC hG hi hx9 hw hc0 hs0 h_1 h_2 h_3 h_4 h_5 h_6 K ls hl H locs hM hS
      · refine lv_tsw (off := 1273) (tgt := 1313) hx hb dL_law_40 (by omega) (by omega) (by rw [h9]; rfl) (by decide) ?_
        exact law_18 hnt C0 hC hG hi hx9 hw hc0 hs0 K ls hl H locs hM hS
      · refine lv_tswD (tgt := 1326) hx hb dL_law_40 h9 (by decide) ?_
        refine W.widen (k := 50 + 42 * j + 42) (n := 40000 + 132 * j + 132) (by omega) (by omega) ?_
        exact K T th o ex ad M H locs ls hi hx9 hw hM hS hl
