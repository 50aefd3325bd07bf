theorem nI_id {x : Int32} (h : 0 ≤ x.toInt) : nI x.toNatClampNeg = x := by
  have hlt := Int32.toInt_lt x
  refine Int32.toInt_inj.mp ?_
  rw [nI_toInt (by rw [Int32.toNatClampNeg]; omega), Int32.toNatClampNeg]
  omega
theorem r100 {x : Int32} (h : 1 ≤ x ∧ x ≤ 100) : 1 ≤ x.toInt ∧ x.toInt ≤ 100 := ⟨Int32.le_iff_toInt_le.mp h.1, Int32.le_iff_toInt_le.mp h.2⟩
theorem x100 {x : Int32} (h : 1 ≤ x ∧ x ≤ 100) : x.toNatClampNeg ≤ 100 ∧ (x.toNatClampNeg : Int) = x.toInt := by
  have := r100 h
  rw [Int32.toNatClampNeg]
  omega
theorem day_le {S : Sd} (hi : Iv S) {x : Int32} (h : 1 ≤ x ∧ x ≤ 100) (h2 : S.1 0 0 + x ≤ 1000) : (S.1 0 0).toInt + x.toNatClampNeg ≤ 1000 := by
  have h1 := r100 h
  have h3 := hi.1
  have h4 := Int32.le_iff_toInt_le.mp h2
  rw [Int32.toInt_add, show ((S.1 0 0).toInt + x.toInt).bmod (2 ^ 32) = (S.1 0 0).toInt + x.toInt from Int.bmod_eq_of_le (by omega) (by omega), show (1000 : Int32).toInt = 1000 from rfl] at h4
  have := (x100 h).2
  omega
theorem tday {S : Sd} {k9 : Nat} (hi : Iv S) {x i9 : Nat} (hdl : (S.1 0 0).toInt + x ≤ 1000) (h : i9 < x) : 0 ≤ (en (pd S k9 i9) k9).1 0 0 + 1 ∧ (en (pd S k9 i9) k9).1 0 0 + 1 < 1002 := by
  have h1 := pd_0 S k9 hi.1.1 i9 (by omega)
  have h2 : (en (pd S k9 i9) k9).1 0 0 = (pd S k9 i9).1 0 0 := by rw [en_k _ 0 (by decide)]
  have h3 := add1_toInt (x := (pd S k9 i9).1 0 0) (by have := hi.1.1; omega) (by omega)
  have h0 := hi.1.1
  rw [h2]
  exact ⟨Int32.le_iff_toInt_le.mpr (by rw [h3]; show 0 ≤ _; omega), Int32.lt_iff_toInt_lt.mpr (by rw [h3]; show _ < (1002 : Int); omega)⟩
set_option maxHeartbeats 4000000 in
set_option maxRecDepth 100000 in
theorem c_X5_pass {l : Launch} (hnt : l.stackTraces = false) (l' : Launch) (G : Gx) (M : Mp) (S T : Sd) (th : Int32) (o : Int64) (ex : Nat → Option (Nat × Nat)) (ad : Nat → Nat → Nat) (k9 : Nat) (hk9 : k9 = 20) (x : Int32) (hw : WA G S T th o ex ad M) (hi : Iv S) (hx9 : Ix S ex) : vx_Met l yX5_pass wsX5_pass ({ frames := 7, cells := 42, slots := 132, locals := 156 }) (Cv G M [.ref (ad 0 0), .int x]) (va_Qi (S := Mp) (fun r M2 => (1 ≤ x ∧ x ≤ 100) ∧ S.1 0 0 + x ≤ 1000 ∧ r = nI (pn S k9 x.toNatClampNeg) ∧ ∃ ex2, WA G (pd S k9 x.toNatClampNeg) T th o ex2 ad M2 ∧ Ix (pd S k9 x.toNatClampNeg) ex2) (Bm G (fun M2 => M2)) (AG G)) (Xq G M (fun E => (E = IA ∧ ¬ (1 ≤ x ∧ x ≤ 100)) ∨ (E = IS ∧ (1 ≤ x ∧ x ≤ 100) ∧ ¬ S.1 0 0 + x ≤ 1000))) (42) (132) (AG G) := by
  refine m_metx [.ref (ad 0 0), .int x] [(0, .ref (ad 0 0)), (1, .int x)] (by decide) rfl rfl (Nat.le_of_ble_eq_true rfl) ?_
  intro p e s m below meth c ls hx hb hr hml hown hts hlocks hin ht hC hM hl hS
  have f0 : M (ad 0 0) = some (.inr (5, [.ref (ad 1 0), .ref (ad 3 0), .ref (ad 5 0), .ref (ad 10 0), .int (S.1 5 0)])) := hw.1 0 0 _ rfl
  have f1 : M (ad 1 0) = some (.inr (1, [.ref (ad 2 0), .int (S.1 0 0)])) := hw.1 1 0 _ rfl
  have f2 : M (ad 2 0) = some (.inl (G.2.1 2, 1001, .inl (S.1 4))) := hw.1 2 0 _ rfl
  have f3 : M (ad 3 0) = some (.inl (G.2.1 3, 4, .inr (.inr (.inr (.inr (crr ad)))))) := hw.1 3 0 _ rfl
  have f5 : M (ad 5 0) = some (.inl (G.2.1 4, 5, .inr (.inr (.inr (.inr (csr ad)))))) := hw.1 5 0 _ rfl
  have f10 : M (ad 10 0) = some (.inl (G.2.1 6, 20, .inr (.inr (.inr (.inr (dlr S ad)))))) := hw.1 10 0 _ rfl
  refine lv_iload_n hx hb dX5_pass_0 rfl (lv_at hl 1 rfl) ?_
  refine lv_iconst (v := 1) hx hb dX5_pass_1 (by decide) ?_
  refine lv_bipush (v := 100) hx hb dX5_pass_2 (by decide) ?_
  refine kx_v (vx_runS (As := [.int x, .int 1, .int 100]) (rest := []) ⟨hx, hb, hml, hown, hts⟩ (c_X5_requireRange hnt l G M x (1 : Int32) (100 : Int32)) (va_cwS 3 hts gX5_pass_X5_requireRange rfl rfl rfl (by decide +kernel) ⟨Nat.le_of_ble_eq_true rfl, Nat.le_of_ble_eq_true rfl⟩) (preS_of hC hS hM) rfl rfl hl.1 rfl (lv_room (Nat.le_of_ble_eq_true rfl)) dX5_pass_4 ⟨Nat.le_of_ble_eq_true rfl, Nat.le_of_ble_eq_true rfl⟩) hS (fun E ce q9 H locs hE hM hS h1 h2 h3 => ?_) (fun u4 H locs hp4 hM hS => ?_)
  · exact r_out ht hlocks hS hM (Or.inl hE) h1 h2 h3 (Nat.le_of_ble_eq_true rfl) (Nat.le_of_ble_eq_true rfl)
  have hM : Hm G M H := hM
  refine lv_aload_n hx hb dX5_pass_7 rfl (lv_at hl 0 rfl) ?_
  refine m_get (ci := 5) (v := .ref (ad 1 0)) (C := RX5) (T := TX5) (N := 5) (a := (ad 0 0)) hx hb hts (by decide +kernel) hown hC hM f0 rfl 0 (by decide) (hts (.fieldLink RX5 12 "Forwardroll" "calendar" "LForwardroll$Calendar;") (by decide +kernel)) (fun _ h9 => h9) rfl dX5_pass_8 ?_
  refine m_getN (host := RX5) (ci := 1) (v := .int (S.1 0 0)) (C := RX1) (T := TX1) (N := 2) (a := (ad 1 0)) hx hb hts (by decide +kernel) hown hC hM f1 rfl 1 (by decide) (hC.w 0 rfl) (fun _ h9 => h9) rfl dX5_pass_11 ?_
  refine lv_iload_n hx hb dX5_pass_14 rfl (lv_at hl 1 rfl) ?_
  refine lv_iadd hx hb dX5_pass_15 ?_
  refine lv_sipush (v := 1000) hx hb dX5_pass_16 (by decide) ?_
  refine lv_icmp_le (tgt := 32) hx hb dX5_pass_19 (by decide) (fun c_19 => ?_) (fun c_19 => ?_)
  · have hdl := day_le hi hp4 c_19
    refine lv_iconst (v := 0) hx hb dX5_pass_32 (by decide) ?_
    refine lv_istore_n (lv' := [(2, .int 0), (0, .ref (ad 0 0)), (1, .int x)]) hx hb dX5_pass_33 rfl hl (by decide) rfl (fun ls hl => ?_)
    refine lv_iconst (v := 0) hx hb dX5_pass_34 (by decide) ?_
    refine lv_istore_n (lv' := [(3, .int 0), (2, .int 0), (0, .ref (ad 0 0)), (1, .int x)]) hx hb dX5_pass_35 rfl hl (by decide) rfl (fun ls hl => ?_)
    have loop : ∀ (n9 : Nat) (i9 : Nat) (M9 : Mp) (ex9 : Nat → Option (Nat × Nat)), i9 + n9 = x.toNatClampNeg → WA G (pd S k9 i9) T th o ex9 ad M9 → Ix (pd S k9 i9) ex9 → ∀ ls : Array Slot, lv_has ls 4 [(0, .ref (ad 0 0)), (1, .int x), (2, .int (nI (pn S k9 i9))), (3, .int (nI i9))] → ∀ (H : Heap) (locs : List Loc), Hm G M9 H → va_S (AG G) s.heap H locs → W p l e { frames := 7, cells := 42, slots := 132, locals := 156 } s m ([.ref (ad 0 0), .int x] : List Value).toArray below meth c H locs (41 - 2 * opc (pd S k9 i9) k9) (126 - 6 * opc (pd S k9 i9) k9) (vx_MQ below (va_Qi (S := Mp) (fun r M2 => (1 ≤ x ∧ x ≤ 100) ∧ S.1 0 0 + x ≤ 1000 ∧ r = nI (pn S k9 x.toNatClampNeg) ∧ ∃ ex2, WA G (pd S k9 x.toNatClampNeg) T th o ex2 ad M2 ∧ Ix (pd S k9 x.toNatClampNeg) ex2) (Bm G (fun M2 => M2)) (AG G)) (Xq G M (fun E => (E = IA ∧ ¬ (1 ≤ x ∧ x ≤ 100)) ∨ (E = IS ∧ (1 ≤ x ∧ x ≤ 100) ∧ ¬ S.1 0 0 + x ≤ 1000))) ([.ref (ad 0 0), .int x] : List Value).toArray s (42) (132) (AG G)) (F0 m 36 ls []) := by
      intro n9
      induction n9 with
      | zero =>
        intro i9 M9 ex9 hn hw9 hx8 ls hl H locs hM hS
        have f0_2 : M9 (ad 0 0) = some (.inr (5, [.ref (ad 1 0), .ref (ad 3 0), .ref (ad 5 0), .ref (ad 10 0), .int ((pd S k9 i9).1 5 0)])) := hw9.1 0 0 _ rfl
        have f1_2 : M9 (ad 1 0) = some (.inr (1, [.ref (ad 2 0), .int ((pd S k9 i9).1 0 0)])) := hw9.1 1 0 _ rfl
        have f2_2 : M9 (ad 2 0) = some (.inl (G.2.1 2, 1001, .inl ((pd S k9 i9).1 4))) := hw9.1 2 0 _ rfl
        have f3_2 : M9 (ad 3 0) = some (.inl (G.2.1 3, 4, .inr (.inr (.inr (.inr (crr ad)))))) := hw9.1 3 0 _ rfl
        have f5_2 : M9 (ad 5 0) = some (.inl (G.2.1 4, 5, .inr (.inr (.inr (.inr (csr ad)))))) := hw9.1 5 0 _ rfl
        have f10_2 : M9 (ad 10 0) = some (.inl (G.2.1 6, 20, .inr (.inr (.inr (.inr (dlr (pd S k9 i9) ad)))))) := hw9.1 10 0 _ rfl
        have hoc := opc_en (pd S k9 i9) k9
        have hle := opc_le (pd S k9 i9) k9
        refine lv_iload_n hx hb dX5_pass_36 rfl (lv_at hl 3 rfl) ?_
        refine lv_iload_n hx hb dX5_pass_37 rfl (lv_at hl 1 rfl) ?_
        refine lv_icmp_ge (tgt := 78) hx hb dX5_pass_38 (by decide) (fun c_38 => ?_) (fun c_38 => False.elim (by rw [show i9 = x.toNatClampNeg by omega, nI_id (by have := r100 hp4; omega)] at c_38; exact c_38 (Int32.le_refl x)))
        refine lv_iload_n hx hb dX5_pass_78 rfl (lv_at hl 2 rfl) ?_
        have e20 : i9 = x.toNatClampNeg := by omega
        rw [e20] at hw9 hx8
        exact vx_ret (r_i hx hb hr hlocks hS (v := (nI (pn S k9 i9))) _ ⟨hp4, c_19, by rw [e20], ex9, hw9, hx8⟩ hM ((by first | omega | (show _ ≤ 42; omega) | (show _ ≤ 132; omega))) ((by first | omega | (show _ ≤ 42; omega) | (show _ ≤ 132; omega))) dX5_pass_79)
      | succ n9 ih =>
        intro i9 M9 ex9 hn hw9 hx8 ls hl H locs hM hS
        have f0_4 : M9 (ad 0 0) = some (.inr (5, [.ref (ad 1 0), .ref (ad 3 0), .ref (ad 5 0), .ref (ad 10 0), .int ((pd S k9 i9).1 5 0)])) := hw9.1 0 0 _ rfl
        have f1_4 : M9 (ad 1 0) = some (.inr (1, [.ref (ad 2 0), .int ((pd S k9 i9).1 0 0)])) := hw9.1 1 0 _ rfl
        have f2_4 : M9 (ad 2 0) = some (.inl (G.2.1 2, 1001, .inl ((pd S k9 i9).1 4))) := hw9.1 2 0 _ rfl
        have f3_4 : M9 (ad 3 0) = some (.inl (G.2.1 3, 4, .inr (.inr (.inr (.inr (crr ad)))))) := hw9.1 3 0 _ rfl
        have f5_4 : M9 (ad 5 0) = some (.inl (G.2.1 4, 5, .inr (.inr (.inr (.inr (csr ad)))))) := hw9.1 5 0 _ rfl
        have f10_4 : M9 (ad 10 0) = some (.inl (G.2.1 6, 20, .inr (.inr (.inr (.inr (dlr (pd S k9 i9) ad)))))) := hw9.1 10 0 _ rfl
        have hoc := opc_en (pd S k9 i9) k9
        have hle := opc_le (pd S k9 i9) k9
        refine lv_iload_n hx hb dX5_pass_36 rfl (lv_at hl 3 rfl) ?_
        refine lv_iload_n hx hb dX5_pass_37 rfl (lv_at hl 1 rfl) ?_
        refine lv_icmp_ge (tgt := 78) hx hb dX5_pass_38 (by decide) (fun c_38 => False.elim (by rw [← nI_id (x := x) (by have := r100 hp4; omega)] at c_38; exact nI_ge (a := i9) (b := x.toNatClampNeg) (by omega) (by have := x100 hp4; omega) c_38)) (fun c_38 => ?_)
        refine lv_iload_n hx hb dX5_pass_41 rfl (lv_at hl 2 rfl) ?_
        refine lv_aload_n hx hb dX5_pass_42 rfl (lv_at hl 0 rfl) ?_
        refine k_i (va_runV (As := []) (rest := [.int (nI (pn S k9 i9))]) ⟨hx, hb, hml, hown, hts⟩ (c_X5_endDealsOfToday l G M9 (pd S k9 i9) T th o ex9 ad k9 hk9 hw9 (iv_pd hi k9 i9 (by omega)) hx8) (cwV 0 hts gX5_pass_X5_endDealsOfToday rfl rfl rfl (by decide +kernel) ⟨Nat.le_of_ble_eq_true rfl, Nat.le_of_ble_eq_true rfl⟩) (preV_of hC hS hM f0_4 rfl) rfl rfl hl.1 rfl (lv_room (Nat.le_of_ble_eq_true rfl)) dX5_pass_43 ⟨(by first | omega | (show _ ≤ 42; omega) | (show _ ≤ 132; omega)), (by first | omega | (show _ ≤ 42; omega) | (show _ ≤ 132; omega))⟩) hS (fun r43 u43 H locs hp43 hM hS => ?_)
        obtain ⟨er43, ex1, hw1, hx1⟩ := hp43
        subst er43
        have hM : Hm G u43 H := hM
        have f0_6 : u43 (ad 0 0) = some (.inr (5, [.ref (ad 1 0), .ref (ad 3 0), .ref (ad 5 0), .ref (ad 10 0), .int ((en (pd S k9 i9) k9).1 5 0)])) := hw1.1 0 0 _ rfl
        have f1_6 : u43 (ad 1 0) = some (.inr (1, [.ref (ad 2 0), .int ((en (pd S k9 i9) k9).1 0 0)])) := hw1.1 1 0 _ rfl
        have f2_6 : u43 (ad 2 0) = some (.inl (G.2.1 2, 1001, .inl ((en (pd S k9 i9) k9).1 4))) := hw1.1 2 0 _ rfl
        have f3_6 : u43 (ad 3 0) = some (.inl (G.2.1 3, 4, .inr (.inr (.inr (.inr (crr ad)))))) := hw1.1 3 0 _ rfl
        have f5_6 : u43 (ad 5 0) = some (.inl (G.2.1 4, 5, .inr (.inr (.inr (.inr (csr ad)))))) := hw1.1 5 0 _ rfl
        have f10_6 : u43 (ad 10 0) = some (.inl (G.2.1 6, 20, .inr (.inr (.inr (.inr (dlr (en (pd S k9 i9) k9) ad)))))) := hw1.1 10 0 _ rfl
        refine lv_iadd hx hb dX5_pass_46 ?_
        refine lv_istore_n (lv' := [(2, .int ((nI (pn S k9 i9)) + (nI (enn (pd S k9 i9) k9)))), (0, .ref (ad 0 0)), (1, .int x), (3, .int (nI i9))]) hx hb dX5_pass_47 rfl hl (by decide) rfl (fun ls hl => ?_)
        refine lv_aload_n hx hb dX5_pass_48 rfl (lv_at hl 1 rfl) ?_
        refine m_get (ci := 5) (v := .ref (ad 1 0)) (C := RX5) (T := TX5) (N := 5) (a := (ad 0 0)) hx hb hts (by decide +kernel) hown hC hM f0_6 rfl 0 (by decide) (hts (.fieldLink RX5 12 "Forwardroll" "calendar" "LForwardroll$Calendar;") (by decide +kernel)) (fun _ h9 => h9) rfl dX5_pass_49 ?_
        refine lv_dup hx hb dX5_pass_52 rfl ?_
        refine m_getN (host := RX5) (ci := 1) (v := .int ((en (pd S k9 i9) k9).1 0 0)) (C := RX1) (T := TX1) (N := 2) (a := (ad 1 0)) hx hb hts (by decide +kernel) hown hC hM f1_6 rfl 1 (by decide) (hC.w 0 rfl) (fun _ h9 => h9) rfl dX5_pass_53 ?_
        refine lv_iconst (v := 1) hx hb dX5_pass_56 (by decide) ?_
        refine lv_iadd hx hb dX5_pass_57 ?_
        refine m_putN (host := RX5) (ci := 1) (v := .int (((en (pd S k9 i9) k9).1 0 0) + 1)) (ty := .int) (C := RX1) (T := TX1) (N := 2) (a := (ad 1 0)) hx hb hts (by decide +kernel) tyX1 tyX1_ok nmX1 hown hC hM hS f1_6 rfl 1 (by decide) (hC.w 0 rfl) (fun _ h9 => h9) rfl (by decide +kernel) rfl rfl (Nat.le_of_ble_eq_true rfl) dX5_pass_58 (fun H locs hM hS => ?_)
        have hM : Hm G (va_up u43 (ad 1 0) (some (.inr (1, [.ref (ad 2 0), .int (((en (pd S k9 i9) k9).1 0 0) + 1)])))) H := hM
        have f58_8 : (va_up u43 (ad 1 0) (some (.inr (1, [.ref (ad 2 0), .int (((en (pd S k9 i9) k9).1 0 0) + 1)])))) (ad 0 0) = some (.inr (5, [.ref (ad 1 0), .ref (ad 3 0), .ref (ad 5 0), .ref (ad 10 0), .int ((en (pd S k9 i9) k9).1 5 0)])) := (up_ne (fun h9 => absurd (Eq.trans (Eq.trans (Eq.symm f0_6) (congrArg u43 h9)) f1_6) (by simp))).trans f0_6
        have f58_9 : (va_up u43 (ad 1 0) (some (.inr (1, [.ref (ad 2 0), .int (((en (pd S k9 i9) k9).1 0 0) + 1)])))) (ad 1 0) = some (.inr (1, [.ref (ad 2 0), .int (((en (pd S k9 i9) k9).1 0 0) + 1)])) := up_eq
        have f58_10 : (va_up u43 (ad 1 0) (some (.inr (1, [.ref (ad 2 0), .int (((en (pd S k9 i9) k9).1 0 0) + 1)])))) (ad 2 0) = some (.inl (G.2.1 2, 1001, .inl ((en (pd S k9 i9) k9).1 4))) := (up_ne (fun h9 => absurd (Eq.trans (Eq.trans (Eq.symm f2_6) (congrArg u43 h9)) f1_6) (by simp))).trans f2_6
        have f58_11 : (va_up u43 (ad 1 0) (some (.inr (1, [.ref (ad 2 0), .int (((en (pd S k9 i9) k9).1 0 0) + 1)])))) (ad 3 0) = some (.inl (G.2.1 3, 4, .inr (.inr (.inr (.inr (crr ad)))))) := (up_ne (fun h9 => absurd (Eq.trans (Eq.trans (Eq.symm f3_6) (congrArg u43 h9)) f1_6) (by simp))).trans f3_6
        have f58_12 : (va_up u43 (ad 1 0) (some (.inr (1, [.ref (ad 2 0), .int (((en (pd S k9 i9) k9).1 0 0) + 1)])))) (ad 5 0) = some (.inl (G.2.1 4, 5, .inr (.inr (.inr (.inr (csr ad)))))) := (up_ne (fun h9 => absurd (Eq.trans (Eq.trans (Eq.symm f5_6) (congrArg u43 h9)) f1_6) (by simp))).trans f5_6
        have f58_13 : (va_up u43 (ad 1 0) (some (.inr (1, [.ref (ad 2 0), .int (((en (pd S k9 i9) k9).1 0 0) + 1)])))) (ad 10 0) = some (.inl (G.2.1 6, 20, .inr (.inr (.inr (.inr (dlr (en (pd S k9 i9) k9) ad)))))) := (up_ne (fun h9 => absurd (Eq.trans (Eq.trans (Eq.symm f10_6) (congrArg u43 h9)) f1_6) (by simp))).trans f10_6
        refine lv_aload_n hx hb dX5_pass_61 rfl (lv_at hl 1 rfl) ?_
        refine lv_aload_n hx hb dX5_pass_62 rfl (lv_at hl 1 rfl) ?_
        refine m_get (ci := 5) (v := .ref (ad 1 0)) (C := RX5) (T := TX5) (N := 5) (a := (ad 0 0)) hx hb hts (by decide +kernel) hown hC hM f58_8 rfl 0 (by decide) (hts (.fieldLink RX5 12 "Forwardroll" "calendar" "LForwardroll$Calendar;") (by decide +kernel)) (fun _ h9 => h9) rfl dX5_pass_63 ?_
        refine m_getN (host := RX5) (ci := 1) (v := .int (((en (pd S k9 i9) k9).1 0 0) + 1)) (C := RX1) (T := TX1) (N := 2) (a := (ad 1 0)) hx hb hts (by decide +kernel) hown hC hM f58_9 rfl 1 (by decide) (hC.w 0 rfl) (fun _ h9 => h9) rfl dX5_pass_66 ?_
        refine k_v (va_runV (As := [.int (((en (pd S k9 i9) k9).1 0 0) + 1)]) (rest := []) ⟨hx, hb, hml, hown, hts⟩ (c_X5_settleAll l G (va_up u43 (ad 1 0) (some (.inr (1, [.ref (ad 2 0), .int (((en (pd S k9 i9) k9).1 0 0) + 1)])))) (tck (pd S k9 i9) k9) T th o ex1 ad (((en (pd S k9 i9) k9).1 0 0) + 1) (w_day hw1 _) (iv_tck (iv_pd hi k9 i9 (by omega)) k9 (by rw [pd_0 S k9 hi.1.1 i9 (by omega)]; omega)) hx1 (tday hi hdl (by omega))) (cwV 1 hts gX5_pass_X5_settleAll rfl rfl rfl (by decide +kernel) ⟨Nat.le_of_ble_eq_true rfl, Nat.le_of_ble_eq_true rfl⟩) (preV_of hC hS hM f58_8 rfl) rfl rfl hl.1 rfl (lv_room (Nat.le_of_ble_eq_true rfl)) dX5_pass_69 ⟨(by first | omega | (show _ ≤ 42; omega) | (show _ ≤ 132; omega)), (by first | omega | (show _ ≤ 42; omega) | (show _ ≤ 132; omega))⟩) hS (fun u69 H locs hp69 hM hS => ?_)
        have hw7 : WA G (pd S k9 (i9 + 1)) T th o ex1 ad u69 := hp69
        have hx7 : Ix (pd S k9 (i9 + 1)) ex1 := hx1
        have hM : Hm G u69 H := hM
        refine lv_iinc (v := ((nI i9) + 1)) (lv' := [(3, .int ((nI i9) + 1)), (2, .int ((nI (pn S k9 i9)) + (nI (enn (pd S k9 i9) k9)))), (0, .ref (ad 0 0)), (1, .int x)]) hx hb dX5_pass_72 hl (k := 3) rfl rfl (by decide) rfl (fun ls hl => ?_)
        refine lv_goto (tgt := 36) hx hb dX5_pass_75 (by decide) ?_
        rw [show nI i9 + 1 = nI (i9 + 1) from nI_1 i9, show nI (pn S k9 i9) + nI (enn (pd S k9 i9) k9) = nI (pn S k9 (i9 + 1)) from nI_add _ _] at hl
        have e9 : opc (pd S k9 (i9 + 1)) k9 = opc (en (pd S k9 i9) k9) k9 := opc_eq k9 (fun j _ => rfl)
        refine W.widen (k := 41 - 2 * opc (pd S k9 (i9 + 1)) k9) (n := 126 - 6 * opc (pd S k9 (i9 + 1)) k9) (by omega) (by omega) ?_
        exact ih (i9 + 1) u69 ex1 (by omega) hw7 hx7 ls (lv_sub hl [2, 3, 1, 0] rfl) _ _ hM hS
    have hle0 := opc_le S k9
    refine W.widen (k := 41 - 2 * opc (pd S k9 0) k9) (n := 126 - 6 * opc (pd S k9 0) k9) (by show _ ≤ 41 - 2 * opc S k9; omega) (by show _ ≤ 126 - 6 * opc S k9; omega) ?_
    exact loop x.toNatClampNeg 0 M ex (by omega) hw hx9 ls (lv_sub hl [2, 3, 1, 0] rfl) _ _ hM hS
  · exact m_throw (text := "today would be too late") (is := 189) hx hb hnt (hml.trans hl.1.symm) hlocks hown ht hC hS hM (hts (.classLink RX5 57 IS) (by decide +kernel)) (hts (.initialized IS) (by decide +kernel)) (by decide) (fun w h => hts w (List.mem_cons_of_mem _ (List.mem_append_left _ (List.mem_append_right _ h)))) tn_61 (by decide +kernel) tg_61 dX5_pass_22 dX5_pass_25 dX5_pass_26 dX5_pass_28 dX5_pass_31 (Nat.le_of_ble_eq_true rfl) (Nat.le_of_ble_eq_true rfl) (Nat.le_of_ble_eq_true rfl) (Nat.le_of_ble_eq_true rfl) (Nat.le_of_ble_eq_true rfl) (Nat.le_of_ble_eq_true rfl) (Or.inr ⟨rfl, hp4, c_19⟩)
